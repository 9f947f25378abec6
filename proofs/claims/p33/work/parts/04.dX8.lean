theorem dX8_init_0 : decode cX8_init 0 = .ok (.aload_n 0, 1) := by decide +kernel
theorem dX8_init_1 : decode cX8_init 1 = .ok (.invokespecial 1, 3) := by decide +kernel
theorem dX8_init_4 : decode cX8_init 4 = .ok (.aload_n 0, 1) := by decide +kernel
theorem dX8_init_5 : decode cX8_init 5 = .ok (.bipush 6, 2) := by decide +kernel
theorem dX8_init_7 : decode cX8_init 7 = .ok (.anewarray 9, 3) := by decide +kernel
theorem dX8_init_10 : decode cX8_init 10 = .ok (.putfield 11, 3) := by decide +kernel
theorem dX8_init_13 : decode cX8_init 13 = .ok (.aload_n 0, 1) := by decide +kernel
theorem dX8_init_14 : decode cX8_init 14 = .ok (.bipush 12, 2) := by decide +kernel
theorem dX8_init_16 : decode cX8_init 16 = .ok (.anewarray 15, 3) := by decide +kernel
theorem dX8_init_19 : decode cX8_init 19 = .ok (.putfield 17, 3) := by decide +kernel
theorem dX8_init_22 : decode cX8_init 22 = .ok (.aload_n 0, 1) := by decide +kernel
theorem dX8_init_23 : decode cX8_init 23 = .ok (.bipush 30, 2) := by decide +kernel
theorem dX8_init_25 : decode cX8_init 25 = .ok (.anewarray 21, 3) := by decide +kernel
theorem dX8_init_28 : decode cX8_init 28 = .ok (.putfield 23, 3) := by decide +kernel
theorem dX8_init_31 : decode cX8_init 31 = .ok (.aload_n 0, 1) := by decide +kernel
theorem dX8_init_32 : decode cX8_init 32 = .ok (.new 27, 3) := by decide +kernel
theorem dX8_init_35 : decode cX8_init 35 = .ok (.dup, 1) := by decide +kernel
theorem dX8_init_36 : decode cX8_init 36 = .ok (.invokespecial 29, 3) := by decide +kernel
theorem dX8_init_39 : decode cX8_init 39 = .ok (.putfield 30, 3) := by decide +kernel
theorem dX8_init_42 : decode cX8_init 42 = .ok (.aload_n 0, 1) := by decide +kernel
theorem dX8_init_43 : decode cX8_init 43 = .ok (.bipush 8, 2) := by decide +kernel
theorem dX8_init_45 : decode cX8_init 45 = .ok (.anewarray 34, 3) := by decide +kernel
theorem dX8_init_48 : decode cX8_init 48 = .ok (.putfield 36, 3) := by decide +kernel
theorem dX8_init_51 : decode cX8_init 51 = .ok (.aload_n 0, 1) := by decide +kernel
theorem dX8_init_52 : decode cX8_init 52 = .ok (.new 40, 3) := by decide +kernel
theorem dX8_init_55 : decode cX8_init 55 = .ok (.dup, 1) := by decide +kernel
theorem dX8_init_56 : decode cX8_init 56 = .ok (.invokespecial 42, 3) := by decide +kernel
theorem dX8_init_59 : decode cX8_init 59 = .ok (.putfield 43, 3) := by decide +kernel
theorem dX8_init_62 : decode cX8_init 62 = .ok (.aload_n 0, 1) := by decide +kernel
theorem dX8_init_63 : decode cX8_init 63 = .ok (.bipush 6, 2) := by decide +kernel
theorem dX8_init_65 : decode cX8_init 65 = .ok (.anewarray 47, 3) := by decide +kernel
theorem dX8_init_68 : decode cX8_init 68 = .ok (.putfield 49, 3) := by decide +kernel
theorem dX8_init_71 : decode cX8_init 71 = .ok (.aload_n 0, 1) := by decide +kernel
theorem dX8_init_72 : decode cX8_init 72 = .ok (.new 53, 3) := by decide +kernel
theorem dX8_init_75 : decode cX8_init 75 = .ok (.dup, 1) := by decide +kernel
theorem dX8_init_76 : decode cX8_init 76 = .ok (.invokespecial 55, 3) := by decide +kernel
theorem dX8_init_79 : decode cX8_init 79 = .ok (.putfield 56, 3) := by decide +kernel
theorem dX8_init_82 : decode cX8_init 82 = .ok (.return_, 1) := by decide +kernel
theorem dX8_isOutside_0 : decode cX8_isOutside 0 = .ok (.lload_n 0, 1) := by decide +kernel
theorem dX8_isOutside_1 : decode cX8_isOutside 1 = .ok (.lload_n 2, 1) := by decide +kernel
theorem dX8_isOutside_2 : decode cX8_isOutside 2 = .ok (.lcmp, 1) := by decide +kernel
theorem dX8_isOutside_3 : decode cX8_isOutside 3 = .ok (.ifCond .lt 10, 3) := by decide +kernel
theorem dX8_isOutside_6 : decode cX8_isOutside 6 = .ok (.lload_n 0, 1) := by decide +kernel
theorem dX8_isOutside_7 : decode cX8_isOutside 7 = .ok (.lload 4, 2) := by decide +kernel
theorem dX8_isOutside_9 : decode cX8_isOutside 9 = .ok (.lcmp, 1) := by decide +kernel
theorem dX8_isOutside_10 : decode cX8_isOutside 10 = .ok (.ifCond .le 7, 3) := by decide +kernel
theorem dX8_isOutside_13 : decode cX8_isOutside 13 = .ok (.iconst 1, 1) := by decide +kernel
theorem dX8_isOutside_14 : decode cX8_isOutside 14 = .ok (.goto 4, 3) := by decide +kernel
theorem dX8_isOutside_17 : decode cX8_isOutside 17 = .ok (.iconst 0, 1) := by decide +kernel
theorem dX8_isOutside_18 : decode cX8_isOutside 18 = .ok (.ireturn, 1) := by decide +kernel
theorem dX8_lot_0 : decode cX8_lot 0 = .ok (.iload_n 1, 1) := by decide +kernel
theorem dX8_lot_1 : decode cX8_lot 1 = .ok (.i2l, 1) := by decide +kernel
theorem dX8_lot_2 : decode cX8_lot 2 = .ok (.lconst 1, 1) := by decide +kernel
theorem dX8_lot_3 : decode cX8_lot 3 = .ok (.ldc2_w 60, 3) := by decide +kernel
theorem dX8_lot_6 : decode cX8_lot 6 = .ok (.invokestatic 62, 3) := by decide +kernel
theorem dX8_lot_9 : decode cX8_lot 9 = .ok (.ifCond .ne 27, 3) := by decide +kernel
theorem dX8_lot_12 : decode cX8_lot 12 = .ok (.iload_n 2, 1) := by decide +kernel
theorem dX8_lot_13 : decode cX8_lot 13 = .ok (.i2l, 1) := by decide +kernel
theorem dX8_lot_14 : decode cX8_lot 14 = .ok (.lconst 1, 1) := by decide +kernel
theorem dX8_lot_15 : decode cX8_lot 15 = .ok (.ldc2_w 60, 3) := by decide +kernel
theorem dX8_lot_18 : decode cX8_lot 18 = .ok (.invokestatic 62, 3) := by decide +kernel
theorem dX8_lot_21 : decode cX8_lot 21 = .ok (.ifCond .ne 15, 3) := by decide +kernel
theorem dX8_lot_24 : decode cX8_lot 24 = .ok (.iload_n 3, 1) := by decide +kernel
theorem dX8_lot_25 : decode cX8_lot 25 = .ok (.i2l, 1) := by decide +kernel
theorem dX8_lot_26 : decode cX8_lot 26 = .ok (.lconst 1, 1) := by decide +kernel
theorem dX8_lot_27 : decode cX8_lot 27 = .ok (.ldc2_w 60, 3) := by decide +kernel
theorem dX8_lot_30 : decode cX8_lot 30 = .ok (.invokestatic 62, 3) := by decide +kernel
theorem dX8_lot_33 : decode cX8_lot 33 = .ok (.ifCond .eq 13, 3) := by decide +kernel
theorem dX8_lot_36 : decode cX8_lot 36 = .ok (.new 66, 3) := by decide +kernel
theorem dX8_lot_39 : decode cX8_lot 39 = .ok (.dup, 1) := by decide +kernel
theorem dX8_lot_40 : decode cX8_lot 40 = .ok (.ldc 68, 2) := by decide +kernel
theorem dX8_lot_42 : decode cX8_lot 42 = .ok (.invokespecial 70, 3) := by decide +kernel
theorem dX8_lot_45 : decode cX8_lot 45 = .ok (.athrow, 1) := by decide +kernel
theorem dX8_lot_46 : decode cX8_lot 46 = .ok (.aload_n 0, 1) := by decide +kernel
theorem dX8_lot_47 : decode cX8_lot 47 = .ok (.getfield 73, 3) := by decide +kernel
theorem dX8_lot_50 : decode cX8_lot 50 = .ok (.aload_n 0, 1) := by decide +kernel
theorem dX8_lot_51 : decode cX8_lot 51 = .ok (.getfield 11, 3) := by decide +kernel
theorem dX8_lot_54 : decode cX8_lot 54 = .ok (.arraylength, 1) := by decide +kernel
theorem dX8_lot_55 : decode cX8_lot 55 = .ok (.if_icmp .lt 13, 3) := by decide +kernel
theorem dX8_lot_58 : decode cX8_lot 58 = .ok (.new 77, 3) := by decide +kernel
theorem dX8_lot_61 : decode cX8_lot 61 = .ok (.dup, 1) := by decide +kernel
theorem dX8_lot_62 : decode cX8_lot 62 = .ok (.ldc 79, 2) := by decide +kernel
theorem dX8_lot_64 : decode cX8_lot 64 = .ok (.invokespecial 81, 3) := by decide +kernel
theorem dX8_lot_67 : decode cX8_lot 67 = .ok (.athrow, 1) := by decide +kernel
theorem dX8_lot_68 : decode cX8_lot 68 = .ok (.aload_n 0, 1) := by decide +kernel
theorem dX8_lot_69 : decode cX8_lot 69 = .ok (.getfield 11, 3) := by decide +kernel
theorem dX8_lot_72 : decode cX8_lot 72 = .ok (.aload_n 0, 1) := by decide +kernel
theorem dX8_lot_73 : decode cX8_lot 73 = .ok (.getfield 73, 3) := by decide +kernel
theorem dX8_lot_76 : decode cX8_lot 76 = .ok (.new 9, 3) := by decide +kernel
theorem dX8_lot_79 : decode cX8_lot 79 = .ok (.dup, 1) := by decide +kernel
theorem dX8_lot_80 : decode cX8_lot 80 = .ok (.iload_n 1, 1) := by decide +kernel
theorem dX8_lot_81 : decode cX8_lot 81 = .ok (.iload_n 2, 1) := by decide +kernel
theorem dX8_lot_82 : decode cX8_lot 82 = .ok (.iload_n 3, 1) := by decide +kernel
theorem dX8_lot_83 : decode cX8_lot 83 = .ok (.invokespecial 82, 3) := by decide +kernel
theorem dX8_lot_86 : decode cX8_lot 86 = .ok (.aastore, 1) := by decide +kernel
theorem dX8_lot_87 : decode cX8_lot 87 = .ok (.aload_n 0, 1) := by decide +kernel
theorem dX8_lot_88 : decode cX8_lot 88 = .ok (.dup, 1) := by decide +kernel
theorem dX8_lot_89 : decode cX8_lot 89 = .ok (.getfield 73, 3) := by decide +kernel
theorem dX8_lot_92 : decode cX8_lot 92 = .ok (.dup_x1, 1) := by decide +kernel
theorem dX8_lot_93 : decode cX8_lot 93 = .ok (.iconst 1, 1) := by decide +kernel
theorem dX8_lot_94 : decode cX8_lot 94 = .ok (.iadd, 1) := by decide +kernel
theorem dX8_lot_95 : decode cX8_lot 95 = .ok (.putfield 73, 3) := by decide +kernel
theorem dX8_lot_98 : decode cX8_lot 98 = .ok (.ireturn, 1) := by decide +kernel
theorem dX8_sun_0 : decode cX8_sun 0 = .ok (.aload_n 0, 1) := by decide +kernel
theorem dX8_sun_1 : decode cX8_sun 1 = .ok (.iload_n 1, 1) := by decide +kernel
theorem dX8_sun_2 : decode cX8_sun 2 = .ok (.invokevirtual 85, 3) := by decide +kernel
theorem dX8_sun_5 : decode cX8_sun 5 = .ok (.astore_n 3, 1) := by decide +kernel
theorem dX8_sun_6 : decode cX8_sun 6 = .ok (.aload_n 3, 1) := by decide +kernel
theorem dX8_sun_7 : decode cX8_sun 7 = .ok (.ifnonnull 13, 3) := by decide +kernel
theorem dX8_sun_10 : decode cX8_sun 10 = .ok (.new 89, 3) := by decide +kernel
theorem dX8_sun_13 : decode cX8_sun 13 = .ok (.dup, 1) := by decide +kernel
theorem dX8_sun_14 : decode cX8_sun 14 = .ok (.ldc 91, 2) := by decide +kernel
theorem dX8_sun_16 : decode cX8_sun 16 = .ok (.invokespecial 93, 3) := by decide +kernel
theorem dX8_sun_19 : decode cX8_sun 19 = .ok (.athrow, 1) := by decide +kernel
theorem dX8_sun_20 : decode cX8_sun 20 = .ok (.iload_n 2, 1) := by decide +kernel
theorem dX8_sun_21 : decode cX8_sun 21 = .ok (.i2l, 1) := by decide +kernel
theorem dX8_sun_22 : decode cX8_sun 22 = .ok (.lconst 1, 1) := by decide +kernel
theorem dX8_sun_23 : decode cX8_sun 23 = .ok (.ldc2_w 94, 3) := by decide +kernel
theorem dX8_sun_26 : decode cX8_sun 26 = .ok (.invokestatic 62, 3) := by decide +kernel
theorem dX8_sun_29 : decode cX8_sun 29 = .ok (.ifCond .eq 13, 3) := by decide +kernel
theorem dX8_sun_32 : decode cX8_sun 32 = .ok (.new 66, 3) := by decide +kernel
theorem dX8_sun_35 : decode cX8_sun 35 = .ok (.dup, 1) := by decide +kernel
theorem dX8_sun_36 : decode cX8_sun 36 = .ok (.ldc 96, 2) := by decide +kernel
theorem dX8_sun_38 : decode cX8_sun 38 = .ok (.invokespecial 70, 3) := by decide +kernel
theorem dX8_sun_41 : decode cX8_sun 41 = .ok (.athrow, 1) := by decide +kernel
theorem dX8_sun_42 : decode cX8_sun 42 = .ok (.aload_n 3, 1) := by decide +kernel
theorem dX8_sun_43 : decode cX8_sun 43 = .ok (.aload_n 3, 1) := by decide +kernel
theorem dX8_sun_44 : decode cX8_sun 44 = .ok (.getfield 98, 3) := by decide +kernel
theorem dX8_sun_47 : decode cX8_sun 47 = .ok (.iload_n 2, 1) := by decide +kernel
theorem dX8_sun_48 : decode cX8_sun 48 = .ok (.iadd, 1) := by decide +kernel
theorem dX8_sun_49 : decode cX8_sun 49 = .ok (.ldc 101, 2) := by decide +kernel
theorem dX8_sun_51 : decode cX8_sun 51 = .ok (.invokestatic 102, 3) := by decide +kernel
theorem dX8_sun_54 : decode cX8_sun 54 = .ok (.putfield 98, 3) := by decide +kernel
theorem dX8_sun_57 : decode cX8_sun 57 = .ok (.aload_n 3, 1) := by decide +kernel
theorem dX8_sun_58 : decode cX8_sun 58 = .ok (.getfield 98, 3) := by decide +kernel
theorem dX8_sun_61 : decode cX8_sun 61 = .ok (.ireturn, 1) := by decide +kernel
theorem dX8_panel_0 : decode cX8_panel 0 = .ok (.aload_n 0, 1) := by decide +kernel
theorem dX8_panel_1 : decode cX8_panel 1 = .ok (.iload_n 1, 1) := by decide +kernel
theorem dX8_panel_2 : decode cX8_panel 2 = .ok (.invokevirtual 85, 3) := by decide +kernel
theorem dX8_panel_5 : decode cX8_panel 5 = .ok (.astore 5, 2) := by decide +kernel
theorem dX8_panel_7 : decode cX8_panel 7 = .ok (.aload 5, 2) := by decide +kernel
theorem dX8_panel_9 : decode cX8_panel 9 = .ok (.ifnonnull 13, 3) := by decide +kernel
theorem dX8_panel_12 : decode cX8_panel 12 = .ok (.new 89, 3) := by decide +kernel
theorem dX8_panel_15 : decode cX8_panel 15 = .ok (.dup, 1) := by decide +kernel
theorem dX8_panel_16 : decode cX8_panel 16 = .ok (.ldc 91, 2) := by decide +kernel
theorem dX8_panel_18 : decode cX8_panel 18 = .ok (.invokespecial 93, 3) := by decide +kernel
theorem dX8_panel_21 : decode cX8_panel 21 = .ok (.athrow, 1) := by decide +kernel
theorem dX8_panel_22 : decode cX8_panel 22 = .ok (.iload_n 2, 1) := by decide +kernel
theorem dX8_panel_23 : decode cX8_panel 23 = .ok (.i2l, 1) := by decide +kernel
theorem dX8_panel_24 : decode cX8_panel 24 = .ok (.lconst 1, 1) := by decide +kernel
theorem dX8_panel_25 : decode cX8_panel 25 = .ok (.ldc2_w 108, 3) := by decide +kernel
theorem dX8_panel_28 : decode cX8_panel 28 = .ok (.invokestatic 62, 3) := by decide +kernel
theorem dX8_panel_31 : decode cX8_panel 31 = .ok (.ifCond .ne 43, 3) := by decide +kernel
theorem dX8_panel_34 : decode cX8_panel 34 = .ok (.iload_n 3, 1) := by decide +kernel
theorem dX8_panel_35 : decode cX8_panel 35 = .ok (.i2l, 1) := by decide +kernel
theorem dX8_panel_36 : decode cX8_panel 36 = .ok (.lconst 1, 1) := by decide +kernel
theorem dX8_panel_37 : decode cX8_panel 37 = .ok (.ldc2_w 108, 3) := by decide +kernel
theorem dX8_panel_40 : decode cX8_panel 40 = .ok (.invokestatic 62, 3) := by decide +kernel
theorem dX8_panel_43 : decode cX8_panel 43 = .ok (.ifCond .ne 31, 3) := by decide +kernel
theorem dX8_panel_46 : decode cX8_panel 46 = .ok (.iload 4, 2) := by decide +kernel
theorem dX8_panel_48 : decode cX8_panel 48 = .ok (.i2l, 1) := by decide +kernel
theorem dX8_panel_49 : decode cX8_panel 49 = .ok (.lconst 0, 1) := by decide +kernel
theorem dX8_panel_50 : decode cX8_panel 50 = .ok (.ldc2_w 110, 3) := by decide +kernel
theorem dX8_panel_53 : decode cX8_panel 53 = .ok (.invokestatic 62, 3) := by decide +kernel
theorem dX8_panel_56 : decode cX8_panel 56 = .ok (.ifCond .ne 18, 3) := by decide +kernel
theorem dX8_panel_59 : decode cX8_panel 59 = .ok (.iload 4, 2) := by decide +kernel
theorem dX8_panel_61 : decode cX8_panel 61 = .ok (.iconst 2, 1) := by decide +kernel
theorem dX8_panel_62 : decode cX8_panel 62 = .ok (.if_icmp .ne 22, 3) := by decide +kernel
theorem dX8_panel_65 : decode cX8_panel 65 = .ok (.iload_n 2, 1) := by decide +kernel
theorem dX8_panel_66 : decode cX8_panel 66 = .ok (.iload_n 3, 1) := by decide +kernel
theorem dX8_panel_67 : decode cX8_panel 67 = .ok (.iadd, 1) := by decide +kernel
theorem dX8_panel_68 : decode cX8_panel 68 = .ok (.sipush 150, 3) := by decide +kernel
theorem dX8_panel_71 : decode cX8_panel 71 = .ok (.if_icmp .le 13, 3) := by decide +kernel
theorem dX8_panel_74 : decode cX8_panel 74 = .ok (.new 66, 3) := by decide +kernel
theorem dX8_panel_77 : decode cX8_panel 77 = .ok (.dup, 1) := by decide +kernel
theorem dX8_panel_78 : decode cX8_panel 78 = .ok (.ldc 112, 2) := by decide +kernel
theorem dX8_panel_80 : decode cX8_panel 80 = .ok (.invokespecial 70, 3) := by decide +kernel
theorem dX8_panel_83 : decode cX8_panel 83 = .ok (.athrow, 1) := by decide +kernel
theorem dX8_panel_84 : decode cX8_panel 84 = .ok (.aload_n 0, 1) := by decide +kernel
theorem dX8_panel_85 : decode cX8_panel 85 = .ok (.getfield 114, 3) := by decide +kernel
theorem dX8_panel_88 : decode cX8_panel 88 = .ok (.aload_n 0, 1) := by decide +kernel
theorem dX8_panel_89 : decode cX8_panel 89 = .ok (.getfield 17, 3) := by decide +kernel
theorem dX8_panel_92 : decode cX8_panel 92 = .ok (.arraylength, 1) := by decide +kernel
theorem dX8_panel_93 : decode cX8_panel 93 = .ok (.if_icmp .lt 13, 3) := by decide +kernel
theorem dX8_panel_96 : decode cX8_panel 96 = .ok (.new 77, 3) := by decide +kernel
theorem dX8_panel_99 : decode cX8_panel 99 = .ok (.dup, 1) := by decide +kernel
theorem dX8_panel_100 : decode cX8_panel 100 = .ok (.ldc 117, 2) := by decide +kernel
theorem dX8_panel_102 : decode cX8_panel 102 = .ok (.invokespecial 81, 3) := by decide +kernel
theorem dX8_panel_105 : decode cX8_panel 105 = .ok (.athrow, 1) := by decide +kernel
theorem dX8_panel_106 : decode cX8_panel 106 = .ok (.aload_n 0, 1) := by decide +kernel
theorem dX8_panel_107 : decode cX8_panel 107 = .ok (.getfield 17, 3) := by decide +kernel
theorem dX8_panel_110 : decode cX8_panel 110 = .ok (.aload_n 0, 1) := by decide +kernel
theorem dX8_panel_111 : decode cX8_panel 111 = .ok (.getfield 114, 3) := by decide +kernel
theorem dX8_panel_114 : decode cX8_panel 114 = .ok (.new 15, 3) := by decide +kernel
theorem dX8_panel_117 : decode cX8_panel 117 = .ok (.dup, 1) := by decide +kernel
theorem dX8_panel_118 : decode cX8_panel 118 = .ok (.aload 5, 2) := by decide +kernel
theorem dX8_panel_120 : decode cX8_panel 120 = .ok (.iload_n 2, 1) := by decide +kernel
theorem dX8_panel_121 : decode cX8_panel 121 = .ok (.iload 4, 2) := by decide +kernel
theorem dX8_panel_123 : decode cX8_panel 123 = .ok (.invokespecial 119, 3) := by decide +kernel
theorem dX8_panel_126 : decode cX8_panel 126 = .ok (.aastore, 1) := by decide +kernel
theorem dX8_panel_127 : decode cX8_panel 127 = .ok (.aload 5, 2) := by decide +kernel
theorem dX8_panel_129 : decode cX8_panel 129 = .ok (.iload_n 2, 1) := by decide +kernel
theorem dX8_panel_130 : decode cX8_panel 130 = .ok (.iload_n 3, 1) := by decide +kernel
theorem dX8_panel_131 : decode cX8_panel 131 = .ok (.iload 4, 2) := by decide +kernel
theorem dX8_panel_133 : decode cX8_panel 133 = .ok (.invokevirtual 122, 3) := by decide +kernel
theorem dX8_panel_136 : decode cX8_panel 136 = .ok (.aload_n 0, 1) := by decide +kernel
theorem dX8_panel_137 : decode cX8_panel 137 = .ok (.dup, 1) := by decide +kernel
theorem dX8_panel_138 : decode cX8_panel 138 = .ok (.getfield 114, 3) := by decide +kernel
theorem dX8_panel_141 : decode cX8_panel 141 = .ok (.dup_x1, 1) := by decide +kernel
theorem dX8_panel_142 : decode cX8_panel 142 = .ok (.iconst 1, 1) := by decide +kernel
theorem dX8_panel_143 : decode cX8_panel 143 = .ok (.iadd, 1) := by decide +kernel
theorem dX8_panel_144 : decode cX8_panel 144 = .ok (.putfield 114, 3) := by decide +kernel
theorem dX8_panel_147 : decode cX8_panel 147 = .ok (.ireturn, 1) := by decide +kernel
theorem dX8_strength_0 : decode cX8_strength 0 = .ok (.aload_n 0, 1) := by decide +kernel
theorem dX8_strength_1 : decode cX8_strength 1 = .ok (.iload_n 1, 1) := by decide +kernel
theorem dX8_strength_2 : decode cX8_strength 2 = .ok (.invokevirtual 125, 3) := by decide +kernel
theorem dX8_strength_5 : decode cX8_strength 5 = .ok (.astore_n 2, 1) := by decide +kernel
theorem dX8_strength_6 : decode cX8_strength 6 = .ok (.aload_n 2, 1) := by decide +kernel
theorem dX8_strength_7 : decode cX8_strength 7 = .ok (.ifnonnull 13, 3) := by decide +kernel
theorem dX8_strength_10 : decode cX8_strength 10 = .ok (.new 89, 3) := by decide +kernel
theorem dX8_strength_13 : decode cX8_strength 13 = .ok (.dup, 1) := by decide +kernel
theorem dX8_strength_14 : decode cX8_strength 14 = .ok (.ldc 129, 2) := by decide +kernel
theorem dX8_strength_16 : decode cX8_strength 16 = .ok (.invokespecial 93, 3) := by decide +kernel
theorem dX8_strength_19 : decode cX8_strength 19 = .ok (.athrow, 1) := by decide +kernel
theorem dX8_strength_20 : decode cX8_strength 20 = .ok (.aload_n 2, 1) := by decide +kernel
theorem dX8_strength_21 : decode cX8_strength 21 = .ok (.invokevirtual 131, 3) := by decide +kernel
theorem dX8_strength_24 : decode cX8_strength 24 = .ok (.lreturn, 1) := by decide +kernel
theorem dX8_roll_0 : decode cX8_roll 0 = .ok (.aload_n 0, 1) := by decide +kernel
theorem dX8_roll_1 : decode cX8_roll 1 = .ok (.iload_n 1, 1) := by decide +kernel
theorem dX8_roll_2 : decode cX8_roll 2 = .ok (.invokevirtual 85, 3) := by decide +kernel
theorem dX8_roll_5 : decode cX8_roll 5 = .ok (.astore_n 2, 1) := by decide +kernel
theorem dX8_roll_6 : decode cX8_roll 6 = .ok (.aload_n 2, 1) := by decide +kernel
theorem dX8_roll_7 : decode cX8_roll 7 = .ok (.ifnonnull 13, 3) := by decide +kernel
theorem dX8_roll_10 : decode cX8_roll 10 = .ok (.new 89, 3) := by decide +kernel
theorem dX8_roll_13 : decode cX8_roll 13 = .ok (.dup, 1) := by decide +kernel
theorem dX8_roll_14 : decode cX8_roll 14 = .ok (.ldc 91, 2) := by decide +kernel
theorem dX8_roll_16 : decode cX8_roll 16 = .ok (.invokespecial 93, 3) := by decide +kernel
theorem dX8_roll_19 : decode cX8_roll 19 = .ok (.athrow, 1) := by decide +kernel
theorem dX8_roll_20 : decode cX8_roll 20 = .ok (.aload_n 2, 1) := by decide +kernel
theorem dX8_roll_21 : decode cX8_roll 21 = .ok (.invokevirtual 135, 3) := by decide +kernel
theorem dX8_roll_24 : decode cX8_roll 24 = .ok (.ireturn, 1) := by decide +kernel
theorem dX8_lotAt_0 : decode cX8_lotAt 0 = .ok (.iload_n 1, 1) := by decide +kernel
theorem dX8_lotAt_1 : decode cX8_lotAt 1 = .ok (.i2l, 1) := by decide +kernel
theorem dX8_lotAt_2 : decode cX8_lotAt 2 = .ok (.lconst 0, 1) := by decide +kernel
theorem dX8_lotAt_3 : decode cX8_lotAt 3 = .ok (.aload_n 0, 1) := by decide +kernel
theorem dX8_lotAt_4 : decode cX8_lotAt 4 = .ok (.getfield 73, 3) := by decide +kernel
theorem dX8_lotAt_7 : decode cX8_lotAt 7 = .ok (.iconst 1, 1) := by decide +kernel
theorem dX8_lotAt_8 : decode cX8_lotAt 8 = .ok (.isub, 1) := by decide +kernel
theorem dX8_lotAt_9 : decode cX8_lotAt 9 = .ok (.i2l, 1) := by decide +kernel
theorem dX8_lotAt_10 : decode cX8_lotAt 10 = .ok (.invokestatic 62, 3) := by decide +kernel
theorem dX8_lotAt_13 : decode cX8_lotAt 13 = .ok (.ifCond .eq 7, 3) := by decide +kernel
theorem dX8_lotAt_16 : decode cX8_lotAt 16 = .ok (.aconst_null, 1) := by decide +kernel
theorem dX8_lotAt_17 : decode cX8_lotAt 17 = .ok (.goto 9, 3) := by decide +kernel
theorem dX8_lotAt_20 : decode cX8_lotAt 20 = .ok (.aload_n 0, 1) := by decide +kernel
theorem dX8_lotAt_21 : decode cX8_lotAt 21 = .ok (.getfield 11, 3) := by decide +kernel
theorem dX8_lotAt_24 : decode cX8_lotAt 24 = .ok (.iload_n 1, 1) := by decide +kernel
theorem dX8_lotAt_25 : decode cX8_lotAt 25 = .ok (.aaload, 1) := by decide +kernel
theorem dX8_lotAt_26 : decode cX8_lotAt 26 = .ok (.areturn, 1) := by decide +kernel
theorem dX8_panelAt_0 : decode cX8_panelAt 0 = .ok (.iload_n 1, 1) := by decide +kernel
theorem dX8_panelAt_1 : decode cX8_panelAt 1 = .ok (.i2l, 1) := by decide +kernel
theorem dX8_panelAt_2 : decode cX8_panelAt 2 = .ok (.lconst 0, 1) := by decide +kernel
theorem dX8_panelAt_3 : decode cX8_panelAt 3 = .ok (.aload_n 0, 1) := by decide +kernel
theorem dX8_panelAt_4 : decode cX8_panelAt 4 = .ok (.getfield 114, 3) := by decide +kernel
theorem dX8_panelAt_7 : decode cX8_panelAt 7 = .ok (.iconst 1, 1) := by decide +kernel
theorem dX8_panelAt_8 : decode cX8_panelAt 8 = .ok (.isub, 1) := by decide +kernel
theorem dX8_panelAt_9 : decode cX8_panelAt 9 = .ok (.i2l, 1) := by decide +kernel
theorem dX8_panelAt_10 : decode cX8_panelAt 10 = .ok (.invokestatic 62, 3) := by decide +kernel
theorem dX8_panelAt_13 : decode cX8_panelAt 13 = .ok (.ifCond .eq 7, 3) := by decide +kernel
theorem dX8_panelAt_16 : decode cX8_panelAt 16 = .ok (.aconst_null, 1) := by decide +kernel
theorem dX8_panelAt_17 : decode cX8_panelAt 17 = .ok (.goto 9, 3) := by decide +kernel
theorem dX8_panelAt_20 : decode cX8_panelAt 20 = .ok (.aload_n 0, 1) := by decide +kernel
theorem dX8_panelAt_21 : decode cX8_panelAt 21 = .ok (.getfield 17, 3) := by decide +kernel
theorem dX8_panelAt_24 : decode cX8_panelAt 24 = .ok (.iload_n 1, 1) := by decide +kernel
theorem dX8_panelAt_25 : decode cX8_panelAt 25 = .ok (.aaload, 1) := by decide +kernel
theorem dX8_panelAt_26 : decode cX8_panelAt 26 = .ok (.areturn, 1) := by decide +kernel
theorem dX8_seam_0 : decode cX8_seam 0 = .ok (.aload_n 0, 1) := by decide +kernel
theorem dX8_seam_1 : decode cX8_seam 1 = .ok (.iload_n 1, 1) := by decide +kernel
theorem dX8_seam_2 : decode cX8_seam 2 = .ok (.invokevirtual 125, 3) := by decide +kernel
theorem dX8_seam_5 : decode cX8_seam 5 = .ok (.astore 4, 2) := by decide +kernel
theorem dX8_seam_7 : decode cX8_seam 7 = .ok (.aload_n 0, 1) := by decide +kernel
theorem dX8_seam_8 : decode cX8_seam 8 = .ok (.iload_n 2, 1) := by decide +kernel
theorem dX8_seam_9 : decode cX8_seam 9 = .ok (.invokevirtual 125, 3) := by decide +kernel
theorem dX8_seam_12 : decode cX8_seam 12 = .ok (.astore 5, 2) := by decide +kernel
theorem dX8_seam_14 : decode cX8_seam 14 = .ok (.aload 4, 2) := by decide +kernel
theorem dX8_seam_16 : decode cX8_seam 16 = .ok (.ifnull 8, 3) := by decide +kernel
theorem dX8_seam_19 : decode cX8_seam 19 = .ok (.aload 5, 2) := by decide +kernel
theorem dX8_seam_21 : decode cX8_seam 21 = .ok (.ifnonnull 13, 3) := by decide +kernel
theorem dX8_seam_24 : decode cX8_seam 24 = .ok (.new 89, 3) := by decide +kernel
theorem dX8_seam_27 : decode cX8_seam 27 = .ok (.dup, 1) := by decide +kernel
theorem dX8_seam_28 : decode cX8_seam 28 = .ok (.ldc 129, 2) := by decide +kernel
theorem dX8_seam_30 : decode cX8_seam 30 = .ok (.invokespecial 93, 3) := by decide +kernel
theorem dX8_seam_33 : decode cX8_seam 33 = .ok (.athrow, 1) := by decide +kernel
theorem dX8_seam_34 : decode cX8_seam 34 = .ok (.iload_n 1, 1) := by decide +kernel
theorem dX8_seam_35 : decode cX8_seam 35 = .ok (.iload_n 2, 1) := by decide +kernel
theorem dX8_seam_36 : decode cX8_seam 36 = .ok (.if_icmp .eq 15, 3) := by decide +kernel
theorem dX8_seam_39 : decode cX8_seam 39 = .ok (.iload_n 3, 1) := by decide +kernel
theorem dX8_seam_40 : decode cX8_seam 40 = .ok (.i2l, 1) := by decide +kernel
theorem dX8_seam_41 : decode cX8_seam 41 = .ok (.lconst 0, 1) := by decide +kernel
theorem dX8_seam_42 : decode cX8_seam 42 = .ok (.ldc2_w 110, 3) := by decide +kernel
theorem dX8_seam_45 : decode cX8_seam 45 = .ok (.invokestatic 62, 3) := by decide +kernel
theorem dX8_seam_48 : decode cX8_seam 48 = .ok (.ifCond .eq 13, 3) := by decide +kernel
theorem dX8_seam_51 : decode cX8_seam 51 = .ok (.new 66, 3) := by decide +kernel
theorem dX8_seam_54 : decode cX8_seam 54 = .ok (.dup, 1) := by decide +kernel
theorem dX8_seam_55 : decode cX8_seam 55 = .ok (.ldc 139, 2) := by decide +kernel
theorem dX8_seam_57 : decode cX8_seam 57 = .ok (.invokespecial 70, 3) := by decide +kernel
theorem dX8_seam_60 : decode cX8_seam 60 = .ok (.athrow, 1) := by decide +kernel
theorem dX8_seam_61 : decode cX8_seam 61 = .ok (.aload_n 0, 1) := by decide +kernel
theorem dX8_seam_62 : decode cX8_seam 62 = .ok (.getfield 141, 3) := by decide +kernel
theorem dX8_seam_65 : decode cX8_seam 65 = .ok (.aload_n 0, 1) := by decide +kernel
theorem dX8_seam_66 : decode cX8_seam 66 = .ok (.getfield 23, 3) := by decide +kernel
theorem dX8_seam_69 : decode cX8_seam 69 = .ok (.arraylength, 1) := by decide +kernel
theorem dX8_seam_70 : decode cX8_seam 70 = .ok (.if_icmp .lt 13, 3) := by decide +kernel
theorem dX8_seam_73 : decode cX8_seam 73 = .ok (.new 77, 3) := by decide +kernel
theorem dX8_seam_76 : decode cX8_seam 76 = .ok (.dup, 1) := by decide +kernel
theorem dX8_seam_77 : decode cX8_seam 77 = .ok (.ldc 144, 2) := by decide +kernel
theorem dX8_seam_79 : decode cX8_seam 79 = .ok (.invokespecial 81, 3) := by decide +kernel
theorem dX8_seam_82 : decode cX8_seam 82 = .ok (.athrow, 1) := by decide +kernel
theorem dX8_seam_83 : decode cX8_seam 83 = .ok (.aload_n 0, 1) := by decide +kernel
theorem dX8_seam_84 : decode cX8_seam 84 = .ok (.getfield 23, 3) := by decide +kernel
theorem dX8_seam_87 : decode cX8_seam 87 = .ok (.aload_n 0, 1) := by decide +kernel
theorem dX8_seam_88 : decode cX8_seam 88 = .ok (.getfield 141, 3) := by decide +kernel
theorem dX8_seam_91 : decode cX8_seam 91 = .ok (.new 21, 3) := by decide +kernel
theorem dX8_seam_94 : decode cX8_seam 94 = .ok (.dup, 1) := by decide +kernel
theorem dX8_seam_95 : decode cX8_seam 95 = .ok (.aload 4, 2) := by decide +kernel
theorem dX8_seam_97 : decode cX8_seam 97 = .ok (.aload 5, 2) := by decide +kernel
theorem dX8_seam_99 : decode cX8_seam 99 = .ok (.iload_n 3, 1) := by decide +kernel
theorem dX8_seam_100 : decode cX8_seam 100 = .ok (.invokespecial 146, 3) := by decide +kernel
theorem dX8_seam_103 : decode cX8_seam 103 = .ok (.aastore, 1) := by decide +kernel
theorem dX8_seam_104 : decode cX8_seam 104 = .ok (.aload_n 0, 1) := by decide +kernel
theorem dX8_seam_105 : decode cX8_seam 105 = .ok (.dup, 1) := by decide +kernel
theorem dX8_seam_106 : decode cX8_seam 106 = .ok (.getfield 141, 3) := by decide +kernel
theorem dX8_seam_109 : decode cX8_seam 109 = .ok (.dup_x1, 1) := by decide +kernel
theorem dX8_seam_110 : decode cX8_seam 110 = .ok (.iconst 1, 1) := by decide +kernel
theorem dX8_seam_111 : decode cX8_seam 111 = .ok (.iadd, 1) := by decide +kernel
theorem dX8_seam_112 : decode cX8_seam 112 = .ok (.putfield 141, 3) := by decide +kernel
theorem dX8_seam_115 : decode cX8_seam 115 = .ok (.ireturn, 1) := by decide +kernel
theorem dX8_rip_0 : decode cX8_rip 0 = .ok (.iload_n 1, 1) := by decide +kernel
theorem dX8_rip_1 : decode cX8_rip 1 = .ok (.i2l, 1) := by decide +kernel
theorem dX8_rip_2 : decode cX8_rip 2 = .ok (.lconst 0, 1) := by decide +kernel
theorem dX8_rip_3 : decode cX8_rip 3 = .ok (.aload_n 0, 1) := by decide +kernel
theorem dX8_rip_4 : decode cX8_rip 4 = .ok (.getfield 141, 3) := by decide +kernel
theorem dX8_rip_7 : decode cX8_rip 7 = .ok (.iconst 1, 1) := by decide +kernel
theorem dX8_rip_8 : decode cX8_rip 8 = .ok (.isub, 1) := by decide +kernel
theorem dX8_rip_9 : decode cX8_rip 9 = .ok (.i2l, 1) := by decide +kernel
theorem dX8_rip_10 : decode cX8_rip 10 = .ok (.invokestatic 62, 3) := by decide +kernel
theorem dX8_rip_13 : decode cX8_rip 13 = .ok (.ifCond .eq 7, 3) := by decide +kernel
theorem dX8_rip_16 : decode cX8_rip 16 = .ok (.aconst_null, 1) := by decide +kernel
theorem dX8_rip_17 : decode cX8_rip 17 = .ok (.goto 9, 3) := by decide +kernel
theorem dX8_rip_20 : decode cX8_rip 20 = .ok (.aload_n 0, 1) := by decide +kernel
theorem dX8_rip_21 : decode cX8_rip 21 = .ok (.getfield 23, 3) := by decide +kernel
theorem dX8_rip_24 : decode cX8_rip 24 = .ok (.iload_n 1, 1) := by decide +kernel
theorem dX8_rip_25 : decode cX8_rip 25 = .ok (.aaload, 1) := by decide +kernel
theorem dX8_rip_26 : decode cX8_rip 26 = .ok (.astore_n 2, 1) := by decide +kernel
theorem dX8_rip_27 : decode cX8_rip 27 = .ok (.aload_n 2, 1) := by decide +kernel
theorem dX8_rip_28 : decode cX8_rip 28 = .ok (.ifnonnull 13, 3) := by decide +kernel
theorem dX8_rip_31 : decode cX8_rip 31 = .ok (.new 89, 3) := by decide +kernel
theorem dX8_rip_34 : decode cX8_rip 34 = .ok (.dup, 1) := by decide +kernel
theorem dX8_rip_35 : decode cX8_rip 35 = .ok (.ldc 149, 2) := by decide +kernel
theorem dX8_rip_37 : decode cX8_rip 37 = .ok (.invokespecial 93, 3) := by decide +kernel
theorem dX8_rip_40 : decode cX8_rip 40 = .ok (.athrow, 1) := by decide +kernel
theorem dX8_rip_41 : decode cX8_rip 41 = .ok (.aload_n 0, 1) := by decide +kernel
theorem dX8_rip_42 : decode cX8_rip 42 = .ok (.getfield 23, 3) := by decide +kernel
theorem dX8_rip_45 : decode cX8_rip 45 = .ok (.iload_n 1, 1) := by decide +kernel
theorem dX8_rip_46 : decode cX8_rip 46 = .ok (.aconst_null, 1) := by decide +kernel
theorem dX8_rip_47 : decode cX8_rip 47 = .ok (.aastore, 1) := by decide +kernel
theorem dX8_rip_48 : decode cX8_rip 48 = .ok (.aload_n 2, 1) := by decide +kernel
theorem dX8_rip_49 : decode cX8_rip 49 = .ok (.invokevirtual 151, 3) := by decide +kernel
theorem dX8_rip_52 : decode cX8_rip 52 = .ok (.lreturn, 1) := by decide +kernel
theorem dX8_bears_0 : decode cX8_bears 0 = .ok (.aload_n 0, 1) := by decide +kernel
theorem dX8_bears_1 : decode cX8_bears 1 = .ok (.iload_n 1, 1) := by decide +kernel
theorem dX8_bears_2 : decode cX8_bears 2 = .ok (.invokevirtual 125, 3) := by decide +kernel
theorem dX8_bears_5 : decode cX8_bears 5 = .ok (.astore_n 3, 1) := by decide +kernel
theorem dX8_bears_6 : decode cX8_bears 6 = .ok (.aload_n 0, 1) := by decide +kernel
theorem dX8_bears_7 : decode cX8_bears 7 = .ok (.iload_n 2, 1) := by decide +kernel
theorem dX8_bears_8 : decode cX8_bears 8 = .ok (.invokevirtual 125, 3) := by decide +kernel
theorem dX8_bears_11 : decode cX8_bears 11 = .ok (.astore 4, 2) := by decide +kernel
theorem dX8_bears_13 : decode cX8_bears 13 = .ok (.aload_n 3, 1) := by decide +kernel
theorem dX8_bears_14 : decode cX8_bears 14 = .ok (.ifnull 8, 3) := by decide +kernel
theorem dX8_bears_17 : decode cX8_bears 17 = .ok (.aload 4, 2) := by decide +kernel
theorem dX8_bears_19 : decode cX8_bears 19 = .ok (.ifnonnull 13, 3) := by decide +kernel
theorem dX8_bears_22 : decode cX8_bears 22 = .ok (.new 89, 3) := by decide +kernel
theorem dX8_bears_25 : decode cX8_bears 25 = .ok (.dup, 1) := by decide +kernel
theorem dX8_bears_26 : decode cX8_bears 26 = .ok (.ldc 129, 2) := by decide +kernel
theorem dX8_bears_28 : decode cX8_bears 28 = .ok (.invokespecial 93, 3) := by decide +kernel
theorem dX8_bears_31 : decode cX8_bears 31 = .ok (.athrow, 1) := by decide +kernel
theorem dX8_bears_32 : decode cX8_bears 32 = .ok (.aload_n 0, 1) := by decide +kernel
theorem dX8_bears_33 : decode cX8_bears 33 = .ok (.aload_n 3, 1) := by decide +kernel
theorem dX8_bears_34 : decode cX8_bears 34 = .ok (.invokevirtual 152, 3) := by decide +kernel
theorem dX8_bears_37 : decode cX8_bears 37 = .ok (.aload 4, 2) := by decide +kernel
theorem dX8_bears_39 : decode cX8_bears 39 = .ok (.getfield 156, 3) := by decide +kernel
theorem dX8_bears_42 : decode cX8_bears 42 = .ok (.lreturn, 1) := by decide +kernel
theorem dX8_bearsAnew_0 : decode cX8_bearsAnew 0 = .ok (.aload_n 0, 1) := by decide +kernel
theorem dX8_bearsAnew_1 : decode cX8_bearsAnew 1 = .ok (.iload_n 1, 1) := by decide +kernel
theorem dX8_bearsAnew_2 : decode cX8_bearsAnew 2 = .ok (.invokevirtual 125, 3) := by decide +kernel
theorem dX8_bearsAnew_5 : decode cX8_bearsAnew 5 = .ok (.astore_n 3, 1) := by decide +kernel
theorem dX8_bearsAnew_6 : decode cX8_bearsAnew 6 = .ok (.aload_n 0, 1) := by decide +kernel
theorem dX8_bearsAnew_7 : decode cX8_bearsAnew 7 = .ok (.iload_n 2, 1) := by decide +kernel
theorem dX8_bearsAnew_8 : decode cX8_bearsAnew 8 = .ok (.invokevirtual 125, 3) := by decide +kernel
theorem dX8_bearsAnew_11 : decode cX8_bearsAnew 11 = .ok (.astore 4, 2) := by decide +kernel
theorem dX8_bearsAnew_13 : decode cX8_bearsAnew 13 = .ok (.aload_n 3, 1) := by decide +kernel
theorem dX8_bearsAnew_14 : decode cX8_bearsAnew 14 = .ok (.ifnull 8, 3) := by decide +kernel
theorem dX8_bearsAnew_17 : decode cX8_bearsAnew 17 = .ok (.aload 4, 2) := by decide +kernel
theorem dX8_bearsAnew_19 : decode cX8_bearsAnew 19 = .ok (.ifnonnull 13, 3) := by decide +kernel
theorem dX8_bearsAnew_22 : decode cX8_bearsAnew 22 = .ok (.new 89, 3) := by decide +kernel
theorem dX8_bearsAnew_25 : decode cX8_bearsAnew 25 = .ok (.dup, 1) := by decide +kernel
theorem dX8_bearsAnew_26 : decode cX8_bearsAnew 26 = .ok (.ldc 129, 2) := by decide +kernel
theorem dX8_bearsAnew_28 : decode cX8_bearsAnew 28 = .ok (.invokespecial 93, 3) := by decide +kernel
theorem dX8_bearsAnew_31 : decode cX8_bearsAnew 31 = .ok (.athrow, 1) := by decide +kernel
theorem dX8_bearsAnew_32 : decode cX8_bearsAnew 32 = .ok (.iload_n 1, 1) := by decide +kernel
theorem dX8_bearsAnew_33 : decode cX8_bearsAnew 33 = .ok (.iload_n 2, 1) := by decide +kernel
theorem dX8_bearsAnew_34 : decode cX8_bearsAnew 34 = .ok (.if_icmp .ne 8, 3) := by decide +kernel
theorem dX8_bearsAnew_37 : decode cX8_bearsAnew 37 = .ok (.aload_n 3, 1) := by decide +kernel
theorem dX8_bearsAnew_38 : decode cX8_bearsAnew 38 = .ok (.invokevirtual 131, 3) := by decide +kernel
theorem dX8_bearsAnew_41 : decode cX8_bearsAnew 41 = .ok (.lreturn, 1) := by decide +kernel
theorem dX8_bearsAnew_42 : decode cX8_bearsAnew 42 = .ok (.aload_n 0, 1) := by decide +kernel
theorem dX8_bearsAnew_43 : decode cX8_bearsAnew 43 = .ok (.aload_n 3, 1) := by decide +kernel
theorem dX8_bearsAnew_44 : decode cX8_bearsAnew 44 = .ok (.aload 4, 2) := by decide +kernel
theorem dX8_bearsAnew_46 : decode cX8_bearsAnew 46 = .ok (.invokevirtual 160, 3) := by decide +kernel
theorem dX8_bearsAnew_49 : decode cX8_bearsAnew 49 = .ok (.lreturn, 1) := by decide +kernel
theorem dX8_spreadLoadFrom_0 : decode cX8_spreadLoadFrom 0 = .ok (.aload_n 0, 1) := by decide +kernel
theorem dX8_spreadLoadFrom_1 : decode cX8_spreadLoadFrom 1 = .ok (.getfield 17, 3) := by decide +kernel
theorem dX8_spreadLoadFrom_4 : decode cX8_spreadLoadFrom 4 = .ok (.astore_n 2, 1) := by decide +kernel
theorem dX8_spreadLoadFrom_5 : decode cX8_spreadLoadFrom 5 = .ok (.aload_n 2, 1) := by decide +kernel
theorem dX8_spreadLoadFrom_6 : decode cX8_spreadLoadFrom 6 = .ok (.arraylength, 1) := by decide +kernel
theorem dX8_spreadLoadFrom_7 : decode cX8_spreadLoadFrom 7 = .ok (.istore_n 3, 1) := by decide +kernel
theorem dX8_spreadLoadFrom_8 : decode cX8_spreadLoadFrom 8 = .ok (.iconst 0, 1) := by decide +kernel
theorem dX8_spreadLoadFrom_9 : decode cX8_spreadLoadFrom 9 = .ok (.istore 4, 2) := by decide +kernel
theorem dX8_spreadLoadFrom_11 : decode cX8_spreadLoadFrom 11 = .ok (.iload 4, 2) := by decide +kernel
theorem dX8_spreadLoadFrom_13 : decode cX8_spreadLoadFrom 13 = .ok (.iload_n 3, 1) := by decide +kernel
theorem dX8_spreadLoadFrom_14 : decode cX8_spreadLoadFrom 14 = .ok (.if_icmp .ge 26, 3) := by decide +kernel
theorem dX8_spreadLoadFrom_17 : decode cX8_spreadLoadFrom 17 = .ok (.aload_n 2, 1) := by decide +kernel
theorem dX8_spreadLoadFrom_18 : decode cX8_spreadLoadFrom 18 = .ok (.iload 4, 2) := by decide +kernel
theorem dX8_spreadLoadFrom_20 : decode cX8_spreadLoadFrom 20 = .ok (.aaload, 1) := by decide +kernel
theorem dX8_spreadLoadFrom_21 : decode cX8_spreadLoadFrom 21 = .ok (.astore 5, 2) := by decide +kernel
theorem dX8_spreadLoadFrom_23 : decode cX8_spreadLoadFrom 23 = .ok (.aload 5, 2) := by decide +kernel
theorem dX8_spreadLoadFrom_25 : decode cX8_spreadLoadFrom 25 = .ok (.ifnull 9, 3) := by decide +kernel
theorem dX8_spreadLoadFrom_28 : decode cX8_spreadLoadFrom 28 = .ok (.aload 5, 2) := by decide +kernel
theorem dX8_spreadLoadFrom_30 : decode cX8_spreadLoadFrom 30 = .ok (.lconst 0, 1) := by decide +kernel
theorem dX8_spreadLoadFrom_31 : decode cX8_spreadLoadFrom 31 = .ok (.putfield 156, 3) := by decide +kernel
theorem dX8_spreadLoadFrom_34 : decode cX8_spreadLoadFrom 34 = .ok (.iinc 4 1, 3) := by decide +kernel
theorem dX8_spreadLoadFrom_37 : decode cX8_spreadLoadFrom 37 = .ok (.goto (-26), 3) := by decide +kernel
theorem dX8_spreadLoadFrom_40 : decode cX8_spreadLoadFrom 40 = .ok (.aload_n 1, 1) := by decide +kernel
theorem dX8_spreadLoadFrom_41 : decode cX8_spreadLoadFrom 41 = .ok (.aload_n 1, 1) := by decide +kernel
theorem dX8_spreadLoadFrom_42 : decode cX8_spreadLoadFrom 42 = .ok (.invokevirtual 131, 3) := by decide +kernel
theorem dX8_spreadLoadFrom_45 : decode cX8_spreadLoadFrom 45 = .ok (.putfield 156, 3) := by decide +kernel
theorem dX8_spreadLoadFrom_48 : decode cX8_spreadLoadFrom 48 = .ok (.iconst 1, 1) := by decide +kernel
theorem dX8_spreadLoadFrom_49 : decode cX8_spreadLoadFrom 49 = .ok (.istore_n 2, 1) := by decide +kernel
theorem dX8_spreadLoadFrom_50 : decode cX8_spreadLoadFrom 50 = .ok (.iload_n 2, 1) := by decide +kernel
theorem dX8_spreadLoadFrom_51 : decode cX8_spreadLoadFrom 51 = .ok (.aload_n 0, 1) := by decide +kernel
theorem dX8_spreadLoadFrom_52 : decode cX8_spreadLoadFrom 52 = .ok (.getfield 114, 3) := by decide +kernel
theorem dX8_spreadLoadFrom_55 : decode cX8_spreadLoadFrom 55 = .ok (.if_icmp .ge 50, 3) := by decide +kernel
theorem dX8_spreadLoadFrom_58 : decode cX8_spreadLoadFrom 58 = .ok (.aload_n 0, 1) := by decide +kernel
theorem dX8_spreadLoadFrom_59 : decode cX8_spreadLoadFrom 59 = .ok (.getfield 23, 3) := by decide +kernel
theorem dX8_spreadLoadFrom_62 : decode cX8_spreadLoadFrom 62 = .ok (.astore_n 3, 1) := by decide +kernel
theorem dX8_spreadLoadFrom_63 : decode cX8_spreadLoadFrom 63 = .ok (.aload_n 3, 1) := by decide +kernel
theorem dX8_spreadLoadFrom_64 : decode cX8_spreadLoadFrom 64 = .ok (.arraylength, 1) := by decide +kernel
theorem dX8_spreadLoadFrom_65 : decode cX8_spreadLoadFrom 65 = .ok (.istore 4, 2) := by decide +kernel
theorem dX8_spreadLoadFrom_67 : decode cX8_spreadLoadFrom 67 = .ok (.iconst 0, 1) := by decide +kernel
theorem dX8_spreadLoadFrom_68 : decode cX8_spreadLoadFrom 68 = .ok (.istore 5, 2) := by decide +kernel
theorem dX8_spreadLoadFrom_70 : decode cX8_spreadLoadFrom 70 = .ok (.iload 5, 2) := by decide +kernel
theorem dX8_spreadLoadFrom_72 : decode cX8_spreadLoadFrom 72 = .ok (.iload 4, 2) := by decide +kernel
theorem dX8_spreadLoadFrom_74 : decode cX8_spreadLoadFrom 74 = .ok (.if_icmp .ge 25, 3) := by decide +kernel
theorem dX8_spreadLoadFrom_77 : decode cX8_spreadLoadFrom 77 = .ok (.aload_n 3, 1) := by decide +kernel
theorem dX8_spreadLoadFrom_78 : decode cX8_spreadLoadFrom 78 = .ok (.iload 5, 2) := by decide +kernel
theorem dX8_spreadLoadFrom_80 : decode cX8_spreadLoadFrom 80 = .ok (.aaload, 1) := by decide +kernel
theorem dX8_spreadLoadFrom_81 : decode cX8_spreadLoadFrom 81 = .ok (.astore 6, 2) := by decide +kernel
theorem dX8_spreadLoadFrom_83 : decode cX8_spreadLoadFrom 83 = .ok (.aload 6, 2) := by decide +kernel
theorem dX8_spreadLoadFrom_85 : decode cX8_spreadLoadFrom 85 = .ok (.ifnull 8, 3) := by decide +kernel
theorem dX8_spreadLoadFrom_88 : decode cX8_spreadLoadFrom 88 = .ok (.aload 6, 2) := by decide +kernel
theorem dX8_spreadLoadFrom_90 : decode cX8_spreadLoadFrom 90 = .ok (.invokevirtual 164, 3) := by decide +kernel
theorem dX8_spreadLoadFrom_93 : decode cX8_spreadLoadFrom 93 = .ok (.iinc 5 1, 3) := by decide +kernel
theorem dX8_spreadLoadFrom_96 : decode cX8_spreadLoadFrom 96 = .ok (.goto (-26), 3) := by decide +kernel
theorem dX8_spreadLoadFrom_99 : decode cX8_spreadLoadFrom 99 = .ok (.iinc 2 1, 3) := by decide +kernel
theorem dX8_spreadLoadFrom_102 : decode cX8_spreadLoadFrom 102 = .ok (.goto (-52), 3) := by decide +kernel
theorem dX8_spreadLoadFrom_105 : decode cX8_spreadLoadFrom 105 = .ok (.return_, 1) := by decide +kernel
theorem dX8_joinUntilTogether_0 : decode cX8_joinUntilTogether 0 = .ok (.iconst 0, 1) := by decide +kernel
theorem dX8_joinUntilTogether_1 : decode cX8_joinUntilTogether 1 = .ok (.istore_n 3, 1) := by decide +kernel
theorem dX8_joinUntilTogether_2 : decode cX8_joinUntilTogether 2 = .ok (.iload_n 3, 1) := by decide +kernel
theorem dX8_joinUntilTogether_3 : decode cX8_joinUntilTogether 3 = .ok (.aload_n 0, 1) := by decide +kernel
theorem dX8_joinUntilTogether_4 : decode cX8_joinUntilTogether 4 = .ok (.getfield 114, 3) := by decide +kernel
theorem dX8_joinUntilTogether_7 : decode cX8_joinUntilTogether 7 = .ok (.if_icmp .ge 28, 3) := by decide +kernel
theorem dX8_joinUntilTogether_10 : decode cX8_joinUntilTogether 10 = .ok (.aload_n 0, 1) := by decide +kernel
theorem dX8_joinUntilTogether_11 : decode cX8_joinUntilTogether 11 = .ok (.getfield 17, 3) := by decide +kernel
theorem dX8_joinUntilTogether_14 : decode cX8_joinUntilTogether 14 = .ok (.iload_n 3, 1) := by decide +kernel
theorem dX8_joinUntilTogether_15 : decode cX8_joinUntilTogether 15 = .ok (.aaload, 1) := by decide +kernel
theorem dX8_joinUntilTogether_16 : decode cX8_joinUntilTogether 16 = .ok (.astore 4, 2) := by decide +kernel
theorem dX8_joinUntilTogether_18 : decode cX8_joinUntilTogether 18 = .ok (.aload 4, 2) := by decide +kernel
theorem dX8_joinUntilTogether_20 : decode cX8_joinUntilTogether 20 = .ok (.ifnull 9, 3) := by decide +kernel
theorem dX8_joinUntilTogether_23 : decode cX8_joinUntilTogether 23 = .ok (.aload 4, 2) := by decide +kernel
theorem dX8_joinUntilTogether_25 : decode cX8_joinUntilTogether 25 = .ok (.iload_n 3, 1) := by decide +kernel
theorem dX8_joinUntilTogether_26 : decode cX8_joinUntilTogether 26 = .ok (.putfield 167, 3) := by decide +kernel
theorem dX8_joinUntilTogether_29 : decode cX8_joinUntilTogether 29 = .ok (.iinc 3 1, 3) := by decide +kernel
theorem dX8_joinUntilTogether_32 : decode cX8_joinUntilTogether 32 = .ok (.goto (-30), 3) := by decide +kernel
theorem dX8_joinUntilTogether_35 : decode cX8_joinUntilTogether 35 = .ok (.iconst 1, 1) := by decide +kernel
theorem dX8_joinUntilTogether_36 : decode cX8_joinUntilTogether 36 = .ok (.istore_n 3, 1) := by decide +kernel
theorem dX8_joinUntilTogether_37 : decode cX8_joinUntilTogether 37 = .ok (.iload_n 3, 1) := by decide +kernel
theorem dX8_joinUntilTogether_38 : decode cX8_joinUntilTogether 38 = .ok (.aload_n 0, 1) := by decide +kernel
theorem dX8_joinUntilTogether_39 : decode cX8_joinUntilTogether 39 = .ok (.getfield 114, 3) := by decide +kernel
theorem dX8_joinUntilTogether_42 : decode cX8_joinUntilTogether 42 = .ok (.if_icmp .ge 59, 3) := by decide +kernel
theorem dX8_joinUntilTogether_45 : decode cX8_joinUntilTogether 45 = .ok (.aload_n 0, 1) := by decide +kernel
theorem dX8_joinUntilTogether_46 : decode cX8_joinUntilTogether 46 = .ok (.invokevirtual 170, 3) := by decide +kernel
theorem dX8_joinUntilTogether_49 : decode cX8_joinUntilTogether 49 = .ok (.astore 4, 2) := by decide +kernel
theorem dX8_joinUntilTogether_51 : decode cX8_joinUntilTogether 51 = .ok (.aload 4, 2) := by decide +kernel
theorem dX8_joinUntilTogether_53 : decode cX8_joinUntilTogether 53 = .ok (.ifnonnull 5, 3) := by decide +kernel
theorem dX8_joinUntilTogether_56 : decode cX8_joinUntilTogether 56 = .ok (.lconst 0, 1) := by decide +kernel
theorem dX8_joinUntilTogether_57 : decode cX8_joinUntilTogether 57 = .ok (.lreturn, 1) := by decide +kernel
theorem dX8_joinUntilTogether_58 : decode cX8_joinUntilTogether 58 = .ok (.aload_n 0, 1) := by decide +kernel
theorem dX8_joinUntilTogether_59 : decode cX8_joinUntilTogether 59 = .ok (.aload 4, 2) := by decide +kernel
theorem dX8_joinUntilTogether_61 : decode cX8_joinUntilTogether 61 = .ok (.getfield 174, 3) := by decide +kernel
theorem dX8_joinUntilTogether_64 : decode cX8_joinUntilTogether 64 = .ok (.getfield 167, 3) := by decide +kernel
theorem dX8_joinUntilTogether_67 : decode cX8_joinUntilTogether 67 = .ok (.aload 4, 2) := by decide +kernel
theorem dX8_joinUntilTogether_69 : decode cX8_joinUntilTogether 69 = .ok (.getfield 178, 3) := by decide +kernel
theorem dX8_joinUntilTogether_72 : decode cX8_joinUntilTogether 72 = .ok (.getfield 167, 3) := by decide +kernel
theorem dX8_joinUntilTogether_75 : decode cX8_joinUntilTogether 75 = .ok (.invokevirtual 181, 3) := by decide +kernel
theorem dX8_joinUntilTogether_78 : decode cX8_joinUntilTogether 78 = .ok (.aload_n 1, 1) := by decide +kernel
theorem dX8_joinUntilTogether_79 : decode cX8_joinUntilTogether 79 = .ok (.getfield 167, 3) := by decide +kernel
theorem dX8_joinUntilTogether_82 : decode cX8_joinUntilTogether 82 = .ok (.aload_n 2, 1) := by decide +kernel
theorem dX8_joinUntilTogether_83 : decode cX8_joinUntilTogether 83 = .ok (.getfield 167, 3) := by decide +kernel
theorem dX8_joinUntilTogether_86 : decode cX8_joinUntilTogether 86 = .ok (.if_icmp .ne 9, 3) := by decide +kernel
theorem dX8_joinUntilTogether_89 : decode cX8_joinUntilTogether 89 = .ok (.aload 4, 2) := by decide +kernel
theorem dX8_joinUntilTogether_91 : decode cX8_joinUntilTogether 91 = .ok (.invokevirtual 151, 3) := by decide +kernel
theorem dX8_joinUntilTogether_94 : decode cX8_joinUntilTogether 94 = .ok (.lreturn, 1) := by decide +kernel
theorem dX8_joinUntilTogether_95 : decode cX8_joinUntilTogether 95 = .ok (.iinc 3 1, 3) := by decide +kernel
theorem dX8_joinUntilTogether_98 : decode cX8_joinUntilTogether 98 = .ok (.goto (-61), 3) := by decide +kernel
theorem dX8_joinUntilTogether_101 : decode cX8_joinUntilTogether 101 = .ok (.lconst 0, 1) := by decide +kernel
theorem dX8_joinUntilTogether_102 : decode cX8_joinUntilTogether 102 = .ok (.lreturn, 1) := by decide +kernel
theorem dX8_strongestBetweenGroups_0 : decode cX8_strongestBetweenGroups 0 = .ok (.aconst_null, 1) := by decide +kernel
theorem dX8_strongestBetweenGroups_1 : decode cX8_strongestBetweenGroups 1 = .ok (.astore_n 1, 1) := by decide +kernel
theorem dX8_strongestBetweenGroups_2 : decode cX8_strongestBetweenGroups 2 = .ok (.aload_n 0, 1) := by decide +kernel
theorem dX8_strongestBetweenGroups_3 : decode cX8_strongestBetweenGroups 3 = .ok (.getfield 23, 3) := by decide +kernel
theorem dX8_strongestBetweenGroups_6 : decode cX8_strongestBetweenGroups 6 = .ok (.astore_n 2, 1) := by decide +kernel
theorem dX8_strongestBetweenGroups_7 : decode cX8_strongestBetweenGroups 7 = .ok (.aload_n 2, 1) := by decide +kernel
theorem dX8_strongestBetweenGroups_8 : decode cX8_strongestBetweenGroups 8 = .ok (.arraylength, 1) := by decide +kernel
theorem dX8_strongestBetweenGroups_9 : decode cX8_strongestBetweenGroups 9 = .ok (.istore_n 3, 1) := by decide +kernel
theorem dX8_strongestBetweenGroups_10 : decode cX8_strongestBetweenGroups 10 = .ok (.iconst 0, 1) := by decide +kernel
theorem dX8_strongestBetweenGroups_11 : decode cX8_strongestBetweenGroups 11 = .ok (.istore 4, 2) := by decide +kernel
theorem dX8_strongestBetweenGroups_13 : decode cX8_strongestBetweenGroups 13 = .ok (.iload 4, 2) := by decide +kernel
theorem dX8_strongestBetweenGroups_15 : decode cX8_strongestBetweenGroups 15 = .ok (.iload_n 3, 1) := by decide +kernel
theorem dX8_strongestBetweenGroups_16 : decode cX8_strongestBetweenGroups 16 = .ok (.if_icmp .ge 59, 3) := by decide +kernel
theorem dX8_strongestBetweenGroups_19 : decode cX8_strongestBetweenGroups 19 = .ok (.aload_n 2, 1) := by decide +kernel
theorem dX8_strongestBetweenGroups_20 : decode cX8_strongestBetweenGroups 20 = .ok (.iload 4, 2) := by decide +kernel
theorem dX8_strongestBetweenGroups_22 : decode cX8_strongestBetweenGroups 22 = .ok (.aaload, 1) := by decide +kernel
theorem dX8_strongestBetweenGroups_23 : decode cX8_strongestBetweenGroups 23 = .ok (.astore 5, 2) := by decide +kernel
theorem dX8_strongestBetweenGroups_25 : decode cX8_strongestBetweenGroups 25 = .ok (.aload 5, 2) := by decide +kernel
theorem dX8_strongestBetweenGroups_27 : decode cX8_strongestBetweenGroups 27 = .ok (.ifnull 42, 3) := by decide +kernel
theorem dX8_strongestBetweenGroups_30 : decode cX8_strongestBetweenGroups 30 = .ok (.aload 5, 2) := by decide +kernel
theorem dX8_strongestBetweenGroups_32 : decode cX8_strongestBetweenGroups 32 = .ok (.getfield 178, 3) := by decide +kernel
theorem dX8_strongestBetweenGroups_35 : decode cX8_strongestBetweenGroups 35 = .ok (.getfield 167, 3) := by decide +kernel
theorem dX8_strongestBetweenGroups_38 : decode cX8_strongestBetweenGroups 38 = .ok (.aload 5, 2) := by decide +kernel
theorem dX8_strongestBetweenGroups_40 : decode cX8_strongestBetweenGroups 40 = .ok (.getfield 174, 3) := by decide +kernel
theorem dX8_strongestBetweenGroups_43 : decode cX8_strongestBetweenGroups 43 = .ok (.getfield 167, 3) := by decide +kernel
theorem dX8_strongestBetweenGroups_46 : decode cX8_strongestBetweenGroups 46 = .ok (.if_icmp .eq 23, 3) := by decide +kernel
theorem dX8_strongestBetweenGroups_49 : decode cX8_strongestBetweenGroups 49 = .ok (.aload_n 1, 1) := by decide +kernel
theorem dX8_strongestBetweenGroups_50 : decode cX8_strongestBetweenGroups 50 = .ok (.ifnull 16, 3) := by decide +kernel
theorem dX8_strongestBetweenGroups_53 : decode cX8_strongestBetweenGroups 53 = .ok (.aload 5, 2) := by decide +kernel
theorem dX8_strongestBetweenGroups_55 : decode cX8_strongestBetweenGroups 55 = .ok (.invokevirtual 151, 3) := by decide +kernel
theorem dX8_strongestBetweenGroups_58 : decode cX8_strongestBetweenGroups 58 = .ok (.aload_n 1, 1) := by decide +kernel
theorem dX8_strongestBetweenGroups_59 : decode cX8_strongestBetweenGroups 59 = .ok (.invokevirtual 151, 3) := by decide +kernel
theorem dX8_strongestBetweenGroups_62 : decode cX8_strongestBetweenGroups 62 = .ok (.lcmp, 1) := by decide +kernel
theorem dX8_strongestBetweenGroups_63 : decode cX8_strongestBetweenGroups 63 = .ok (.ifCond .le 6, 3) := by decide +kernel
theorem dX8_strongestBetweenGroups_66 : decode cX8_strongestBetweenGroups 66 = .ok (.aload 5, 2) := by decide +kernel
theorem dX8_strongestBetweenGroups_68 : decode cX8_strongestBetweenGroups 68 = .ok (.astore_n 1, 1) := by decide +kernel
theorem dX8_strongestBetweenGroups_69 : decode cX8_strongestBetweenGroups 69 = .ok (.iinc 4 1, 3) := by decide +kernel
theorem dX8_strongestBetweenGroups_72 : decode cX8_strongestBetweenGroups 72 = .ok (.goto (-59), 3) := by decide +kernel
theorem dX8_strongestBetweenGroups_75 : decode cX8_strongestBetweenGroups 75 = .ok (.aload_n 1, 1) := by decide +kernel
theorem dX8_strongestBetweenGroups_76 : decode cX8_strongestBetweenGroups 76 = .ok (.areturn, 1) := by decide +kernel
theorem dX8_moveGroup_0 : decode cX8_moveGroup 0 = .ok (.aload_n 0, 1) := by decide +kernel
theorem dX8_moveGroup_1 : decode cX8_moveGroup 1 = .ok (.getfield 17, 3) := by decide +kernel
theorem dX8_moveGroup_4 : decode cX8_moveGroup 4 = .ok (.astore_n 3, 1) := by decide +kernel
theorem dX8_moveGroup_5 : decode cX8_moveGroup 5 = .ok (.aload_n 3, 1) := by decide +kernel
theorem dX8_moveGroup_6 : decode cX8_moveGroup 6 = .ok (.arraylength, 1) := by decide +kernel
theorem dX8_moveGroup_7 : decode cX8_moveGroup 7 = .ok (.istore 4, 2) := by decide +kernel
theorem dX8_moveGroup_9 : decode cX8_moveGroup 9 = .ok (.iconst 0, 1) := by decide +kernel
theorem dX8_moveGroup_10 : decode cX8_moveGroup 10 = .ok (.istore 5, 2) := by decide +kernel
theorem dX8_moveGroup_12 : decode cX8_moveGroup 12 = .ok (.iload 5, 2) := by decide +kernel
theorem dX8_moveGroup_14 : decode cX8_moveGroup 14 = .ok (.iload 4, 2) := by decide +kernel
theorem dX8_moveGroup_16 : decode cX8_moveGroup 16 = .ok (.if_icmp .ge 35, 3) := by decide +kernel
theorem dX8_moveGroup_19 : decode cX8_moveGroup 19 = .ok (.aload_n 3, 1) := by decide +kernel
theorem dX8_moveGroup_20 : decode cX8_moveGroup 20 = .ok (.iload 5, 2) := by decide +kernel
theorem dX8_moveGroup_22 : decode cX8_moveGroup 22 = .ok (.aaload, 1) := by decide +kernel
theorem dX8_moveGroup_23 : decode cX8_moveGroup 23 = .ok (.astore 6, 2) := by decide +kernel
theorem dX8_moveGroup_25 : decode cX8_moveGroup 25 = .ok (.aload 6, 2) := by decide +kernel
theorem dX8_moveGroup_27 : decode cX8_moveGroup 27 = .ok (.ifnull 18, 3) := by decide +kernel
theorem dX8_moveGroup_30 : decode cX8_moveGroup 30 = .ok (.aload 6, 2) := by decide +kernel
theorem dX8_moveGroup_32 : decode cX8_moveGroup 32 = .ok (.getfield 167, 3) := by decide +kernel
theorem dX8_moveGroup_35 : decode cX8_moveGroup 35 = .ok (.iload_n 1, 1) := by decide +kernel
theorem dX8_moveGroup_36 : decode cX8_moveGroup 36 = .ok (.if_icmp .ne 9, 3) := by decide +kernel
theorem dX8_moveGroup_39 : decode cX8_moveGroup 39 = .ok (.aload 6, 2) := by decide +kernel
theorem dX8_moveGroup_41 : decode cX8_moveGroup 41 = .ok (.iload_n 2, 1) := by decide +kernel
theorem dX8_moveGroup_42 : decode cX8_moveGroup 42 = .ok (.putfield 167, 3) := by decide +kernel
theorem dX8_moveGroup_45 : decode cX8_moveGroup 45 = .ok (.iinc 5 1, 3) := by decide +kernel
theorem dX8_moveGroup_48 : decode cX8_moveGroup 48 = .ok (.goto (-36), 3) := by decide +kernel
theorem dX8_moveGroup_51 : decode cX8_moveGroup 51 = .ok (.return_, 1) := by decide +kernel
theorem dX8_knot_0 : decode cX8_knot 0 = .ok (.iload_n 1, 1) := by decide +kernel
theorem dX8_knot_1 : decode cX8_knot 1 = .ok (.i2l, 1) := by decide +kernel
theorem dX8_knot_2 : decode cX8_knot 2 = .ok (.lconst 0, 1) := by decide +kernel
theorem dX8_knot_3 : decode cX8_knot 3 = .ok (.ldc2_w 185, 3) := by decide +kernel
theorem dX8_knot_6 : decode cX8_knot 6 = .ok (.invokestatic 62, 3) := by decide +kernel
theorem dX8_knot_9 : decode cX8_knot 9 = .ok (.ifCond .eq 13, 3) := by decide +kernel
theorem dX8_knot_12 : decode cX8_knot 12 = .ok (.new 89, 3) := by decide +kernel
theorem dX8_knot_15 : decode cX8_knot 15 = .ok (.dup, 1) := by decide +kernel
theorem dX8_knot_16 : decode cX8_knot 16 = .ok (.ldc 187, 2) := by decide +kernel
theorem dX8_knot_18 : decode cX8_knot 18 = .ok (.invokespecial 93, 3) := by decide +kernel
theorem dX8_knot_21 : decode cX8_knot 21 = .ok (.athrow, 1) := by decide +kernel
theorem dX8_knot_22 : decode cX8_knot 22 = .ok (.iload_n 2, 1) := by decide +kernel
theorem dX8_knot_23 : decode cX8_knot 23 = .ok (.i2l, 1) := by decide +kernel
theorem dX8_knot_24 : decode cX8_knot 24 = .ok (.ldc2_w 189, 3) := by decide +kernel
theorem dX8_knot_27 : decode cX8_knot 27 = .ok (.ldc2_w 94, 3) := by decide +kernel
theorem dX8_knot_30 : decode cX8_knot 30 = .ok (.invokestatic 62, 3) := by decide +kernel
theorem dX8_knot_33 : decode cX8_knot 33 = .ok (.ifCond .eq 13, 3) := by decide +kernel
theorem dX8_knot_36 : decode cX8_knot 36 = .ok (.new 66, 3) := by decide +kernel
theorem dX8_knot_39 : decode cX8_knot 39 = .ok (.dup, 1) := by decide +kernel
theorem dX8_knot_40 : decode cX8_knot 40 = .ok (.ldc 191, 2) := by decide +kernel
theorem dX8_knot_42 : decode cX8_knot 42 = .ok (.invokespecial 70, 3) := by decide +kernel
theorem dX8_knot_45 : decode cX8_knot 45 = .ok (.athrow, 1) := by decide +kernel
theorem dX8_knot_46 : decode cX8_knot 46 = .ok (.aload_n 0, 1) := by decide +kernel
theorem dX8_knot_47 : decode cX8_knot 47 = .ok (.getfield 30, 3) := by decide +kernel
theorem dX8_knot_50 : decode cX8_knot 50 = .ok (.getfield 193, 3) := by decide +kernel
theorem dX8_knot_53 : decode cX8_knot 53 = .ok (.iload_n 1, 1) := by decide +kernel
theorem dX8_knot_54 : decode cX8_knot 54 = .ok (.iaload, 1) := by decide +kernel
theorem dX8_knot_55 : decode cX8_knot 55 = .ok (.istore 4, 2) := by decide +kernel
theorem dX8_knot_57 : decode cX8_knot 57 = .ok (.aload_n 0, 1) := by decide +kernel
theorem dX8_knot_58 : decode cX8_knot 58 = .ok (.getfield 30, 3) := by decide +kernel
theorem dX8_knot_61 : decode cX8_knot 61 = .ok (.getfield 193, 3) := by decide +kernel
theorem dX8_knot_64 : decode cX8_knot 64 = .ok (.iload_n 1, 1) := by decide +kernel
theorem dX8_knot_65 : decode cX8_knot 65 = .ok (.iload_n 2, 1) := by decide +kernel
theorem dX8_knot_66 : decode cX8_knot 66 = .ok (.iastore, 1) := by decide +kernel
theorem dX8_knot_67 : decode cX8_knot 67 = .ok (.aload_n 0, 1) := by decide +kernel
theorem dX8_knot_68 : decode cX8_knot 68 = .ok (.getfield 30, 3) := by decide +kernel
theorem dX8_knot_71 : decode cX8_knot 71 = .ok (.getfield 197, 3) := by decide +kernel
theorem dX8_knot_74 : decode cX8_knot 74 = .ok (.iload_n 1, 1) := by decide +kernel
theorem dX8_knot_75 : decode cX8_knot 75 = .ok (.iload_n 3, 1) := by decide +kernel
theorem dX8_knot_76 : decode cX8_knot 76 = .ok (.bastore, 1) := by decide +kernel
theorem dX8_knot_77 : decode cX8_knot 77 = .ok (.iload 4, 2) := by decide +kernel
theorem dX8_knot_79 : decode cX8_knot 79 = .ok (.ireturn, 1) := by decide +kernel
theorem dX8_load_0 : decode cX8_load 0 = .ok (.iload_n 1, 1) := by decide +kernel
theorem dX8_load_1 : decode cX8_load 1 = .ok (.i2l, 1) := by decide +kernel
theorem dX8_load_2 : decode cX8_load 2 = .ok (.lconst 0, 1) := by decide +kernel
theorem dX8_load_3 : decode cX8_load 3 = .ok (.ldc2_w 201, 3) := by decide +kernel
theorem dX8_load_6 : decode cX8_load 6 = .ok (.invokestatic 62, 3) := by decide +kernel
theorem dX8_load_9 : decode cX8_load 9 = .ok (.ifCond .eq 13, 3) := by decide +kernel
theorem dX8_load_12 : decode cX8_load 12 = .ok (.new 66, 3) := by decide +kernel
theorem dX8_load_15 : decode cX8_load 15 = .ok (.dup, 1) := by decide +kernel
theorem dX8_load_16 : decode cX8_load 16 = .ok (.ldc 203, 2) := by decide +kernel
theorem dX8_load_18 : decode cX8_load 18 = .ok (.invokespecial 70, 3) := by decide +kernel
theorem dX8_load_21 : decode cX8_load 21 = .ok (.athrow, 1) := by decide +kernel
theorem dX8_load_22 : decode cX8_load 22 = .ok (.aload_n 0, 1) := by decide +kernel
theorem dX8_load_23 : decode cX8_load 23 = .ok (.getfield 30, 3) := by decide +kernel
theorem dX8_load_26 : decode cX8_load 26 = .ok (.getfield 205, 3) := by decide +kernel
theorem dX8_load_29 : decode cX8_load 29 = .ok (.istore_n 2, 1) := by decide +kernel
theorem dX8_load_30 : decode cX8_load 30 = .ok (.aload_n 0, 1) := by decide +kernel
theorem dX8_load_31 : decode cX8_load 31 = .ok (.getfield 30, 3) := by decide +kernel
theorem dX8_load_34 : decode cX8_load 34 = .ok (.iload_n 1, 1) := by decide +kernel
theorem dX8_load_35 : decode cX8_load 35 = .ok (.putfield 205, 3) := by decide +kernel
theorem dX8_load_38 : decode cX8_load 38 = .ok (.iload_n 2, 1) := by decide +kernel
theorem dX8_load_39 : decode cX8_load 39 = .ok (.ireturn, 1) := by decide +kernel
theorem dX8_rest_0 : decode cX8_rest 0 = .ok (.iload_n 1, 1) := by decide +kernel
theorem dX8_rest_1 : decode cX8_rest 1 = .ok (.i2l, 1) := by decide +kernel
theorem dX8_rest_2 : decode cX8_rest 2 = .ok (.lconst 1, 1) := by decide +kernel
theorem dX8_rest_3 : decode cX8_rest 3 = .ok (.ldc2_w 208, 3) := by decide +kernel
theorem dX8_rest_6 : decode cX8_rest 6 = .ok (.invokestatic 62, 3) := by decide +kernel
theorem dX8_rest_9 : decode cX8_rest 9 = .ok (.ifCond .eq 13, 3) := by decide +kernel
theorem dX8_rest_12 : decode cX8_rest 12 = .ok (.new 66, 3) := by decide +kernel
theorem dX8_rest_15 : decode cX8_rest 15 = .ok (.dup, 1) := by decide +kernel
theorem dX8_rest_16 : decode cX8_rest 16 = .ok (.ldc 210, 2) := by decide +kernel
theorem dX8_rest_18 : decode cX8_rest 18 = .ok (.invokespecial 70, 3) := by decide +kernel
theorem dX8_rest_21 : decode cX8_rest 21 = .ok (.athrow, 1) := by decide +kernel
theorem dX8_rest_22 : decode cX8_rest 22 = .ok (.iconst 0, 1) := by decide +kernel
theorem dX8_rest_23 : decode cX8_rest 23 = .ok (.istore_n 2, 1) := by decide +kernel
theorem dX8_rest_24 : decode cX8_rest 24 = .ok (.iload_n 2, 1) := by decide +kernel
theorem dX8_rest_25 : decode cX8_rest 25 = .ok (.iload_n 1, 1) := by decide +kernel
theorem dX8_rest_26 : decode cX8_rest 26 = .ok (.if_icmp .ge 19, 3) := by decide +kernel
theorem dX8_rest_29 : decode cX8_rest 29 = .ok (.aload_n 0, 1) := by decide +kernel
theorem dX8_rest_30 : decode cX8_rest 30 = .ok (.getfield 30, 3) := by decide +kernel
theorem dX8_rest_33 : decode cX8_rest 33 = .ok (.invokevirtual 212, 3) := by decide +kernel
theorem dX8_rest_36 : decode cX8_rest 36 = .ok (.ifCond .eq 9, 3) := by decide +kernel
theorem dX8_rest_39 : decode cX8_rest 39 = .ok (.iinc 2 1, 3) := by decide +kernel
theorem dX8_rest_42 : decode cX8_rest 42 = .ok (.goto (-18), 3) := by decide +kernel
theorem dX8_rest_45 : decode cX8_rest 45 = .ok (.iload_n 2, 1) := by decide +kernel
theorem dX8_rest_46 : decode cX8_rest 46 = .ok (.ireturn, 1) := by decide +kernel
theorem dX8_height_0 : decode cX8_height 0 = .ok (.iload_n 1, 1) := by decide +kernel
theorem dX8_height_1 : decode cX8_height 1 = .ok (.i2l, 1) := by decide +kernel
theorem dX8_height_2 : decode cX8_height 2 = .ok (.lconst 0, 1) := by decide +kernel
theorem dX8_height_3 : decode cX8_height 3 = .ok (.ldc2_w 185, 3) := by decide +kernel
theorem dX8_height_6 : decode cX8_height 6 = .ok (.invokestatic 62, 3) := by decide +kernel
theorem dX8_height_9 : decode cX8_height 9 = .ok (.ifCond .eq 13, 3) := by decide +kernel
theorem dX8_height_12 : decode cX8_height 12 = .ok (.new 89, 3) := by decide +kernel
theorem dX8_height_15 : decode cX8_height 15 = .ok (.dup, 1) := by decide +kernel
theorem dX8_height_16 : decode cX8_height 16 = .ok (.ldc 187, 2) := by decide +kernel
theorem dX8_height_18 : decode cX8_height 18 = .ok (.invokespecial 93, 3) := by decide +kernel
theorem dX8_height_21 : decode cX8_height 21 = .ok (.athrow, 1) := by decide +kernel
theorem dX8_height_22 : decode cX8_height 22 = .ok (.aload_n 0, 1) := by decide +kernel
theorem dX8_height_23 : decode cX8_height 23 = .ok (.getfield 30, 3) := by decide +kernel
theorem dX8_height_26 : decode cX8_height 26 = .ok (.getfield 193, 3) := by decide +kernel
theorem dX8_height_29 : decode cX8_height 29 = .ok (.iload_n 1, 1) := by decide +kernel
theorem dX8_height_30 : decode cX8_height 30 = .ok (.iaload, 1) := by decide +kernel
theorem dX8_height_31 : decode cX8_height 31 = .ok (.ireturn, 1) := by decide +kernel
theorem dX8_peg_0 : decode cX8_peg 0 = .ok (.lload_n 1, 1) := by decide +kernel
theorem dX8_peg_1 : decode cX8_peg 1 = .ok (.lconst 0, 1) := by decide +kernel
theorem dX8_peg_2 : decode cX8_peg 2 = .ok (.ldc2_w 216, 3) := by decide +kernel
theorem dX8_peg_5 : decode cX8_peg 5 = .ok (.invokestatic 62, 3) := by decide +kernel
theorem dX8_peg_8 : decode cX8_peg 8 = .ok (.ifCond .ne 15, 3) := by decide +kernel
theorem dX8_peg_11 : decode cX8_peg 11 = .ok (.iload_n 3, 1) := by decide +kernel
theorem dX8_peg_12 : decode cX8_peg 12 = .ok (.i2l, 1) := by decide +kernel
theorem dX8_peg_13 : decode cX8_peg 13 = .ok (.lconst 1, 1) := by decide +kernel
theorem dX8_peg_14 : decode cX8_peg 14 = .ok (.ldc2_w 201, 3) := by decide +kernel
theorem dX8_peg_17 : decode cX8_peg 17 = .ok (.invokestatic 62, 3) := by decide +kernel
theorem dX8_peg_20 : decode cX8_peg 20 = .ok (.ifCond .eq 13, 3) := by decide +kernel
theorem dX8_peg_23 : decode cX8_peg 23 = .ok (.new 66, 3) := by decide +kernel
theorem dX8_peg_26 : decode cX8_peg 26 = .ok (.dup, 1) := by decide +kernel
theorem dX8_peg_27 : decode cX8_peg 27 = .ok (.ldc 218, 2) := by decide +kernel
theorem dX8_peg_29 : decode cX8_peg 29 = .ok (.invokespecial 70, 3) := by decide +kernel
theorem dX8_peg_32 : decode cX8_peg 32 = .ok (.athrow, 1) := by decide +kernel
theorem dX8_peg_33 : decode cX8_peg 33 = .ok (.aload_n 0, 1) := by decide +kernel
theorem dX8_peg_34 : decode cX8_peg 34 = .ok (.getfield 220, 3) := by decide +kernel
theorem dX8_peg_37 : decode cX8_peg 37 = .ok (.aload_n 0, 1) := by decide +kernel
theorem dX8_peg_38 : decode cX8_peg 38 = .ok (.getfield 36, 3) := by decide +kernel
theorem dX8_peg_41 : decode cX8_peg 41 = .ok (.arraylength, 1) := by decide +kernel
theorem dX8_peg_42 : decode cX8_peg 42 = .ok (.if_icmp .lt 13, 3) := by decide +kernel
theorem dX8_peg_45 : decode cX8_peg 45 = .ok (.new 77, 3) := by decide +kernel
theorem dX8_peg_48 : decode cX8_peg 48 = .ok (.dup, 1) := by decide +kernel
theorem dX8_peg_49 : decode cX8_peg 49 = .ok (.ldc 223, 2) := by decide +kernel
theorem dX8_peg_51 : decode cX8_peg 51 = .ok (.invokespecial 81, 3) := by decide +kernel
theorem dX8_peg_54 : decode cX8_peg 54 = .ok (.athrow, 1) := by decide +kernel
theorem dX8_peg_55 : decode cX8_peg 55 = .ok (.aload_n 0, 1) := by decide +kernel
theorem dX8_peg_56 : decode cX8_peg 56 = .ok (.getfield 36, 3) := by decide +kernel
theorem dX8_peg_59 : decode cX8_peg 59 = .ok (.aload_n 0, 1) := by decide +kernel
theorem dX8_peg_60 : decode cX8_peg 60 = .ok (.getfield 220, 3) := by decide +kernel
theorem dX8_peg_63 : decode cX8_peg 63 = .ok (.new 34, 3) := by decide +kernel
theorem dX8_peg_66 : decode cX8_peg 66 = .ok (.dup, 1) := by decide +kernel
theorem dX8_peg_67 : decode cX8_peg 67 = .ok (.lload_n 1, 1) := by decide +kernel
theorem dX8_peg_68 : decode cX8_peg 68 = .ok (.iload_n 3, 1) := by decide +kernel
theorem dX8_peg_69 : decode cX8_peg 69 = .ok (.invokespecial 225, 3) := by decide +kernel
theorem dX8_peg_72 : decode cX8_peg 72 = .ok (.aastore, 1) := by decide +kernel
theorem dX8_peg_73 : decode cX8_peg 73 = .ok (.aload_n 0, 1) := by decide +kernel
theorem dX8_peg_74 : decode cX8_peg 74 = .ok (.dup, 1) := by decide +kernel
theorem dX8_peg_75 : decode cX8_peg 75 = .ok (.getfield 220, 3) := by decide +kernel
theorem dX8_peg_78 : decode cX8_peg 78 = .ok (.dup_x1, 1) := by decide +kernel
theorem dX8_peg_79 : decode cX8_peg 79 = .ok (.iconst 1, 1) := by decide +kernel
theorem dX8_peg_80 : decode cX8_peg 80 = .ok (.iadd, 1) := by decide +kernel
theorem dX8_peg_81 : decode cX8_peg 81 = .ok (.putfield 220, 3) := by decide +kernel
theorem dX8_peg_84 : decode cX8_peg 84 = .ok (.ireturn, 1) := by decide +kernel
theorem dX8_gust_0 : decode cX8_gust 0 = .ok (.lload_n 1, 1) := by decide +kernel
theorem dX8_gust_1 : decode cX8_gust 1 = .ok (.lconst 0, 1) := by decide +kernel
theorem dX8_gust_2 : decode cX8_gust 2 = .ok (.ldc2_w 228, 3) := by decide +kernel
theorem dX8_gust_5 : decode cX8_gust 5 = .ok (.invokestatic 62, 3) := by decide +kernel
theorem dX8_gust_8 : decode cX8_gust 8 = .ok (.ifCond .eq 13, 3) := by decide +kernel
theorem dX8_gust_11 : decode cX8_gust 11 = .ok (.new 66, 3) := by decide +kernel
theorem dX8_gust_14 : decode cX8_gust 14 = .ok (.dup, 1) := by decide +kernel
theorem dX8_gust_15 : decode cX8_gust 15 = .ok (.ldc 230, 2) := by decide +kernel
theorem dX8_gust_17 : decode cX8_gust 17 = .ok (.invokespecial 70, 3) := by decide +kernel
theorem dX8_gust_20 : decode cX8_gust 20 = .ok (.athrow, 1) := by decide +kernel
theorem dX8_gust_21 : decode cX8_gust 21 = .ok (.iconst 0, 1) := by decide +kernel
theorem dX8_gust_22 : decode cX8_gust 22 = .ok (.istore_n 3, 1) := by decide +kernel
theorem dX8_gust_23 : decode cX8_gust 23 = .ok (.iconst 0, 1) := by decide +kernel
theorem dX8_gust_24 : decode cX8_gust 24 = .ok (.istore 4, 2) := by decide +kernel
theorem dX8_gust_26 : decode cX8_gust 26 = .ok (.iload 4, 2) := by decide +kernel
theorem dX8_gust_28 : decode cX8_gust 28 = .ok (.bipush 8, 2) := by decide +kernel
theorem dX8_gust_30 : decode cX8_gust 30 = .ok (.if_icmp .ge 33, 3) := by decide +kernel
theorem dX8_gust_33 : decode cX8_gust 33 = .ok (.aload_n 0, 1) := by decide +kernel
theorem dX8_gust_34 : decode cX8_gust 34 = .ok (.lload_n 1, 1) := by decide +kernel
theorem dX8_gust_35 : decode cX8_gust 35 = .ok (.invokevirtual 232, 3) := by decide +kernel
theorem dX8_gust_38 : decode cX8_gust 38 = .ok (.aload_n 0, 1) := by decide +kernel
theorem dX8_gust_39 : decode cX8_gust 39 = .ok (.invokevirtual 236, 3) := by decide +kernel
theorem dX8_gust_42 : decode cX8_gust 42 = .ok (.istore 5, 2) := by decide +kernel
theorem dX8_gust_44 : decode cX8_gust 44 = .ok (.iload 5, 2) := by decide +kernel
theorem dX8_gust_46 : decode cX8_gust 46 = .ok (.ifCond .ne 6, 3) := by decide +kernel
theorem dX8_gust_49 : decode cX8_gust 49 = .ok (.goto 14, 3) := by decide +kernel
theorem dX8_gust_52 : decode cX8_gust 52 = .ok (.iload_n 3, 1) := by decide +kernel
theorem dX8_gust_53 : decode cX8_gust 53 = .ok (.iload 5, 2) := by decide +kernel
theorem dX8_gust_55 : decode cX8_gust 55 = .ok (.iadd, 1) := by decide +kernel
theorem dX8_gust_56 : decode cX8_gust 56 = .ok (.istore_n 3, 1) := by decide +kernel
theorem dX8_gust_57 : decode cX8_gust 57 = .ok (.iinc 4 1, 3) := by decide +kernel
theorem dX8_gust_60 : decode cX8_gust 60 = .ok (.goto (-34), 3) := by decide +kernel
theorem dX8_gust_63 : decode cX8_gust 63 = .ok (.iload_n 3, 1) := by decide +kernel
theorem dX8_gust_64 : decode cX8_gust 64 = .ok (.ireturn, 1) := by decide +kernel
theorem dX8_pulled_0 : decode cX8_pulled 0 = .ok (.iload_n 1, 1) := by decide +kernel
theorem dX8_pulled_1 : decode cX8_pulled 1 = .ok (.i2l, 1) := by decide +kernel
theorem dX8_pulled_2 : decode cX8_pulled 2 = .ok (.lconst 0, 1) := by decide +kernel
theorem dX8_pulled_3 : decode cX8_pulled 3 = .ok (.aload_n 0, 1) := by decide +kernel
theorem dX8_pulled_4 : decode cX8_pulled 4 = .ok (.getfield 220, 3) := by decide +kernel
theorem dX8_pulled_7 : decode cX8_pulled 7 = .ok (.iconst 1, 1) := by decide +kernel
theorem dX8_pulled_8 : decode cX8_pulled 8 = .ok (.isub, 1) := by decide +kernel
theorem dX8_pulled_9 : decode cX8_pulled 9 = .ok (.i2l, 1) := by decide +kernel
theorem dX8_pulled_10 : decode cX8_pulled 10 = .ok (.invokestatic 62, 3) := by decide +kernel
theorem dX8_pulled_13 : decode cX8_pulled 13 = .ok (.ifCond .eq 7, 3) := by decide +kernel
theorem dX8_pulled_16 : decode cX8_pulled 16 = .ok (.aconst_null, 1) := by decide +kernel
theorem dX8_pulled_17 : decode cX8_pulled 17 = .ok (.goto 9, 3) := by decide +kernel
theorem dX8_pulled_20 : decode cX8_pulled 20 = .ok (.aload_n 0, 1) := by decide +kernel
theorem dX8_pulled_21 : decode cX8_pulled 21 = .ok (.getfield 36, 3) := by decide +kernel
theorem dX8_pulled_24 : decode cX8_pulled 24 = .ok (.iload_n 1, 1) := by decide +kernel
theorem dX8_pulled_25 : decode cX8_pulled 25 = .ok (.aaload, 1) := by decide +kernel
theorem dX8_pulled_26 : decode cX8_pulled 26 = .ok (.astore_n 2, 1) := by decide +kernel
theorem dX8_pulled_27 : decode cX8_pulled 27 = .ok (.aload_n 2, 1) := by decide +kernel
theorem dX8_pulled_28 : decode cX8_pulled 28 = .ok (.ifnonnull 13, 3) := by decide +kernel
theorem dX8_pulled_31 : decode cX8_pulled 31 = .ok (.new 89, 3) := by decide +kernel
theorem dX8_pulled_34 : decode cX8_pulled 34 = .ok (.dup, 1) := by decide +kernel
theorem dX8_pulled_35 : decode cX8_pulled 35 = .ok (.ldc 239, 2) := by decide +kernel
theorem dX8_pulled_37 : decode cX8_pulled 37 = .ok (.invokespecial 93, 3) := by decide +kernel
theorem dX8_pulled_40 : decode cX8_pulled 40 = .ok (.athrow, 1) := by decide +kernel
theorem dX8_pulled_41 : decode cX8_pulled 41 = .ok (.aload_n 2, 1) := by decide +kernel
theorem dX8_pulled_42 : decode cX8_pulled 42 = .ok (.getfield 241, 3) := by decide +kernel
theorem dX8_pulled_45 : decode cX8_pulled 45 = .ok (.lreturn, 1) := by decide +kernel
theorem dX8_pegs_0 : decode cX8_pegs 0 = .ok (.iconst 0, 1) := by decide +kernel
theorem dX8_pegs_1 : decode cX8_pegs 1 = .ok (.istore_n 1, 1) := by decide +kernel
theorem dX8_pegs_2 : decode cX8_pegs 2 = .ok (.iconst 0, 1) := by decide +kernel
theorem dX8_pegs_3 : decode cX8_pegs 3 = .ok (.istore_n 2, 1) := by decide +kernel
theorem dX8_pegs_4 : decode cX8_pegs 4 = .ok (.iload_n 2, 1) := by decide +kernel
theorem dX8_pegs_5 : decode cX8_pegs 5 = .ok (.aload_n 0, 1) := by decide +kernel
theorem dX8_pegs_6 : decode cX8_pegs 6 = .ok (.getfield 220, 3) := by decide +kernel
theorem dX8_pegs_9 : decode cX8_pegs 9 = .ok (.if_icmp .ge 33, 3) := by decide +kernel
theorem dX8_pegs_12 : decode cX8_pegs 12 = .ok (.aload_n 0, 1) := by decide +kernel
theorem dX8_pegs_13 : decode cX8_pegs 13 = .ok (.getfield 36, 3) := by decide +kernel
theorem dX8_pegs_16 : decode cX8_pegs 16 = .ok (.iload_n 2, 1) := by decide +kernel
theorem dX8_pegs_17 : decode cX8_pegs 17 = .ok (.aaload, 1) := by decide +kernel
theorem dX8_pegs_18 : decode cX8_pegs 18 = .ok (.astore_n 3, 1) := by decide +kernel
theorem dX8_pegs_19 : decode cX8_pegs 19 = .ok (.aload_n 3, 1) := by decide +kernel
theorem dX8_pegs_20 : decode cX8_pegs 20 = .ok (.ifnull 16, 3) := by decide +kernel
theorem dX8_pegs_23 : decode cX8_pegs 23 = .ok (.aload_n 3, 1) := by decide +kernel
theorem dX8_pegs_24 : decode cX8_pegs 24 = .ok (.getfield 244, 3) := by decide +kernel
theorem dX8_pegs_27 : decode cX8_pegs 27 = .ok (.ifCond .eq 9, 3) := by decide +kernel
theorem dX8_pegs_30 : decode cX8_pegs 30 = .ok (.iload_n 1, 1) := by decide +kernel
theorem dX8_pegs_31 : decode cX8_pegs 31 = .ok (.iconst 1, 1) := by decide +kernel
theorem dX8_pegs_32 : decode cX8_pegs 32 = .ok (.iload_n 2, 1) := by decide +kernel
theorem dX8_pegs_33 : decode cX8_pegs 33 = .ok (.ishl, 1) := by decide +kernel
theorem dX8_pegs_34 : decode cX8_pegs 34 = .ok (.iadd, 1) := by decide +kernel
theorem dX8_pegs_35 : decode cX8_pegs 35 = .ok (.istore_n 1, 1) := by decide +kernel
theorem dX8_pegs_36 : decode cX8_pegs 36 = .ok (.iinc 2 1, 3) := by decide +kernel
theorem dX8_pegs_39 : decode cX8_pegs 39 = .ok (.goto (-35), 3) := by decide +kernel
theorem dX8_pegs_42 : decode cX8_pegs 42 = .ok (.iload_n 1, 1) := by decide +kernel
theorem dX8_pegs_43 : decode cX8_pegs 43 = .ok (.ireturn, 1) := by decide +kernel
theorem dX8_shareForce_0 : decode cX8_shareForce 0 = .ok (.aload_n 0, 1) := by decide +kernel
theorem dX8_shareForce_1 : decode cX8_shareForce 1 = .ok (.invokevirtual 248, 3) := by decide +kernel
theorem dX8_shareForce_4 : decode cX8_shareForce 4 = .ok (.lstore_n 3, 1) := by decide +kernel
theorem dX8_shareForce_5 : decode cX8_shareForce 5 = .ok (.lload_n 3, 1) := by decide +kernel
theorem dX8_shareForce_6 : decode cX8_shareForce 6 = .ok (.lconst 0, 1) := by decide +kernel
theorem dX8_shareForce_7 : decode cX8_shareForce 7 = .ok (.lcmp, 1) := by decide +kernel
theorem dX8_shareForce_8 : decode cX8_shareForce 8 = .ok (.ifCond .gt 4, 3) := by decide +kernel
theorem dX8_shareForce_11 : decode cX8_shareForce 11 = .ok (.return_, 1) := by decide +kernel
theorem dX8_shareForce_12 : decode cX8_shareForce 12 = .ok (.aconst_null, 1) := by decide +kernel
theorem dX8_shareForce_13 : decode cX8_shareForce 13 = .ok (.astore 5, 2) := by decide +kernel
theorem dX8_shareForce_15 : decode cX8_shareForce 15 = .ok (.lload_n 1, 1) := by decide +kernel
theorem dX8_shareForce_16 : decode cX8_shareForce 16 = .ok (.lstore 6, 2) := by decide +kernel
theorem dX8_shareForce_18 : decode cX8_shareForce 18 = .ok (.aload_n 0, 1) := by decide +kernel
theorem dX8_shareForce_19 : decode cX8_shareForce 19 = .ok (.getfield 36, 3) := by decide +kernel
theorem dX8_shareForce_22 : decode cX8_shareForce 22 = .ok (.astore 8, 2) := by decide +kernel
theorem dX8_shareForce_24 : decode cX8_shareForce 24 = .ok (.aload 8, 2) := by decide +kernel
theorem dX8_shareForce_26 : decode cX8_shareForce 26 = .ok (.arraylength, 1) := by decide +kernel
theorem dX8_shareForce_27 : decode cX8_shareForce 27 = .ok (.istore 9, 2) := by decide +kernel
theorem dX8_shareForce_29 : decode cX8_shareForce 29 = .ok (.iconst 0, 1) := by decide +kernel
theorem dX8_shareForce_30 : decode cX8_shareForce 30 = .ok (.istore 10, 2) := by decide +kernel
theorem dX8_shareForce_32 : decode cX8_shareForce 32 = .ok (.iload 10, 2) := by decide +kernel
theorem dX8_shareForce_34 : decode cX8_shareForce 34 = .ok (.iload 9, 2) := by decide +kernel
theorem dX8_shareForce_36 : decode cX8_shareForce 36 = .ok (.if_icmp .ge 68, 3) := by decide +kernel
theorem dX8_shareForce_39 : decode cX8_shareForce 39 = .ok (.aload 8, 2) := by decide +kernel
theorem dX8_shareForce_41 : decode cX8_shareForce 41 = .ok (.iload 10, 2) := by decide +kernel
theorem dX8_shareForce_43 : decode cX8_shareForce 43 = .ok (.aaload, 1) := by decide +kernel
theorem dX8_shareForce_44 : decode cX8_shareForce 44 = .ok (.astore 11, 2) := by decide +kernel
theorem dX8_shareForce_46 : decode cX8_shareForce 46 = .ok (.aload 11, 2) := by decide +kernel
theorem dX8_shareForce_48 : decode cX8_shareForce 48 = .ok (.ifnull 50, 3) := by decide +kernel
theorem dX8_shareForce_51 : decode cX8_shareForce 51 = .ok (.aload 11, 2) := by decide +kernel
theorem dX8_shareForce_53 : decode cX8_shareForce 53 = .ok (.getfield 244, 3) := by decide +kernel
theorem dX8_shareForce_56 : decode cX8_shareForce 56 = .ok (.ifCond .eq 42, 3) := by decide +kernel
theorem dX8_shareForce_59 : decode cX8_shareForce 59 = .ok (.aload 11, 2) := by decide +kernel
theorem dX8_shareForce_61 : decode cX8_shareForce 61 = .ok (.lload_n 1, 1) := by decide +kernel
theorem dX8_shareForce_62 : decode cX8_shareForce 62 = .ok (.aload 11, 2) := by decide +kernel
theorem dX8_shareForce_64 : decode cX8_shareForce 64 = .ok (.getfield 251, 3) := by decide +kernel
theorem dX8_shareForce_67 : decode cX8_shareForce 67 = .ok (.i2l, 1) := by decide +kernel
theorem dX8_shareForce_68 : decode cX8_shareForce 68 = .ok (.lmul, 1) := by decide +kernel
theorem dX8_shareForce_69 : decode cX8_shareForce 69 = .ok (.lload_n 3, 1) := by decide +kernel
theorem dX8_shareForce_70 : decode cX8_shareForce 70 = .ok (.ldiv, 1) := by decide +kernel
theorem dX8_shareForce_71 : decode cX8_shareForce 71 = .ok (.putfield 241, 3) := by decide +kernel
theorem dX8_shareForce_74 : decode cX8_shareForce 74 = .ok (.lload 6, 2) := by decide +kernel
theorem dX8_shareForce_76 : decode cX8_shareForce 76 = .ok (.aload 11, 2) := by decide +kernel
theorem dX8_shareForce_78 : decode cX8_shareForce 78 = .ok (.getfield 241, 3) := by decide +kernel
theorem dX8_shareForce_81 : decode cX8_shareForce 81 = .ok (.lsub, 1) := by decide +kernel
theorem dX8_shareForce_82 : decode cX8_shareForce 82 = .ok (.lstore 6, 2) := by decide +kernel
theorem dX8_shareForce_84 : decode cX8_shareForce 84 = .ok (.aload 5, 2) := by decide +kernel
theorem dX8_shareForce_86 : decode cX8_shareForce 86 = .ok (.ifnonnull 8, 3) := by decide +kernel
theorem dX8_shareForce_89 : decode cX8_shareForce 89 = .ok (.aload 11, 2) := by decide +kernel
theorem dX8_shareForce_91 : decode cX8_shareForce 91 = .ok (.goto 5, 3) := by decide +kernel
theorem dX8_shareForce_94 : decode cX8_shareForce 94 = .ok (.aload 5, 2) := by decide +kernel
theorem dX8_shareForce_96 : decode cX8_shareForce 96 = .ok (.astore 5, 2) := by decide +kernel
theorem dX8_shareForce_98 : decode cX8_shareForce 98 = .ok (.iinc 10 1, 3) := by decide +kernel
theorem dX8_shareForce_101 : decode cX8_shareForce 101 = .ok (.goto (-69), 3) := by decide +kernel
theorem dX8_shareForce_104 : decode cX8_shareForce 104 = .ok (.aload 5, 2) := by decide +kernel
theorem dX8_shareForce_106 : decode cX8_shareForce 106 = .ok (.ifnull 15, 3) := by decide +kernel
theorem dX8_shareForce_109 : decode cX8_shareForce 109 = .ok (.aload 5, 2) := by decide +kernel
theorem dX8_shareForce_111 : decode cX8_shareForce 111 = .ok (.dup, 1) := by decide +kernel
theorem dX8_shareForce_112 : decode cX8_shareForce 112 = .ok (.getfield 241, 3) := by decide +kernel
theorem dX8_shareForce_115 : decode cX8_shareForce 115 = .ok (.lload 6, 2) := by decide +kernel
theorem dX8_shareForce_117 : decode cX8_shareForce 117 = .ok (.ladd, 1) := by decide +kernel
theorem dX8_shareForce_118 : decode cX8_shareForce 118 = .ok (.putfield 241, 3) := by decide +kernel
theorem dX8_shareForce_121 : decode cX8_shareForce 121 = .ok (.return_, 1) := by decide +kernel
theorem dX8_stiffnessTogether_0 : decode cX8_stiffnessTogether 0 = .ok (.lconst 0, 1) := by decide +kernel
theorem dX8_stiffnessTogether_1 : decode cX8_stiffnessTogether 1 = .ok (.lstore_n 1, 1) := by decide +kernel
theorem dX8_stiffnessTogether_2 : decode cX8_stiffnessTogether 2 = .ok (.aload_n 0, 1) := by decide +kernel
theorem dX8_stiffnessTogether_3 : decode cX8_stiffnessTogether 3 = .ok (.getfield 36, 3) := by decide +kernel
theorem dX8_stiffnessTogether_6 : decode cX8_stiffnessTogether 6 = .ok (.astore_n 3, 1) := by decide +kernel
theorem dX8_stiffnessTogether_7 : decode cX8_stiffnessTogether 7 = .ok (.aload_n 3, 1) := by decide +kernel
theorem dX8_stiffnessTogether_8 : decode cX8_stiffnessTogether 8 = .ok (.arraylength, 1) := by decide +kernel
theorem dX8_stiffnessTogether_9 : decode cX8_stiffnessTogether 9 = .ok (.istore 4, 2) := by decide +kernel
theorem dX8_stiffnessTogether_11 : decode cX8_stiffnessTogether 11 = .ok (.iconst 0, 1) := by decide +kernel
theorem dX8_stiffnessTogether_12 : decode cX8_stiffnessTogether 12 = .ok (.istore 5, 2) := by decide +kernel
theorem dX8_stiffnessTogether_14 : decode cX8_stiffnessTogether 14 = .ok (.iload 5, 2) := by decide +kernel
theorem dX8_stiffnessTogether_16 : decode cX8_stiffnessTogether 16 = .ok (.iload 4, 2) := by decide +kernel
theorem dX8_stiffnessTogether_18 : decode cX8_stiffnessTogether 18 = .ok (.if_icmp .ge 37, 3) := by decide +kernel
theorem dX8_stiffnessTogether_21 : decode cX8_stiffnessTogether 21 = .ok (.aload_n 3, 1) := by decide +kernel
theorem dX8_stiffnessTogether_22 : decode cX8_stiffnessTogether 22 = .ok (.iload 5, 2) := by decide +kernel
theorem dX8_stiffnessTogether_24 : decode cX8_stiffnessTogether 24 = .ok (.aaload, 1) := by decide +kernel
theorem dX8_stiffnessTogether_25 : decode cX8_stiffnessTogether 25 = .ok (.astore 6, 2) := by decide +kernel
theorem dX8_stiffnessTogether_27 : decode cX8_stiffnessTogether 27 = .ok (.aload 6, 2) := by decide +kernel
theorem dX8_stiffnessTogether_29 : decode cX8_stiffnessTogether 29 = .ok (.ifnull 20, 3) := by decide +kernel
theorem dX8_stiffnessTogether_32 : decode cX8_stiffnessTogether 32 = .ok (.aload 6, 2) := by decide +kernel
theorem dX8_stiffnessTogether_34 : decode cX8_stiffnessTogether 34 = .ok (.getfield 244, 3) := by decide +kernel
theorem dX8_stiffnessTogether_37 : decode cX8_stiffnessTogether 37 = .ok (.ifCond .eq 12, 3) := by decide +kernel
theorem dX8_stiffnessTogether_40 : decode cX8_stiffnessTogether 40 = .ok (.lload_n 1, 1) := by decide +kernel
theorem dX8_stiffnessTogether_41 : decode cX8_stiffnessTogether 41 = .ok (.aload 6, 2) := by decide +kernel
theorem dX8_stiffnessTogether_43 : decode cX8_stiffnessTogether 43 = .ok (.getfield 251, 3) := by decide +kernel
theorem dX8_stiffnessTogether_46 : decode cX8_stiffnessTogether 46 = .ok (.i2l, 1) := by decide +kernel
theorem dX8_stiffnessTogether_47 : decode cX8_stiffnessTogether 47 = .ok (.ladd, 1) := by decide +kernel
theorem dX8_stiffnessTogether_48 : decode cX8_stiffnessTogether 48 = .ok (.lstore_n 1, 1) := by decide +kernel
theorem dX8_stiffnessTogether_49 : decode cX8_stiffnessTogether 49 = .ok (.iinc 5 1, 3) := by decide +kernel
theorem dX8_stiffnessTogether_52 : decode cX8_stiffnessTogether 52 = .ok (.goto (-38), 3) := by decide +kernel
theorem dX8_stiffnessTogether_55 : decode cX8_stiffnessTogether 55 = .ok (.lload_n 1, 1) := by decide +kernel
theorem dX8_stiffnessTogether_56 : decode cX8_stiffnessTogether 56 = .ok (.lreturn, 1) := by decide +kernel
theorem dX8_takeOutOverpulled_0 : decode cX8_takeOutOverpulled 0 = .ok (.iconst 0, 1) := by decide +kernel
theorem dX8_takeOutOverpulled_1 : decode cX8_takeOutOverpulled 1 = .ok (.istore_n 1, 1) := by decide +kernel
theorem dX8_takeOutOverpulled_2 : decode cX8_takeOutOverpulled 2 = .ok (.aload_n 0, 1) := by decide +kernel
theorem dX8_takeOutOverpulled_3 : decode cX8_takeOutOverpulled 3 = .ok (.getfield 36, 3) := by decide +kernel
theorem dX8_takeOutOverpulled_6 : decode cX8_takeOutOverpulled 6 = .ok (.astore_n 2, 1) := by decide +kernel
theorem dX8_takeOutOverpulled_7 : decode cX8_takeOutOverpulled 7 = .ok (.aload_n 2, 1) := by decide +kernel
theorem dX8_takeOutOverpulled_8 : decode cX8_takeOutOverpulled 8 = .ok (.arraylength, 1) := by decide +kernel
theorem dX8_takeOutOverpulled_9 : decode cX8_takeOutOverpulled 9 = .ok (.istore_n 3, 1) := by decide +kernel
theorem dX8_takeOutOverpulled_10 : decode cX8_takeOutOverpulled 10 = .ok (.iconst 0, 1) := by decide +kernel
theorem dX8_takeOutOverpulled_11 : decode cX8_takeOutOverpulled 11 = .ok (.istore 4, 2) := by decide +kernel
theorem dX8_takeOutOverpulled_13 : decode cX8_takeOutOverpulled 13 = .ok (.iload 4, 2) := by decide +kernel
theorem dX8_takeOutOverpulled_15 : decode cX8_takeOutOverpulled 15 = .ok (.iload_n 3, 1) := by decide +kernel
theorem dX8_takeOutOverpulled_16 : decode cX8_takeOutOverpulled 16 = .ok (.if_icmp .ge 51, 3) := by decide +kernel
theorem dX8_takeOutOverpulled_19 : decode cX8_takeOutOverpulled 19 = .ok (.aload_n 2, 1) := by decide +kernel
theorem dX8_takeOutOverpulled_20 : decode cX8_takeOutOverpulled 20 = .ok (.iload 4, 2) := by decide +kernel
theorem dX8_takeOutOverpulled_22 : decode cX8_takeOutOverpulled 22 = .ok (.aaload, 1) := by decide +kernel
theorem dX8_takeOutOverpulled_23 : decode cX8_takeOutOverpulled 23 = .ok (.astore 5, 2) := by decide +kernel
theorem dX8_takeOutOverpulled_25 : decode cX8_takeOutOverpulled 25 = .ok (.aload 5, 2) := by decide +kernel
theorem dX8_takeOutOverpulled_27 : decode cX8_takeOutOverpulled 27 = .ok (.ifnull 34, 3) := by decide +kernel
theorem dX8_takeOutOverpulled_30 : decode cX8_takeOutOverpulled 30 = .ok (.aload 5, 2) := by decide +kernel
theorem dX8_takeOutOverpulled_32 : decode cX8_takeOutOverpulled 32 = .ok (.getfield 244, 3) := by decide +kernel
theorem dX8_takeOutOverpulled_35 : decode cX8_takeOutOverpulled 35 = .ok (.ifCond .eq 26, 3) := by decide +kernel
theorem dX8_takeOutOverpulled_38 : decode cX8_takeOutOverpulled 38 = .ok (.aload 5, 2) := by decide +kernel
theorem dX8_takeOutOverpulled_40 : decode cX8_takeOutOverpulled 40 = .ok (.getfield 241, 3) := by decide +kernel
theorem dX8_takeOutOverpulled_43 : decode cX8_takeOutOverpulled 43 = .ok (.aload 5, 2) := by decide +kernel
theorem dX8_takeOutOverpulled_45 : decode cX8_takeOutOverpulled 45 = .ok (.getfield 254, 3) := by decide +kernel
theorem dX8_takeOutOverpulled_48 : decode cX8_takeOutOverpulled 48 = .ok (.lcmp, 1) := by decide +kernel
theorem dX8_takeOutOverpulled_49 : decode cX8_takeOutOverpulled 49 = .ok (.ifCond .le 12, 3) := by decide +kernel
theorem dX8_takeOutOverpulled_52 : decode cX8_takeOutOverpulled 52 = .ok (.aload 5, 2) := by decide +kernel
theorem dX8_takeOutOverpulled_54 : decode cX8_takeOutOverpulled 54 = .ok (.iconst 0, 1) := by decide +kernel
theorem dX8_takeOutOverpulled_55 : decode cX8_takeOutOverpulled 55 = .ok (.putfield 244, 3) := by decide +kernel
theorem dX8_takeOutOverpulled_58 : decode cX8_takeOutOverpulled 58 = .ok (.iinc 1 1, 3) := by decide +kernel
theorem dX8_takeOutOverpulled_61 : decode cX8_takeOutOverpulled 61 = .ok (.iinc 4 1, 3) := by decide +kernel
theorem dX8_takeOutOverpulled_64 : decode cX8_takeOutOverpulled 64 = .ok (.goto (-51), 3) := by decide +kernel
theorem dX8_takeOutOverpulled_67 : decode cX8_takeOutOverpulled 67 = .ok (.iload_n 1, 1) := by decide +kernel
theorem dX8_takeOutOverpulled_68 : decode cX8_takeOutOverpulled 68 = .ok (.ireturn, 1) := by decide +kernel
theorem dX8_trim_0 : decode cX8_trim 0 = .ok (.iload_n 1, 1) := by decide +kernel
theorem dX8_trim_1 : decode cX8_trim 1 = .ok (.i2l, 1) := by decide +kernel
theorem dX8_trim_2 : decode cX8_trim 2 = .ok (.lconst 0, 1) := by decide +kernel
theorem dX8_trim_3 : decode cX8_trim 3 = .ok (.ldc2_w 201, 3) := by decide +kernel
theorem dX8_trim_6 : decode cX8_trim 6 = .ok (.invokestatic 62, 3) := by decide +kernel
theorem dX8_trim_9 : decode cX8_trim 9 = .ok (.ifCond .ne 27, 3) := by decide +kernel
theorem dX8_trim_12 : decode cX8_trim 12 = .ok (.iload_n 2, 1) := by decide +kernel
theorem dX8_trim_13 : decode cX8_trim 13 = .ok (.i2l, 1) := by decide +kernel
theorem dX8_trim_14 : decode cX8_trim 14 = .ok (.lconst 0, 1) := by decide +kernel
theorem dX8_trim_15 : decode cX8_trim 15 = .ok (.ldc2_w 201, 3) := by decide +kernel
theorem dX8_trim_18 : decode cX8_trim 18 = .ok (.invokestatic 62, 3) := by decide +kernel
theorem dX8_trim_21 : decode cX8_trim 21 = .ok (.ifCond .ne 15, 3) := by decide +kernel
theorem dX8_trim_24 : decode cX8_trim 24 = .ok (.iload_n 3, 1) := by decide +kernel
theorem dX8_trim_25 : decode cX8_trim 25 = .ok (.i2l, 1) := by decide +kernel
theorem dX8_trim_26 : decode cX8_trim 26 = .ok (.lconst 0, 1) := by decide +kernel
theorem dX8_trim_27 : decode cX8_trim 27 = .ok (.ldc2_w 257, 3) := by decide +kernel
theorem dX8_trim_30 : decode cX8_trim 30 = .ok (.invokestatic 62, 3) := by decide +kernel
theorem dX8_trim_33 : decode cX8_trim 33 = .ok (.ifCond .eq 14, 3) := by decide +kernel
theorem dX8_trim_36 : decode cX8_trim 36 = .ok (.new 66, 3) := by decide +kernel
theorem dX8_trim_39 : decode cX8_trim 39 = .ok (.dup, 1) := by decide +kernel
theorem dX8_trim_40 : decode cX8_trim 40 = .ok (.ldc_w 259, 3) := by decide +kernel
theorem dX8_trim_43 : decode cX8_trim 43 = .ok (.invokespecial 70, 3) := by decide +kernel
theorem dX8_trim_46 : decode cX8_trim 46 = .ok (.athrow, 1) := by decide +kernel
theorem dX8_trim_47 : decode cX8_trim 47 = .ok (.aload_n 0, 1) := by decide +kernel
theorem dX8_trim_48 : decode cX8_trim 48 = .ok (.getfield 43, 3) := by decide +kernel
theorem dX8_trim_51 : decode cX8_trim 51 = .ok (.iload_n 1, 1) := by decide +kernel
theorem dX8_trim_52 : decode cX8_trim 52 = .ok (.putfield 261, 3) := by decide +kernel
theorem dX8_trim_55 : decode cX8_trim 55 = .ok (.aload_n 0, 1) := by decide +kernel
theorem dX8_trim_56 : decode cX8_trim 56 = .ok (.getfield 43, 3) := by decide +kernel
theorem dX8_trim_59 : decode cX8_trim 59 = .ok (.iload_n 2, 1) := by decide +kernel
theorem dX8_trim_60 : decode cX8_trim 60 = .ok (.putfield 264, 3) := by decide +kernel
theorem dX8_trim_63 : decode cX8_trim 63 = .ok (.aload_n 0, 1) := by decide +kernel
theorem dX8_trim_64 : decode cX8_trim 64 = .ok (.getfield 43, 3) := by decide +kernel
theorem dX8_trim_67 : decode cX8_trim 67 = .ok (.iload_n 3, 1) := by decide +kernel
theorem dX8_trim_68 : decode cX8_trim 68 = .ok (.putfield 267, 3) := by decide +kernel
theorem dX8_trim_71 : decode cX8_trim 71 = .ok (.aload_n 0, 1) := by decide +kernel
theorem dX8_trim_72 : decode cX8_trim 72 = .ok (.getfield 43, 3) := by decide +kernel
theorem dX8_trim_75 : decode cX8_trim 75 = .ok (.iload_n 1, 1) := by decide +kernel
theorem dX8_trim_76 : decode cX8_trim 76 = .ok (.invokevirtual 270, 3) := by decide +kernel
theorem dX8_trim_79 : decode cX8_trim 79 = .ok (.freturn, 1) := by decide +kernel
theorem dX8_power_0 : decode cX8_power 0 = .ok (.iload_n 1, 1) := by decide +kernel
theorem dX8_power_1 : decode cX8_power 1 = .ok (.i2l, 1) := by decide +kernel
theorem dX8_power_2 : decode cX8_power 2 = .ok (.lconst 0, 1) := by decide +kernel
theorem dX8_power_3 : decode cX8_power 3 = .ok (.ldc2_w 201, 3) := by decide +kernel
theorem dX8_power_6 : decode cX8_power 6 = .ok (.invokestatic 62, 3) := by decide +kernel
theorem dX8_power_9 : decode cX8_power 9 = .ok (.ifCond .eq 14, 3) := by decide +kernel
theorem dX8_power_12 : decode cX8_power 12 = .ok (.new 66, 3) := by decide +kernel
theorem dX8_power_15 : decode cX8_power 15 = .ok (.dup, 1) := by decide +kernel
theorem dX8_power_16 : decode cX8_power 16 = .ok (.ldc_w 274, 3) := by decide +kernel
theorem dX8_power_19 : decode cX8_power 19 = .ok (.invokespecial 70, 3) := by decide +kernel
theorem dX8_power_22 : decode cX8_power 22 = .ok (.athrow, 1) := by decide +kernel
theorem dX8_power_23 : decode cX8_power 23 = .ok (.aload_n 0, 1) := by decide +kernel
theorem dX8_power_24 : decode cX8_power 24 = .ok (.getfield 43, 3) := by decide +kernel
theorem dX8_power_27 : decode cX8_power 27 = .ok (.aload_n 0, 1) := by decide +kernel
theorem dX8_power_28 : decode cX8_power 28 = .ok (.getfield 43, 3) := by decide +kernel
theorem dX8_power_31 : decode cX8_power 31 = .ok (.getfield 261, 3) := by decide +kernel
theorem dX8_power_34 : decode cX8_power 34 = .ok (.iload_n 1, 1) := by decide +kernel
theorem dX8_power_35 : decode cX8_power 35 = .ok (.invokevirtual 276, 3) := by decide +kernel
theorem dX8_power_38 : decode cX8_power 38 = .ok (.freturn, 1) := by decide +kernel
theorem dX8_halyard_0 : decode cX8_halyard 0 = .ok (.iload_n 1, 1) := by decide +kernel
theorem dX8_halyard_1 : decode cX8_halyard 1 = .ok (.i2l, 1) := by decide +kernel
theorem dX8_halyard_2 : decode cX8_halyard 2 = .ok (.lconst 0, 1) := by decide +kernel
theorem dX8_halyard_3 : decode cX8_halyard 3 = .ok (.ldc2_w 201, 3) := by decide +kernel
theorem dX8_halyard_6 : decode cX8_halyard 6 = .ok (.invokestatic 62, 3) := by decide +kernel
theorem dX8_halyard_9 : decode cX8_halyard 9 = .ok (.ifCond .ne 15, 3) := by decide +kernel
theorem dX8_halyard_12 : decode cX8_halyard 12 = .ok (.iload_n 2, 1) := by decide +kernel
theorem dX8_halyard_13 : decode cX8_halyard 13 = .ok (.i2l, 1) := by decide +kernel
theorem dX8_halyard_14 : decode cX8_halyard 14 = .ok (.lconst 0, 1) := by decide +kernel
theorem dX8_halyard_15 : decode cX8_halyard 15 = .ok (.ldc2_w 280, 3) := by decide +kernel
theorem dX8_halyard_18 : decode cX8_halyard 18 = .ok (.invokestatic 62, 3) := by decide +kernel
theorem dX8_halyard_21 : decode cX8_halyard 21 = .ok (.ifCond .eq 14, 3) := by decide +kernel
theorem dX8_halyard_24 : decode cX8_halyard 24 = .ok (.new 66, 3) := by decide +kernel
theorem dX8_halyard_27 : decode cX8_halyard 27 = .ok (.dup, 1) := by decide +kernel
theorem dX8_halyard_28 : decode cX8_halyard 28 = .ok (.ldc_w 282, 3) := by decide +kernel
theorem dX8_halyard_31 : decode cX8_halyard 31 = .ok (.invokespecial 70, 3) := by decide +kernel
theorem dX8_halyard_34 : decode cX8_halyard 34 = .ok (.athrow, 1) := by decide +kernel
theorem dX8_halyard_35 : decode cX8_halyard 35 = .ok (.iconst 0, 1) := by decide +kernel
theorem dX8_halyard_36 : decode cX8_halyard 36 = .ok (.istore_n 3, 1) := by decide +kernel
theorem dX8_halyard_37 : decode cX8_halyard 37 = .ok (.iload_n 3, 1) := by decide +kernel
theorem dX8_halyard_38 : decode cX8_halyard 38 = .ok (.bipush 100, 2) := by decide +kernel
theorem dX8_halyard_40 : decode cX8_halyard 40 = .ok (.if_icmp .gt 26, 3) := by decide +kernel
theorem dX8_halyard_43 : decode cX8_halyard 43 = .ok (.aload_n 0, 1) := by decide +kernel
theorem dX8_halyard_44 : decode cX8_halyard 44 = .ok (.getfield 43, 3) := by decide +kernel
theorem dX8_halyard_47 : decode cX8_halyard 47 = .ok (.iload_n 3, 1) := by decide +kernel
theorem dX8_halyard_48 : decode cX8_halyard 48 = .ok (.iload_n 1, 1) := by decide +kernel
theorem dX8_halyard_49 : decode cX8_halyard 49 = .ok (.invokevirtual 276, 3) := by decide +kernel
theorem dX8_halyard_52 : decode cX8_halyard 52 = .ok (.iload_n 2, 1) := by decide +kernel
theorem dX8_halyard_53 : decode cX8_halyard 53 = .ok (.i2f, 1) := by decide +kernel
theorem dX8_halyard_54 : decode cX8_halyard 54 = .ok (.fcmp .g, 1) := by decide +kernel
theorem dX8_halyard_55 : decode cX8_halyard 55 = .ok (.ifCond .gt 5, 3) := by decide +kernel
theorem dX8_halyard_58 : decode cX8_halyard 58 = .ok (.iload_n 3, 1) := by decide +kernel
theorem dX8_halyard_59 : decode cX8_halyard 59 = .ok (.ireturn, 1) := by decide +kernel
theorem dX8_halyard_60 : decode cX8_halyard 60 = .ok (.iinc 3 1, 3) := by decide +kernel
theorem dX8_halyard_63 : decode cX8_halyard 63 = .ok (.goto (-26), 3) := by decide +kernel
theorem dX8_halyard_66 : decode cX8_halyard 66 = .ok (.iconst (-1), 1) := by decide +kernel
theorem dX8_halyard_67 : decode cX8_halyard 67 = .ok (.ireturn, 1) := by decide +kernel
theorem dX8_pass_0 : decode cX8_pass 0 = .ok (.iload_n 1, 1) := by decide +kernel
theorem dX8_pass_1 : decode cX8_pass 1 = .ok (.i2l, 1) := by decide +kernel
theorem dX8_pass_2 : decode cX8_pass 2 = .ok (.lconst 1, 1) := by decide +kernel
theorem dX8_pass_3 : decode cX8_pass 3 = .ok (.ldc2_w 284, 3) := by decide +kernel
theorem dX8_pass_6 : decode cX8_pass 6 = .ok (.invokestatic 62, 3) := by decide +kernel
theorem dX8_pass_9 : decode cX8_pass 9 = .ok (.ifCond .eq 14, 3) := by decide +kernel
theorem dX8_pass_12 : decode cX8_pass 12 = .ok (.new 66, 3) := by decide +kernel
theorem dX8_pass_15 : decode cX8_pass 15 = .ok (.dup, 1) := by decide +kernel
theorem dX8_pass_16 : decode cX8_pass 16 = .ok (.ldc_w 286, 3) := by decide +kernel
theorem dX8_pass_19 : decode cX8_pass 19 = .ok (.invokespecial 70, 3) := by decide +kernel
theorem dX8_pass_22 : decode cX8_pass 22 = .ok (.athrow, 1) := by decide +kernel
theorem dX8_pass_23 : decode cX8_pass 23 = .ok (.aload_n 0, 1) := by decide +kernel
theorem dX8_pass_24 : decode cX8_pass 24 = .ok (.getfield 288, 3) := by decide +kernel
theorem dX8_pass_27 : decode cX8_pass 27 = .ok (.iload_n 1, 1) := by decide +kernel
theorem dX8_pass_28 : decode cX8_pass 28 = .ok (.iadd, 1) := by decide +kernel
theorem dX8_pass_29 : decode cX8_pass 29 = .ok (.ldc_w 291, 3) := by decide +kernel
theorem dX8_pass_32 : decode cX8_pass 32 = .ok (.if_icmp .le 14, 3) := by decide +kernel
theorem dX8_pass_35 : decode cX8_pass 35 = .ok (.new 77, 3) := by decide +kernel
theorem dX8_pass_38 : decode cX8_pass 38 = .ok (.dup, 1) := by decide +kernel
theorem dX8_pass_39 : decode cX8_pass 39 = .ok (.ldc_w 292, 3) := by decide +kernel
theorem dX8_pass_42 : decode cX8_pass 42 = .ok (.invokespecial 81, 3) := by decide +kernel
theorem dX8_pass_45 : decode cX8_pass 45 = .ok (.athrow, 1) := by decide +kernel
theorem dX8_pass_46 : decode cX8_pass 46 = .ok (.aload_n 0, 1) := by decide +kernel
theorem dX8_pass_47 : decode cX8_pass 47 = .ok (.dup, 1) := by decide +kernel
theorem dX8_pass_48 : decode cX8_pass 48 = .ok (.getfield 288, 3) := by decide +kernel
theorem dX8_pass_51 : decode cX8_pass 51 = .ok (.iload_n 1, 1) := by decide +kernel
theorem dX8_pass_52 : decode cX8_pass 52 = .ok (.iadd, 1) := by decide +kernel
theorem dX8_pass_53 : decode cX8_pass 53 = .ok (.putfield 288, 3) := by decide +kernel
theorem dX8_pass_56 : decode cX8_pass 56 = .ok (.aload_n 0, 1) := by decide +kernel
theorem dX8_pass_57 : decode cX8_pass 57 = .ok (.getfield 288, 3) := by decide +kernel
theorem dX8_pass_60 : decode cX8_pass 60 = .ok (.ireturn, 1) := by decide +kernel
theorem dX8_canopy_0 : decode cX8_canopy 0 = .ok (.aload_n 0, 1) := by decide +kernel
theorem dX8_canopy_1 : decode cX8_canopy 1 = .ok (.iload_n 1, 1) := by decide +kernel
theorem dX8_canopy_2 : decode cX8_canopy 2 = .ok (.invokevirtual 85, 3) := by decide +kernel
theorem dX8_canopy_5 : decode cX8_canopy 5 = .ok (.astore_n 2, 1) := by decide +kernel
theorem dX8_canopy_6 : decode cX8_canopy 6 = .ok (.aload_n 2, 1) := by decide +kernel
theorem dX8_canopy_7 : decode cX8_canopy 7 = .ok (.ifnonnull 13, 3) := by decide +kernel
theorem dX8_canopy_10 : decode cX8_canopy 10 = .ok (.new 89, 3) := by decide +kernel
theorem dX8_canopy_13 : decode cX8_canopy 13 = .ok (.dup, 1) := by decide +kernel
theorem dX8_canopy_14 : decode cX8_canopy 14 = .ok (.ldc 91, 2) := by decide +kernel
theorem dX8_canopy_16 : decode cX8_canopy 16 = .ok (.invokespecial 93, 3) := by decide +kernel
theorem dX8_canopy_19 : decode cX8_canopy 19 = .ok (.athrow, 1) := by decide +kernel
theorem dX8_canopy_20 : decode cX8_canopy 20 = .ok (.aload_n 0, 1) := by decide +kernel
theorem dX8_canopy_21 : decode cX8_canopy 21 = .ok (.getfield 294, 3) := by decide +kernel
theorem dX8_canopy_24 : decode cX8_canopy 24 = .ok (.aload_n 0, 1) := by decide +kernel
theorem dX8_canopy_25 : decode cX8_canopy 25 = .ok (.getfield 49, 3) := by decide +kernel
theorem dX8_canopy_28 : decode cX8_canopy 28 = .ok (.arraylength, 1) := by decide +kernel
theorem dX8_canopy_29 : decode cX8_canopy 29 = .ok (.if_icmp .lt 14, 3) := by decide +kernel
theorem dX8_canopy_32 : decode cX8_canopy 32 = .ok (.new 77, 3) := by decide +kernel
theorem dX8_canopy_35 : decode cX8_canopy 35 = .ok (.dup, 1) := by decide +kernel
theorem dX8_canopy_36 : decode cX8_canopy 36 = .ok (.ldc_w 297, 3) := by decide +kernel
theorem dX8_canopy_39 : decode cX8_canopy 39 = .ok (.invokespecial 81, 3) := by decide +kernel
theorem dX8_canopy_42 : decode cX8_canopy 42 = .ok (.athrow, 1) := by decide +kernel
theorem dX8_canopy_43 : decode cX8_canopy 43 = .ok (.aload_n 0, 1) := by decide +kernel
theorem dX8_canopy_44 : decode cX8_canopy 44 = .ok (.getfield 49, 3) := by decide +kernel
theorem dX8_canopy_47 : decode cX8_canopy 47 = .ok (.aload_n 0, 1) := by decide +kernel
theorem dX8_canopy_48 : decode cX8_canopy 48 = .ok (.getfield 294, 3) := by decide +kernel
theorem dX8_canopy_51 : decode cX8_canopy 51 = .ok (.new 47, 3) := by decide +kernel
theorem dX8_canopy_54 : decode cX8_canopy 54 = .ok (.dup, 1) := by decide +kernel
theorem dX8_canopy_55 : decode cX8_canopy 55 = .ok (.aload_n 2, 1) := by decide +kernel
theorem dX8_canopy_56 : decode cX8_canopy 56 = .ok (.iload_n 1, 1) := by decide +kernel
theorem dX8_canopy_57 : decode cX8_canopy 57 = .ok (.invokespecial 299, 3) := by decide +kernel
theorem dX8_canopy_60 : decode cX8_canopy 60 = .ok (.aastore, 1) := by decide +kernel
theorem dX8_canopy_61 : decode cX8_canopy 61 = .ok (.aload_n 0, 1) := by decide +kernel
theorem dX8_canopy_62 : decode cX8_canopy 62 = .ok (.dup, 1) := by decide +kernel
theorem dX8_canopy_63 : decode cX8_canopy 63 = .ok (.getfield 294, 3) := by decide +kernel
theorem dX8_canopy_66 : decode cX8_canopy 66 = .ok (.dup_x1, 1) := by decide +kernel
theorem dX8_canopy_67 : decode cX8_canopy 67 = .ok (.iconst 1, 1) := by decide +kernel
theorem dX8_canopy_68 : decode cX8_canopy 68 = .ok (.iadd, 1) := by decide +kernel
theorem dX8_canopy_69 : decode cX8_canopy 69 = .ok (.putfield 294, 3) := by decide +kernel
theorem dX8_canopy_72 : decode cX8_canopy 72 = .ok (.ireturn, 1) := by decide +kernel
theorem dX8_part_0 : decode cX8_part 0 = .ok (.aload_n 0, 1) := by decide +kernel
theorem dX8_part_1 : decode cX8_part 1 = .ok (.iload_n 1, 1) := by decide +kernel
theorem dX8_part_2 : decode cX8_part 2 = .ok (.invokevirtual 302, 3) := by decide +kernel
theorem dX8_part_5 : decode cX8_part 5 = .ok (.astore_n 3, 1) := by decide +kernel
theorem dX8_part_6 : decode cX8_part 6 = .ok (.aload_n 3, 1) := by decide +kernel
theorem dX8_part_7 : decode cX8_part 7 = .ok (.ifnonnull 14, 3) := by decide +kernel
theorem dX8_part_10 : decode cX8_part 10 = .ok (.new 89, 3) := by decide +kernel
theorem dX8_part_13 : decode cX8_part 13 = .ok (.dup, 1) := by decide +kernel
theorem dX8_part_14 : decode cX8_part 14 = .ok (.ldc_w 306, 3) := by decide +kernel
theorem dX8_part_17 : decode cX8_part 17 = .ok (.invokespecial 93, 3) := by decide +kernel
theorem dX8_part_20 : decode cX8_part 20 = .ok (.athrow, 1) := by decide +kernel
theorem dX8_part_21 : decode cX8_part 21 = .ok (.iload_n 2, 1) := by decide +kernel
theorem dX8_part_22 : decode cX8_part 22 = .ok (.i2l, 1) := by decide +kernel
theorem dX8_part_23 : decode cX8_part 23 = .ok (.lconst 0, 1) := by decide +kernel
theorem dX8_part_24 : decode cX8_part 24 = .ok (.ldc2_w 308, 3) := by decide +kernel
theorem dX8_part_27 : decode cX8_part 27 = .ok (.invokestatic 62, 3) := by decide +kernel
theorem dX8_part_30 : decode cX8_part 30 = .ok (.ifCond .eq 14, 3) := by decide +kernel
theorem dX8_part_33 : decode cX8_part 33 = .ok (.new 66, 3) := by decide +kernel
theorem dX8_part_36 : decode cX8_part 36 = .ok (.dup, 1) := by decide +kernel
theorem dX8_part_37 : decode cX8_part 37 = .ok (.ldc_w 310, 3) := by decide +kernel
theorem dX8_part_40 : decode cX8_part 40 = .ok (.invokespecial 70, 3) := by decide +kernel
theorem dX8_part_43 : decode cX8_part 43 = .ok (.athrow, 1) := by decide +kernel
theorem dX8_part_44 : decode cX8_part 44 = .ok (.aload_n 3, 1) := by decide +kernel
theorem dX8_part_45 : decode cX8_part 45 = .ok (.getfield 312, 3) := by decide +kernel
theorem dX8_part_48 : decode cX8_part 48 = .ok (.aload_n 3, 1) := by decide +kernel
theorem dX8_part_49 : decode cX8_part 49 = .ok (.getfield 315, 3) := by decide +kernel
theorem dX8_part_52 : decode cX8_part 52 = .ok (.arraylength, 1) := by decide +kernel
theorem dX8_part_53 : decode cX8_part 53 = .ok (.if_icmp .ge 10, 3) := by decide +kernel
theorem dX8_part_56 : decode cX8_part 56 = .ok (.aload_n 3, 1) := by decide +kernel
theorem dX8_part_57 : decode cX8_part 57 = .ok (.invokevirtual 318, 3) := by decide +kernel
theorem dX8_part_60 : decode cX8_part 60 = .ok (.ifCond .eq 14, 3) := by decide +kernel
theorem dX8_part_63 : decode cX8_part 63 = .ok (.new 77, 3) := by decide +kernel
theorem dX8_part_66 : decode cX8_part 66 = .ok (.dup, 1) := by decide +kernel
theorem dX8_part_67 : decode cX8_part 67 = .ok (.ldc_w 321, 3) := by decide +kernel
theorem dX8_part_70 : decode cX8_part 70 = .ok (.invokespecial 81, 3) := by decide +kernel
theorem dX8_part_73 : decode cX8_part 73 = .ok (.athrow, 1) := by decide +kernel
theorem dX8_part_74 : decode cX8_part 74 = .ok (.aload_n 3, 1) := by decide +kernel
theorem dX8_part_75 : decode cX8_part 75 = .ok (.getfield 315, 3) := by decide +kernel
theorem dX8_part_78 : decode cX8_part 78 = .ok (.aload_n 3, 1) := by decide +kernel
theorem dX8_part_79 : decode cX8_part 79 = .ok (.getfield 312, 3) := by decide +kernel
theorem dX8_part_82 : decode cX8_part 82 = .ok (.iload_n 2, 1) := by decide +kernel
theorem dX8_part_83 : decode cX8_part 83 = .ok (.iastore, 1) := by decide +kernel
theorem dX8_part_84 : decode cX8_part 84 = .ok (.aload_n 3, 1) := by decide +kernel
theorem dX8_part_85 : decode cX8_part 85 = .ok (.dup, 1) := by decide +kernel
theorem dX8_part_86 : decode cX8_part 86 = .ok (.getfield 312, 3) := by decide +kernel
theorem dX8_part_89 : decode cX8_part 89 = .ok (.dup_x1, 1) := by decide +kernel
theorem dX8_part_90 : decode cX8_part 90 = .ok (.iconst 1, 1) := by decide +kernel
theorem dX8_part_91 : decode cX8_part 91 = .ok (.iadd, 1) := by decide +kernel
theorem dX8_part_92 : decode cX8_part 92 = .ok (.putfield 312, 3) := by decide +kernel
theorem dX8_part_95 : decode cX8_part 95 = .ok (.ireturn, 1) := by decide +kernel
theorem dX8_opens_0 : decode cX8_opens 0 = .ok (.aload_n 0, 1) := by decide +kernel
theorem dX8_opens_1 : decode cX8_opens 1 = .ok (.iload_n 1, 1) := by decide +kernel
theorem dX8_opens_2 : decode cX8_opens 2 = .ok (.invokevirtual 302, 3) := by decide +kernel
theorem dX8_opens_5 : decode cX8_opens 5 = .ok (.astore_n 2, 1) := by decide +kernel
theorem dX8_opens_6 : decode cX8_opens 6 = .ok (.aload_n 2, 1) := by decide +kernel
theorem dX8_opens_7 : decode cX8_opens 7 = .ok (.ifnonnull 14, 3) := by decide +kernel
theorem dX8_opens_10 : decode cX8_opens 10 = .ok (.new 89, 3) := by decide +kernel
theorem dX8_opens_13 : decode cX8_opens 13 = .ok (.dup, 1) := by decide +kernel
theorem dX8_opens_14 : decode cX8_opens 14 = .ok (.ldc_w 306, 3) := by decide +kernel
theorem dX8_opens_17 : decode cX8_opens 17 = .ok (.invokespecial 93, 3) := by decide +kernel
theorem dX8_opens_20 : decode cX8_opens 20 = .ok (.athrow, 1) := by decide +kernel
theorem dX8_opens_21 : decode cX8_opens 21 = .ok (.aload_n 2, 1) := by decide +kernel
theorem dX8_opens_22 : decode cX8_opens 22 = .ok (.invokevirtual 323, 3) := by decide +kernel
theorem dX8_opens_25 : decode cX8_opens 25 = .ok (.ireturn, 1) := by decide +kernel
theorem dX8_seal_0 : decode cX8_seal 0 = .ok (.aload_n 0, 1) := by decide +kernel
theorem dX8_seal_1 : decode cX8_seal 1 = .ok (.iload_n 1, 1) := by decide +kernel
theorem dX8_seal_2 : decode cX8_seal 2 = .ok (.invokevirtual 302, 3) := by decide +kernel
theorem dX8_seal_5 : decode cX8_seal 5 = .ok (.astore_n 3, 1) := by decide +kernel
theorem dX8_seal_6 : decode cX8_seal 6 = .ok (.aload_n 3, 1) := by decide +kernel
theorem dX8_seal_7 : decode cX8_seal 7 = .ok (.ifnull 15, 3) := by decide +kernel
theorem dX8_seal_10 : decode cX8_seal 10 = .ok (.iload_n 2, 1) := by decide +kernel
theorem dX8_seal_11 : decode cX8_seal 11 = .ok (.i2l, 1) := by decide +kernel
theorem dX8_seal_12 : decode cX8_seal 12 = .ok (.lconst 0, 1) := by decide +kernel
theorem dX8_seal_13 : decode cX8_seal 13 = .ok (.ldc2_w 326, 3) := by decide +kernel
theorem dX8_seal_16 : decode cX8_seal 16 = .ok (.invokestatic 62, 3) := by decide +kernel
theorem dX8_seal_19 : decode cX8_seal 19 = .ok (.ifCond .eq 14, 3) := by decide +kernel
theorem dX8_seal_22 : decode cX8_seal 22 = .ok (.new 89, 3) := by decide +kernel
theorem dX8_seal_25 : decode cX8_seal 25 = .ok (.dup, 1) := by decide +kernel
theorem dX8_seal_26 : decode cX8_seal 26 = .ok (.ldc_w 328, 3) := by decide +kernel
theorem dX8_seal_29 : decode cX8_seal 29 = .ok (.invokespecial 93, 3) := by decide +kernel
theorem dX8_seal_32 : decode cX8_seal 32 = .ok (.athrow, 1) := by decide +kernel
theorem dX8_seal_33 : decode cX8_seal 33 = .ok (.aload_n 3, 1) := by decide +kernel
theorem dX8_seal_34 : decode cX8_seal 34 = .ok (.invokevirtual 330, 3) := by decide +kernel
theorem dX8_seal_37 : decode cX8_seal 37 = .ok (.ifCond .ne 14, 3) := by decide +kernel
theorem dX8_seal_40 : decode cX8_seal 40 = .ok (.new 77, 3) := by decide +kernel
theorem dX8_seal_43 : decode cX8_seal 43 = .ok (.dup, 1) := by decide +kernel
theorem dX8_seal_44 : decode cX8_seal 44 = .ok (.ldc_w 333, 3) := by decide +kernel
theorem dX8_seal_47 : decode cX8_seal 47 = .ok (.invokespecial 81, 3) := by decide +kernel
theorem dX8_seal_50 : decode cX8_seal 50 = .ok (.athrow, 1) := by decide +kernel
theorem dX8_seal_51 : decode cX8_seal 51 = .ok (.aload_n 3, 1) := by decide +kernel
theorem dX8_seal_52 : decode cX8_seal 52 = .ok (.iload_n 2, 1) := by decide +kernel
theorem dX8_seal_53 : decode cX8_seal 53 = .ok (.putfield 335, 3) := by decide +kernel
theorem dX8_seal_56 : decode cX8_seal 56 = .ok (.aload_n 3, 1) := by decide +kernel
theorem dX8_seal_57 : decode cX8_seal 57 = .ok (.aload_n 0, 1) := by decide +kernel
theorem dX8_seal_58 : decode cX8_seal 58 = .ok (.getfield 288, 3) := by decide +kernel
theorem dX8_seal_61 : decode cX8_seal 61 = .ok (.putfield 338, 3) := by decide +kernel
theorem dX8_seal_64 : decode cX8_seal 64 = .ok (.aload_n 3, 1) := by decide +kernel
theorem dX8_seal_65 : decode cX8_seal 65 = .ok (.dup, 1) := by decide +kernel
theorem dX8_seal_66 : decode cX8_seal 66 = .ok (.getfield 341, 3) := by decide +kernel
theorem dX8_seal_69 : decode cX8_seal 69 = .ok (.iconst 1, 1) := by decide +kernel
theorem dX8_seal_70 : decode cX8_seal 70 = .ok (.iadd, 1) := by decide +kernel
theorem dX8_seal_71 : decode cX8_seal 71 = .ok (.putfield 341, 3) := by decide +kernel
theorem dX8_seal_74 : decode cX8_seal 74 = .ok (.aload_n 0, 1) := by decide +kernel
theorem dX8_seal_75 : decode cX8_seal 75 = .ok (.getfield 56, 3) := by decide +kernel
theorem dX8_seal_78 : decode cX8_seal 78 = .ok (.iload_n 1, 1) := by decide +kernel
theorem dX8_seal_79 : decode cX8_seal 79 = .ok (.iconst 3, 1) := by decide +kernel
theorem dX8_seal_80 : decode cX8_seal 80 = .ok (.invokevirtual 344, 3) := by decide +kernel
theorem dX8_seal_83 : decode cX8_seal 83 = .ok (.aload_n 3, 1) := by decide +kernel
theorem dX8_seal_84 : decode cX8_seal 84 = .ok (.getfield 341, 3) := by decide +kernel
theorem dX8_seal_87 : decode cX8_seal 87 = .ok (.ireturn, 1) := by decide +kernel
theorem dX8_use_0 : decode cX8_use 0 = .ok (.aload_n 0, 1) := by decide +kernel
theorem dX8_use_1 : decode cX8_use 1 = .ok (.iload_n 1, 1) := by decide +kernel
theorem dX8_use_2 : decode cX8_use 2 = .ok (.invokevirtual 302, 3) := by decide +kernel
theorem dX8_use_5 : decode cX8_use 5 = .ok (.astore_n 2, 1) := by decide +kernel
theorem dX8_use_6 : decode cX8_use 6 = .ok (.aload_n 2, 1) := by decide +kernel
theorem dX8_use_7 : decode cX8_use 7 = .ok (.ifnonnull 14, 3) := by decide +kernel
theorem dX8_use_10 : decode cX8_use 10 = .ok (.new 89, 3) := by decide +kernel
theorem dX8_use_13 : decode cX8_use 13 = .ok (.dup, 1) := by decide +kernel
theorem dX8_use_14 : decode cX8_use 14 = .ok (.ldc_w 306, 3) := by decide +kernel
theorem dX8_use_17 : decode cX8_use 17 = .ok (.invokespecial 93, 3) := by decide +kernel
theorem dX8_use_20 : decode cX8_use 20 = .ok (.athrow, 1) := by decide +kernel
theorem dX8_use_21 : decode cX8_use 21 = .ok (.aload_n 2, 1) := by decide +kernel
theorem dX8_use_22 : decode cX8_use 22 = .ok (.invokevirtual 318, 3) := by decide +kernel
theorem dX8_use_25 : decode cX8_use 25 = .ok (.ifCond .eq 28, 3) := by decide +kernel
theorem dX8_use_28 : decode cX8_use 28 = .ok (.aload_n 0, 1) := by decide +kernel
theorem dX8_use_29 : decode cX8_use 29 = .ok (.getfield 288, 3) := by decide +kernel
theorem dX8_use_32 : decode cX8_use 32 = .ok (.aload_n 2, 1) := by decide +kernel
theorem dX8_use_33 : decode cX8_use 33 = .ok (.getfield 338, 3) := by decide +kernel
theorem dX8_use_36 : decode cX8_use 36 = .ok (.isub, 1) := by decide +kernel
theorem dX8_use_37 : decode cX8_use 37 = .ok (.sipush 180, 3) := by decide +kernel
theorem dX8_use_40 : decode cX8_use 40 = .ok (.if_icmp .gt 13, 3) := by decide +kernel
theorem dX8_use_43 : decode cX8_use 43 = .ok (.aload_n 2, 1) := by decide +kernel
theorem dX8_use_44 : decode cX8_use 44 = .ok (.getfield 347, 3) := by decide +kernel
theorem dX8_use_47 : decode cX8_use 47 = .ok (.getfield 351, 3) := by decide +kernel
theorem dX8_use_50 : decode cX8_use 50 = .ok (.ifCond .eq 14, 3) := by decide +kernel
theorem dX8_use_53 : decode cX8_use 53 = .ok (.new 77, 3) := by decide +kernel
theorem dX8_use_56 : decode cX8_use 56 = .ok (.dup, 1) := by decide +kernel
theorem dX8_use_57 : decode cX8_use 57 = .ok (.ldc_w 354, 3) := by decide +kernel
theorem dX8_use_60 : decode cX8_use 60 = .ok (.invokespecial 81, 3) := by decide +kernel
theorem dX8_use_63 : decode cX8_use 63 = .ok (.athrow, 1) := by decide +kernel
theorem dX8_use_64 : decode cX8_use 64 = .ok (.aload_n 2, 1) := by decide +kernel
theorem dX8_use_65 : decode cX8_use 65 = .ok (.getfield 335, 3) := by decide +kernel
theorem dX8_use_68 : decode cX8_use 68 = .ok (.istore_n 3, 1) := by decide +kernel
theorem dX8_use_69 : decode cX8_use 69 = .ok (.aload_n 2, 1) := by decide +kernel
theorem dX8_use_70 : decode cX8_use 70 = .ok (.invokevirtual 356, 3) := by decide +kernel
theorem dX8_use_73 : decode cX8_use 73 = .ok (.aload_n 2, 1) := by decide +kernel
theorem dX8_use_74 : decode cX8_use 74 = .ok (.dup, 1) := by decide +kernel
theorem dX8_use_75 : decode cX8_use 75 = .ok (.getfield 359, 3) := by decide +kernel
theorem dX8_use_78 : decode cX8_use 78 = .ok (.iconst 1, 1) := by decide +kernel
theorem dX8_use_79 : decode cX8_use 79 = .ok (.iadd, 1) := by decide +kernel
theorem dX8_use_80 : decode cX8_use 80 = .ok (.putfield 359, 3) := by decide +kernel
theorem dX8_use_83 : decode cX8_use 83 = .ok (.aload_n 0, 1) := by decide +kernel
theorem dX8_use_84 : decode cX8_use 84 = .ok (.getfield 56, 3) := by decide +kernel
theorem dX8_use_87 : decode cX8_use 87 = .ok (.iload_n 1, 1) := by decide +kernel
theorem dX8_use_88 : decode cX8_use 88 = .ok (.iconst 4, 1) := by decide +kernel
theorem dX8_use_89 : decode cX8_use 89 = .ok (.invokevirtual 344, 3) := by decide +kernel
theorem dX8_use_92 : decode cX8_use 92 = .ok (.iload_n 3, 1) := by decide +kernel
theorem dX8_use_93 : decode cX8_use 93 = .ok (.ireturn, 1) := by decide +kernel
theorem dX8_wet_0 : decode cX8_wet 0 = .ok (.aload_n 0, 1) := by decide +kernel
theorem dX8_wet_1 : decode cX8_wet 1 = .ok (.iload_n 1, 1) := by decide +kernel
theorem dX8_wet_2 : decode cX8_wet 2 = .ok (.invokevirtual 302, 3) := by decide +kernel
theorem dX8_wet_5 : decode cX8_wet 5 = .ok (.astore_n 3, 1) := by decide +kernel
theorem dX8_wet_6 : decode cX8_wet 6 = .ok (.aload_n 3, 1) := by decide +kernel
theorem dX8_wet_7 : decode cX8_wet 7 = .ok (.ifnonnull 14, 3) := by decide +kernel
theorem dX8_wet_10 : decode cX8_wet 10 = .ok (.new 89, 3) := by decide +kernel
theorem dX8_wet_13 : decode cX8_wet 13 = .ok (.dup, 1) := by decide +kernel
theorem dX8_wet_14 : decode cX8_wet 14 = .ok (.ldc_w 306, 3) := by decide +kernel
theorem dX8_wet_17 : decode cX8_wet 17 = .ok (.invokespecial 93, 3) := by decide +kernel
theorem dX8_wet_20 : decode cX8_wet 20 = .ok (.athrow, 1) := by decide +kernel
theorem dX8_wet_21 : decode cX8_wet 21 = .ok (.aload_n 3, 1) := by decide +kernel
theorem dX8_wet_22 : decode cX8_wet 22 = .ok (.invokevirtual 318, 3) := by decide +kernel
theorem dX8_wet_25 : decode cX8_wet 25 = .ok (.ifCond .eq 14, 3) := by decide +kernel
theorem dX8_wet_28 : decode cX8_wet 28 = .ok (.new 77, 3) := by decide +kernel
theorem dX8_wet_31 : decode cX8_wet 31 = .ok (.dup, 1) := by decide +kernel
theorem dX8_wet_32 : decode cX8_wet 32 = .ok (.ldc_w 362, 3) := by decide +kernel
theorem dX8_wet_35 : decode cX8_wet 35 = .ok (.invokespecial 81, 3) := by decide +kernel
theorem dX8_wet_38 : decode cX8_wet 38 = .ok (.athrow, 1) := by decide +kernel
theorem dX8_wet_39 : decode cX8_wet 39 = .ok (.iload_n 2, 1) := by decide +kernel
theorem dX8_wet_40 : decode cX8_wet 40 = .ok (.ifCond .eq 11, 3) := by decide +kernel
theorem dX8_wet_43 : decode cX8_wet 43 = .ok (.aload_n 3, 1) := by decide +kernel
theorem dX8_wet_44 : decode cX8_wet 44 = .ok (.iconst 0, 1) := by decide +kernel
theorem dX8_wet_45 : decode cX8_wet 45 = .ok (.putfield 364, 3) := by decide +kernel
theorem dX8_wet_48 : decode cX8_wet 48 = .ok (.goto 32, 3) := by decide +kernel
theorem dX8_wet_51 : decode cX8_wet 51 = .ok (.aload_n 3, 1) := by decide +kernel
theorem dX8_wet_52 : decode cX8_wet 52 = .ok (.dup, 1) := by decide +kernel
theorem dX8_wet_53 : decode cX8_wet 53 = .ok (.getfield 364, 3) := by decide +kernel
theorem dX8_wet_56 : decode cX8_wet 56 = .ok (.iconst 1, 1) := by decide +kernel
theorem dX8_wet_57 : decode cX8_wet 57 = .ok (.iadd, 1) := by decide +kernel
theorem dX8_wet_58 : decode cX8_wet 58 = .ok (.putfield 364, 3) := by decide +kernel
theorem dX8_wet_61 : decode cX8_wet 61 = .ok (.aload_n 3, 1) := by decide +kernel
theorem dX8_wet_62 : decode cX8_wet 62 = .ok (.dup, 1) := by decide +kernel
theorem dX8_wet_63 : decode cX8_wet 63 = .ok (.getfield 367, 3) := by decide +kernel
theorem dX8_wet_66 : decode cX8_wet 66 = .ok (.iconst 1, 1) := by decide +kernel
theorem dX8_wet_67 : decode cX8_wet 67 = .ok (.iadd, 1) := by decide +kernel
theorem dX8_wet_68 : decode cX8_wet 68 = .ok (.putfield 367, 3) := by decide +kernel
theorem dX8_wet_71 : decode cX8_wet 71 = .ok (.aload_n 0, 1) := by decide +kernel
theorem dX8_wet_72 : decode cX8_wet 72 = .ok (.getfield 56, 3) := by decide +kernel
theorem dX8_wet_75 : decode cX8_wet 75 = .ok (.iload_n 1, 1) := by decide +kernel
theorem dX8_wet_76 : decode cX8_wet 76 = .ok (.iconst 5, 1) := by decide +kernel
theorem dX8_wet_77 : decode cX8_wet 77 = .ok (.invokevirtual 344, 3) := by decide +kernel
theorem dX8_wet_80 : decode cX8_wet 80 = .ok (.aload_n 3, 1) := by decide +kernel
theorem dX8_wet_81 : decode cX8_wet 81 = .ok (.getfield 364, 3) := by decide +kernel
theorem dX8_wet_84 : decode cX8_wet 84 = .ok (.ireturn, 1) := by decide +kernel
theorem dX8_find_0 : decode cX8_find 0 = .ok (.aload_n 0, 1) := by decide +kernel
theorem dX8_find_1 : decode cX8_find 1 = .ok (.iload_n 1, 1) := by decide +kernel
theorem dX8_find_2 : decode cX8_find 2 = .ok (.invokevirtual 85, 3) := by decide +kernel
theorem dX8_find_5 : decode cX8_find 5 = .ok (.astore_n 3, 1) := by decide +kernel
theorem dX8_find_6 : decode cX8_find 6 = .ok (.aload_n 3, 1) := by decide +kernel
theorem dX8_find_7 : decode cX8_find 7 = .ok (.ifnonnull 13, 3) := by decide +kernel
theorem dX8_find_10 : decode cX8_find 10 = .ok (.new 89, 3) := by decide +kernel
theorem dX8_find_13 : decode cX8_find 13 = .ok (.dup, 1) := by decide +kernel
theorem dX8_find_14 : decode cX8_find 14 = .ok (.ldc 91, 2) := by decide +kernel
theorem dX8_find_16 : decode cX8_find 16 = .ok (.invokespecial 93, 3) := by decide +kernel
theorem dX8_find_19 : decode cX8_find 19 = .ok (.athrow, 1) := by decide +kernel
theorem dX8_find_20 : decode cX8_find 20 = .ok (.aload_n 3, 1) := by decide +kernel
theorem dX8_find_21 : decode cX8_find 21 = .ok (.getfield 351, 3) := by decide +kernel
theorem dX8_find_24 : decode cX8_find 24 = .ok (.iload_n 2, 1) := by decide +kernel
theorem dX8_find_25 : decode cX8_find 25 = .ok (.if_icmp .ne 14, 3) := by decide +kernel
theorem dX8_find_28 : decode cX8_find 28 = .ok (.new 77, 3) := by decide +kernel
theorem dX8_find_31 : decode cX8_find 31 = .ok (.dup, 1) := by decide +kernel
theorem dX8_find_32 : decode cX8_find 32 = .ok (.ldc_w 370, 3) := by decide +kernel
theorem dX8_find_35 : decode cX8_find 35 = .ok (.invokespecial 81, 3) := by decide +kernel
theorem dX8_find_38 : decode cX8_find 38 = .ok (.athrow, 1) := by decide +kernel
theorem dX8_find_39 : decode cX8_find 39 = .ok (.aload_n 3, 1) := by decide +kernel
theorem dX8_find_40 : decode cX8_find 40 = .ok (.iload_n 2, 1) := by decide +kernel
theorem dX8_find_41 : decode cX8_find 41 = .ok (.putfield 351, 3) := by decide +kernel
theorem dX8_find_44 : decode cX8_find 44 = .ok (.iload_n 2, 1) := by decide +kernel
theorem dX8_find_45 : decode cX8_find 45 = .ok (.ifCond .eq 11, 3) := by decide +kernel
theorem dX8_find_48 : decode cX8_find 48 = .ok (.aload_n 0, 1) := by decide +kernel
theorem dX8_find_49 : decode cX8_find 49 = .ok (.iload_n 1, 1) := by decide +kernel
theorem dX8_find_50 : decode cX8_find 50 = .ok (.invokevirtual 372, 3) := by decide +kernel
theorem dX8_find_53 : decode cX8_find 53 = .ok (.goto 4, 3) := by decide +kernel
theorem dX8_find_56 : decode cX8_find 56 = .ok (.iconst 0, 1) := by decide +kernel
theorem dX8_find_57 : decode cX8_find 57 = .ok (.ireturn, 1) := by decide +kernel
theorem dX8_ofCanopy_0 : decode cX8_ofCanopy 0 = .ok (.aload_n 0, 1) := by decide +kernel
theorem dX8_ofCanopy_1 : decode cX8_ofCanopy 1 = .ok (.iload_n 1, 1) := by decide +kernel
theorem dX8_ofCanopy_2 : decode cX8_ofCanopy 2 = .ok (.invokevirtual 302, 3) := by decide +kernel
theorem dX8_ofCanopy_5 : decode cX8_ofCanopy 5 = .ok (.astore_n 3, 1) := by decide +kernel
theorem dX8_ofCanopy_6 : decode cX8_ofCanopy 6 = .ok (.aload_n 3, 1) := by decide +kernel
theorem dX8_ofCanopy_7 : decode cX8_ofCanopy 7 = .ok (.ifnonnull 14, 3) := by decide +kernel
theorem dX8_ofCanopy_10 : decode cX8_ofCanopy 10 = .ok (.new 89, 3) := by decide +kernel
theorem dX8_ofCanopy_13 : decode cX8_ofCanopy 13 = .ok (.dup, 1) := by decide +kernel
theorem dX8_ofCanopy_14 : decode cX8_ofCanopy 14 = .ok (.ldc_w 306, 3) := by decide +kernel
theorem dX8_ofCanopy_17 : decode cX8_ofCanopy 17 = .ok (.invokespecial 93, 3) := by decide +kernel
theorem dX8_ofCanopy_20 : decode cX8_ofCanopy 20 = .ok (.athrow, 1) := by decide +kernel
theorem dX8_ofCanopy_21 : decode cX8_ofCanopy 21 = .ok (.iload_n 2, 1) := by decide +kernel
theorem dX8_ofCanopy_22 : decode cX8_ofCanopy 22 = .ok (.i2l, 1) := by decide +kernel
theorem dX8_ofCanopy_23 : decode cX8_ofCanopy 23 = .ok (.lconst 0, 1) := by decide +kernel
theorem dX8_ofCanopy_24 : decode cX8_ofCanopy 24 = .ok (.ldc2_w 376, 3) := by decide +kernel
theorem dX8_ofCanopy_27 : decode cX8_ofCanopy 27 = .ok (.invokestatic 62, 3) := by decide +kernel
theorem dX8_ofCanopy_30 : decode cX8_ofCanopy 30 = .ok (.ifCond .eq 14, 3) := by decide +kernel
theorem dX8_ofCanopy_33 : decode cX8_ofCanopy 33 = .ok (.new 66, 3) := by decide +kernel
theorem dX8_ofCanopy_36 : decode cX8_ofCanopy 36 = .ok (.dup, 1) := by decide +kernel
theorem dX8_ofCanopy_37 : decode cX8_ofCanopy 37 = .ok (.ldc_w 378, 3) := by decide +kernel
theorem dX8_ofCanopy_40 : decode cX8_ofCanopy 40 = .ok (.invokespecial 70, 3) := by decide +kernel
theorem dX8_ofCanopy_43 : decode cX8_ofCanopy 43 = .ok (.athrow, 1) := by decide +kernel
theorem dX8_ofCanopy_44 : decode cX8_ofCanopy 44 = .ok (.aload_n 3, 1) := by decide +kernel
theorem dX8_ofCanopy_45 : decode cX8_ofCanopy 45 = .ok (.iload_n 2, 1) := by decide +kernel
theorem dX8_ofCanopy_46 : decode cX8_ofCanopy 46 = .ok (.invokevirtual 380, 3) := by decide +kernel
theorem dX8_ofCanopy_49 : decode cX8_ofCanopy 49 = .ok (.ireturn, 1) := by decide +kernel
theorem dX8_lifeAnew_0 : decode cX8_lifeAnew 0 = .ok (.aload_n 0, 1) := by decide +kernel
theorem dX8_lifeAnew_1 : decode cX8_lifeAnew 1 = .ok (.iload_n 1, 1) := by decide +kernel
theorem dX8_lifeAnew_2 : decode cX8_lifeAnew 2 = .ok (.invokevirtual 302, 3) := by decide +kernel
theorem dX8_lifeAnew_5 : decode cX8_lifeAnew 5 = .ok (.ifnonnull 14, 3) := by decide +kernel
theorem dX8_lifeAnew_8 : decode cX8_lifeAnew 8 = .ok (.new 89, 3) := by decide +kernel
theorem dX8_lifeAnew_11 : decode cX8_lifeAnew 11 = .ok (.dup, 1) := by decide +kernel
theorem dX8_lifeAnew_12 : decode cX8_lifeAnew 12 = .ok (.ldc_w 306, 3) := by decide +kernel
theorem dX8_lifeAnew_15 : decode cX8_lifeAnew 15 = .ok (.invokespecial 93, 3) := by decide +kernel
theorem dX8_lifeAnew_18 : decode cX8_lifeAnew 18 = .ok (.athrow, 1) := by decide +kernel
theorem dX8_lifeAnew_19 : decode cX8_lifeAnew 19 = .ok (.iload_n 2, 1) := by decide +kernel
theorem dX8_lifeAnew_20 : decode cX8_lifeAnew 20 = .ok (.i2l, 1) := by decide +kernel
theorem dX8_lifeAnew_21 : decode cX8_lifeAnew 21 = .ok (.ldc2_w 257, 3) := by decide +kernel
theorem dX8_lifeAnew_24 : decode cX8_lifeAnew 24 = .ok (.ldc2_w 376, 3) := by decide +kernel
theorem dX8_lifeAnew_27 : decode cX8_lifeAnew 27 = .ok (.invokestatic 62, 3) := by decide +kernel
theorem dX8_lifeAnew_30 : decode cX8_lifeAnew 30 = .ok (.ifCond .eq 14, 3) := by decide +kernel
theorem dX8_lifeAnew_33 : decode cX8_lifeAnew 33 = .ok (.new 66, 3) := by decide +kernel
theorem dX8_lifeAnew_36 : decode cX8_lifeAnew 36 = .ok (.dup, 1) := by decide +kernel
theorem dX8_lifeAnew_37 : decode cX8_lifeAnew 37 = .ok (.ldc_w 378, 3) := by decide +kernel
theorem dX8_lifeAnew_40 : decode cX8_lifeAnew 40 = .ok (.invokespecial 70, 3) := by decide +kernel
theorem dX8_lifeAnew_43 : decode cX8_lifeAnew 43 = .ok (.athrow, 1) := by decide +kernel
theorem dX8_lifeAnew_44 : decode cX8_lifeAnew 44 = .ok (.aload_n 0, 1) := by decide +kernel
theorem dX8_lifeAnew_45 : decode cX8_lifeAnew 45 = .ok (.getfield 56, 3) := by decide +kernel
theorem dX8_lifeAnew_48 : decode cX8_lifeAnew 48 = .ok (.iload_n 1, 1) := by decide +kernel
theorem dX8_lifeAnew_49 : decode cX8_lifeAnew 49 = .ok (.iload_n 2, 1) := by decide +kernel
theorem dX8_lifeAnew_50 : decode cX8_lifeAnew 50 = .ok (.invokevirtual 383, 3) := by decide +kernel
theorem dX8_lifeAnew_53 : decode cX8_lifeAnew 53 = .ok (.ireturn, 1) := by decide +kernel
theorem dX8_canopyAt_0 : decode cX8_canopyAt 0 = .ok (.iload_n 1, 1) := by decide +kernel
theorem dX8_canopyAt_1 : decode cX8_canopyAt 1 = .ok (.i2l, 1) := by decide +kernel
theorem dX8_canopyAt_2 : decode cX8_canopyAt 2 = .ok (.lconst 0, 1) := by decide +kernel
theorem dX8_canopyAt_3 : decode cX8_canopyAt 3 = .ok (.aload_n 0, 1) := by decide +kernel
theorem dX8_canopyAt_4 : decode cX8_canopyAt 4 = .ok (.getfield 294, 3) := by decide +kernel
theorem dX8_canopyAt_7 : decode cX8_canopyAt 7 = .ok (.iconst 1, 1) := by decide +kernel
theorem dX8_canopyAt_8 : decode cX8_canopyAt 8 = .ok (.isub, 1) := by decide +kernel
theorem dX8_canopyAt_9 : decode cX8_canopyAt 9 = .ok (.i2l, 1) := by decide +kernel
theorem dX8_canopyAt_10 : decode cX8_canopyAt 10 = .ok (.invokestatic 62, 3) := by decide +kernel
theorem dX8_canopyAt_13 : decode cX8_canopyAt 13 = .ok (.ifCond .eq 7, 3) := by decide +kernel
theorem dX8_canopyAt_16 : decode cX8_canopyAt 16 = .ok (.aconst_null, 1) := by decide +kernel
theorem dX8_canopyAt_17 : decode cX8_canopyAt 17 = .ok (.goto 9, 3) := by decide +kernel
theorem dX8_canopyAt_20 : decode cX8_canopyAt 20 = .ok (.aload_n 0, 1) := by decide +kernel
theorem dX8_canopyAt_21 : decode cX8_canopyAt 21 = .ok (.getfield 49, 3) := by decide +kernel
theorem dX8_canopyAt_24 : decode cX8_canopyAt 24 = .ok (.iload_n 1, 1) := by decide +kernel
theorem dX8_canopyAt_25 : decode cX8_canopyAt 25 = .ok (.aaload, 1) := by decide +kernel
theorem dX8_canopyAt_26 : decode cX8_canopyAt 26 = .ok (.areturn, 1) := by decide +kernel
theorem dX8_takeSealsAway_0 : decode cX8_takeSealsAway 0 = .ok (.iconst 0, 1) := by decide +kernel
theorem dX8_takeSealsAway_1 : decode cX8_takeSealsAway 1 = .ok (.istore_n 2, 1) := by decide +kernel
theorem dX8_takeSealsAway_2 : decode cX8_takeSealsAway 2 = .ok (.aload_n 0, 1) := by decide +kernel
theorem dX8_takeSealsAway_3 : decode cX8_takeSealsAway 3 = .ok (.getfield 49, 3) := by decide +kernel
theorem dX8_takeSealsAway_6 : decode cX8_takeSealsAway 6 = .ok (.astore_n 3, 1) := by decide +kernel
theorem dX8_takeSealsAway_7 : decode cX8_takeSealsAway 7 = .ok (.aload_n 3, 1) := by decide +kernel
theorem dX8_takeSealsAway_8 : decode cX8_takeSealsAway 8 = .ok (.arraylength, 1) := by decide +kernel
theorem dX8_takeSealsAway_9 : decode cX8_takeSealsAway 9 = .ok (.istore 4, 2) := by decide +kernel
theorem dX8_takeSealsAway_11 : decode cX8_takeSealsAway 11 = .ok (.iconst 0, 1) := by decide +kernel
theorem dX8_takeSealsAway_12 : decode cX8_takeSealsAway 12 = .ok (.istore 5, 2) := by decide +kernel
theorem dX8_takeSealsAway_14 : decode cX8_takeSealsAway 14 = .ok (.iload 5, 2) := by decide +kernel
theorem dX8_takeSealsAway_16 : decode cX8_takeSealsAway 16 = .ok (.iload 4, 2) := by decide +kernel
theorem dX8_takeSealsAway_18 : decode cX8_takeSealsAway 18 = .ok (.if_icmp .ge 45, 3) := by decide +kernel
theorem dX8_takeSealsAway_21 : decode cX8_takeSealsAway 21 = .ok (.aload_n 3, 1) := by decide +kernel
theorem dX8_takeSealsAway_22 : decode cX8_takeSealsAway 22 = .ok (.iload 5, 2) := by decide +kernel
theorem dX8_takeSealsAway_24 : decode cX8_takeSealsAway 24 = .ok (.aaload, 1) := by decide +kernel
theorem dX8_takeSealsAway_25 : decode cX8_takeSealsAway 25 = .ok (.astore 6, 2) := by decide +kernel
theorem dX8_takeSealsAway_27 : decode cX8_takeSealsAway 27 = .ok (.aload 6, 2) := by decide +kernel
theorem dX8_takeSealsAway_29 : decode cX8_takeSealsAway 29 = .ok (.ifnull 28, 3) := by decide +kernel
theorem dX8_takeSealsAway_32 : decode cX8_takeSealsAway 32 = .ok (.aload 6, 2) := by decide +kernel
theorem dX8_takeSealsAway_34 : decode cX8_takeSealsAway 34 = .ok (.getfield 386, 3) := by decide +kernel
theorem dX8_takeSealsAway_37 : decode cX8_takeSealsAway 37 = .ok (.iload_n 1, 1) := by decide +kernel
theorem dX8_takeSealsAway_38 : decode cX8_takeSealsAway 38 = .ok (.if_icmp .ne 19, 3) := by decide +kernel
theorem dX8_takeSealsAway_41 : decode cX8_takeSealsAway 41 = .ok (.aload 6, 2) := by decide +kernel
theorem dX8_takeSealsAway_43 : decode cX8_takeSealsAway 43 = .ok (.invokevirtual 318, 3) := by decide +kernel
theorem dX8_takeSealsAway_46 : decode cX8_takeSealsAway 46 = .ok (.ifCond .eq 11, 3) := by decide +kernel
theorem dX8_takeSealsAway_49 : decode cX8_takeSealsAway 49 = .ok (.aload 6, 2) := by decide +kernel
theorem dX8_takeSealsAway_51 : decode cX8_takeSealsAway 51 = .ok (.invokevirtual 356, 3) := by decide +kernel
theorem dX8_takeSealsAway_54 : decode cX8_takeSealsAway 54 = .ok (.iinc 2 1, 3) := by decide +kernel
theorem dX8_takeSealsAway_57 : decode cX8_takeSealsAway 57 = .ok (.iinc 5 1, 3) := by decide +kernel
theorem dX8_takeSealsAway_60 : decode cX8_takeSealsAway 60 = .ok (.goto (-46), 3) := by decide +kernel
theorem dX8_takeSealsAway_63 : decode cX8_takeSealsAway 63 = .ok (.iload_n 2, 1) := by decide +kernel
theorem dX8_takeSealsAway_64 : decode cX8_takeSealsAway 64 = .ok (.ireturn, 1) := by decide +kernel
