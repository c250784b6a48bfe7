theorem dX12_init_0 : decode cX12_init 0 = .ok (.aload_n 0, 1) := by decide +kernel
theorem dX12_init_1 : decode cX12_init 1 = .ok (.invokespecial 1, 3) := by decide +kernel
theorem dX12_init_4 : decode cX12_init 4 = .ok (.aload_n 0, 1) := by decide +kernel
theorem dX12_init_5 : decode cX12_init 5 = .ok (.bipush 9, 2) := by decide +kernel
theorem dX12_init_7 : decode cX12_init 7 = .ok (.newarray .int, 2) := by decide +kernel
theorem dX12_init_9 : decode cX12_init 9 = .ok (.putfield 7, 3) := by decide +kernel
theorem dX12_init_12 : decode cX12_init 12 = .ok (.aload_n 0, 1) := by decide +kernel
theorem dX12_init_13 : decode cX12_init 13 = .ok (.iconst 5, 1) := by decide +kernel
theorem dX12_init_14 : decode cX12_init 14 = .ok (.newarray .int, 2) := by decide +kernel
theorem dX12_init_16 : decode cX12_init 16 = .ok (.dup, 1) := by decide +kernel
theorem dX12_init_17 : decode cX12_init 17 = .ok (.iconst 0, 1) := by decide +kernel
theorem dX12_init_18 : decode cX12_init 18 = .ok (.iconst (-1), 1) := by decide +kernel
theorem dX12_init_19 : decode cX12_init 19 = .ok (.iastore, 1) := by decide +kernel
theorem dX12_init_20 : decode cX12_init 20 = .ok (.dup, 1) := by decide +kernel
theorem dX12_init_21 : decode cX12_init 21 = .ok (.iconst 1, 1) := by decide +kernel
theorem dX12_init_22 : decode cX12_init 22 = .ok (.iconst (-1), 1) := by decide +kernel
theorem dX12_init_23 : decode cX12_init 23 = .ok (.iastore, 1) := by decide +kernel
theorem dX12_init_24 : decode cX12_init 24 = .ok (.dup, 1) := by decide +kernel
theorem dX12_init_25 : decode cX12_init 25 = .ok (.iconst 2, 1) := by decide +kernel
theorem dX12_init_26 : decode cX12_init 26 = .ok (.iconst (-1), 1) := by decide +kernel
theorem dX12_init_27 : decode cX12_init 27 = .ok (.iastore, 1) := by decide +kernel
theorem dX12_init_28 : decode cX12_init 28 = .ok (.dup, 1) := by decide +kernel
theorem dX12_init_29 : decode cX12_init 29 = .ok (.iconst 3, 1) := by decide +kernel
theorem dX12_init_30 : decode cX12_init 30 = .ok (.iconst (-1), 1) := by decide +kernel
theorem dX12_init_31 : decode cX12_init 31 = .ok (.iastore, 1) := by decide +kernel
theorem dX12_init_32 : decode cX12_init 32 = .ok (.dup, 1) := by decide +kernel
theorem dX12_init_33 : decode cX12_init 33 = .ok (.iconst 4, 1) := by decide +kernel
theorem dX12_init_34 : decode cX12_init 34 = .ok (.iconst (-1), 1) := by decide +kernel
theorem dX12_init_35 : decode cX12_init 35 = .ok (.iastore, 1) := by decide +kernel
theorem dX12_init_36 : decode cX12_init 36 = .ok (.putfield 13, 3) := by decide +kernel
theorem dX12_init_39 : decode cX12_init 39 = .ok (.aload_n 0, 1) := by decide +kernel
theorem dX12_init_40 : decode cX12_init 40 = .ok (.iconst 4, 1) := by decide +kernel
theorem dX12_init_41 : decode cX12_init 41 = .ok (.newarray .int, 2) := by decide +kernel
theorem dX12_init_43 : decode cX12_init 43 = .ok (.putfield 16, 3) := by decide +kernel
theorem dX12_init_46 : decode cX12_init 46 = .ok (.aload_n 0, 1) := by decide +kernel
theorem dX12_init_47 : decode cX12_init 47 = .ok (.iconst 4, 1) := by decide +kernel
theorem dX12_init_48 : decode cX12_init 48 = .ok (.newarray .int, 2) := by decide +kernel
theorem dX12_init_50 : decode cX12_init 50 = .ok (.putfield 19, 3) := by decide +kernel
theorem dX12_init_53 : decode cX12_init 53 = .ok (.aload_n 0, 1) := by decide +kernel
theorem dX12_init_54 : decode cX12_init 54 = .ok (.iconst 4, 1) := by decide +kernel
theorem dX12_init_55 : decode cX12_init 55 = .ok (.newarray .int, 2) := by decide +kernel
theorem dX12_init_57 : decode cX12_init 57 = .ok (.putfield 22, 3) := by decide +kernel
theorem dX12_init_60 : decode cX12_init 60 = .ok (.aload_n 0, 1) := by decide +kernel
theorem dX12_init_61 : decode cX12_init 61 = .ok (.iconst 4, 1) := by decide +kernel
theorem dX12_init_62 : decode cX12_init 62 = .ok (.newarray .int, 2) := by decide +kernel
theorem dX12_init_64 : decode cX12_init 64 = .ok (.putfield 25, 3) := by decide +kernel
theorem dX12_init_67 : decode cX12_init 67 = .ok (.aload_n 0, 1) := by decide +kernel
theorem dX12_init_68 : decode cX12_init 68 = .ok (.bipush 12, 2) := by decide +kernel
theorem dX12_init_70 : decode cX12_init 70 = .ok (.newarray .int, 2) := by decide +kernel
theorem dX12_init_72 : decode cX12_init 72 = .ok (.putfield 28, 3) := by decide +kernel
theorem dX12_init_75 : decode cX12_init 75 = .ok (.aload_n 0, 1) := by decide +kernel
theorem dX12_init_76 : decode cX12_init 76 = .ok (.bipush 12, 2) := by decide +kernel
theorem dX12_init_78 : decode cX12_init 78 = .ok (.newarray .int, 2) := by decide +kernel
theorem dX12_init_80 : decode cX12_init 80 = .ok (.putfield 31, 3) := by decide +kernel
theorem dX12_init_83 : decode cX12_init 83 = .ok (.aload_n 0, 1) := by decide +kernel
theorem dX12_init_84 : decode cX12_init 84 = .ok (.bipush 16, 2) := by decide +kernel
theorem dX12_init_86 : decode cX12_init 86 = .ok (.newarray .byte, 2) := by decide +kernel
theorem dX12_init_88 : decode cX12_init 88 = .ok (.putfield 34, 3) := by decide +kernel
theorem dX12_init_91 : decode cX12_init 91 = .ok (.aload_n 0, 1) := by decide +kernel
theorem dX12_init_92 : decode cX12_init 92 = .ok (.iconst 5, 1) := by decide +kernel
theorem dX12_init_93 : decode cX12_init 93 = .ok (.newarray .int, 2) := by decide +kernel
theorem dX12_init_95 : decode cX12_init 95 = .ok (.putfield 38, 3) := by decide +kernel
theorem dX12_init_98 : decode cX12_init 98 = .ok (.aload_n 0, 1) := by decide +kernel
theorem dX12_init_99 : decode cX12_init 99 = .ok (.iconst 5, 1) := by decide +kernel
theorem dX12_init_100 : decode cX12_init 100 = .ok (.newarray .int, 2) := by decide +kernel
theorem dX12_init_102 : decode cX12_init 102 = .ok (.putfield 41, 3) := by decide +kernel
theorem dX12_init_105 : decode cX12_init 105 = .ok (.aload_n 0, 1) := by decide +kernel
theorem dX12_init_106 : decode cX12_init 106 = .ok (.iconst 5, 1) := by decide +kernel
theorem dX12_init_107 : decode cX12_init 107 = .ok (.newarray .int, 2) := by decide +kernel
theorem dX12_init_109 : decode cX12_init 109 = .ok (.putfield 44, 3) := by decide +kernel
theorem dX12_init_112 : decode cX12_init 112 = .ok (.aload_n 0, 1) := by decide +kernel
theorem dX12_init_113 : decode cX12_init 113 = .ok (.iconst 4, 1) := by decide +kernel
theorem dX12_init_114 : decode cX12_init 114 = .ok (.newarray .int, 2) := by decide +kernel
theorem dX12_init_116 : decode cX12_init 116 = .ok (.putfield 47, 3) := by decide +kernel
theorem dX12_init_119 : decode cX12_init 119 = .ok (.aload_n 0, 1) := by decide +kernel
theorem dX12_init_120 : decode cX12_init 120 = .ok (.bipush 12, 2) := by decide +kernel
theorem dX12_init_122 : decode cX12_init 122 = .ok (.newarray .int, 2) := by decide +kernel
theorem dX12_init_124 : decode cX12_init 124 = .ok (.putfield 50, 3) := by decide +kernel
theorem dX12_init_127 : decode cX12_init 127 = .ok (.aload_n 0, 1) := by decide +kernel
theorem dX12_init_128 : decode cX12_init 128 = .ok (.bipush 12, 2) := by decide +kernel
theorem dX12_init_130 : decode cX12_init 130 = .ok (.newarray .int, 2) := by decide +kernel
theorem dX12_init_132 : decode cX12_init 132 = .ok (.putfield 53, 3) := by decide +kernel
theorem dX12_init_135 : decode cX12_init 135 = .ok (.return_, 1) := by decide +kernel
theorem dX12_within_0 : decode cX12_within 0 = .ok (.iload_n 0, 1) := by decide +kernel
theorem dX12_within_1 : decode cX12_within 1 = .ok (.iload_n 1, 1) := by decide +kernel
theorem dX12_within_2 : decode cX12_within 2 = .ok (.if_icmp .lt 12, 3) := by decide +kernel
theorem dX12_within_5 : decode cX12_within 5 = .ok (.iload_n 0, 1) := by decide +kernel
theorem dX12_within_6 : decode cX12_within 6 = .ok (.iload_n 2, 1) := by decide +kernel
theorem dX12_within_7 : decode cX12_within 7 = .ok (.if_icmp .gt 7, 3) := by decide +kernel
theorem dX12_within_10 : decode cX12_within 10 = .ok (.iconst 1, 1) := by decide +kernel
theorem dX12_within_11 : decode cX12_within 11 = .ok (.goto 4, 3) := by decide +kernel
theorem dX12_within_14 : decode cX12_within 14 = .ok (.iconst 0, 1) := by decide +kernel
theorem dX12_within_15 : decode cX12_within 15 = .ok (.ireturn, 1) := by decide +kernel
theorem dX12_isWeather_0 : decode cX12_isWeather 0 = .ok (.iload_n 0, 1) := by decide +kernel
theorem dX12_isWeather_1 : decode cX12_isWeather 1 = .ok (.iconst 0, 1) := by decide +kernel
theorem dX12_isWeather_2 : decode cX12_isWeather 2 = .ok (.iconst 2, 1) := by decide +kernel
theorem dX12_isWeather_3 : decode cX12_isWeather 3 = .ok (.invokestatic 56, 3) := by decide +kernel
theorem dX12_isWeather_6 : decode cX12_isWeather 6 = .ok (.ireturn, 1) := by decide +kernel
theorem dX12_lowest_0 : decode cX12_lowest 0 = .ok (.lload_n 0, 1) := by decide +kernel
theorem dX12_lowest_1 : decode cX12_lowest 1 = .ok (.lstore 5, 2) := by decide +kernel
theorem dX12_lowest_3 : decode cX12_lowest 3 = .ok (.lload_n 2, 1) := by decide +kernel
theorem dX12_lowest_4 : decode cX12_lowest 4 = .ok (.lstore 7, 2) := by decide +kernel
theorem dX12_lowest_6 : decode cX12_lowest 6 = .ok (.lload 7, 2) := by decide +kernel
theorem dX12_lowest_8 : decode cX12_lowest 8 = .ok (.lconst 0, 1) := by decide +kernel
theorem dX12_lowest_9 : decode cX12_lowest 9 = .ok (.lcmp, 1) := by decide +kernel
theorem dX12_lowest_10 : decode cX12_lowest 10 = .ok (.ifCond .eq 21, 3) := by decide +kernel
theorem dX12_lowest_13 : decode cX12_lowest 13 = .ok (.lload 5, 2) := by decide +kernel
theorem dX12_lowest_15 : decode cX12_lowest 15 = .ok (.lload 7, 2) := by decide +kernel
theorem dX12_lowest_17 : decode cX12_lowest 17 = .ok (.lrem, 1) := by decide +kernel
theorem dX12_lowest_18 : decode cX12_lowest 18 = .ok (.lstore 9, 2) := by decide +kernel
theorem dX12_lowest_20 : decode cX12_lowest 20 = .ok (.lload 7, 2) := by decide +kernel
theorem dX12_lowest_22 : decode cX12_lowest 22 = .ok (.lstore 5, 2) := by decide +kernel
theorem dX12_lowest_24 : decode cX12_lowest 24 = .ok (.lload 9, 2) := by decide +kernel
theorem dX12_lowest_26 : decode cX12_lowest 26 = .ok (.lstore 7, 2) := by decide +kernel
theorem dX12_lowest_28 : decode cX12_lowest 28 = .ok (.goto (-22), 3) := by decide +kernel
theorem dX12_lowest_31 : decode cX12_lowest 31 = .ok (.iload 4, 2) := by decide +kernel
theorem dX12_lowest_33 : decode cX12_lowest 33 = .ok (.ifCond .ne 10, 3) := by decide +kernel
theorem dX12_lowest_36 : decode cX12_lowest 36 = .ok (.lload_n 0, 1) := by decide +kernel
theorem dX12_lowest_37 : decode cX12_lowest 37 = .ok (.lload 5, 2) := by decide +kernel
theorem dX12_lowest_39 : decode cX12_lowest 39 = .ok (.ldiv, 1) := by decide +kernel
theorem dX12_lowest_40 : decode cX12_lowest 40 = .ok (.goto 7, 3) := by decide +kernel
theorem dX12_lowest_43 : decode cX12_lowest 43 = .ok (.lload_n 2, 1) := by decide +kernel
theorem dX12_lowest_44 : decode cX12_lowest 44 = .ok (.lload 5, 2) := by decide +kernel
theorem dX12_lowest_46 : decode cX12_lowest 46 = .ok (.ldiv, 1) := by decide +kernel
theorem dX12_lowest_47 : decode cX12_lowest 47 = .ok (.lreturn, 1) := by decide +kernel
theorem dX12_letter_0 : decode cX12_letter 0 = .ok (.iload_n 1, 1) := by decide +kernel
theorem dX12_letter_1 : decode cX12_letter 1 = .ok (.bipush 32, 2) := by decide +kernel
theorem dX12_letter_3 : decode cX12_letter 3 = .ok (.bipush 126, 2) := by decide +kernel
theorem dX12_letter_5 : decode cX12_letter 5 = .ok (.invokestatic 56, 3) := by decide +kernel
theorem dX12_letter_8 : decode cX12_letter 8 = .ok (.ifCond .ne 6, 3) := by decide +kernel
theorem dX12_letter_11 : decode cX12_letter 11 = .ok (.bipush (-102), 2) := by decide +kernel
theorem dX12_letter_13 : decode cX12_letter 13 = .ok (.ireturn, 1) := by decide +kernel
theorem dX12_letter_14 : decode cX12_letter 14 = .ok (.aload_n 0, 1) := by decide +kernel
theorem dX12_letter_15 : decode cX12_letter 15 = .ok (.getfield 60, 3) := by decide +kernel
theorem dX12_letter_18 : decode cX12_letter 18 = .ok (.bipush 16, 2) := by decide +kernel
theorem dX12_letter_20 : decode cX12_letter 20 = .ok (.if_icmp .ne 6, 3) := by decide +kernel
theorem dX12_letter_23 : decode cX12_letter 23 = .ok (.bipush (-104), 2) := by decide +kernel
theorem dX12_letter_25 : decode cX12_letter 25 = .ok (.ireturn, 1) := by decide +kernel
theorem dX12_letter_26 : decode cX12_letter 26 = .ok (.aload_n 0, 1) := by decide +kernel
theorem dX12_letter_27 : decode cX12_letter 27 = .ok (.getfield 34, 3) := by decide +kernel
theorem dX12_letter_30 : decode cX12_letter 30 = .ok (.aload_n 0, 1) := by decide +kernel
theorem dX12_letter_31 : decode cX12_letter 31 = .ok (.getfield 60, 3) := by decide +kernel
theorem dX12_letter_34 : decode cX12_letter 34 = .ok (.iload_n 1, 1) := by decide +kernel
theorem dX12_letter_35 : decode cX12_letter 35 = .ok (.i2b, 1) := by decide +kernel
theorem dX12_letter_36 : decode cX12_letter 36 = .ok (.bastore, 1) := by decide +kernel
theorem dX12_letter_37 : decode cX12_letter 37 = .ok (.aload_n 0, 1) := by decide +kernel
theorem dX12_letter_38 : decode cX12_letter 38 = .ok (.dup, 1) := by decide +kernel
theorem dX12_letter_39 : decode cX12_letter 39 = .ok (.getfield 60, 3) := by decide +kernel
theorem dX12_letter_42 : decode cX12_letter 42 = .ok (.iconst 1, 1) := by decide +kernel
theorem dX12_letter_43 : decode cX12_letter 43 = .ok (.iadd, 1) := by decide +kernel
theorem dX12_letter_44 : decode cX12_letter 44 = .ok (.putfield 60, 3) := by decide +kernel
theorem dX12_letter_47 : decode cX12_letter 47 = .ok (.aload_n 0, 1) := by decide +kernel
theorem dX12_letter_48 : decode cX12_letter 48 = .ok (.getfield 60, 3) := by decide +kernel
theorem dX12_letter_51 : decode cX12_letter 51 = .ok (.ireturn, 1) := by decide +kernel
theorem dX12_blank_0 : decode cX12_blank 0 = .ok (.aload_n 0, 1) := by decide +kernel
theorem dX12_blank_1 : decode cX12_blank 1 = .ok (.getfield 60, 3) := by decide +kernel
theorem dX12_blank_4 : decode cX12_blank 4 = .ok (.istore_n 1, 1) := by decide +kernel
theorem dX12_blank_5 : decode cX12_blank 5 = .ok (.aload_n 0, 1) := by decide +kernel
theorem dX12_blank_6 : decode cX12_blank 6 = .ok (.iconst 0, 1) := by decide +kernel
theorem dX12_blank_7 : decode cX12_blank 7 = .ok (.putfield 60, 3) := by decide +kernel
theorem dX12_blank_10 : decode cX12_blank 10 = .ok (.iload_n 1, 1) := by decide +kernel
theorem dX12_blank_11 : decode cX12_blank 11 = .ok (.ireturn, 1) := by decide +kernel
theorem dX12_figure_0 : decode cX12_figure 0 = .ok (.aload_n 0, 1) := by decide +kernel
theorem dX12_figure_1 : decode cX12_figure 1 = .ok (.getfield 34, 3) := by decide +kernel
theorem dX12_figure_4 : decode cX12_figure 4 = .ok (.iload_n 1, 1) := by decide +kernel
theorem dX12_figure_5 : decode cX12_figure 5 = .ok (.baload, 1) := by decide +kernel
theorem dX12_figure_6 : decode cX12_figure 6 = .ok (.bipush 48, 2) := by decide +kernel
theorem dX12_figure_8 : decode cX12_figure 8 = .ok (.isub, 1) := by decide +kernel
theorem dX12_figure_9 : decode cX12_figure 9 = .ok (.ireturn, 1) := by decide +kernel
theorem dX12_isGood_0 : decode cX12_isGood 0 = .ok (.aload_n 0, 1) := by decide +kernel
theorem dX12_isGood_1 : decode cX12_isGood 1 = .ok (.iload_n 1, 1) := by decide +kernel
theorem dX12_isGood_2 : decode cX12_isGood 2 = .ok (.invokevirtual 64, 3) := by decide +kernel
theorem dX12_isGood_5 : decode cX12_isGood 5 = .ok (.istore_n 2, 1) := by decide +kernel
theorem dX12_isGood_6 : decode cX12_isGood 6 = .ok (.iload_n 1, 1) := by decide +kernel
theorem dX12_isGood_7 : decode cX12_isGood 7 = .ok (.bipush 11, 2) := by decide +kernel
theorem dX12_isGood_9 : decode cX12_isGood 9 = .ok (.if_icmp .le 40, 3) := by decide +kernel
theorem dX12_isGood_12 : decode cX12_isGood 12 = .ok (.iload_n 1, 1) := by decide +kernel
theorem dX12_isGood_13 : decode cX12_isGood 13 = .ok (.bipush 12, 2) := by decide +kernel
theorem dX12_isGood_15 : decode cX12_isGood 15 = .ok (.if_icmp .ne 12, 3) := by decide +kernel
theorem dX12_isGood_18 : decode cX12_isGood 18 = .ok (.iload_n 2, 1) := by decide +kernel
theorem dX12_isGood_19 : decode cX12_isGood 19 = .ok (.iconst 1, 1) := by decide +kernel
theorem dX12_isGood_20 : decode cX12_isGood 20 = .ok (.iconst 4, 1) := by decide +kernel
theorem dX12_isGood_21 : decode cX12_isGood 21 = .ok (.invokestatic 56, 3) := by decide +kernel
theorem dX12_isGood_24 : decode cX12_isGood 24 = .ok (.goto 24, 3) := by decide +kernel
theorem dX12_isGood_27 : decode cX12_isGood 27 = .ok (.iload_n 1, 1) := by decide +kernel
theorem dX12_isGood_28 : decode cX12_isGood 28 = .ok (.bipush 13, 2) := by decide +kernel
theorem dX12_isGood_30 : decode cX12_isGood 30 = .ok (.if_icmp .ne 17, 3) := by decide +kernel
theorem dX12_isGood_33 : decode cX12_isGood 33 = .ok (.iload_n 2, 1) := by decide +kernel
theorem dX12_isGood_34 : decode cX12_isGood 34 = .ok (.iconst 0, 1) := by decide +kernel
theorem dX12_isGood_35 : decode cX12_isGood 35 = .ok (.bipush 9, 2) := by decide +kernel
theorem dX12_isGood_37 : decode cX12_isGood 37 = .ok (.invokestatic 56, 3) := by decide +kernel
theorem dX12_isGood_40 : decode cX12_isGood 40 = .ok (.ifCond .eq 7, 3) := by decide +kernel
theorem dX12_isGood_43 : decode cX12_isGood 43 = .ok (.iconst 1, 1) := by decide +kernel
theorem dX12_isGood_44 : decode cX12_isGood 44 = .ok (.goto 4, 3) := by decide +kernel
theorem dX12_isGood_47 : decode cX12_isGood 47 = .ok (.iconst 0, 1) := by decide +kernel
theorem dX12_isGood_48 : decode cX12_isGood 48 = .ok (.ireturn, 1) := by decide +kernel
theorem dX12_isGood_49 : decode cX12_isGood 49 = .ok (.iload_n 1, 1) := by decide +kernel
theorem dX12_isGood_50 : decode cX12_isGood 50 = .ok (.iconst 4, 1) := by decide +kernel
theorem dX12_isGood_51 : decode cX12_isGood 51 = .ok (.irem, 1) := by decide +kernel
theorem dX12_isGood_52 : decode cX12_isGood 52 = .ok (.tableswitch 104 0 2 #[28, 36, 66], 28) := by decide +kernel
theorem dX12_isGood_80 : decode cX12_isGood 80 = .ok (.iload_n 2, 1) := by decide +kernel
theorem dX12_isGood_81 : decode cX12_isGood 81 = .ok (.iconst 0, 1) := by decide +kernel
theorem dX12_isGood_82 : decode cX12_isGood 82 = .ok (.bipush 9, 2) := by decide +kernel
theorem dX12_isGood_84 : decode cX12_isGood 84 = .ok (.invokestatic 56, 3) := by decide +kernel
theorem dX12_isGood_87 : decode cX12_isGood 87 = .ok (.ireturn, 1) := by decide +kernel
theorem dX12_isGood_88 : decode cX12_isGood 88 = .ok (.iload_n 2, 1) := by decide +kernel
theorem dX12_isGood_89 : decode cX12_isGood 89 = .ok (.iconst 0, 1) := by decide +kernel
theorem dX12_isGood_90 : decode cX12_isGood 90 = .ok (.bipush 9, 2) := by decide +kernel
theorem dX12_isGood_92 : decode cX12_isGood 92 = .ok (.invokestatic 56, 3) := by decide +kernel
theorem dX12_isGood_95 : decode cX12_isGood 95 = .ok (.ifCond .eq 21, 3) := by decide +kernel
theorem dX12_isGood_98 : decode cX12_isGood 98 = .ok (.aload_n 0, 1) := by decide +kernel
theorem dX12_isGood_99 : decode cX12_isGood 99 = .ok (.iload_n 1, 1) := by decide +kernel
theorem dX12_isGood_100 : decode cX12_isGood 100 = .ok (.iconst 1, 1) := by decide +kernel
theorem dX12_isGood_101 : decode cX12_isGood 101 = .ok (.isub, 1) := by decide +kernel
theorem dX12_isGood_102 : decode cX12_isGood 102 = .ok (.invokevirtual 64, 3) := by decide +kernel
theorem dX12_isGood_105 : decode cX12_isGood 105 = .ok (.iload_n 2, 1) := by decide +kernel
theorem dX12_isGood_106 : decode cX12_isGood 106 = .ok (.iadd, 1) := by decide +kernel
theorem dX12_isGood_107 : decode cX12_isGood 107 = .ok (.bipush 10, 2) := by decide +kernel
theorem dX12_isGood_109 : decode cX12_isGood 109 = .ok (.if_icmp .gt 7, 3) := by decide +kernel
theorem dX12_isGood_112 : decode cX12_isGood 112 = .ok (.iconst 1, 1) := by decide +kernel
theorem dX12_isGood_113 : decode cX12_isGood 113 = .ok (.goto 4, 3) := by decide +kernel
theorem dX12_isGood_116 : decode cX12_isGood 116 = .ok (.iconst 0, 1) := by decide +kernel
theorem dX12_isGood_117 : decode cX12_isGood 117 = .ok (.ireturn, 1) := by decide +kernel
theorem dX12_isGood_118 : decode cX12_isGood 118 = .ok (.iload_n 2, 1) := by decide +kernel
theorem dX12_isGood_119 : decode cX12_isGood 119 = .ok (.iconst 0, 1) := by decide +kernel
theorem dX12_isGood_120 : decode cX12_isGood 120 = .ok (.bipush 9, 2) := by decide +kernel
theorem dX12_isGood_122 : decode cX12_isGood 122 = .ok (.invokestatic 56, 3) := by decide +kernel
theorem dX12_isGood_125 : decode cX12_isGood 125 = .ok (.ifCond .eq 29, 3) := by decide +kernel
theorem dX12_isGood_128 : decode cX12_isGood 128 = .ok (.aload_n 0, 1) := by decide +kernel
theorem dX12_isGood_129 : decode cX12_isGood 129 = .ok (.iload_n 1, 1) := by decide +kernel
theorem dX12_isGood_130 : decode cX12_isGood 130 = .ok (.iconst 2, 1) := by decide +kernel
theorem dX12_isGood_131 : decode cX12_isGood 131 = .ok (.isub, 1) := by decide +kernel
theorem dX12_isGood_132 : decode cX12_isGood 132 = .ok (.invokevirtual 64, 3) := by decide +kernel
theorem dX12_isGood_135 : decode cX12_isGood 135 = .ok (.aload_n 0, 1) := by decide +kernel
theorem dX12_isGood_136 : decode cX12_isGood 136 = .ok (.iload_n 1, 1) := by decide +kernel
theorem dX12_isGood_137 : decode cX12_isGood 137 = .ok (.iconst 1, 1) := by decide +kernel
theorem dX12_isGood_138 : decode cX12_isGood 138 = .ok (.isub, 1) := by decide +kernel
theorem dX12_isGood_139 : decode cX12_isGood 139 = .ok (.invokevirtual 64, 3) := by decide +kernel
theorem dX12_isGood_142 : decode cX12_isGood 142 = .ok (.iadd, 1) := by decide +kernel
theorem dX12_isGood_143 : decode cX12_isGood 143 = .ok (.iload_n 2, 1) := by decide +kernel
theorem dX12_isGood_144 : decode cX12_isGood 144 = .ok (.iadd, 1) := by decide +kernel
theorem dX12_isGood_145 : decode cX12_isGood 145 = .ok (.bipush 10, 2) := by decide +kernel
theorem dX12_isGood_147 : decode cX12_isGood 147 = .ok (.if_icmp .ne 7, 3) := by decide +kernel
theorem dX12_isGood_150 : decode cX12_isGood 150 = .ok (.iconst 1, 1) := by decide +kernel
theorem dX12_isGood_151 : decode cX12_isGood 151 = .ok (.goto 4, 3) := by decide +kernel
theorem dX12_isGood_154 : decode cX12_isGood 154 = .ok (.iconst 0, 1) := by decide +kernel
theorem dX12_isGood_155 : decode cX12_isGood 155 = .ok (.ireturn, 1) := by decide +kernel
theorem dX12_isGood_156 : decode cX12_isGood 156 = .ok (.aload_n 0, 1) := by decide +kernel
theorem dX12_isGood_157 : decode cX12_isGood 157 = .ok (.getfield 34, 3) := by decide +kernel
theorem dX12_isGood_160 : decode cX12_isGood 160 = .ok (.iload_n 1, 1) := by decide +kernel
theorem dX12_isGood_161 : decode cX12_isGood 161 = .ok (.baload, 1) := by decide +kernel
theorem dX12_isGood_162 : decode cX12_isGood 162 = .ok (.iload_n 1, 1) := by decide +kernel
theorem dX12_isGood_163 : decode cX12_isGood 163 = .ok (.bipush 11, 2) := by decide +kernel
theorem dX12_isGood_165 : decode cX12_isGood 165 = .ok (.if_icmp .ne 8, 3) := by decide +kernel
theorem dX12_isGood_168 : decode cX12_isGood 168 = .ok (.bipush 59, 2) := by decide +kernel
theorem dX12_isGood_170 : decode cX12_isGood 170 = .ok (.goto 5, 3) := by decide +kernel
theorem dX12_isGood_173 : decode cX12_isGood 173 = .ok (.bipush 47, 2) := by decide +kernel
theorem dX12_isGood_175 : decode cX12_isGood 175 = .ok (.if_icmp .ne 7, 3) := by decide +kernel
theorem dX12_isGood_178 : decode cX12_isGood 178 = .ok (.iconst 1, 1) := by decide +kernel
theorem dX12_isGood_179 : decode cX12_isGood 179 = .ok (.goto 4, 3) := by decide +kernel
theorem dX12_isGood_182 : decode cX12_isGood 182 = .ok (.iconst 0, 1) := by decide +kernel
theorem dX12_isGood_183 : decode cX12_isGood 183 = .ok (.ireturn, 1) := by decide +kernel
theorem dX12_faultNow_0 : decode cX12_faultNow 0 = .ok (.iconst 0, 1) := by decide +kernel
theorem dX12_faultNow_1 : decode cX12_faultNow 1 = .ok (.istore_n 1, 1) := by decide +kernel
theorem dX12_faultNow_2 : decode cX12_faultNow 2 = .ok (.iload_n 1, 1) := by decide +kernel
theorem dX12_faultNow_3 : decode cX12_faultNow 3 = .ok (.aload_n 0, 1) := by decide +kernel
theorem dX12_faultNow_4 : decode cX12_faultNow 4 = .ok (.getfield 60, 3) := by decide +kernel
theorem dX12_faultNow_7 : decode cX12_faultNow 7 = .ok (.if_icmp .ge 17, 3) := by decide +kernel
theorem dX12_faultNow_10 : decode cX12_faultNow 10 = .ok (.aload_n 0, 1) := by decide +kernel
theorem dX12_faultNow_11 : decode cX12_faultNow 11 = .ok (.iload_n 1, 1) := by decide +kernel
theorem dX12_faultNow_12 : decode cX12_faultNow 12 = .ok (.invokevirtual 68, 3) := by decide +kernel
theorem dX12_faultNow_15 : decode cX12_faultNow 15 = .ok (.ifCond .eq 9, 3) := by decide +kernel
theorem dX12_faultNow_18 : decode cX12_faultNow 18 = .ok (.iinc 1 1, 3) := by decide +kernel
theorem dX12_faultNow_21 : decode cX12_faultNow 21 = .ok (.goto (-19), 3) := by decide +kernel
theorem dX12_faultNow_24 : decode cX12_faultNow 24 = .ok (.iload_n 1, 1) := by decide +kernel
theorem dX12_faultNow_25 : decode cX12_faultNow 25 = .ok (.ireturn, 1) := by decide +kernel
theorem dX12_fault_0 : decode cX12_fault 0 = .ok (.aload_n 0, 1) := by decide +kernel
theorem dX12_fault_1 : decode cX12_fault 1 = .ok (.invokevirtual 72, 3) := by decide +kernel
theorem dX12_fault_4 : decode cX12_fault 4 = .ok (.ireturn, 1) := by decide +kernel
theorem dX12_station_0 : decode cX12_station 0 = .ok (.aload_n 0, 1) := by decide +kernel
theorem dX12_station_1 : decode cX12_station 1 = .ok (.invokevirtual 72, 3) := by decide +kernel
theorem dX12_station_4 : decode cX12_station 4 = .ok (.aload_n 0, 1) := by decide +kernel
theorem dX12_station_5 : decode cX12_station 5 = .ok (.getfield 60, 3) := by decide +kernel
theorem dX12_station_8 : decode cX12_station 8 = .ok (.if_icmp .ne 12, 3) := by decide +kernel
theorem dX12_station_11 : decode cX12_station 11 = .ok (.aload_n 0, 1) := by decide +kernel
theorem dX12_station_12 : decode cX12_station 12 = .ok (.getfield 60, 3) := by decide +kernel
theorem dX12_station_15 : decode cX12_station 15 = .ok (.bipush 14, 2) := by decide +kernel
theorem dX12_station_17 : decode cX12_station 17 = .ok (.if_icmp .eq 6, 3) := by decide +kernel
theorem dX12_station_20 : decode cX12_station 20 = .ok (.bipush (-103), 2) := by decide +kernel
theorem dX12_station_22 : decode cX12_station 22 = .ok (.ireturn, 1) := by decide +kernel
theorem dX12_station_23 : decode cX12_station 23 = .ok (.iconst 0, 1) := by decide +kernel
theorem dX12_station_24 : decode cX12_station 24 = .ok (.istore_n 1, 1) := by decide +kernel
theorem dX12_station_25 : decode cX12_station 25 = .ok (.iload_n 1, 1) := by decide +kernel
theorem dX12_station_26 : decode cX12_station 26 = .ok (.iconst 3, 1) := by decide +kernel
theorem dX12_station_27 : decode cX12_station 27 = .ok (.if_icmp .ge 41, 3) := by decide +kernel
theorem dX12_station_30 : decode cX12_station 30 = .ok (.iconst 0, 1) := by decide +kernel
theorem dX12_station_31 : decode cX12_station 31 = .ok (.istore_n 2, 1) := by decide +kernel
theorem dX12_station_32 : decode cX12_station 32 = .ok (.iload_n 2, 1) := by decide +kernel
theorem dX12_station_33 : decode cX12_station 33 = .ok (.iconst 3, 1) := by decide +kernel
theorem dX12_station_34 : decode cX12_station 34 = .ok (.if_icmp .ge 28, 3) := by decide +kernel
theorem dX12_station_37 : decode cX12_station 37 = .ok (.aload_n 0, 1) := by decide +kernel
theorem dX12_station_38 : decode cX12_station 38 = .ok (.getfield 7, 3) := by decide +kernel
theorem dX12_station_41 : decode cX12_station 41 = .ok (.iconst 3, 1) := by decide +kernel
theorem dX12_station_42 : decode cX12_station 42 = .ok (.iload_n 1, 1) := by decide +kernel
theorem dX12_station_43 : decode cX12_station 43 = .ok (.imul, 1) := by decide +kernel
theorem dX12_station_44 : decode cX12_station 44 = .ok (.iload_n 2, 1) := by decide +kernel
theorem dX12_station_45 : decode cX12_station 45 = .ok (.iadd, 1) := by decide +kernel
theorem dX12_station_46 : decode cX12_station 46 = .ok (.aload_n 0, 1) := by decide +kernel
theorem dX12_station_47 : decode cX12_station 47 = .ok (.iconst 4, 1) := by decide +kernel
theorem dX12_station_48 : decode cX12_station 48 = .ok (.iload_n 1, 1) := by decide +kernel
theorem dX12_station_49 : decode cX12_station 49 = .ok (.imul, 1) := by decide +kernel
theorem dX12_station_50 : decode cX12_station 50 = .ok (.iload_n 2, 1) := by decide +kernel
theorem dX12_station_51 : decode cX12_station 51 = .ok (.iadd, 1) := by decide +kernel
theorem dX12_station_52 : decode cX12_station 52 = .ok (.invokevirtual 64, 3) := by decide +kernel
theorem dX12_station_55 : decode cX12_station 55 = .ok (.iastore, 1) := by decide +kernel
theorem dX12_station_56 : decode cX12_station 56 = .ok (.iinc 2 1, 3) := by decide +kernel
theorem dX12_station_59 : decode cX12_station 59 = .ok (.goto (-27), 3) := by decide +kernel
theorem dX12_station_62 : decode cX12_station 62 = .ok (.iinc 1 1, 3) := by decide +kernel
theorem dX12_station_65 : decode cX12_station 65 = .ok (.goto (-40), 3) := by decide +kernel
theorem dX12_station_68 : decode cX12_station 68 = .ok (.aload_n 0, 1) := by decide +kernel
theorem dX12_station_69 : decode cX12_station 69 = .ok (.aload_n 0, 1) := by decide +kernel
theorem dX12_station_70 : decode cX12_station 70 = .ok (.bipush 12, 2) := by decide +kernel
theorem dX12_station_72 : decode cX12_station 72 = .ok (.invokevirtual 64, 3) := by decide +kernel
theorem dX12_station_75 : decode cX12_station 75 = .ok (.putfield 76, 3) := by decide +kernel
theorem dX12_station_78 : decode cX12_station 78 = .ok (.aload_n 0, 1) := by decide +kernel
theorem dX12_station_79 : decode cX12_station 79 = .ok (.aload_n 0, 1) := by decide +kernel
theorem dX12_station_80 : decode cX12_station 80 = .ok (.bipush 13, 2) := by decide +kernel
theorem dX12_station_82 : decode cX12_station 82 = .ok (.invokevirtual 64, 3) := by decide +kernel
theorem dX12_station_85 : decode cX12_station 85 = .ok (.putfield 79, 3) := by decide +kernel
theorem dX12_station_88 : decode cX12_station 88 = .ok (.aload_n 0, 1) := by decide +kernel
theorem dX12_station_89 : decode cX12_station 89 = .ok (.iconst 1, 1) := by decide +kernel
theorem dX12_station_90 : decode cX12_station 90 = .ok (.putfield 82, 3) := by decide +kernel
theorem dX12_station_93 : decode cX12_station 93 = .ok (.aload_n 0, 1) := by decide +kernel
theorem dX12_station_94 : decode cX12_station 94 = .ok (.dup, 1) := by decide +kernel
theorem dX12_station_95 : decode cX12_station 95 = .ok (.getfield 86, 3) := by decide +kernel
theorem dX12_station_98 : decode cX12_station 98 = .ok (.iconst 1, 1) := by decide +kernel
theorem dX12_station_99 : decode cX12_station 99 = .ok (.iadd, 1) := by decide +kernel
theorem dX12_station_100 : decode cX12_station 100 = .ok (.putfield 86, 3) := by decide +kernel
theorem dX12_station_103 : decode cX12_station 103 = .ok (.aload_n 0, 1) := by decide +kernel
theorem dX12_station_104 : decode cX12_station 104 = .ok (.iconst 0, 1) := by decide +kernel
theorem dX12_station_105 : decode cX12_station 105 = .ok (.putfield 89, 3) := by decide +kernel
theorem dX12_station_108 : decode cX12_station 108 = .ok (.aload_n 0, 1) := by decide +kernel
theorem dX12_station_109 : decode cX12_station 109 = .ok (.iconst 0, 1) := by decide +kernel
theorem dX12_station_110 : decode cX12_station 110 = .ok (.putfield 92, 3) := by decide +kernel
theorem dX12_station_113 : decode cX12_station 113 = .ok (.iconst 0, 1) := by decide +kernel
theorem dX12_station_114 : decode cX12_station 114 = .ok (.istore_n 1, 1) := by decide +kernel
theorem dX12_station_115 : decode cX12_station 115 = .ok (.iload_n 1, 1) := by decide +kernel
theorem dX12_station_116 : decode cX12_station 116 = .ok (.iconst 4, 1) := by decide +kernel
theorem dX12_station_117 : decode cX12_station 117 = .ok (.if_icmp .gt 16, 3) := by decide +kernel
theorem dX12_station_120 : decode cX12_station 120 = .ok (.aload_n 0, 1) := by decide +kernel
theorem dX12_station_121 : decode cX12_station 121 = .ok (.getfield 13, 3) := by decide +kernel
theorem dX12_station_124 : decode cX12_station 124 = .ok (.iload_n 1, 1) := by decide +kernel
theorem dX12_station_125 : decode cX12_station 125 = .ok (.iconst (-1), 1) := by decide +kernel
theorem dX12_station_126 : decode cX12_station 126 = .ok (.iastore, 1) := by decide +kernel
theorem dX12_station_127 : decode cX12_station 127 = .ok (.iinc 1 1, 3) := by decide +kernel
theorem dX12_station_130 : decode cX12_station 130 = .ok (.goto (-15), 3) := by decide +kernel
theorem dX12_station_133 : decode cX12_station 133 = .ok (.aload_n 0, 1) := by decide +kernel
theorem dX12_station_134 : decode cX12_station 134 = .ok (.iconst 0, 1) := by decide +kernel
theorem dX12_station_135 : decode cX12_station 135 = .ok (.putfield 95, 3) := by decide +kernel
theorem dX12_station_138 : decode cX12_station 138 = .ok (.aload_n 0, 1) := by decide +kernel
theorem dX12_station_139 : decode cX12_station 139 = .ok (.iconst 0, 1) := by decide +kernel
theorem dX12_station_140 : decode cX12_station 140 = .ok (.putfield 98, 3) := by decide +kernel
theorem dX12_station_143 : decode cX12_station 143 = .ok (.aload_n 0, 1) := by decide +kernel
theorem dX12_station_144 : decode cX12_station 144 = .ok (.iconst 0, 1) := by decide +kernel
theorem dX12_station_145 : decode cX12_station 145 = .ok (.putfield 60, 3) := by decide +kernel
theorem dX12_station_148 : decode cX12_station 148 = .ok (.aload_n 0, 1) := by decide +kernel
theorem dX12_station_149 : decode cX12_station 149 = .ok (.getfield 76, 3) := by decide +kernel
theorem dX12_station_152 : decode cX12_station 152 = .ok (.ireturn, 1) := by decide +kernel
theorem dX12_follows_0 : decode cX12_follows 0 = .ok (.iload_n 1, 1) := by decide +kernel
theorem dX12_follows_1 : decode cX12_follows 1 = .ok (.invokestatic 101, 3) := by decide +kernel
theorem dX12_follows_4 : decode cX12_follows 4 = .ok (.ifCond .eq 10, 3) := by decide +kernel
theorem dX12_follows_7 : decode cX12_follows 7 = .ok (.iload_n 2, 1) := by decide +kernel
theorem dX12_follows_8 : decode cX12_follows 8 = .ok (.invokestatic 101, 3) := by decide +kernel
theorem dX12_follows_11 : decode cX12_follows 11 = .ok (.ifCond .ne 6, 3) := by decide +kernel
theorem dX12_follows_14 : decode cX12_follows 14 = .ok (.bipush (-101), 2) := by decide +kernel
theorem dX12_follows_16 : decode cX12_follows 16 = .ok (.ireturn, 1) := by decide +kernel
theorem dX12_follows_17 : decode cX12_follows 17 = .ok (.aload_n 0, 1) := by decide +kernel
theorem dX12_follows_18 : decode cX12_follows 18 = .ok (.getfield 82, 3) := by decide +kernel
theorem dX12_follows_21 : decode cX12_follows 21 = .ok (.ifCond .eq 16, 3) := by decide +kernel
theorem dX12_follows_24 : decode cX12_follows 24 = .ok (.aload_n 0, 1) := by decide +kernel
theorem dX12_follows_25 : decode cX12_follows 25 = .ok (.getfield 7, 3) := by decide +kernel
theorem dX12_follows_28 : decode cX12_follows 28 = .ok (.iconst 3, 1) := by decide +kernel
theorem dX12_follows_29 : decode cX12_follows 29 = .ok (.iload_n 1, 1) := by decide +kernel
theorem dX12_follows_30 : decode cX12_follows 30 = .ok (.imul, 1) := by decide +kernel
theorem dX12_follows_31 : decode cX12_follows 31 = .ok (.iload_n 2, 1) := by decide +kernel
theorem dX12_follows_32 : decode cX12_follows 32 = .ok (.iadd, 1) := by decide +kernel
theorem dX12_follows_33 : decode cX12_follows 33 = .ok (.iaload, 1) := by decide +kernel
theorem dX12_follows_34 : decode cX12_follows 34 = .ok (.goto 5, 3) := by decide +kernel
theorem dX12_follows_37 : decode cX12_follows 37 = .ok (.bipush (-103), 2) := by decide +kernel
theorem dX12_follows_39 : decode cX12_follows 39 = .ok (.ireturn, 1) := by decide +kernel
theorem dX12_weatherIn_0 : decode cX12_weatherIn 0 = .ok (.iload_n 0, 1) := by decide +kernel
theorem dX12_weatherIn_1 : decode cX12_weatherIn 1 = .ok (.istore_n 2, 1) := by decide +kernel
theorem dX12_weatherIn_2 : decode cX12_weatherIn 2 = .ok (.iload_n 1, 1) := by decide +kernel
theorem dX12_weatherIn_3 : decode cX12_weatherIn 3 = .ok (.istore_n 3, 1) := by decide +kernel
theorem dX12_weatherIn_4 : decode cX12_weatherIn 4 = .ok (.iload_n 3, 1) := by decide +kernel
theorem dX12_weatherIn_5 : decode cX12_weatherIn 5 = .ok (.bipush 6, 2) := by decide +kernel
theorem dX12_weatherIn_7 : decode cX12_weatherIn 7 = .ok (.if_icmp .ge 13, 3) := by decide +kernel
theorem dX12_weatherIn_10 : decode cX12_weatherIn 10 = .ok (.iload_n 2, 1) := by decide +kernel
theorem dX12_weatherIn_11 : decode cX12_weatherIn 11 = .ok (.iconst 3, 1) := by decide +kernel
theorem dX12_weatherIn_12 : decode cX12_weatherIn 12 = .ok (.idiv, 1) := by decide +kernel
theorem dX12_weatherIn_13 : decode cX12_weatherIn 13 = .ok (.istore_n 2, 1) := by decide +kernel
theorem dX12_weatherIn_14 : decode cX12_weatherIn 14 = .ok (.iinc 3 1, 3) := by decide +kernel
theorem dX12_weatherIn_17 : decode cX12_weatherIn 17 = .ok (.goto (-13), 3) := by decide +kernel
theorem dX12_weatherIn_20 : decode cX12_weatherIn 20 = .ok (.iload_n 2, 1) := by decide +kernel
theorem dX12_weatherIn_21 : decode cX12_weatherIn 21 = .ok (.iconst 3, 1) := by decide +kernel
theorem dX12_weatherIn_22 : decode cX12_weatherIn 22 = .ok (.irem, 1) := by decide +kernel
theorem dX12_weatherIn_23 : decode cX12_weatherIn 23 = .ok (.ireturn, 1) := by decide +kernel
theorem dX12_tells_0 : decode cX12_tells 0 = .ok (.iload_n 1, 1) := by decide +kernel
theorem dX12_tells_1 : decode cX12_tells 1 = .ok (.iload_n 2, 1) := by decide +kernel
theorem dX12_tells_2 : decode cX12_tells 2 = .ok (.if_icmp .ne 13, 3) := by decide +kernel
theorem dX12_tells_5 : decode cX12_tells 5 = .ok (.bipush 10, 2) := by decide +kernel
theorem dX12_tells_7 : decode cX12_tells 7 = .ok (.aload_n 0, 1) := by decide +kernel
theorem dX12_tells_8 : decode cX12_tells 8 = .ok (.getfield 79, 3) := by decide +kernel
theorem dX12_tells_11 : decode cX12_tells 11 = .ok (.isub, 1) := by decide +kernel
theorem dX12_tells_12 : decode cX12_tells 12 = .ok (.goto 20, 3) := by decide +kernel
theorem dX12_tells_15 : decode cX12_tells 15 = .ok (.iload_n 1, 1) := by decide +kernel
theorem dX12_tells_16 : decode cX12_tells 16 = .ok (.iload_n 2, 1) := by decide +kernel
theorem dX12_tells_17 : decode cX12_tells 17 = .ok (.iconst 1, 1) := by decide +kernel
theorem dX12_tells_18 : decode cX12_tells 18 = .ok (.iadd, 1) := by decide +kernel
theorem dX12_tells_19 : decode cX12_tells 19 = .ok (.iconst 3, 1) := by decide +kernel
theorem dX12_tells_20 : decode cX12_tells 20 = .ok (.irem, 1) := by decide +kernel
theorem dX12_tells_21 : decode cX12_tells 21 = .ok (.if_icmp .ne 10, 3) := by decide +kernel
theorem dX12_tells_24 : decode cX12_tells 24 = .ok (.aload_n 0, 1) := by decide +kernel
theorem dX12_tells_25 : decode cX12_tells 25 = .ok (.getfield 79, 3) := by decide +kernel
theorem dX12_tells_28 : decode cX12_tells 28 = .ok (.goto 4, 3) := by decide +kernel
theorem dX12_tells_31 : decode cX12_tells 31 = .ok (.iconst 0, 1) := by decide +kernel
theorem dX12_tells_32 : decode cX12_tells 32 = .ok (.ireturn, 1) := by decide +kernel
theorem dX12_oddsOf_0 : decode cX12_oddsOf 0 = .ok (.lconst 1, 1) := by decide +kernel
theorem dX12_oddsOf_1 : decode cX12_oddsOf 1 = .ok (.lstore_n 2, 1) := by decide +kernel
theorem dX12_oddsOf_2 : decode cX12_oddsOf 2 = .ok (.aload_n 0, 1) := by decide +kernel
theorem dX12_oddsOf_3 : decode cX12_oddsOf 3 = .ok (.getfield 92, 3) := by decide +kernel
theorem dX12_oddsOf_6 : decode cX12_oddsOf 6 = .ok (.istore 4, 2) := by decide +kernel
theorem dX12_oddsOf_8 : decode cX12_oddsOf 8 = .ok (.iconst 1, 1) := by decide +kernel
theorem dX12_oddsOf_9 : decode cX12_oddsOf 9 = .ok (.istore 5, 2) := by decide +kernel
theorem dX12_oddsOf_11 : decode cX12_oddsOf 11 = .ok (.iload 5, 2) := by decide +kernel
theorem dX12_oddsOf_13 : decode cX12_oddsOf 13 = .ok (.bipush 6, 2) := by decide +kernel
theorem dX12_oddsOf_15 : decode cX12_oddsOf 15 = .ok (.if_icmp .gt 75, 3) := by decide +kernel
theorem dX12_oddsOf_18 : decode cX12_oddsOf 18 = .ok (.iload_n 1, 1) := by decide +kernel
theorem dX12_oddsOf_19 : decode cX12_oddsOf 19 = .ok (.iload 5, 2) := by decide +kernel
theorem dX12_oddsOf_21 : decode cX12_oddsOf 21 = .ok (.invokestatic 104, 3) := by decide +kernel
theorem dX12_oddsOf_24 : decode cX12_oddsOf 24 = .ok (.istore 6, 2) := by decide +kernel
theorem dX12_oddsOf_26 : decode cX12_oddsOf 26 = .ok (.lload_n 2, 1) := by decide +kernel
theorem dX12_oddsOf_27 : decode cX12_oddsOf 27 = .ok (.aload_n 0, 1) := by decide +kernel
theorem dX12_oddsOf_28 : decode cX12_oddsOf 28 = .ok (.getfield 7, 3) := by decide +kernel
theorem dX12_oddsOf_31 : decode cX12_oddsOf 31 = .ok (.iconst 3, 1) := by decide +kernel
theorem dX12_oddsOf_32 : decode cX12_oddsOf 32 = .ok (.iload 4, 2) := by decide +kernel
theorem dX12_oddsOf_34 : decode cX12_oddsOf 34 = .ok (.imul, 1) := by decide +kernel
theorem dX12_oddsOf_35 : decode cX12_oddsOf 35 = .ok (.iload 6, 2) := by decide +kernel
theorem dX12_oddsOf_37 : decode cX12_oddsOf 37 = .ok (.iadd, 1) := by decide +kernel
theorem dX12_oddsOf_38 : decode cX12_oddsOf 38 = .ok (.iaload, 1) := by decide +kernel
theorem dX12_oddsOf_39 : decode cX12_oddsOf 39 = .ok (.i2l, 1) := by decide +kernel
theorem dX12_oddsOf_40 : decode cX12_oddsOf 40 = .ok (.lmul, 1) := by decide +kernel
theorem dX12_oddsOf_41 : decode cX12_oddsOf 41 = .ok (.lstore_n 2, 1) := by decide +kernel
theorem dX12_oddsOf_42 : decode cX12_oddsOf 42 = .ok (.lload_n 2, 1) := by decide +kernel
theorem dX12_oddsOf_43 : decode cX12_oddsOf 43 = .ok (.iload 5, 2) := by decide +kernel
theorem dX12_oddsOf_45 : decode cX12_oddsOf 45 = .ok (.iconst 4, 1) := by decide +kernel
theorem dX12_oddsOf_46 : decode cX12_oddsOf 46 = .ok (.if_icmp .gt 31, 3) := by decide +kernel
theorem dX12_oddsOf_49 : decode cX12_oddsOf 49 = .ok (.aload_n 0, 1) := by decide +kernel
theorem dX12_oddsOf_50 : decode cX12_oddsOf 50 = .ok (.getfield 13, 3) := by decide +kernel
theorem dX12_oddsOf_53 : decode cX12_oddsOf 53 = .ok (.iload 5, 2) := by decide +kernel
theorem dX12_oddsOf_55 : decode cX12_oddsOf 55 = .ok (.iaload, 1) := by decide +kernel
theorem dX12_oddsOf_56 : decode cX12_oddsOf 56 = .ok (.iconst (-1), 1) := by decide +kernel
theorem dX12_oddsOf_57 : decode cX12_oddsOf 57 = .ok (.if_icmp .eq 20, 3) := by decide +kernel
theorem dX12_oddsOf_60 : decode cX12_oddsOf 60 = .ok (.aload_n 0, 1) := by decide +kernel
theorem dX12_oddsOf_61 : decode cX12_oddsOf 61 = .ok (.aload_n 0, 1) := by decide +kernel
theorem dX12_oddsOf_62 : decode cX12_oddsOf 62 = .ok (.getfield 13, 3) := by decide +kernel
theorem dX12_oddsOf_65 : decode cX12_oddsOf 65 = .ok (.iload 5, 2) := by decide +kernel
theorem dX12_oddsOf_67 : decode cX12_oddsOf 67 = .ok (.iaload, 1) := by decide +kernel
theorem dX12_oddsOf_68 : decode cX12_oddsOf 68 = .ok (.iload 6, 2) := by decide +kernel
theorem dX12_oddsOf_70 : decode cX12_oddsOf 70 = .ok (.invokevirtual 108, 3) := by decide +kernel
theorem dX12_oddsOf_73 : decode cX12_oddsOf 73 = .ok (.i2l, 1) := by decide +kernel
theorem dX12_oddsOf_74 : decode cX12_oddsOf 74 = .ok (.goto 4, 3) := by decide +kernel
theorem dX12_oddsOf_77 : decode cX12_oddsOf 77 = .ok (.lconst 1, 1) := by decide +kernel
theorem dX12_oddsOf_78 : decode cX12_oddsOf 78 = .ok (.lmul, 1) := by decide +kernel
theorem dX12_oddsOf_79 : decode cX12_oddsOf 79 = .ok (.lstore_n 2, 1) := by decide +kernel
theorem dX12_oddsOf_80 : decode cX12_oddsOf 80 = .ok (.iload 6, 2) := by decide +kernel
theorem dX12_oddsOf_82 : decode cX12_oddsOf 82 = .ok (.istore 4, 2) := by decide +kernel
theorem dX12_oddsOf_84 : decode cX12_oddsOf 84 = .ok (.iinc 5 1, 3) := by decide +kernel
theorem dX12_oddsOf_87 : decode cX12_oddsOf 87 = .ok (.goto (-76), 3) := by decide +kernel
theorem dX12_oddsOf_90 : decode cX12_oddsOf 90 = .ok (.lload_n 2, 1) := by decide +kernel
theorem dX12_oddsOf_91 : decode cX12_oddsOf 91 = .ok (.lreturn, 1) := by decide +kernel
theorem dX12_weightOf_0 : decode cX12_weightOf 0 = .ok (.lconst 0, 1) := by decide +kernel
theorem dX12_weightOf_1 : decode cX12_weightOf 1 = .ok (.lstore_n 3, 1) := by decide +kernel
theorem dX12_weightOf_2 : decode cX12_weightOf 2 = .ok (.iconst 0, 1) := by decide +kernel
theorem dX12_weightOf_3 : decode cX12_weightOf 3 = .ok (.istore 5, 2) := by decide +kernel
theorem dX12_weightOf_5 : decode cX12_weightOf 5 = .ok (.iload 5, 2) := by decide +kernel
theorem dX12_weightOf_7 : decode cX12_weightOf 7 = .ok (.sipush 729, 3) := by decide +kernel
theorem dX12_weightOf_10 : decode cX12_weightOf 10 = .ok (.if_icmp .ge 37, 3) := by decide +kernel
theorem dX12_weightOf_13 : decode cX12_weightOf 13 = .ok (.lload_n 3, 1) := by decide +kernel
theorem dX12_weightOf_14 : decode cX12_weightOf 14 = .ok (.iload_n 2, 1) := by decide +kernel
theorem dX12_weightOf_15 : decode cX12_weightOf 15 = .ok (.iconst (-1), 1) := by decide +kernel
theorem dX12_weightOf_16 : decode cX12_weightOf 16 = .ok (.if_icmp .eq 13, 3) := by decide +kernel
theorem dX12_weightOf_19 : decode cX12_weightOf 19 = .ok (.iload 5, 2) := by decide +kernel
theorem dX12_weightOf_21 : decode cX12_weightOf 21 = .ok (.iload_n 1, 1) := by decide +kernel
theorem dX12_weightOf_22 : decode cX12_weightOf 22 = .ok (.invokestatic 104, 3) := by decide +kernel
theorem dX12_weightOf_25 : decode cX12_weightOf 25 = .ok (.iload_n 2, 1) := by decide +kernel
theorem dX12_weightOf_26 : decode cX12_weightOf 26 = .ok (.if_icmp .ne 12, 3) := by decide +kernel
theorem dX12_weightOf_29 : decode cX12_weightOf 29 = .ok (.aload_n 0, 1) := by decide +kernel
theorem dX12_weightOf_30 : decode cX12_weightOf 30 = .ok (.iload 5, 2) := by decide +kernel
theorem dX12_weightOf_32 : decode cX12_weightOf 32 = .ok (.invokevirtual 111, 3) := by decide +kernel
theorem dX12_weightOf_35 : decode cX12_weightOf 35 = .ok (.goto 4, 3) := by decide +kernel
theorem dX12_weightOf_38 : decode cX12_weightOf 38 = .ok (.lconst 0, 1) := by decide +kernel
theorem dX12_weightOf_39 : decode cX12_weightOf 39 = .ok (.ladd, 1) := by decide +kernel
theorem dX12_weightOf_40 : decode cX12_weightOf 40 = .ok (.lstore_n 3, 1) := by decide +kernel
theorem dX12_weightOf_41 : decode cX12_weightOf 41 = .ok (.iinc 5 1, 3) := by decide +kernel
theorem dX12_weightOf_44 : decode cX12_weightOf 44 = .ok (.goto (-39), 3) := by decide +kernel
theorem dX12_weightOf_47 : decode cX12_weightOf 47 = .ok (.lload_n 3, 1) := by decide +kernel
theorem dX12_weightOf_48 : decode cX12_weightOf 48 = .ok (.lreturn, 1) := by decide +kernel
theorem dX12_toldMany_0 : decode cX12_toldMany 0 = .ok (.iconst 0, 1) := by decide +kernel
theorem dX12_toldMany_1 : decode cX12_toldMany 1 = .ok (.istore_n 1, 1) := by decide +kernel
theorem dX12_toldMany_2 : decode cX12_toldMany 2 = .ok (.iconst 1, 1) := by decide +kernel
theorem dX12_toldMany_3 : decode cX12_toldMany 3 = .ok (.istore_n 2, 1) := by decide +kernel
theorem dX12_toldMany_4 : decode cX12_toldMany 4 = .ok (.iload_n 2, 1) := by decide +kernel
theorem dX12_toldMany_5 : decode cX12_toldMany 5 = .ok (.iconst 4, 1) := by decide +kernel
theorem dX12_toldMany_6 : decode cX12_toldMany 6 = .ok (.if_icmp .gt 27, 3) := by decide +kernel
theorem dX12_toldMany_9 : decode cX12_toldMany 9 = .ok (.iload_n 1, 1) := by decide +kernel
theorem dX12_toldMany_10 : decode cX12_toldMany 10 = .ok (.aload_n 0, 1) := by decide +kernel
theorem dX12_toldMany_11 : decode cX12_toldMany 11 = .ok (.getfield 13, 3) := by decide +kernel
theorem dX12_toldMany_14 : decode cX12_toldMany 14 = .ok (.iload_n 2, 1) := by decide +kernel
theorem dX12_toldMany_15 : decode cX12_toldMany 15 = .ok (.iaload, 1) := by decide +kernel
theorem dX12_toldMany_16 : decode cX12_toldMany 16 = .ok (.iconst (-1), 1) := by decide +kernel
theorem dX12_toldMany_17 : decode cX12_toldMany 17 = .ok (.if_icmp .ne 7, 3) := by decide +kernel
theorem dX12_toldMany_20 : decode cX12_toldMany 20 = .ok (.iconst 0, 1) := by decide +kernel
theorem dX12_toldMany_21 : decode cX12_toldMany 21 = .ok (.goto 4, 3) := by decide +kernel
theorem dX12_toldMany_24 : decode cX12_toldMany 24 = .ok (.iconst 1, 1) := by decide +kernel
theorem dX12_toldMany_25 : decode cX12_toldMany 25 = .ok (.iadd, 1) := by decide +kernel
theorem dX12_toldMany_26 : decode cX12_toldMany 26 = .ok (.istore_n 1, 1) := by decide +kernel
theorem dX12_toldMany_27 : decode cX12_toldMany 27 = .ok (.iinc 2 1, 3) := by decide +kernel
theorem dX12_toldMany_30 : decode cX12_toldMany 30 = .ok (.goto (-26), 3) := by decide +kernel
theorem dX12_toldMany_33 : decode cX12_toldMany 33 = .ok (.iload_n 1, 1) := by decide +kernel
theorem dX12_toldMany_34 : decode cX12_toldMany 34 = .ok (.ireturn, 1) := by decide +kernel
theorem dX12_reading_0 : decode cX12_reading 0 = .ok (.iload_n 1, 1) := by decide +kernel
theorem dX12_reading_1 : decode cX12_reading 1 = .ok (.invokestatic 101, 3) := by decide +kernel
theorem dX12_reading_4 : decode cX12_reading 4 = .ok (.ifCond .ne 6, 3) := by decide +kernel
theorem dX12_reading_7 : decode cX12_reading 7 = .ok (.bipush (-101), 2) := by decide +kernel
theorem dX12_reading_9 : decode cX12_reading 9 = .ok (.ireturn, 1) := by decide +kernel
theorem dX12_reading_10 : decode cX12_reading 10 = .ok (.aload_n 0, 1) := by decide +kernel
theorem dX12_reading_11 : decode cX12_reading 11 = .ok (.getfield 82, 3) := by decide +kernel
theorem dX12_reading_14 : decode cX12_reading 14 = .ok (.ifCond .ne 6, 3) := by decide +kernel
theorem dX12_reading_17 : decode cX12_reading 17 = .ok (.bipush (-103), 2) := by decide +kernel
theorem dX12_reading_19 : decode cX12_reading 19 = .ok (.ireturn, 1) := by decide +kernel
theorem dX12_reading_20 : decode cX12_reading 20 = .ok (.aload_n 0, 1) := by decide +kernel
theorem dX12_reading_21 : decode cX12_reading 21 = .ok (.getfield 13, 3) := by decide +kernel
theorem dX12_reading_24 : decode cX12_reading 24 = .ok (.aload_n 0, 1) := by decide +kernel
theorem dX12_reading_25 : decode cX12_reading 25 = .ok (.getfield 76, 3) := by decide +kernel
theorem dX12_reading_28 : decode cX12_reading 28 = .ok (.iaload, 1) := by decide +kernel
theorem dX12_reading_29 : decode cX12_reading 29 = .ok (.istore_n 2, 1) := by decide +kernel
theorem dX12_reading_30 : decode cX12_reading 30 = .ok (.aload_n 0, 1) := by decide +kernel
theorem dX12_reading_31 : decode cX12_reading 31 = .ok (.getfield 13, 3) := by decide +kernel
theorem dX12_reading_34 : decode cX12_reading 34 = .ok (.aload_n 0, 1) := by decide +kernel
theorem dX12_reading_35 : decode cX12_reading 35 = .ok (.getfield 76, 3) := by decide +kernel
theorem dX12_reading_38 : decode cX12_reading 38 = .ok (.iload_n 1, 1) := by decide +kernel
theorem dX12_reading_39 : decode cX12_reading 39 = .ok (.iastore, 1) := by decide +kernel
theorem dX12_reading_40 : decode cX12_reading 40 = .ok (.aload_n 0, 1) := by decide +kernel
theorem dX12_reading_41 : decode cX12_reading 41 = .ok (.iconst 1, 1) := by decide +kernel
theorem dX12_reading_42 : decode cX12_reading 42 = .ok (.iconst (-1), 1) := by decide +kernel
theorem dX12_reading_43 : decode cX12_reading 43 = .ok (.invokevirtual 115, 3) := by decide +kernel
theorem dX12_reading_46 : decode cX12_reading 46 = .ok (.lconst 0, 1) := by decide +kernel
theorem dX12_reading_47 : decode cX12_reading 47 = .ok (.lcmp, 1) := by decide +kernel
theorem dX12_reading_48 : decode cX12_reading 48 = .ok (.ifCond .ne 16, 3) := by decide +kernel
theorem dX12_reading_51 : decode cX12_reading 51 = .ok (.aload_n 0, 1) := by decide +kernel
theorem dX12_reading_52 : decode cX12_reading 52 = .ok (.getfield 13, 3) := by decide +kernel
theorem dX12_reading_55 : decode cX12_reading 55 = .ok (.aload_n 0, 1) := by decide +kernel
theorem dX12_reading_56 : decode cX12_reading 56 = .ok (.getfield 76, 3) := by decide +kernel
theorem dX12_reading_59 : decode cX12_reading 59 = .ok (.iload_n 2, 1) := by decide +kernel
theorem dX12_reading_60 : decode cX12_reading 60 = .ok (.iastore, 1) := by decide +kernel
theorem dX12_reading_61 : decode cX12_reading 61 = .ok (.bipush (-103), 2) := by decide +kernel
theorem dX12_reading_63 : decode cX12_reading 63 = .ok (.ireturn, 1) := by decide +kernel
theorem dX12_reading_64 : decode cX12_reading 64 = .ok (.aload_n 0, 1) := by decide +kernel
theorem dX12_reading_65 : decode cX12_reading 65 = .ok (.invokevirtual 119, 3) := by decide +kernel
theorem dX12_reading_68 : decode cX12_reading 68 = .ok (.ireturn, 1) := by decide +kernel
theorem dX12_told_0 : decode cX12_told 0 = .ok (.iload_n 1, 1) := by decide +kernel
theorem dX12_told_1 : decode cX12_told 1 = .ok (.iconst 1, 1) := by decide +kernel
theorem dX12_told_2 : decode cX12_told 2 = .ok (.iconst 4, 1) := by decide +kernel
theorem dX12_told_3 : decode cX12_told 3 = .ok (.invokestatic 56, 3) := by decide +kernel
theorem dX12_told_6 : decode cX12_told 6 = .ok (.ifCond .ne 6, 3) := by decide +kernel
theorem dX12_told_9 : decode cX12_told 9 = .ok (.bipush (-101), 2) := by decide +kernel
theorem dX12_told_11 : decode cX12_told 11 = .ok (.ireturn, 1) := by decide +kernel
theorem dX12_told_12 : decode cX12_told 12 = .ok (.aload_n 0, 1) := by decide +kernel
theorem dX12_told_13 : decode cX12_told 13 = .ok (.getfield 82, 3) := by decide +kernel
theorem dX12_told_16 : decode cX12_told 16 = .ok (.ifCond .eq 12, 3) := by decide +kernel
theorem dX12_told_19 : decode cX12_told 19 = .ok (.aload_n 0, 1) := by decide +kernel
theorem dX12_told_20 : decode cX12_told 20 = .ok (.getfield 13, 3) := by decide +kernel
theorem dX12_told_23 : decode cX12_told 23 = .ok (.iload_n 1, 1) := by decide +kernel
theorem dX12_told_24 : decode cX12_told 24 = .ok (.iaload, 1) := by decide +kernel
theorem dX12_told_25 : decode cX12_told 25 = .ok (.goto 5, 3) := by decide +kernel
theorem dX12_told_28 : decode cX12_told 28 = .ok (.bipush (-103), 2) := by decide +kernel
theorem dX12_told_30 : decode cX12_told 30 = .ok (.ireturn, 1) := by decide +kernel
theorem dX12_covers_0 : decode cX12_covers 0 = .ok (.aload_n 0, 1) := by decide +kernel
theorem dX12_covers_1 : decode cX12_covers 1 = .ok (.getfield 13, 3) := by decide +kernel
theorem dX12_covers_4 : decode cX12_covers 4 = .ok (.iconst 1, 1) := by decide +kernel
theorem dX12_covers_5 : decode cX12_covers 5 = .ok (.iaload, 1) := by decide +kernel
theorem dX12_covers_6 : decode cX12_covers 6 = .ok (.istore_n 2, 1) := by decide +kernel
theorem dX12_covers_7 : decode cX12_covers 7 = .ok (.aload_n 0, 1) := by decide +kernel
theorem dX12_covers_8 : decode cX12_covers 8 = .ok (.getfield 16, 3) := by decide +kernel
theorem dX12_covers_11 : decode cX12_covers 11 = .ok (.iload_n 1, 1) := by decide +kernel
theorem dX12_covers_12 : decode cX12_covers 12 = .ok (.iaload, 1) := by decide +kernel
theorem dX12_covers_13 : decode cX12_covers 13 = .ok (.tableswitch 118 1 4 #[31, 69, 91, 102], 31) := by decide +kernel
theorem dX12_covers_44 : decode cX12_covers 44 = .ok (.aload_n 0, 1) := by decide +kernel
theorem dX12_covers_45 : decode cX12_covers 45 = .ok (.getfield 22, 3) := by decide +kernel
theorem dX12_covers_48 : decode cX12_covers 48 = .ok (.iload_n 1, 1) := by decide +kernel
theorem dX12_covers_49 : decode cX12_covers 49 = .ok (.iaload, 1) := by decide +kernel
theorem dX12_covers_50 : decode cX12_covers 50 = .ok (.i2l, 1) := by decide +kernel
theorem dX12_covers_51 : decode cX12_covers 51 = .ok (.aload_n 0, 1) := by decide +kernel
theorem dX12_covers_52 : decode cX12_covers 52 = .ok (.iconst 1, 1) := by decide +kernel
theorem dX12_covers_53 : decode cX12_covers 53 = .ok (.iconst 1, 1) := by decide +kernel
theorem dX12_covers_54 : decode cX12_covers 54 = .ok (.invokevirtual 115, 3) := by decide +kernel
theorem dX12_covers_57 : decode cX12_covers 57 = .ok (.lmul, 1) := by decide +kernel
theorem dX12_covers_58 : decode cX12_covers 58 = .ok (.aload_n 0, 1) := by decide +kernel
theorem dX12_covers_59 : decode cX12_covers 59 = .ok (.getfield 19, 3) := by decide +kernel
theorem dX12_covers_62 : decode cX12_covers 62 = .ok (.iload_n 1, 1) := by decide +kernel
theorem dX12_covers_63 : decode cX12_covers 63 = .ok (.iaload, 1) := by decide +kernel
theorem dX12_covers_64 : decode cX12_covers 64 = .ok (.i2l, 1) := by decide +kernel
theorem dX12_covers_65 : decode cX12_covers 65 = .ok (.aload_n 0, 1) := by decide +kernel
theorem dX12_covers_66 : decode cX12_covers 66 = .ok (.iconst 1, 1) := by decide +kernel
theorem dX12_covers_67 : decode cX12_covers 67 = .ok (.iconst (-1), 1) := by decide +kernel
theorem dX12_covers_68 : decode cX12_covers 68 = .ok (.invokevirtual 115, 3) := by decide +kernel
theorem dX12_covers_71 : decode cX12_covers 71 = .ok (.lmul, 1) := by decide +kernel
theorem dX12_covers_72 : decode cX12_covers 72 = .ok (.lcmp, 1) := by decide +kernel
theorem dX12_covers_73 : decode cX12_covers 73 = .ok (.ifCond .le 7, 3) := by decide +kernel
theorem dX12_covers_76 : decode cX12_covers 76 = .ok (.iconst 1, 1) := by decide +kernel
theorem dX12_covers_77 : decode cX12_covers 77 = .ok (.goto 4, 3) := by decide +kernel
theorem dX12_covers_80 : decode cX12_covers 80 = .ok (.iconst 0, 1) := by decide +kernel
theorem dX12_covers_81 : decode cX12_covers 81 = .ok (.ireturn, 1) := by decide +kernel
theorem dX12_covers_82 : decode cX12_covers 82 = .ok (.aload_n 0, 1) := by decide +kernel
theorem dX12_covers_83 : decode cX12_covers 83 = .ok (.iconst 1, 1) := by decide +kernel
theorem dX12_covers_84 : decode cX12_covers 84 = .ok (.iconst 1, 1) := by decide +kernel
theorem dX12_covers_85 : decode cX12_covers 85 = .ok (.invokevirtual 115, 3) := by decide +kernel
theorem dX12_covers_88 : decode cX12_covers 88 = .ok (.aload_n 0, 1) := by decide +kernel
theorem dX12_covers_89 : decode cX12_covers 89 = .ok (.iconst 1, 1) := by decide +kernel
theorem dX12_covers_90 : decode cX12_covers 90 = .ok (.iconst (-1), 1) := by decide +kernel
theorem dX12_covers_91 : decode cX12_covers 91 = .ok (.invokevirtual 115, 3) := by decide +kernel
theorem dX12_covers_94 : decode cX12_covers 94 = .ok (.lcmp, 1) := by decide +kernel
theorem dX12_covers_95 : decode cX12_covers 95 = .ok (.ifCond .ne 7, 3) := by decide +kernel
theorem dX12_covers_98 : decode cX12_covers 98 = .ok (.iconst 1, 1) := by decide +kernel
theorem dX12_covers_99 : decode cX12_covers 99 = .ok (.goto 4, 3) := by decide +kernel
theorem dX12_covers_102 : decode cX12_covers 102 = .ok (.iconst 0, 1) := by decide +kernel
theorem dX12_covers_103 : decode cX12_covers 103 = .ok (.ireturn, 1) := by decide +kernel
theorem dX12_covers_104 : decode cX12_covers 104 = .ok (.iload_n 2, 1) := by decide +kernel
theorem dX12_covers_105 : decode cX12_covers 105 = .ok (.iconst 1, 1) := by decide +kernel
theorem dX12_covers_106 : decode cX12_covers 106 = .ok (.if_icmp .eq 7, 3) := by decide +kernel
theorem dX12_covers_109 : decode cX12_covers 109 = .ok (.iconst 1, 1) := by decide +kernel
theorem dX12_covers_110 : decode cX12_covers 110 = .ok (.goto 4, 3) := by decide +kernel
theorem dX12_covers_113 : decode cX12_covers 113 = .ok (.iconst 0, 1) := by decide +kernel
theorem dX12_covers_114 : decode cX12_covers 114 = .ok (.ireturn, 1) := by decide +kernel
theorem dX12_covers_115 : decode cX12_covers 115 = .ok (.iload_n 2, 1) := by decide +kernel
theorem dX12_covers_116 : decode cX12_covers 116 = .ok (.iconst 1, 1) := by decide +kernel
theorem dX12_covers_117 : decode cX12_covers 117 = .ok (.if_icmp .eq 12, 3) := by decide +kernel
theorem dX12_covers_120 : decode cX12_covers 120 = .ok (.iload_n 2, 1) := by decide +kernel
theorem dX12_covers_121 : decode cX12_covers 121 = .ok (.iconst (-1), 1) := by decide +kernel
theorem dX12_covers_122 : decode cX12_covers 122 = .ok (.if_icmp .eq 7, 3) := by decide +kernel
theorem dX12_covers_125 : decode cX12_covers 125 = .ok (.iconst 1, 1) := by decide +kernel
theorem dX12_covers_126 : decode cX12_covers 126 = .ok (.goto 4, 3) := by decide +kernel
theorem dX12_covers_129 : decode cX12_covers 129 = .ok (.iconst 0, 1) := by decide +kernel
theorem dX12_covers_130 : decode cX12_covers 130 = .ok (.ireturn, 1) := by decide +kernel
theorem dX12_covers_131 : decode cX12_covers 131 = .ok (.iload_n 2, 1) := by decide +kernel
theorem dX12_covers_132 : decode cX12_covers 132 = .ok (.iconst 1, 1) := by decide +kernel
theorem dX12_covers_133 : decode cX12_covers 133 = .ok (.if_icmp .ne 7, 3) := by decide +kernel
theorem dX12_covers_136 : decode cX12_covers 136 = .ok (.iconst 1, 1) := by decide +kernel
theorem dX12_covers_137 : decode cX12_covers 137 = .ok (.goto 4, 3) := by decide +kernel
theorem dX12_covers_140 : decode cX12_covers 140 = .ok (.iconst 0, 1) := by decide +kernel
theorem dX12_covers_141 : decode cX12_covers 141 = .ok (.ireturn, 1) := by decide +kernel
theorem dX12_goDay_0 : decode cX12_goDay 0 = .ok (.iconst 0, 1) := by decide +kernel
theorem dX12_goDay_1 : decode cX12_goDay 1 = .ok (.istore_n 3, 1) := by decide +kernel
theorem dX12_goDay_2 : decode cX12_goDay 2 = .ok (.iconst 0, 1) := by decide +kernel
theorem dX12_goDay_3 : decode cX12_goDay 3 = .ok (.istore 4, 2) := by decide +kernel
theorem dX12_goDay_5 : decode cX12_goDay 5 = .ok (.iload 4, 2) := by decide +kernel
theorem dX12_goDay_7 : decode cX12_goDay 7 = .ok (.aload_n 0, 1) := by decide +kernel
theorem dX12_goDay_8 : decode cX12_goDay 8 = .ok (.getfield 95, 3) := by decide +kernel
theorem dX12_goDay_11 : decode cX12_goDay 11 = .ok (.if_icmp .ge 71, 3) := by decide +kernel
theorem dX12_goDay_14 : decode cX12_goDay 14 = .ok (.aload_n 0, 1) := by decide +kernel
theorem dX12_goDay_15 : decode cX12_goDay 15 = .ok (.iload 4, 2) := by decide +kernel
theorem dX12_goDay_17 : decode cX12_goDay 17 = .ok (.invokevirtual 122, 3) := by decide +kernel
theorem dX12_goDay_20 : decode cX12_goDay 20 = .ok (.ifCond .eq 13, 3) := by decide +kernel
theorem dX12_goDay_23 : decode cX12_goDay 23 = .ok (.aload_n 0, 1) := by decide +kernel
theorem dX12_goDay_24 : decode cX12_goDay 24 = .ok (.getfield 19, 3) := by decide +kernel
theorem dX12_goDay_27 : decode cX12_goDay 27 = .ok (.iload 4, 2) := by decide +kernel
theorem dX12_goDay_29 : decode cX12_goDay 29 = .ok (.iaload, 1) := by decide +kernel
theorem dX12_goDay_30 : decode cX12_goDay 30 = .ok (.goto 19, 3) := by decide +kernel
theorem dX12_goDay_33 : decode cX12_goDay 33 = .ok (.iload_n 1, 1) := by decide +kernel
theorem dX12_goDay_34 : decode cX12_goDay 34 = .ok (.iconst 1, 1) := by decide +kernel
theorem dX12_goDay_35 : decode cX12_goDay 35 = .ok (.if_icmp .ne 13, 3) := by decide +kernel
theorem dX12_goDay_38 : decode cX12_goDay 38 = .ok (.aload_n 0, 1) := by decide +kernel
theorem dX12_goDay_39 : decode cX12_goDay 39 = .ok (.getfield 22, 3) := by decide +kernel
theorem dX12_goDay_42 : decode cX12_goDay 42 = .ok (.iload 4, 2) := by decide +kernel
theorem dX12_goDay_44 : decode cX12_goDay 44 = .ok (.iaload, 1) := by decide +kernel
theorem dX12_goDay_45 : decode cX12_goDay 45 = .ok (.goto 4, 3) := by decide +kernel
theorem dX12_goDay_48 : decode cX12_goDay 48 = .ok (.iconst 0, 1) := by decide +kernel
theorem dX12_goDay_49 : decode cX12_goDay 49 = .ok (.istore 5, 2) := by decide +kernel
theorem dX12_goDay_51 : decode cX12_goDay 51 = .ok (.aload_n 0, 1) := by decide +kernel
theorem dX12_goDay_52 : decode cX12_goDay 52 = .ok (.getfield 25, 3) := by decide +kernel
theorem dX12_goDay_55 : decode cX12_goDay 55 = .ok (.iload 4, 2) := by decide +kernel
theorem dX12_goDay_57 : decode cX12_goDay 57 = .ok (.dup2, 1) := by decide +kernel
theorem dX12_goDay_58 : decode cX12_goDay 58 = .ok (.iaload, 1) := by decide +kernel
theorem dX12_goDay_59 : decode cX12_goDay 59 = .ok (.iload_n 2, 1) := by decide +kernel
theorem dX12_goDay_60 : decode cX12_goDay 60 = .ok (.ifCond .eq 8, 3) := by decide +kernel
theorem dX12_goDay_63 : decode cX12_goDay 63 = .ok (.iload 5, 2) := by decide +kernel
theorem dX12_goDay_65 : decode cX12_goDay 65 = .ok (.goto 4, 3) := by decide +kernel
theorem dX12_goDay_68 : decode cX12_goDay 68 = .ok (.iconst 0, 1) := by decide +kernel
theorem dX12_goDay_69 : decode cX12_goDay 69 = .ok (.iadd, 1) := by decide +kernel
theorem dX12_goDay_70 : decode cX12_goDay 70 = .ok (.iastore, 1) := by decide +kernel
theorem dX12_goDay_71 : decode cX12_goDay 71 = .ok (.iload_n 3, 1) := by decide +kernel
theorem dX12_goDay_72 : decode cX12_goDay 72 = .ok (.iload 5, 2) := by decide +kernel
theorem dX12_goDay_74 : decode cX12_goDay 74 = .ok (.iadd, 1) := by decide +kernel
theorem dX12_goDay_75 : decode cX12_goDay 75 = .ok (.istore_n 3, 1) := by decide +kernel
theorem dX12_goDay_76 : decode cX12_goDay 76 = .ok (.iinc 4 1, 3) := by decide +kernel
theorem dX12_goDay_79 : decode cX12_goDay 79 = .ok (.goto (-74), 3) := by decide +kernel
theorem dX12_goDay_82 : decode cX12_goDay 82 = .ok (.iconst 1, 1) := by decide +kernel
theorem dX12_goDay_83 : decode cX12_goDay 83 = .ok (.istore 4, 2) := by decide +kernel
theorem dX12_goDay_85 : decode cX12_goDay 85 = .ok (.iload 4, 2) := by decide +kernel
theorem dX12_goDay_87 : decode cX12_goDay 87 = .ok (.iconst 4, 1) := by decide +kernel
theorem dX12_goDay_88 : decode cX12_goDay 88 = .ok (.if_icmp .gt 35, 3) := by decide +kernel
theorem dX12_goDay_91 : decode cX12_goDay 91 = .ok (.aload_n 0, 1) := by decide +kernel
theorem dX12_goDay_92 : decode cX12_goDay 92 = .ok (.getfield 13, 3) := by decide +kernel
theorem dX12_goDay_95 : decode cX12_goDay 95 = .ok (.iload 4, 2) := by decide +kernel
theorem dX12_goDay_97 : decode cX12_goDay 97 = .ok (.iload 4, 2) := by decide +kernel
theorem dX12_goDay_99 : decode cX12_goDay 99 = .ok (.iconst 4, 1) := by decide +kernel
theorem dX12_goDay_100 : decode cX12_goDay 100 = .ok (.if_icmp .ne 7, 3) := by decide +kernel
theorem dX12_goDay_103 : decode cX12_goDay 103 = .ok (.iconst (-1), 1) := by decide +kernel
theorem dX12_goDay_104 : decode cX12_goDay 104 = .ok (.goto 12, 3) := by decide +kernel
theorem dX12_goDay_107 : decode cX12_goDay 107 = .ok (.aload_n 0, 1) := by decide +kernel
theorem dX12_goDay_108 : decode cX12_goDay 108 = .ok (.getfield 13, 3) := by decide +kernel
theorem dX12_goDay_111 : decode cX12_goDay 111 = .ok (.iload 4, 2) := by decide +kernel
theorem dX12_goDay_113 : decode cX12_goDay 113 = .ok (.iconst 1, 1) := by decide +kernel
theorem dX12_goDay_114 : decode cX12_goDay 114 = .ok (.iadd, 1) := by decide +kernel
theorem dX12_goDay_115 : decode cX12_goDay 115 = .ok (.iaload, 1) := by decide +kernel
theorem dX12_goDay_116 : decode cX12_goDay 116 = .ok (.iastore, 1) := by decide +kernel
theorem dX12_goDay_117 : decode cX12_goDay 117 = .ok (.iinc 4 1, 3) := by decide +kernel
theorem dX12_goDay_120 : decode cX12_goDay 120 = .ok (.goto (-35), 3) := by decide +kernel
theorem dX12_goDay_123 : decode cX12_goDay 123 = .ok (.aload_n 0, 1) := by decide +kernel
theorem dX12_goDay_124 : decode cX12_goDay 124 = .ok (.iload_n 1, 1) := by decide +kernel
theorem dX12_goDay_125 : decode cX12_goDay 125 = .ok (.putfield 92, 3) := by decide +kernel
theorem dX12_goDay_128 : decode cX12_goDay 128 = .ok (.aload_n 0, 1) := by decide +kernel
theorem dX12_goDay_129 : decode cX12_goDay 129 = .ok (.dup, 1) := by decide +kernel
theorem dX12_goDay_130 : decode cX12_goDay 130 = .ok (.getfield 89, 3) := by decide +kernel
theorem dX12_goDay_133 : decode cX12_goDay 133 = .ok (.iconst 1, 1) := by decide +kernel
theorem dX12_goDay_134 : decode cX12_goDay 134 = .ok (.iadd, 1) := by decide +kernel
theorem dX12_goDay_135 : decode cX12_goDay 135 = .ok (.putfield 89, 3) := by decide +kernel
theorem dX12_goDay_138 : decode cX12_goDay 138 = .ok (.iload_n 3, 1) := by decide +kernel
theorem dX12_goDay_139 : decode cX12_goDay 139 = .ok (.ireturn, 1) := by decide +kernel
theorem dX12_day_0 : decode cX12_day 0 = .ok (.iload_n 1, 1) := by decide +kernel
theorem dX12_day_1 : decode cX12_day 1 = .ok (.invokestatic 101, 3) := by decide +kernel
theorem dX12_day_4 : decode cX12_day 4 = .ok (.ifCond .ne 6, 3) := by decide +kernel
theorem dX12_day_7 : decode cX12_day 7 = .ok (.bipush (-101), 2) := by decide +kernel
theorem dX12_day_9 : decode cX12_day 9 = .ok (.ireturn, 1) := by decide +kernel
theorem dX12_day_10 : decode cX12_day 10 = .ok (.aload_n 0, 1) := by decide +kernel
theorem dX12_day_11 : decode cX12_day 11 = .ok (.getfield 82, 3) := by decide +kernel
theorem dX12_day_14 : decode cX12_day 14 = .ok (.ifCond .eq 14, 3) := by decide +kernel
theorem dX12_day_17 : decode cX12_day 17 = .ok (.aload_n 0, 1) := by decide +kernel
theorem dX12_day_18 : decode cX12_day 18 = .ok (.iconst 1, 1) := by decide +kernel
theorem dX12_day_19 : decode cX12_day 19 = .ok (.iload_n 1, 1) := by decide +kernel
theorem dX12_day_20 : decode cX12_day 20 = .ok (.invokevirtual 115, 3) := by decide +kernel
theorem dX12_day_23 : decode cX12_day 23 = .ok (.lconst 0, 1) := by decide +kernel
theorem dX12_day_24 : decode cX12_day 24 = .ok (.lcmp, 1) := by decide +kernel
theorem dX12_day_25 : decode cX12_day 25 = .ok (.ifCond .ne 6, 3) := by decide +kernel
theorem dX12_day_28 : decode cX12_day 28 = .ok (.bipush (-103), 2) := by decide +kernel
theorem dX12_day_30 : decode cX12_day 30 = .ok (.ireturn, 1) := by decide +kernel
theorem dX12_day_31 : decode cX12_day 31 = .ok (.aload_n 0, 1) := by decide +kernel
theorem dX12_day_32 : decode cX12_day 32 = .ok (.iload_n 1, 1) := by decide +kernel
theorem dX12_day_33 : decode cX12_day 33 = .ok (.iconst 1, 1) := by decide +kernel
theorem dX12_day_34 : decode cX12_day 34 = .ok (.invokevirtual 125, 3) := by decide +kernel
theorem dX12_day_37 : decode cX12_day 37 = .ok (.pop, 1) := by decide +kernel
theorem dX12_day_38 : decode cX12_day 38 = .ok (.aload_n 0, 1) := by decide +kernel
theorem dX12_day_39 : decode cX12_day 39 = .ok (.getfield 89, 3) := by decide +kernel
theorem dX12_day_42 : decode cX12_day 42 = .ok (.ireturn, 1) := by decide +kernel
theorem dX12_isPerson_0 : decode cX12_isPerson 0 = .ok (.iload_n 1, 1) := by decide +kernel
theorem dX12_isPerson_1 : decode cX12_isPerson 1 = .ok (.iconst 0, 1) := by decide +kernel
theorem dX12_isPerson_2 : decode cX12_isPerson 2 = .ok (.aload_n 0, 1) := by decide +kernel
theorem dX12_isPerson_3 : decode cX12_isPerson 3 = .ok (.getfield 95, 3) := by decide +kernel
theorem dX12_isPerson_6 : decode cX12_isPerson 6 = .ok (.iconst 1, 1) := by decide +kernel
theorem dX12_isPerson_7 : decode cX12_isPerson 7 = .ok (.isub, 1) := by decide +kernel
theorem dX12_isPerson_8 : decode cX12_isPerson 8 = .ok (.invokestatic 56, 3) := by decide +kernel
theorem dX12_isPerson_11 : decode cX12_isPerson 11 = .ok (.ireturn, 1) := by decide +kernel
theorem dX12_person_0 : decode cX12_person 0 = .ok (.iload_n 1, 1) := by decide +kernel
theorem dX12_person_1 : decode cX12_person 1 = .ok (.iconst 0, 1) := by decide +kernel
theorem dX12_person_2 : decode cX12_person 2 = .ok (.iconst 4, 1) := by decide +kernel
theorem dX12_person_3 : decode cX12_person 3 = .ok (.invokestatic 56, 3) := by decide +kernel
theorem dX12_person_6 : decode cX12_person 6 = .ok (.ifCond .eq 23, 3) := by decide +kernel
theorem dX12_person_9 : decode cX12_person 9 = .ok (.iload_n 2, 1) := by decide +kernel
theorem dX12_person_10 : decode cX12_person 10 = .ok (.iconst 1, 1) := by decide +kernel
theorem dX12_person_11 : decode cX12_person 11 = .ok (.bipush 9, 2) := by decide +kernel
theorem dX12_person_13 : decode cX12_person 13 = .ok (.invokestatic 56, 3) := by decide +kernel
theorem dX12_person_16 : decode cX12_person 16 = .ok (.ifCond .eq 13, 3) := by decide +kernel
theorem dX12_person_19 : decode cX12_person 19 = .ok (.iload_n 3, 1) := by decide +kernel
theorem dX12_person_20 : decode cX12_person 20 = .ok (.iconst 1, 1) := by decide +kernel
theorem dX12_person_21 : decode cX12_person 21 = .ok (.bipush 9, 2) := by decide +kernel
theorem dX12_person_23 : decode cX12_person 23 = .ok (.invokestatic 56, 3) := by decide +kernel
theorem dX12_person_26 : decode cX12_person 26 = .ok (.ifCond .ne 6, 3) := by decide +kernel
theorem dX12_person_29 : decode cX12_person 29 = .ok (.bipush (-102), 2) := by decide +kernel
theorem dX12_person_31 : decode cX12_person 31 = .ok (.ireturn, 1) := by decide +kernel
theorem dX12_person_32 : decode cX12_person 32 = .ok (.aload_n 0, 1) := by decide +kernel
theorem dX12_person_33 : decode cX12_person 33 = .ok (.getfield 82, 3) := by decide +kernel
theorem dX12_person_36 : decode cX12_person 36 = .ok (.ifCond .ne 6, 3) := by decide +kernel
theorem dX12_person_39 : decode cX12_person 39 = .ok (.bipush (-103), 2) := by decide +kernel
theorem dX12_person_41 : decode cX12_person 41 = .ok (.ireturn, 1) := by decide +kernel
theorem dX12_person_42 : decode cX12_person 42 = .ok (.aload_n 0, 1) := by decide +kernel
theorem dX12_person_43 : decode cX12_person 43 = .ok (.getfield 95, 3) := by decide +kernel
theorem dX12_person_46 : decode cX12_person 46 = .ok (.iconst 4, 1) := by decide +kernel
theorem dX12_person_47 : decode cX12_person 47 = .ok (.if_icmp .ne 6, 3) := by decide +kernel
theorem dX12_person_50 : decode cX12_person 50 = .ok (.bipush (-104), 2) := by decide +kernel
theorem dX12_person_52 : decode cX12_person 52 = .ok (.ireturn, 1) := by decide +kernel
theorem dX12_person_53 : decode cX12_person 53 = .ok (.aload_n 0, 1) := by decide +kernel
theorem dX12_person_54 : decode cX12_person 54 = .ok (.getfield 16, 3) := by decide +kernel
theorem dX12_person_57 : decode cX12_person 57 = .ok (.aload_n 0, 1) := by decide +kernel
theorem dX12_person_58 : decode cX12_person 58 = .ok (.getfield 95, 3) := by decide +kernel
theorem dX12_person_61 : decode cX12_person 61 = .ok (.iload_n 1, 1) := by decide +kernel
theorem dX12_person_62 : decode cX12_person 62 = .ok (.iastore, 1) := by decide +kernel
theorem dX12_person_63 : decode cX12_person 63 = .ok (.aload_n 0, 1) := by decide +kernel
theorem dX12_person_64 : decode cX12_person 64 = .ok (.getfield 19, 3) := by decide +kernel
theorem dX12_person_67 : decode cX12_person 67 = .ok (.aload_n 0, 1) := by decide +kernel
theorem dX12_person_68 : decode cX12_person 68 = .ok (.getfield 95, 3) := by decide +kernel
theorem dX12_person_71 : decode cX12_person 71 = .ok (.iload_n 2, 1) := by decide +kernel
theorem dX12_person_72 : decode cX12_person 72 = .ok (.iastore, 1) := by decide +kernel
theorem dX12_person_73 : decode cX12_person 73 = .ok (.aload_n 0, 1) := by decide +kernel
theorem dX12_person_74 : decode cX12_person 74 = .ok (.getfield 22, 3) := by decide +kernel
theorem dX12_person_77 : decode cX12_person 77 = .ok (.aload_n 0, 1) := by decide +kernel
theorem dX12_person_78 : decode cX12_person 78 = .ok (.getfield 95, 3) := by decide +kernel
theorem dX12_person_81 : decode cX12_person 81 = .ok (.iload_n 3, 1) := by decide +kernel
theorem dX12_person_82 : decode cX12_person 82 = .ok (.iastore, 1) := by decide +kernel
theorem dX12_person_83 : decode cX12_person 83 = .ok (.aload_n 0, 1) := by decide +kernel
theorem dX12_person_84 : decode cX12_person 84 = .ok (.getfield 25, 3) := by decide +kernel
theorem dX12_person_87 : decode cX12_person 87 = .ok (.aload_n 0, 1) := by decide +kernel
theorem dX12_person_88 : decode cX12_person 88 = .ok (.getfield 95, 3) := by decide +kernel
theorem dX12_person_91 : decode cX12_person 91 = .ok (.iconst 0, 1) := by decide +kernel
theorem dX12_person_92 : decode cX12_person 92 = .ok (.iastore, 1) := by decide +kernel
theorem dX12_person_93 : decode cX12_person 93 = .ok (.aload_n 0, 1) := by decide +kernel
theorem dX12_person_94 : decode cX12_person 94 = .ok (.dup, 1) := by decide +kernel
theorem dX12_person_95 : decode cX12_person 95 = .ok (.getfield 95, 3) := by decide +kernel
theorem dX12_person_98 : decode cX12_person 98 = .ok (.iconst 1, 1) := by decide +kernel
theorem dX12_person_99 : decode cX12_person 99 = .ok (.iadd, 1) := by decide +kernel
theorem dX12_person_100 : decode cX12_person 100 = .ok (.putfield 95, 3) := by decide +kernel
theorem dX12_person_103 : decode cX12_person 103 = .ok (.aload_n 0, 1) := by decide +kernel
theorem dX12_person_104 : decode cX12_person 104 = .ok (.getfield 95, 3) := by decide +kernel
theorem dX12_person_107 : decode cX12_person 107 = .ok (.iconst 1, 1) := by decide +kernel
theorem dX12_person_108 : decode cX12_person 108 = .ok (.isub, 1) := by decide +kernel
theorem dX12_person_109 : decode cX12_person 109 = .ok (.ireturn, 1) := by decide +kernel
theorem dX12_personNow_0 : decode cX12_personNow 0 = .ok (.iload_n 2, 1) := by decide +kernel
theorem dX12_personNow_1 : decode cX12_personNow 1 = .ok (.tableswitch 59 0 3 #[31, 38, 45, 52], 31) := by decide +kernel
theorem dX12_personNow_32 : decode cX12_personNow 32 = .ok (.aload_n 0, 1) := by decide +kernel
theorem dX12_personNow_33 : decode cX12_personNow 33 = .ok (.getfield 16, 3) := by decide +kernel
theorem dX12_personNow_36 : decode cX12_personNow 36 = .ok (.iload_n 1, 1) := by decide +kernel
theorem dX12_personNow_37 : decode cX12_personNow 37 = .ok (.iaload, 1) := by decide +kernel
theorem dX12_personNow_38 : decode cX12_personNow 38 = .ok (.ireturn, 1) := by decide +kernel
theorem dX12_personNow_39 : decode cX12_personNow 39 = .ok (.aload_n 0, 1) := by decide +kernel
theorem dX12_personNow_40 : decode cX12_personNow 40 = .ok (.getfield 19, 3) := by decide +kernel
theorem dX12_personNow_43 : decode cX12_personNow 43 = .ok (.iload_n 1, 1) := by decide +kernel
theorem dX12_personNow_44 : decode cX12_personNow 44 = .ok (.iaload, 1) := by decide +kernel
theorem dX12_personNow_45 : decode cX12_personNow 45 = .ok (.ireturn, 1) := by decide +kernel
theorem dX12_personNow_46 : decode cX12_personNow 46 = .ok (.aload_n 0, 1) := by decide +kernel
theorem dX12_personNow_47 : decode cX12_personNow 47 = .ok (.getfield 22, 3) := by decide +kernel
theorem dX12_personNow_50 : decode cX12_personNow 50 = .ok (.iload_n 1, 1) := by decide +kernel
theorem dX12_personNow_51 : decode cX12_personNow 51 = .ok (.iaload, 1) := by decide +kernel
theorem dX12_personNow_52 : decode cX12_personNow 52 = .ok (.ireturn, 1) := by decide +kernel
theorem dX12_personNow_53 : decode cX12_personNow 53 = .ok (.aload_n 0, 1) := by decide +kernel
theorem dX12_personNow_54 : decode cX12_personNow 54 = .ok (.getfield 25, 3) := by decide +kernel
theorem dX12_personNow_57 : decode cX12_personNow 57 = .ok (.iload_n 1, 1) := by decide +kernel
theorem dX12_personNow_58 : decode cX12_personNow 58 = .ok (.iaload, 1) := by decide +kernel
theorem dX12_personNow_59 : decode cX12_personNow 59 = .ok (.ireturn, 1) := by decide +kernel
theorem dX12_personNow_60 : decode cX12_personNow 60 = .ok (.aload_n 0, 1) := by decide +kernel
theorem dX12_personNow_61 : decode cX12_personNow 61 = .ok (.iload_n 1, 1) := by decide +kernel
theorem dX12_personNow_62 : decode cX12_personNow 62 = .ok (.invokevirtual 122, 3) := by decide +kernel
theorem dX12_personNow_65 : decode cX12_personNow 65 = .ok (.ifCond .eq 7, 3) := by decide +kernel
theorem dX12_personNow_68 : decode cX12_personNow 68 = .ok (.iconst 1, 1) := by decide +kernel
theorem dX12_personNow_69 : decode cX12_personNow 69 = .ok (.goto 4, 3) := by decide +kernel
theorem dX12_personNow_72 : decode cX12_personNow 72 = .ok (.iconst 0, 1) := by decide +kernel
theorem dX12_personNow_73 : decode cX12_personNow 73 = .ok (.ireturn, 1) := by decide +kernel
theorem dX12_about_0 : decode cX12_about 0 = .ok (.aload_n 0, 1) := by decide +kernel
theorem dX12_about_1 : decode cX12_about 1 = .ok (.iload_n 1, 1) := by decide +kernel
theorem dX12_about_2 : decode cX12_about 2 = .ok (.invokevirtual 129, 3) := by decide +kernel
theorem dX12_about_5 : decode cX12_about 5 = .ok (.ifCond .ne 8, 3) := by decide +kernel
theorem dX12_about_8 : decode cX12_about 8 = .ok (.bipush (-101), 2) := by decide +kernel
theorem dX12_about_10 : decode cX12_about 10 = .ok (.goto 23, 3) := by decide +kernel
theorem dX12_about_13 : decode cX12_about 13 = .ok (.iload_n 2, 1) := by decide +kernel
theorem dX12_about_14 : decode cX12_about 14 = .ok (.iconst 0, 1) := by decide +kernel
theorem dX12_about_15 : decode cX12_about 15 = .ok (.iconst 4, 1) := by decide +kernel
theorem dX12_about_16 : decode cX12_about 16 = .ok (.invokestatic 56, 3) := by decide +kernel
theorem dX12_about_19 : decode cX12_about 19 = .ok (.ifCond .eq 12, 3) := by decide +kernel
theorem dX12_about_22 : decode cX12_about 22 = .ok (.aload_n 0, 1) := by decide +kernel
theorem dX12_about_23 : decode cX12_about 23 = .ok (.iload_n 1, 1) := by decide +kernel
theorem dX12_about_24 : decode cX12_about 24 = .ok (.iload_n 2, 1) := by decide +kernel
theorem dX12_about_25 : decode cX12_about 25 = .ok (.invokevirtual 132, 3) := by decide +kernel
theorem dX12_about_28 : decode cX12_about 28 = .ok (.goto 5, 3) := by decide +kernel
theorem dX12_about_31 : decode cX12_about 31 = .ok (.bipush (-102), 2) := by decide +kernel
theorem dX12_about_33 : decode cX12_about 33 = .ok (.ireturn, 1) := by decide +kernel
theorem dX12_as_0 : decode cX12_as 0 = .ok (.aload_n 0, 1) := by decide +kernel
theorem dX12_as_1 : decode cX12_as 1 = .ok (.iload_n 1, 1) := by decide +kernel
theorem dX12_as_2 : decode cX12_as 2 = .ok (.invokevirtual 129, 3) := by decide +kernel
theorem dX12_as_5 : decode cX12_as 5 = .ok (.ifCond .ne 6, 3) := by decide +kernel
theorem dX12_as_8 : decode cX12_as 8 = .ok (.bipush (-101), 2) := by decide +kernel
theorem dX12_as_10 : decode cX12_as 10 = .ok (.ireturn, 1) := by decide +kernel
theorem dX12_as_11 : decode cX12_as 11 = .ok (.iload_n 2, 1) := by decide +kernel
theorem dX12_as_12 : decode cX12_as 12 = .ok (.iconst 0, 1) := by decide +kernel
theorem dX12_as_13 : decode cX12_as 13 = .ok (.iconst 4, 1) := by decide +kernel
theorem dX12_as_14 : decode cX12_as 14 = .ok (.invokestatic 56, 3) := by decide +kernel
theorem dX12_as_17 : decode cX12_as 17 = .ok (.ifCond .ne 6, 3) := by decide +kernel
theorem dX12_as_20 : decode cX12_as 20 = .ok (.bipush (-102), 2) := by decide +kernel
theorem dX12_as_22 : decode cX12_as 22 = .ok (.ireturn, 1) := by decide +kernel
theorem dX12_as_23 : decode cX12_as 23 = .ok (.aload_n 0, 1) := by decide +kernel
theorem dX12_as_24 : decode cX12_as 24 = .ok (.getfield 16, 3) := by decide +kernel
theorem dX12_as_27 : decode cX12_as 27 = .ok (.iload_n 1, 1) := by decide +kernel
theorem dX12_as_28 : decode cX12_as 28 = .ok (.iaload, 1) := by decide +kernel
theorem dX12_as_29 : decode cX12_as 29 = .ok (.istore_n 3, 1) := by decide +kernel
theorem dX12_as_30 : decode cX12_as 30 = .ok (.iload_n 2, 1) := by decide +kernel
theorem dX12_as_31 : decode cX12_as 31 = .ok (.ifCond .eq 18, 3) := by decide +kernel
theorem dX12_as_34 : decode cX12_as 34 = .ok (.iload_n 3, 1) := by decide +kernel
theorem dX12_as_35 : decode cX12_as 35 = .ok (.iload_n 2, 1) := by decide +kernel
theorem dX12_as_36 : decode cX12_as 36 = .ok (.if_icmp .eq 13, 3) := by decide +kernel
theorem dX12_as_39 : decode cX12_as 39 = .ok (.iload_n 2, 1) := by decide +kernel
theorem dX12_as_40 : decode cX12_as 40 = .ok (.iconst 3, 1) := by decide +kernel
theorem dX12_as_41 : decode cX12_as 41 = .ok (.if_icmp .ne 12, 3) := by decide +kernel
theorem dX12_as_44 : decode cX12_as 44 = .ok (.iload_n 3, 1) := by decide +kernel
theorem dX12_as_45 : decode cX12_as 45 = .ok (.iconst 4, 1) := by decide +kernel
theorem dX12_as_46 : decode cX12_as 46 = .ok (.if_icmp .ne 7, 3) := by decide +kernel
theorem dX12_as_49 : decode cX12_as 49 = .ok (.iload_n 1, 1) := by decide +kernel
theorem dX12_as_50 : decode cX12_as 50 = .ok (.goto 4, 3) := by decide +kernel
theorem dX12_as_53 : decode cX12_as 53 = .ok (.iconst (-1), 1) := by decide +kernel
theorem dX12_as_54 : decode cX12_as 54 = .ok (.ireturn, 1) := by decide +kernel
theorem dX12_likelyNow_0 : decode cX12_likelyNow 0 = .ok (.aload_n 0, 1) := by decide +kernel
theorem dX12_likelyNow_1 : decode cX12_likelyNow 1 = .ok (.iload_n 1, 1) := by decide +kernel
theorem dX12_likelyNow_2 : decode cX12_likelyNow 2 = .ok (.iload_n 2, 1) := by decide +kernel
theorem dX12_likelyNow_3 : decode cX12_likelyNow 3 = .ok (.invokevirtual 115, 3) := by decide +kernel
theorem dX12_likelyNow_6 : decode cX12_likelyNow 6 = .ok (.aload_n 0, 1) := by decide +kernel
theorem dX12_likelyNow_7 : decode cX12_likelyNow 7 = .ok (.iconst 1, 1) := by decide +kernel
theorem dX12_likelyNow_8 : decode cX12_likelyNow 8 = .ok (.iconst (-1), 1) := by decide +kernel
theorem dX12_likelyNow_9 : decode cX12_likelyNow 9 = .ok (.invokevirtual 115, 3) := by decide +kernel
theorem dX12_likelyNow_12 : decode cX12_likelyNow 12 = .ok (.iload_n 3, 1) := by decide +kernel
theorem dX12_likelyNow_13 : decode cX12_likelyNow 13 = .ok (.invokestatic 135, 3) := by decide +kernel
theorem dX12_likelyNow_16 : decode cX12_likelyNow 16 = .ok (.lreturn, 1) := by decide +kernel
theorem dX12_likely_0 : decode cX12_likely 0 = .ok (.iload_n 1, 1) := by decide +kernel
theorem dX12_likely_1 : decode cX12_likely 1 = .ok (.iconst 1, 1) := by decide +kernel
theorem dX12_likely_2 : decode cX12_likely 2 = .ok (.bipush 6, 2) := by decide +kernel
theorem dX12_likely_4 : decode cX12_likely 4 = .ok (.invokestatic 56, 3) := by decide +kernel
theorem dX12_likely_7 : decode cX12_likely 7 = .ok (.ifCond .eq 10, 3) := by decide +kernel
theorem dX12_likely_10 : decode cX12_likely 10 = .ok (.iload_n 2, 1) := by decide +kernel
theorem dX12_likely_11 : decode cX12_likely 11 = .ok (.invokestatic 101, 3) := by decide +kernel
theorem dX12_likely_14 : decode cX12_likely 14 = .ok (.ifCond .ne 7, 3) := by decide +kernel
theorem dX12_likely_17 : decode cX12_likely 17 = .ok (.ldc2_w 139, 3) := by decide +kernel
theorem dX12_likely_20 : decode cX12_likely 20 = .ok (.lreturn, 1) := by decide +kernel
theorem dX12_likely_21 : decode cX12_likely 21 = .ok (.iload_n 3, 1) := by decide +kernel
theorem dX12_likely_22 : decode cX12_likely 22 = .ok (.iconst 0, 1) := by decide +kernel
theorem dX12_likely_23 : decode cX12_likely 23 = .ok (.iconst 1, 1) := by decide +kernel
theorem dX12_likely_24 : decode cX12_likely 24 = .ok (.invokestatic 56, 3) := by decide +kernel
theorem dX12_likely_27 : decode cX12_likely 27 = .ok (.ifCond .ne 7, 3) := by decide +kernel
theorem dX12_likely_30 : decode cX12_likely 30 = .ok (.ldc2_w 141, 3) := by decide +kernel
theorem dX12_likely_33 : decode cX12_likely 33 = .ok (.lreturn, 1) := by decide +kernel
theorem dX12_likely_34 : decode cX12_likely 34 = .ok (.aload_n 0, 1) := by decide +kernel
theorem dX12_likely_35 : decode cX12_likely 35 = .ok (.getfield 82, 3) := by decide +kernel
theorem dX12_likely_38 : decode cX12_likely 38 = .ok (.ifCond .eq 13, 3) := by decide +kernel
theorem dX12_likely_41 : decode cX12_likely 41 = .ok (.aload_n 0, 1) := by decide +kernel
theorem dX12_likely_42 : decode cX12_likely 42 = .ok (.iload_n 1, 1) := by decide +kernel
theorem dX12_likely_43 : decode cX12_likely 43 = .ok (.iload_n 2, 1) := by decide +kernel
theorem dX12_likely_44 : decode cX12_likely 44 = .ok (.iload_n 3, 1) := by decide +kernel
theorem dX12_likely_45 : decode cX12_likely 45 = .ok (.invokevirtual 143, 3) := by decide +kernel
theorem dX12_likely_48 : decode cX12_likely 48 = .ok (.goto 6, 3) := by decide +kernel
theorem dX12_likely_51 : decode cX12_likely 51 = .ok (.ldc2_w 147, 3) := by decide +kernel
theorem dX12_likely_54 : decode cX12_likely 54 = .ok (.lreturn, 1) := by decide +kernel
theorem dX12_likeliestNow_0 : decode cX12_likeliestNow 0 = .ok (.iconst (-1), 1) := by decide +kernel
theorem dX12_likeliestNow_1 : decode cX12_likeliestNow 1 = .ok (.istore_n 1, 1) := by decide +kernel
theorem dX12_likeliestNow_2 : decode cX12_likeliestNow 2 = .ok (.ldc2_w 149, 3) := by decide +kernel
theorem dX12_likeliestNow_5 : decode cX12_likeliestNow 5 = .ok (.lstore_n 2, 1) := by decide +kernel
theorem dX12_likeliestNow_6 : decode cX12_likeliestNow 6 = .ok (.iconst 0, 1) := by decide +kernel
theorem dX12_likeliestNow_7 : decode cX12_likeliestNow 7 = .ok (.istore 4, 2) := by decide +kernel
theorem dX12_likeliestNow_9 : decode cX12_likeliestNow 9 = .ok (.iload 4, 2) := by decide +kernel
theorem dX12_likeliestNow_11 : decode cX12_likeliestNow 11 = .ok (.sipush 729, 3) := by decide +kernel
theorem dX12_likeliestNow_14 : decode cX12_likeliestNow 14 = .ok (.if_icmp .ge 45, 3) := by decide +kernel
theorem dX12_likeliestNow_17 : decode cX12_likeliestNow 17 = .ok (.aload_n 0, 1) := by decide +kernel
theorem dX12_likeliestNow_18 : decode cX12_likeliestNow 18 = .ok (.iload 4, 2) := by decide +kernel
theorem dX12_likeliestNow_20 : decode cX12_likeliestNow 20 = .ok (.invokevirtual 111, 3) := by decide +kernel
theorem dX12_likeliestNow_23 : decode cX12_likeliestNow 23 = .ok (.lstore 5, 2) := by decide +kernel
theorem dX12_likeliestNow_25 : decode cX12_likeliestNow 25 = .ok (.lload 5, 2) := by decide +kernel
theorem dX12_likeliestNow_27 : decode cX12_likeliestNow 27 = .ok (.lload_n 2, 1) := by decide +kernel
theorem dX12_likeliestNow_28 : decode cX12_likeliestNow 28 = .ok (.lcmp, 1) := by decide +kernel
theorem dX12_likeliestNow_29 : decode cX12_likeliestNow 29 = .ok (.ifCond .le 8, 3) := by decide +kernel
theorem dX12_likeliestNow_32 : decode cX12_likeliestNow 32 = .ok (.iload 4, 2) := by decide +kernel
theorem dX12_likeliestNow_34 : decode cX12_likeliestNow 34 = .ok (.goto 4, 3) := by decide +kernel
theorem dX12_likeliestNow_37 : decode cX12_likeliestNow 37 = .ok (.iload_n 1, 1) := by decide +kernel
theorem dX12_likeliestNow_38 : decode cX12_likeliestNow 38 = .ok (.istore_n 1, 1) := by decide +kernel
theorem dX12_likeliestNow_39 : decode cX12_likeliestNow 39 = .ok (.lload 5, 2) := by decide +kernel
theorem dX12_likeliestNow_41 : decode cX12_likeliestNow 41 = .ok (.lload_n 2, 1) := by decide +kernel
theorem dX12_likeliestNow_42 : decode cX12_likeliestNow 42 = .ok (.lcmp, 1) := by decide +kernel
theorem dX12_likeliestNow_43 : decode cX12_likeliestNow 43 = .ok (.ifCond .le 8, 3) := by decide +kernel
theorem dX12_likeliestNow_46 : decode cX12_likeliestNow 46 = .ok (.lload 5, 2) := by decide +kernel
theorem dX12_likeliestNow_48 : decode cX12_likeliestNow 48 = .ok (.goto 4, 3) := by decide +kernel
theorem dX12_likeliestNow_51 : decode cX12_likeliestNow 51 = .ok (.lload_n 2, 1) := by decide +kernel
theorem dX12_likeliestNow_52 : decode cX12_likeliestNow 52 = .ok (.lstore_n 2, 1) := by decide +kernel
theorem dX12_likeliestNow_53 : decode cX12_likeliestNow 53 = .ok (.iinc 4 1, 3) := by decide +kernel
theorem dX12_likeliestNow_56 : decode cX12_likeliestNow 56 = .ok (.goto (-47), 3) := by decide +kernel
theorem dX12_likeliestNow_59 : decode cX12_likeliestNow 59 = .ok (.iload_n 1, 1) := by decide +kernel
theorem dX12_likeliestNow_60 : decode cX12_likeliestNow 60 = .ok (.ireturn, 1) := by decide +kernel
theorem dX12_likeliest_0 : decode cX12_likeliest 0 = .ok (.aload_n 0, 1) := by decide +kernel
theorem dX12_likeliest_1 : decode cX12_likeliest 1 = .ok (.getfield 82, 3) := by decide +kernel
theorem dX12_likeliest_4 : decode cX12_likeliest 4 = .ok (.ifCond .eq 10, 3) := by decide +kernel
theorem dX12_likeliest_7 : decode cX12_likeliest 7 = .ok (.aload_n 0, 1) := by decide +kernel
theorem dX12_likeliest_8 : decode cX12_likeliest 8 = .ok (.invokevirtual 151, 3) := by decide +kernel
theorem dX12_likeliest_11 : decode cX12_likeliest 11 = .ok (.goto 5, 3) := by decide +kernel
theorem dX12_likeliest_14 : decode cX12_likeliest 14 = .ok (.bipush (-103), 2) := by decide +kernel
theorem dX12_likeliest_16 : decode cX12_likeliest 16 = .ok (.ireturn, 1) := by decide +kernel
theorem dX12_waysNow_0 : decode cX12_waysNow 0 = .ok (.iconst 0, 1) := by decide +kernel
theorem dX12_waysNow_1 : decode cX12_waysNow 1 = .ok (.istore_n 1, 1) := by decide +kernel
theorem dX12_waysNow_2 : decode cX12_waysNow 2 = .ok (.iconst 0, 1) := by decide +kernel
theorem dX12_waysNow_3 : decode cX12_waysNow 3 = .ok (.istore_n 2, 1) := by decide +kernel
theorem dX12_waysNow_4 : decode cX12_waysNow 4 = .ok (.iload_n 2, 1) := by decide +kernel
theorem dX12_waysNow_5 : decode cX12_waysNow 5 = .ok (.sipush 729, 3) := by decide +kernel
theorem dX12_waysNow_8 : decode cX12_waysNow 8 = .ok (.if_icmp .ge 27, 3) := by decide +kernel
theorem dX12_waysNow_11 : decode cX12_waysNow 11 = .ok (.iload_n 1, 1) := by decide +kernel
theorem dX12_waysNow_12 : decode cX12_waysNow 12 = .ok (.aload_n 0, 1) := by decide +kernel
theorem dX12_waysNow_13 : decode cX12_waysNow 13 = .ok (.iload_n 2, 1) := by decide +kernel
theorem dX12_waysNow_14 : decode cX12_waysNow 14 = .ok (.invokevirtual 111, 3) := by decide +kernel
theorem dX12_waysNow_17 : decode cX12_waysNow 17 = .ok (.lconst 0, 1) := by decide +kernel
theorem dX12_waysNow_18 : decode cX12_waysNow 18 = .ok (.lcmp, 1) := by decide +kernel
theorem dX12_waysNow_19 : decode cX12_waysNow 19 = .ok (.ifCond .le 7, 3) := by decide +kernel
theorem dX12_waysNow_22 : decode cX12_waysNow 22 = .ok (.iconst 1, 1) := by decide +kernel
theorem dX12_waysNow_23 : decode cX12_waysNow 23 = .ok (.goto 4, 3) := by decide +kernel
theorem dX12_waysNow_26 : decode cX12_waysNow 26 = .ok (.iconst 0, 1) := by decide +kernel
theorem dX12_waysNow_27 : decode cX12_waysNow 27 = .ok (.iadd, 1) := by decide +kernel
theorem dX12_waysNow_28 : decode cX12_waysNow 28 = .ok (.istore_n 1, 1) := by decide +kernel
theorem dX12_waysNow_29 : decode cX12_waysNow 29 = .ok (.iinc 2 1, 3) := by decide +kernel
theorem dX12_waysNow_32 : decode cX12_waysNow 32 = .ok (.goto (-28), 3) := by decide +kernel
theorem dX12_waysNow_35 : decode cX12_waysNow 35 = .ok (.iload_n 1, 1) := by decide +kernel
theorem dX12_waysNow_36 : decode cX12_waysNow 36 = .ok (.ireturn, 1) := by decide +kernel
theorem dX12_ways_0 : decode cX12_ways 0 = .ok (.aload_n 0, 1) := by decide +kernel
theorem dX12_ways_1 : decode cX12_ways 1 = .ok (.getfield 82, 3) := by decide +kernel
theorem dX12_ways_4 : decode cX12_ways 4 = .ok (.ifCond .eq 10, 3) := by decide +kernel
theorem dX12_ways_7 : decode cX12_ways 7 = .ok (.aload_n 0, 1) := by decide +kernel
theorem dX12_ways_8 : decode cX12_ways 8 = .ok (.invokevirtual 154, 3) := by decide +kernel
theorem dX12_ways_11 : decode cX12_ways 11 = .ok (.goto 5, 3) := by decide +kernel
theorem dX12_ways_14 : decode cX12_ways 14 = .ok (.bipush (-103), 2) := by decide +kernel
theorem dX12_ways_16 : decode cX12_ways 16 = .ok (.ireturn, 1) := by decide +kernel
theorem dX12_sureNow_0 : decode cX12_sureNow 0 = .ok (.iconst (-1), 1) := by decide +kernel
theorem dX12_sureNow_1 : decode cX12_sureNow 1 = .ok (.istore_n 2, 1) := by decide +kernel
theorem dX12_sureNow_2 : decode cX12_sureNow 2 = .ok (.iconst 0, 1) := by decide +kernel
theorem dX12_sureNow_3 : decode cX12_sureNow 3 = .ok (.istore_n 3, 1) := by decide +kernel
theorem dX12_sureNow_4 : decode cX12_sureNow 4 = .ok (.iconst 0, 1) := by decide +kernel
theorem dX12_sureNow_5 : decode cX12_sureNow 5 = .ok (.istore 4, 2) := by decide +kernel
theorem dX12_sureNow_7 : decode cX12_sureNow 7 = .ok (.iload 4, 2) := by decide +kernel
theorem dX12_sureNow_9 : decode cX12_sureNow 9 = .ok (.iconst 3, 1) := by decide +kernel
theorem dX12_sureNow_10 : decode cX12_sureNow 10 = .ok (.if_icmp .ge 53, 3) := by decide +kernel
theorem dX12_sureNow_13 : decode cX12_sureNow 13 = .ok (.aload_n 0, 1) := by decide +kernel
theorem dX12_sureNow_14 : decode cX12_sureNow 14 = .ok (.iload_n 1, 1) := by decide +kernel
theorem dX12_sureNow_15 : decode cX12_sureNow 15 = .ok (.iload 4, 2) := by decide +kernel
theorem dX12_sureNow_17 : decode cX12_sureNow 17 = .ok (.invokevirtual 115, 3) := by decide +kernel
theorem dX12_sureNow_20 : decode cX12_sureNow 20 = .ok (.lconst 0, 1) := by decide +kernel
theorem dX12_sureNow_21 : decode cX12_sureNow 21 = .ok (.lcmp, 1) := by decide +kernel
theorem dX12_sureNow_22 : decode cX12_sureNow 22 = .ok (.ifCond .le 7, 3) := by decide +kernel
theorem dX12_sureNow_25 : decode cX12_sureNow 25 = .ok (.iconst 1, 1) := by decide +kernel
theorem dX12_sureNow_26 : decode cX12_sureNow 26 = .ok (.goto 4, 3) := by decide +kernel
theorem dX12_sureNow_29 : decode cX12_sureNow 29 = .ok (.iconst 0, 1) := by decide +kernel
theorem dX12_sureNow_30 : decode cX12_sureNow 30 = .ok (.istore 5, 2) := by decide +kernel
theorem dX12_sureNow_32 : decode cX12_sureNow 32 = .ok (.iload 5, 2) := by decide +kernel
theorem dX12_sureNow_34 : decode cX12_sureNow 34 = .ok (.ifCond .eq 8, 3) := by decide +kernel
theorem dX12_sureNow_37 : decode cX12_sureNow 37 = .ok (.iload 4, 2) := by decide +kernel
theorem dX12_sureNow_39 : decode cX12_sureNow 39 = .ok (.goto 4, 3) := by decide +kernel
theorem dX12_sureNow_42 : decode cX12_sureNow 42 = .ok (.iload_n 2, 1) := by decide +kernel
theorem dX12_sureNow_43 : decode cX12_sureNow 43 = .ok (.istore_n 2, 1) := by decide +kernel
theorem dX12_sureNow_44 : decode cX12_sureNow 44 = .ok (.iload_n 3, 1) := by decide +kernel
theorem dX12_sureNow_45 : decode cX12_sureNow 45 = .ok (.iload 5, 2) := by decide +kernel
theorem dX12_sureNow_47 : decode cX12_sureNow 47 = .ok (.ifCond .eq 7, 3) := by decide +kernel
theorem dX12_sureNow_50 : decode cX12_sureNow 50 = .ok (.iconst 1, 1) := by decide +kernel
theorem dX12_sureNow_51 : decode cX12_sureNow 51 = .ok (.goto 4, 3) := by decide +kernel
theorem dX12_sureNow_54 : decode cX12_sureNow 54 = .ok (.iconst 0, 1) := by decide +kernel
theorem dX12_sureNow_55 : decode cX12_sureNow 55 = .ok (.iadd, 1) := by decide +kernel
theorem dX12_sureNow_56 : decode cX12_sureNow 56 = .ok (.istore_n 3, 1) := by decide +kernel
theorem dX12_sureNow_57 : decode cX12_sureNow 57 = .ok (.iinc 4 1, 3) := by decide +kernel
theorem dX12_sureNow_60 : decode cX12_sureNow 60 = .ok (.goto (-53), 3) := by decide +kernel
theorem dX12_sureNow_63 : decode cX12_sureNow 63 = .ok (.iload_n 3, 1) := by decide +kernel
theorem dX12_sureNow_64 : decode cX12_sureNow 64 = .ok (.iconst 1, 1) := by decide +kernel
theorem dX12_sureNow_65 : decode cX12_sureNow 65 = .ok (.if_icmp .ne 7, 3) := by decide +kernel
theorem dX12_sureNow_68 : decode cX12_sureNow 68 = .ok (.iload_n 2, 1) := by decide +kernel
theorem dX12_sureNow_69 : decode cX12_sureNow 69 = .ok (.goto 4, 3) := by decide +kernel
theorem dX12_sureNow_72 : decode cX12_sureNow 72 = .ok (.iconst (-1), 1) := by decide +kernel
theorem dX12_sureNow_73 : decode cX12_sureNow 73 = .ok (.ireturn, 1) := by decide +kernel
theorem dX12_sure_0 : decode cX12_sure 0 = .ok (.iload_n 1, 1) := by decide +kernel
theorem dX12_sure_1 : decode cX12_sure 1 = .ok (.iconst 1, 1) := by decide +kernel
theorem dX12_sure_2 : decode cX12_sure 2 = .ok (.bipush 6, 2) := by decide +kernel
theorem dX12_sure_4 : decode cX12_sure 4 = .ok (.invokestatic 56, 3) := by decide +kernel
theorem dX12_sure_7 : decode cX12_sure 7 = .ok (.ifCond .ne 6, 3) := by decide +kernel
theorem dX12_sure_10 : decode cX12_sure 10 = .ok (.bipush (-101), 2) := by decide +kernel
theorem dX12_sure_12 : decode cX12_sure 12 = .ok (.ireturn, 1) := by decide +kernel
theorem dX12_sure_13 : decode cX12_sure 13 = .ok (.aload_n 0, 1) := by decide +kernel
theorem dX12_sure_14 : decode cX12_sure 14 = .ok (.getfield 82, 3) := by decide +kernel
theorem dX12_sure_17 : decode cX12_sure 17 = .ok (.ifCond .eq 11, 3) := by decide +kernel
theorem dX12_sure_20 : decode cX12_sure 20 = .ok (.aload_n 0, 1) := by decide +kernel
theorem dX12_sure_21 : decode cX12_sure 21 = .ok (.iload_n 1, 1) := by decide +kernel
theorem dX12_sure_22 : decode cX12_sure 22 = .ok (.invokevirtual 157, 3) := by decide +kernel
theorem dX12_sure_25 : decode cX12_sure 25 = .ok (.goto 5, 3) := by decide +kernel
theorem dX12_sure_28 : decode cX12_sure 28 = .ok (.bipush (-103), 2) := by decide +kernel
theorem dX12_sure_30 : decode cX12_sure 30 = .ok (.ireturn, 1) := by decide +kernel
theorem dX12_less_0 : decode cX12_less 0 = .ok (.lload_n 0, 1) := by decide +kernel
theorem dX12_less_1 : decode cX12_less 1 = .ok (.lload_n 2, 1) := by decide +kernel
theorem dX12_less_2 : decode cX12_less 2 = .ok (.lcmp, 1) := by decide +kernel
theorem dX12_less_3 : decode cX12_less 3 = .ok (.ifCond .ge 7, 3) := by decide +kernel
theorem dX12_less_6 : decode cX12_less 6 = .ok (.lload_n 0, 1) := by decide +kernel
theorem dX12_less_7 : decode cX12_less 7 = .ok (.goto 4, 3) := by decide +kernel
theorem dX12_less_10 : decode cX12_less 10 = .ok (.lload_n 2, 1) := by decide +kernel
theorem dX12_less_11 : decode cX12_less 11 = .ok (.lreturn, 1) := by decide +kernel
theorem dX12_lookNow_0 : decode cX12_lookNow 0 = .ok (.aload_n 0, 1) := by decide +kernel
theorem dX12_lookNow_1 : decode cX12_lookNow 1 = .ok (.iconst 1, 1) := by decide +kernel
theorem dX12_lookNow_2 : decode cX12_lookNow 2 = .ok (.iconst (-1), 1) := by decide +kernel
theorem dX12_lookNow_3 : decode cX12_lookNow 3 = .ok (.invokevirtual 115, 3) := by decide +kernel
theorem dX12_lookNow_6 : decode cX12_lookNow 6 = .ok (.lstore 4, 2) := by decide +kernel
theorem dX12_lookNow_8 : decode cX12_lookNow 8 = .ok (.aload_n 0, 1) := by decide +kernel
theorem dX12_lookNow_9 : decode cX12_lookNow 9 = .ok (.iconst 1, 1) := by decide +kernel
theorem dX12_lookNow_10 : decode cX12_lookNow 10 = .ok (.iconst 1, 1) := by decide +kernel
theorem dX12_lookNow_11 : decode cX12_lookNow 11 = .ok (.invokevirtual 115, 3) := by decide +kernel
theorem dX12_lookNow_14 : decode cX12_lookNow 14 = .ok (.lstore 6, 2) := by decide +kernel
theorem dX12_lookNow_16 : decode cX12_lookNow 16 = .ok (.ldc2_w 160, 3) := by decide +kernel
theorem dX12_lookNow_19 : decode cX12_lookNow 19 = .ok (.iload_n 1, 1) := by decide +kernel
theorem dX12_lookNow_20 : decode cX12_lookNow 20 = .ok (.i2l, 1) := by decide +kernel
theorem dX12_lookNow_21 : decode cX12_lookNow 21 = .ok (.lload 4, 2) := by decide +kernel
theorem dX12_lookNow_23 : decode cX12_lookNow 23 = .ok (.lmul, 1) := by decide +kernel
theorem dX12_lookNow_24 : decode cX12_lookNow 24 = .ok (.iload_n 2, 1) := by decide +kernel
theorem dX12_lookNow_25 : decode cX12_lookNow 25 = .ok (.i2l, 1) := by decide +kernel
theorem dX12_lookNow_26 : decode cX12_lookNow 26 = .ok (.lload 6, 2) := by decide +kernel
theorem dX12_lookNow_28 : decode cX12_lookNow 28 = .ok (.lmul, 1) := by decide +kernel
theorem dX12_lookNow_29 : decode cX12_lookNow 29 = .ok (.invokestatic 162, 3) := by decide +kernel
theorem dX12_lookNow_32 : decode cX12_lookNow 32 = .ok (.lmul, 1) := by decide +kernel
theorem dX12_lookNow_33 : decode cX12_lookNow 33 = .ok (.lstore 8, 2) := by decide +kernel
theorem dX12_lookNow_35 : decode cX12_lookNow 35 = .ok (.iconst 0, 1) := by decide +kernel
theorem dX12_lookNow_36 : decode cX12_lookNow 36 = .ok (.istore 10, 2) := by decide +kernel
theorem dX12_lookNow_38 : decode cX12_lookNow 38 = .ok (.iload 10, 2) := by decide +kernel
theorem dX12_lookNow_40 : decode cX12_lookNow 40 = .ok (.iconst 3, 1) := by decide +kernel
theorem dX12_lookNow_41 : decode cX12_lookNow 41 = .ok (.if_icmp .ge 76, 3) := by decide +kernel
theorem dX12_lookNow_44 : decode cX12_lookNow 44 = .ok (.lconst 0, 1) := by decide +kernel
theorem dX12_lookNow_45 : decode cX12_lookNow 45 = .ok (.lstore 11, 2) := by decide +kernel
theorem dX12_lookNow_47 : decode cX12_lookNow 47 = .ok (.iconst 0, 1) := by decide +kernel
theorem dX12_lookNow_48 : decode cX12_lookNow 48 = .ok (.istore 13, 2) := by decide +kernel
theorem dX12_lookNow_50 : decode cX12_lookNow 50 = .ok (.iload 13, 2) := by decide +kernel
theorem dX12_lookNow_52 : decode cX12_lookNow 52 = .ok (.iconst 3, 1) := by decide +kernel
theorem dX12_lookNow_53 : decode cX12_lookNow 53 = .ok (.if_icmp .ge 31, 3) := by decide +kernel
theorem dX12_lookNow_56 : decode cX12_lookNow 56 = .ok (.lload 11, 2) := by decide +kernel
theorem dX12_lookNow_58 : decode cX12_lookNow 58 = .ok (.aload_n 0, 1) := by decide +kernel
theorem dX12_lookNow_59 : decode cX12_lookNow 59 = .ok (.iconst 1, 1) := by decide +kernel
theorem dX12_lookNow_60 : decode cX12_lookNow 60 = .ok (.iload 13, 2) := by decide +kernel
theorem dX12_lookNow_62 : decode cX12_lookNow 62 = .ok (.invokevirtual 115, 3) := by decide +kernel
theorem dX12_lookNow_65 : decode cX12_lookNow 65 = .ok (.aload_n 0, 1) := by decide +kernel
theorem dX12_lookNow_66 : decode cX12_lookNow 66 = .ok (.iload 10, 2) := by decide +kernel
theorem dX12_lookNow_68 : decode cX12_lookNow 68 = .ok (.iload 13, 2) := by decide +kernel
theorem dX12_lookNow_70 : decode cX12_lookNow 70 = .ok (.invokevirtual 108, 3) := by decide +kernel
theorem dX12_lookNow_73 : decode cX12_lookNow 73 = .ok (.i2l, 1) := by decide +kernel
theorem dX12_lookNow_74 : decode cX12_lookNow 74 = .ok (.lmul, 1) := by decide +kernel
theorem dX12_lookNow_75 : decode cX12_lookNow 75 = .ok (.ladd, 1) := by decide +kernel
theorem dX12_lookNow_76 : decode cX12_lookNow 76 = .ok (.lstore 11, 2) := by decide +kernel
theorem dX12_lookNow_78 : decode cX12_lookNow 78 = .ok (.iinc 13 1, 3) := by decide +kernel
theorem dX12_lookNow_81 : decode cX12_lookNow 81 = .ok (.goto (-31), 3) := by decide +kernel
theorem dX12_lookNow_84 : decode cX12_lookNow 84 = .ok (.lload 8, 2) := by decide +kernel
theorem dX12_lookNow_86 : decode cX12_lookNow 86 = .ok (.iload_n 1, 1) := by decide +kernel
theorem dX12_lookNow_87 : decode cX12_lookNow 87 = .ok (.i2l, 1) := by decide +kernel
theorem dX12_lookNow_88 : decode cX12_lookNow 88 = .ok (.lload 11, 2) := by decide +kernel
theorem dX12_lookNow_90 : decode cX12_lookNow 90 = .ok (.lmul, 1) := by decide +kernel
theorem dX12_lookNow_91 : decode cX12_lookNow 91 = .ok (.iload_n 2, 1) := by decide +kernel
theorem dX12_lookNow_92 : decode cX12_lookNow 92 = .ok (.i2l, 1) := by decide +kernel
theorem dX12_lookNow_93 : decode cX12_lookNow 93 = .ok (.lload 6, 2) := by decide +kernel
theorem dX12_lookNow_95 : decode cX12_lookNow 95 = .ok (.lmul, 1) := by decide +kernel
theorem dX12_lookNow_96 : decode cX12_lookNow 96 = .ok (.aload_n 0, 1) := by decide +kernel
theorem dX12_lookNow_97 : decode cX12_lookNow 97 = .ok (.iload 10, 2) := by decide +kernel
theorem dX12_lookNow_99 : decode cX12_lookNow 99 = .ok (.iconst 1, 1) := by decide +kernel
theorem dX12_lookNow_100 : decode cX12_lookNow 100 = .ok (.invokevirtual 108, 3) := by decide +kernel
theorem dX12_lookNow_103 : decode cX12_lookNow 103 = .ok (.i2l, 1) := by decide +kernel
theorem dX12_lookNow_104 : decode cX12_lookNow 104 = .ok (.lmul, 1) := by decide +kernel
theorem dX12_lookNow_105 : decode cX12_lookNow 105 = .ok (.invokestatic 162, 3) := by decide +kernel
theorem dX12_lookNow_108 : decode cX12_lookNow 108 = .ok (.lsub, 1) := by decide +kernel
theorem dX12_lookNow_109 : decode cX12_lookNow 109 = .ok (.lstore 8, 2) := by decide +kernel
theorem dX12_lookNow_111 : decode cX12_lookNow 111 = .ok (.iinc 10 1, 3) := by decide +kernel
theorem dX12_lookNow_114 : decode cX12_lookNow 114 = .ok (.goto (-76), 3) := by decide +kernel
theorem dX12_lookNow_117 : decode cX12_lookNow 117 = .ok (.lload 8, 2) := by decide +kernel
theorem dX12_lookNow_119 : decode cX12_lookNow 119 = .ok (.ldc2_w 160, 3) := by decide +kernel
theorem dX12_lookNow_122 : decode cX12_lookNow 122 = .ok (.lload 4, 2) := by decide +kernel
theorem dX12_lookNow_124 : decode cX12_lookNow 124 = .ok (.lmul, 1) := by decide +kernel
theorem dX12_lookNow_125 : decode cX12_lookNow 125 = .ok (.iload_n 3, 1) := by decide +kernel
theorem dX12_lookNow_126 : decode cX12_lookNow 126 = .ok (.invokestatic 135, 3) := by decide +kernel
theorem dX12_lookNow_129 : decode cX12_lookNow 129 = .ok (.lreturn, 1) := by decide +kernel
theorem dX12_look_0 : decode cX12_look 0 = .ok (.iload_n 1, 1) := by decide +kernel
theorem dX12_look_1 : decode cX12_look 1 = .ok (.iconst 1, 1) := by decide +kernel
theorem dX12_look_2 : decode cX12_look 2 = .ok (.bipush 9, 2) := by decide +kernel
theorem dX12_look_4 : decode cX12_look 4 = .ok (.invokestatic 56, 3) := by decide +kernel
theorem dX12_look_7 : decode cX12_look 7 = .ok (.ifCond .eq 22, 3) := by decide +kernel
theorem dX12_look_10 : decode cX12_look 10 = .ok (.iload_n 2, 1) := by decide +kernel
theorem dX12_look_11 : decode cX12_look 11 = .ok (.iconst 1, 1) := by decide +kernel
theorem dX12_look_12 : decode cX12_look 12 = .ok (.bipush 9, 2) := by decide +kernel
theorem dX12_look_14 : decode cX12_look 14 = .ok (.invokestatic 56, 3) := by decide +kernel
theorem dX12_look_17 : decode cX12_look 17 = .ok (.ifCond .eq 12, 3) := by decide +kernel
theorem dX12_look_20 : decode cX12_look 20 = .ok (.iload_n 3, 1) := by decide +kernel
theorem dX12_look_21 : decode cX12_look 21 = .ok (.iconst 0, 1) := by decide +kernel
theorem dX12_look_22 : decode cX12_look 22 = .ok (.iconst 1, 1) := by decide +kernel
theorem dX12_look_23 : decode cX12_look 23 = .ok (.invokestatic 56, 3) := by decide +kernel
theorem dX12_look_26 : decode cX12_look 26 = .ok (.ifCond .ne 7, 3) := by decide +kernel
theorem dX12_look_29 : decode cX12_look 29 = .ok (.ldc2_w 141, 3) := by decide +kernel
theorem dX12_look_32 : decode cX12_look 32 = .ok (.lreturn, 1) := by decide +kernel
theorem dX12_look_33 : decode cX12_look 33 = .ok (.aload_n 0, 1) := by decide +kernel
theorem dX12_look_34 : decode cX12_look 34 = .ok (.getfield 82, 3) := by decide +kernel
theorem dX12_look_37 : decode cX12_look 37 = .ok (.ifCond .eq 13, 3) := by decide +kernel
theorem dX12_look_40 : decode cX12_look 40 = .ok (.aload_n 0, 1) := by decide +kernel
theorem dX12_look_41 : decode cX12_look 41 = .ok (.iload_n 1, 1) := by decide +kernel
theorem dX12_look_42 : decode cX12_look 42 = .ok (.iload_n 2, 1) := by decide +kernel
theorem dX12_look_43 : decode cX12_look 43 = .ok (.iload_n 3, 1) := by decide +kernel
theorem dX12_look_44 : decode cX12_look 44 = .ok (.invokevirtual 166, 3) := by decide +kernel
theorem dX12_look_47 : decode cX12_look 47 = .ok (.goto 6, 3) := by decide +kernel
theorem dX12_look_50 : decode cX12_look 50 = .ok (.ldc2_w 147, 3) := by decide +kernel
theorem dX12_look_53 : decode cX12_look 53 = .ok (.lreturn, 1) := by decide +kernel
theorem dX12_book_0 : decode cX12_book 0 = .ok (.iload_n 1, 1) := by decide +kernel
theorem dX12_book_1 : decode cX12_book 1 = .ok (.invokestatic 101, 3) := by decide +kernel
theorem dX12_book_4 : decode cX12_book 4 = .ok (.ifCond .eq 15, 3) := by decide +kernel
theorem dX12_book_7 : decode cX12_book 7 = .ok (.iload_n 2, 1) := by decide +kernel
theorem dX12_book_8 : decode cX12_book 8 = .ok (.iconst (-1), 1) := by decide +kernel
theorem dX12_book_9 : decode cX12_book 9 = .ok (.if_icmp .eq 13, 3) := by decide +kernel
theorem dX12_book_12 : decode cX12_book 12 = .ok (.iload_n 2, 1) := by decide +kernel
theorem dX12_book_13 : decode cX12_book 13 = .ok (.invokestatic 101, 3) := by decide +kernel
theorem dX12_book_16 : decode cX12_book 16 = .ok (.ifCond .ne 6, 3) := by decide +kernel
theorem dX12_book_19 : decode cX12_book 19 = .ok (.bipush (-101), 2) := by decide +kernel
theorem dX12_book_21 : decode cX12_book 21 = .ok (.ireturn, 1) := by decide +kernel
theorem dX12_book_22 : decode cX12_book 22 = .ok (.aload_n 0, 1) := by decide +kernel
theorem dX12_book_23 : decode cX12_book 23 = .ok (.getfield 98, 3) := by decide +kernel
theorem dX12_book_26 : decode cX12_book 26 = .ok (.bipush 12, 2) := by decide +kernel
theorem dX12_book_28 : decode cX12_book 28 = .ok (.if_icmp .ne 6, 3) := by decide +kernel
theorem dX12_book_31 : decode cX12_book 31 = .ok (.bipush (-104), 2) := by decide +kernel
theorem dX12_book_33 : decode cX12_book 33 = .ok (.ireturn, 1) := by decide +kernel
theorem dX12_book_34 : decode cX12_book 34 = .ok (.aload_n 0, 1) := by decide +kernel
theorem dX12_book_35 : decode cX12_book 35 = .ok (.getfield 28, 3) := by decide +kernel
theorem dX12_book_38 : decode cX12_book 38 = .ok (.aload_n 0, 1) := by decide +kernel
theorem dX12_book_39 : decode cX12_book 39 = .ok (.getfield 98, 3) := by decide +kernel
theorem dX12_book_42 : decode cX12_book 42 = .ok (.iload_n 1, 1) := by decide +kernel
theorem dX12_book_43 : decode cX12_book 43 = .ok (.iastore, 1) := by decide +kernel
theorem dX12_book_44 : decode cX12_book 44 = .ok (.aload_n 0, 1) := by decide +kernel
theorem dX12_book_45 : decode cX12_book 45 = .ok (.getfield 31, 3) := by decide +kernel
theorem dX12_book_48 : decode cX12_book 48 = .ok (.aload_n 0, 1) := by decide +kernel
theorem dX12_book_49 : decode cX12_book 49 = .ok (.getfield 98, 3) := by decide +kernel
theorem dX12_book_52 : decode cX12_book 52 = .ok (.iload_n 2, 1) := by decide +kernel
theorem dX12_book_53 : decode cX12_book 53 = .ok (.iastore, 1) := by decide +kernel
theorem dX12_book_54 : decode cX12_book 54 = .ok (.aload_n 0, 1) := by decide +kernel
theorem dX12_book_55 : decode cX12_book 55 = .ok (.dup, 1) := by decide +kernel
theorem dX12_book_56 : decode cX12_book 56 = .ok (.getfield 98, 3) := by decide +kernel
theorem dX12_book_59 : decode cX12_book 59 = .ok (.iconst 1, 1) := by decide +kernel
theorem dX12_book_60 : decode cX12_book 60 = .ok (.iadd, 1) := by decide +kernel
theorem dX12_book_61 : decode cX12_book 61 = .ok (.putfield 98, 3) := by decide +kernel
theorem dX12_book_64 : decode cX12_book 64 = .ok (.aload_n 0, 1) := by decide +kernel
theorem dX12_book_65 : decode cX12_book 65 = .ok (.getfield 98, 3) := by decide +kernel
theorem dX12_book_68 : decode cX12_book 68 = .ok (.ireturn, 1) := by decide +kernel
theorem dX12_forget_0 : decode cX12_forget 0 = .ok (.aload_n 0, 1) := by decide +kernel
theorem dX12_forget_1 : decode cX12_forget 1 = .ok (.getfield 98, 3) := by decide +kernel
theorem dX12_forget_4 : decode cX12_forget 4 = .ok (.istore_n 1, 1) := by decide +kernel
theorem dX12_forget_5 : decode cX12_forget 5 = .ok (.aload_n 0, 1) := by decide +kernel
theorem dX12_forget_6 : decode cX12_forget 6 = .ok (.iconst 0, 1) := by decide +kernel
theorem dX12_forget_7 : decode cX12_forget 7 = .ok (.putfield 98, 3) := by decide +kernel
theorem dX12_forget_10 : decode cX12_forget 10 = .ok (.iload_n 1, 1) := by decide +kernel
theorem dX12_forget_11 : decode cX12_forget 11 = .ok (.ireturn, 1) := by decide +kernel
theorem dX12_lookedAt_0 : decode cX12_lookedAt 0 = .ok (.iconst 0, 1) := by decide +kernel
theorem dX12_lookedAt_1 : decode cX12_lookedAt 1 = .ok (.istore_n 3, 1) := by decide +kernel
theorem dX12_lookedAt_2 : decode cX12_lookedAt 2 = .ok (.iconst 0, 1) := by decide +kernel
theorem dX12_lookedAt_3 : decode cX12_lookedAt 3 = .ok (.istore 4, 2) := by decide +kernel
theorem dX12_lookedAt_5 : decode cX12_lookedAt 5 = .ok (.iload 4, 2) := by decide +kernel
theorem dX12_lookedAt_7 : decode cX12_lookedAt 7 = .ok (.iload_n 1, 1) := by decide +kernel
theorem dX12_lookedAt_8 : decode cX12_lookedAt 8 = .ok (.iadd, 1) := by decide +kernel
theorem dX12_lookedAt_9 : decode cX12_lookedAt 9 = .ok (.aload_n 0, 1) := by decide +kernel
theorem dX12_lookedAt_10 : decode cX12_lookedAt 10 = .ok (.getfield 98, 3) := by decide +kernel
theorem dX12_lookedAt_13 : decode cX12_lookedAt 13 = .ok (.if_icmp .ge 63, 3) := by decide +kernel
theorem dX12_lookedAt_16 : decode cX12_lookedAt 16 = .ok (.aload_n 0, 1) := by decide +kernel
theorem dX12_lookedAt_17 : decode cX12_lookedAt 17 = .ok (.getfield 31, 3) := by decide +kernel
theorem dX12_lookedAt_20 : decode cX12_lookedAt 20 = .ok (.iload 4, 2) := by decide +kernel
theorem dX12_lookedAt_22 : decode cX12_lookedAt 22 = .ok (.iaload, 1) := by decide +kernel
theorem dX12_lookedAt_23 : decode cX12_lookedAt 23 = .ok (.iconst (-1), 1) := by decide +kernel
theorem dX12_lookedAt_24 : decode cX12_lookedAt 24 = .ok (.if_icmp .eq 30, 3) := by decide +kernel
theorem dX12_lookedAt_27 : decode cX12_lookedAt 27 = .ok (.iload_n 2, 1) := by decide +kernel
theorem dX12_lookedAt_28 : decode cX12_lookedAt 28 = .ok (.ifCond .eq 22, 3) := by decide +kernel
theorem dX12_lookedAt_31 : decode cX12_lookedAt 31 = .ok (.aload_n 0, 1) := by decide +kernel
theorem dX12_lookedAt_32 : decode cX12_lookedAt 32 = .ok (.getfield 31, 3) := by decide +kernel
theorem dX12_lookedAt_35 : decode cX12_lookedAt 35 = .ok (.iload 4, 2) := by decide +kernel
theorem dX12_lookedAt_37 : decode cX12_lookedAt 37 = .ok (.iaload, 1) := by decide +kernel
theorem dX12_lookedAt_38 : decode cX12_lookedAt 38 = .ok (.aload_n 0, 1) := by decide +kernel
theorem dX12_lookedAt_39 : decode cX12_lookedAt 39 = .ok (.getfield 28, 3) := by decide +kernel
theorem dX12_lookedAt_42 : decode cX12_lookedAt 42 = .ok (.iload 4, 2) := by decide +kernel
theorem dX12_lookedAt_44 : decode cX12_lookedAt 44 = .ok (.iload_n 1, 1) := by decide +kernel
theorem dX12_lookedAt_45 : decode cX12_lookedAt 45 = .ok (.iadd, 1) := by decide +kernel
theorem dX12_lookedAt_46 : decode cX12_lookedAt 46 = .ok (.iaload, 1) := by decide +kernel
theorem dX12_lookedAt_47 : decode cX12_lookedAt 47 = .ok (.if_icmp .eq 7, 3) := by decide +kernel
theorem dX12_lookedAt_50 : decode cX12_lookedAt 50 = .ok (.iconst 1, 1) := by decide +kernel
theorem dX12_lookedAt_51 : decode cX12_lookedAt 51 = .ok (.goto 4, 3) := by decide +kernel
theorem dX12_lookedAt_54 : decode cX12_lookedAt 54 = .ok (.iconst 0, 1) := by decide +kernel
theorem dX12_lookedAt_55 : decode cX12_lookedAt 55 = .ok (.istore 5, 2) := by decide +kernel
theorem dX12_lookedAt_57 : decode cX12_lookedAt 57 = .ok (.iload_n 3, 1) := by decide +kernel
theorem dX12_lookedAt_58 : decode cX12_lookedAt 58 = .ok (.iload 5, 2) := by decide +kernel
theorem dX12_lookedAt_60 : decode cX12_lookedAt 60 = .ok (.ifCond .eq 7, 3) := by decide +kernel
theorem dX12_lookedAt_63 : decode cX12_lookedAt 63 = .ok (.iconst 1, 1) := by decide +kernel
theorem dX12_lookedAt_64 : decode cX12_lookedAt 64 = .ok (.goto 4, 3) := by decide +kernel
theorem dX12_lookedAt_67 : decode cX12_lookedAt 67 = .ok (.iconst 0, 1) := by decide +kernel
theorem dX12_lookedAt_68 : decode cX12_lookedAt 68 = .ok (.iadd, 1) := by decide +kernel
theorem dX12_lookedAt_69 : decode cX12_lookedAt 69 = .ok (.istore_n 3, 1) := by decide +kernel
theorem dX12_lookedAt_70 : decode cX12_lookedAt 70 = .ok (.iinc 4 1, 3) := by decide +kernel
theorem dX12_lookedAt_73 : decode cX12_lookedAt 73 = .ok (.goto (-68), 3) := by decide +kernel
theorem dX12_lookedAt_76 : decode cX12_lookedAt 76 = .ok (.iload_n 3, 1) := by decide +kernel
theorem dX12_lookedAt_77 : decode cX12_lookedAt 77 = .ok (.ireturn, 1) := by decide +kernel
theorem dX12_wrong_0 : decode cX12_wrong 0 = .ok (.iload_n 1, 1) := by decide +kernel
theorem dX12_wrong_1 : decode cX12_wrong 1 = .ok (.iconst 0, 1) := by decide +kernel
theorem dX12_wrong_2 : decode cX12_wrong 2 = .ok (.iconst 4, 1) := by decide +kernel
theorem dX12_wrong_3 : decode cX12_wrong 3 = .ok (.invokestatic 56, 3) := by decide +kernel
theorem dX12_wrong_6 : decode cX12_wrong 6 = .ok (.ifCond .eq 12, 3) := by decide +kernel
theorem dX12_wrong_9 : decode cX12_wrong 9 = .ok (.aload_n 0, 1) := by decide +kernel
theorem dX12_wrong_10 : decode cX12_wrong 10 = .ok (.iload_n 1, 1) := by decide +kernel
theorem dX12_wrong_11 : decode cX12_wrong 11 = .ok (.iconst 1, 1) := by decide +kernel
theorem dX12_wrong_12 : decode cX12_wrong 12 = .ok (.invokevirtual 169, 3) := by decide +kernel
theorem dX12_wrong_15 : decode cX12_wrong 15 = .ok (.goto 5, 3) := by decide +kernel
theorem dX12_wrong_18 : decode cX12_wrong 18 = .ok (.bipush (-102), 2) := by decide +kernel
theorem dX12_wrong_20 : decode cX12_wrong 20 = .ok (.ireturn, 1) := by decide +kernel
theorem dX12_earliestNow_0 : decode cX12_earliestNow 0 = .ok (.iconst (-1), 1) := by decide +kernel
theorem dX12_earliestNow_1 : decode cX12_earliestNow 1 = .ok (.istore_n 1, 1) := by decide +kernel
theorem dX12_earliestNow_2 : decode cX12_earliestNow 2 = .ok (.bipush 13, 2) := by decide +kernel
theorem dX12_earliestNow_4 : decode cX12_earliestNow 4 = .ok (.istore_n 2, 1) := by decide +kernel
theorem dX12_earliestNow_5 : decode cX12_earliestNow 5 = .ok (.iconst 0, 1) := by decide +kernel
theorem dX12_earliestNow_6 : decode cX12_earliestNow 6 = .ok (.istore_n 3, 1) := by decide +kernel
theorem dX12_earliestNow_7 : decode cX12_earliestNow 7 = .ok (.iload_n 3, 1) := by decide +kernel
theorem dX12_earliestNow_8 : decode cX12_earliestNow 8 = .ok (.iconst 5, 1) := by decide +kernel
theorem dX12_earliestNow_9 : decode cX12_earliestNow 9 = .ok (.if_icmp .ge 62, 3) := by decide +kernel
theorem dX12_earliestNow_12 : decode cX12_earliestNow 12 = .ok (.aload_n 0, 1) := by decide +kernel
theorem dX12_earliestNow_13 : decode cX12_earliestNow 13 = .ok (.iload_n 3, 1) := by decide +kernel
theorem dX12_earliestNow_14 : decode cX12_earliestNow 14 = .ok (.iconst 1, 1) := by decide +kernel
theorem dX12_earliestNow_15 : decode cX12_earliestNow 15 = .ok (.invokevirtual 169, 3) := by decide +kernel
theorem dX12_earliestNow_18 : decode cX12_earliestNow 18 = .ok (.istore 4, 2) := by decide +kernel
theorem dX12_earliestNow_20 : decode cX12_earliestNow 20 = .ok (.aload_n 0, 1) := by decide +kernel
theorem dX12_earliestNow_21 : decode cX12_earliestNow 21 = .ok (.iload_n 3, 1) := by decide +kernel
theorem dX12_earliestNow_22 : decode cX12_earliestNow 22 = .ok (.iconst 0, 1) := by decide +kernel
theorem dX12_earliestNow_23 : decode cX12_earliestNow 23 = .ok (.invokevirtual 169, 3) := by decide +kernel
theorem dX12_earliestNow_26 : decode cX12_earliestNow 26 = .ok (.ifCond .le 13, 3) := by decide +kernel
theorem dX12_earliestNow_29 : decode cX12_earliestNow 29 = .ok (.iload 4, 2) := by decide +kernel
theorem dX12_earliestNow_31 : decode cX12_earliestNow 31 = .ok (.iload_n 2, 1) := by decide +kernel
theorem dX12_earliestNow_32 : decode cX12_earliestNow 32 = .ok (.if_icmp .ge 7, 3) := by decide +kernel
theorem dX12_earliestNow_35 : decode cX12_earliestNow 35 = .ok (.iconst 1, 1) := by decide +kernel
theorem dX12_earliestNow_36 : decode cX12_earliestNow 36 = .ok (.goto 4, 3) := by decide +kernel
theorem dX12_earliestNow_39 : decode cX12_earliestNow 39 = .ok (.iconst 0, 1) := by decide +kernel
theorem dX12_earliestNow_40 : decode cX12_earliestNow 40 = .ok (.istore 5, 2) := by decide +kernel
theorem dX12_earliestNow_42 : decode cX12_earliestNow 42 = .ok (.iload 5, 2) := by decide +kernel
theorem dX12_earliestNow_44 : decode cX12_earliestNow 44 = .ok (.ifCond .eq 7, 3) := by decide +kernel
theorem dX12_earliestNow_47 : decode cX12_earliestNow 47 = .ok (.iload_n 3, 1) := by decide +kernel
theorem dX12_earliestNow_48 : decode cX12_earliestNow 48 = .ok (.goto 4, 3) := by decide +kernel
theorem dX12_earliestNow_51 : decode cX12_earliestNow 51 = .ok (.iload_n 1, 1) := by decide +kernel
theorem dX12_earliestNow_52 : decode cX12_earliestNow 52 = .ok (.istore_n 1, 1) := by decide +kernel
theorem dX12_earliestNow_53 : decode cX12_earliestNow 53 = .ok (.iload 5, 2) := by decide +kernel
theorem dX12_earliestNow_55 : decode cX12_earliestNow 55 = .ok (.ifCond .eq 8, 3) := by decide +kernel
theorem dX12_earliestNow_58 : decode cX12_earliestNow 58 = .ok (.iload 4, 2) := by decide +kernel
theorem dX12_earliestNow_60 : decode cX12_earliestNow 60 = .ok (.goto 4, 3) := by decide +kernel
theorem dX12_earliestNow_63 : decode cX12_earliestNow 63 = .ok (.iload_n 2, 1) := by decide +kernel
theorem dX12_earliestNow_64 : decode cX12_earliestNow 64 = .ok (.istore_n 2, 1) := by decide +kernel
theorem dX12_earliestNow_65 : decode cX12_earliestNow 65 = .ok (.iinc 3 1, 3) := by decide +kernel
theorem dX12_earliestNow_68 : decode cX12_earliestNow 68 = .ok (.goto (-61), 3) := by decide +kernel
theorem dX12_earliestNow_71 : decode cX12_earliestNow 71 = .ok (.iload_n 1, 1) := by decide +kernel
theorem dX12_earliestNow_72 : decode cX12_earliestNow 72 = .ok (.ireturn, 1) := by decide +kernel
theorem dX12_earliest_0 : decode cX12_earliest 0 = .ok (.aload_n 0, 1) := by decide +kernel
theorem dX12_earliest_1 : decode cX12_earliest 1 = .ok (.invokevirtual 172, 3) := by decide +kernel
theorem dX12_earliest_4 : decode cX12_earliest 4 = .ok (.ireturn, 1) := by decide +kernel
theorem dX12_draw_0 : decode cX12_draw 0 = .ok (.aload_n 0, 1) := by decide +kernel
theorem dX12_draw_1 : decode cX12_draw 1 = .ok (.ldc2_w 175, 3) := by decide +kernel
theorem dX12_draw_4 : decode cX12_draw 4 = .ok (.aload_n 0, 1) := by decide +kernel
theorem dX12_draw_5 : decode cX12_draw 5 = .ok (.getfield 177, 3) := by decide +kernel
theorem dX12_draw_8 : decode cX12_draw 8 = .ok (.lmul, 1) := by decide +kernel
theorem dX12_draw_9 : decode cX12_draw 9 = .ok (.ldc2_w 181, 3) := by decide +kernel
theorem dX12_draw_12 : decode cX12_draw 12 = .ok (.ladd, 1) := by decide +kernel
theorem dX12_draw_13 : decode cX12_draw 13 = .ok (.ldc2_w 183, 3) := by decide +kernel
theorem dX12_draw_16 : decode cX12_draw 16 = .ok (.land, 1) := by decide +kernel
theorem dX12_draw_17 : decode cX12_draw 17 = .ok (.putfield 177, 3) := by decide +kernel
theorem dX12_draw_20 : decode cX12_draw 20 = .ok (.aload_n 0, 1) := by decide +kernel
theorem dX12_draw_21 : decode cX12_draw 21 = .ok (.getfield 177, 3) := by decide +kernel
theorem dX12_draw_24 : decode cX12_draw 24 = .ok (.ldc2_w 185, 3) := by decide +kernel
theorem dX12_draw_27 : decode cX12_draw 27 = .ok (.ldiv, 1) := by decide +kernel
theorem dX12_draw_28 : decode cX12_draw 28 = .ok (.iload_n 1, 1) := by decide +kernel
theorem dX12_draw_29 : decode cX12_draw 29 = .ok (.i2l, 1) := by decide +kernel
theorem dX12_draw_30 : decode cX12_draw 30 = .ok (.lrem, 1) := by decide +kernel
theorem dX12_draw_31 : decode cX12_draw 31 = .ok (.l2i, 1) := by decide +kernel
theorem dX12_draw_32 : decode cX12_draw 32 = .ok (.ireturn, 1) := by decide +kernel
theorem dX12_drawDays_0 : decode cX12_drawDays 0 = .ok (.aload_n 0, 1) := by decide +kernel
theorem dX12_drawDays_1 : decode cX12_drawDays 1 = .ok (.getfield 187, 3) := by decide +kernel
theorem dX12_drawDays_4 : decode cX12_drawDays 4 = .ok (.aload_n 0, 1) := by decide +kernel
theorem dX12_drawDays_5 : decode cX12_drawDays 5 = .ok (.getfield 76, 3) := by decide +kernel
theorem dX12_drawDays_8 : decode cX12_drawDays 8 = .ok (.if_icmp .ge 95, 3) := by decide +kernel
theorem dX12_drawDays_11 : decode cX12_drawDays 11 = .ok (.aload_n 0, 1) := by decide +kernel
theorem dX12_drawDays_12 : decode cX12_drawDays 12 = .ok (.getfield 187, 3) := by decide +kernel
theorem dX12_drawDays_15 : decode cX12_drawDays 15 = .ok (.ifCond .ne 10, 3) := by decide +kernel
theorem dX12_drawDays_18 : decode cX12_drawDays 18 = .ok (.aload_n 0, 1) := by decide +kernel
theorem dX12_drawDays_19 : decode cX12_drawDays 19 = .ok (.getfield 92, 3) := by decide +kernel
theorem dX12_drawDays_22 : decode cX12_drawDays 22 = .ok (.goto 12, 3) := by decide +kernel
theorem dX12_drawDays_25 : decode cX12_drawDays 25 = .ok (.aload_n 0, 1) := by decide +kernel
theorem dX12_drawDays_26 : decode cX12_drawDays 26 = .ok (.getfield 41, 3) := by decide +kernel
theorem dX12_drawDays_29 : decode cX12_drawDays 29 = .ok (.aload_n 0, 1) := by decide +kernel
theorem dX12_drawDays_30 : decode cX12_drawDays 30 = .ok (.getfield 187, 3) := by decide +kernel
theorem dX12_drawDays_33 : decode cX12_drawDays 33 = .ok (.iaload, 1) := by decide +kernel
theorem dX12_drawDays_34 : decode cX12_drawDays 34 = .ok (.istore_n 1, 1) := by decide +kernel
theorem dX12_drawDays_35 : decode cX12_drawDays 35 = .ok (.aload_n 0, 1) := by decide +kernel
theorem dX12_drawDays_36 : decode cX12_drawDays 36 = .ok (.bipush 10, 2) := by decide +kernel
theorem dX12_drawDays_38 : decode cX12_drawDays 38 = .ok (.invokevirtual 190, 3) := by decide +kernel
theorem dX12_drawDays_41 : decode cX12_drawDays 41 = .ok (.istore_n 2, 1) := by decide +kernel
theorem dX12_drawDays_42 : decode cX12_drawDays 42 = .ok (.aload_n 0, 1) := by decide +kernel
theorem dX12_drawDays_43 : decode cX12_drawDays 43 = .ok (.getfield 7, 3) := by decide +kernel
theorem dX12_drawDays_46 : decode cX12_drawDays 46 = .ok (.iconst 3, 1) := by decide +kernel
theorem dX12_drawDays_47 : decode cX12_drawDays 47 = .ok (.iload_n 1, 1) := by decide +kernel
theorem dX12_drawDays_48 : decode cX12_drawDays 48 = .ok (.imul, 1) := by decide +kernel
theorem dX12_drawDays_49 : decode cX12_drawDays 49 = .ok (.iaload, 1) := by decide +kernel
theorem dX12_drawDays_50 : decode cX12_drawDays 50 = .ok (.istore_n 3, 1) := by decide +kernel
theorem dX12_drawDays_51 : decode cX12_drawDays 51 = .ok (.aload_n 0, 1) := by decide +kernel
theorem dX12_drawDays_52 : decode cX12_drawDays 52 = .ok (.dup, 1) := by decide +kernel
theorem dX12_drawDays_53 : decode cX12_drawDays 53 = .ok (.getfield 187, 3) := by decide +kernel
theorem dX12_drawDays_56 : decode cX12_drawDays 56 = .ok (.iconst 1, 1) := by decide +kernel
theorem dX12_drawDays_57 : decode cX12_drawDays 57 = .ok (.iadd, 1) := by decide +kernel
theorem dX12_drawDays_58 : decode cX12_drawDays 58 = .ok (.putfield 187, 3) := by decide +kernel
theorem dX12_drawDays_61 : decode cX12_drawDays 61 = .ok (.aload_n 0, 1) := by decide +kernel
theorem dX12_drawDays_62 : decode cX12_drawDays 62 = .ok (.getfield 41, 3) := by decide +kernel
theorem dX12_drawDays_65 : decode cX12_drawDays 65 = .ok (.aload_n 0, 1) := by decide +kernel
theorem dX12_drawDays_66 : decode cX12_drawDays 66 = .ok (.getfield 187, 3) := by decide +kernel
theorem dX12_drawDays_69 : decode cX12_drawDays 69 = .ok (.iload_n 2, 1) := by decide +kernel
theorem dX12_drawDays_70 : decode cX12_drawDays 70 = .ok (.iload_n 3, 1) := by decide +kernel
theorem dX12_drawDays_71 : decode cX12_drawDays 71 = .ok (.if_icmp .ge 7, 3) := by decide +kernel
theorem dX12_drawDays_74 : decode cX12_drawDays 74 = .ok (.iconst 0, 1) := by decide +kernel
theorem dX12_drawDays_75 : decode cX12_drawDays 75 = .ok (.goto 24, 3) := by decide +kernel
theorem dX12_drawDays_78 : decode cX12_drawDays 78 = .ok (.iload_n 2, 1) := by decide +kernel
theorem dX12_drawDays_79 : decode cX12_drawDays 79 = .ok (.iload_n 3, 1) := by decide +kernel
theorem dX12_drawDays_80 : decode cX12_drawDays 80 = .ok (.aload_n 0, 1) := by decide +kernel
theorem dX12_drawDays_81 : decode cX12_drawDays 81 = .ok (.getfield 7, 3) := by decide +kernel
theorem dX12_drawDays_84 : decode cX12_drawDays 84 = .ok (.iconst 3, 1) := by decide +kernel
theorem dX12_drawDays_85 : decode cX12_drawDays 85 = .ok (.iload_n 1, 1) := by decide +kernel
theorem dX12_drawDays_86 : decode cX12_drawDays 86 = .ok (.imul, 1) := by decide +kernel
theorem dX12_drawDays_87 : decode cX12_drawDays 87 = .ok (.iconst 1, 1) := by decide +kernel
theorem dX12_drawDays_88 : decode cX12_drawDays 88 = .ok (.iadd, 1) := by decide +kernel
theorem dX12_drawDays_89 : decode cX12_drawDays 89 = .ok (.iaload, 1) := by decide +kernel
theorem dX12_drawDays_90 : decode cX12_drawDays 90 = .ok (.iadd, 1) := by decide +kernel
theorem dX12_drawDays_91 : decode cX12_drawDays 91 = .ok (.if_icmp .ge 7, 3) := by decide +kernel
theorem dX12_drawDays_94 : decode cX12_drawDays 94 = .ok (.iconst 1, 1) := by decide +kernel
theorem dX12_drawDays_95 : decode cX12_drawDays 95 = .ok (.goto 4, 3) := by decide +kernel
theorem dX12_drawDays_98 : decode cX12_drawDays 98 = .ok (.iconst 2, 1) := by decide +kernel
theorem dX12_drawDays_99 : decode cX12_drawDays 99 = .ok (.iastore, 1) := by decide +kernel
theorem dX12_drawDays_100 : decode cX12_drawDays 100 = .ok (.goto (-100), 3) := by decide +kernel
theorem dX12_drawDays_103 : decode cX12_drawDays 103 = .ok (.return_, 1) := by decide +kernel
theorem dX12_goSeeded_0 : decode cX12_goSeeded 0 = .ok (.aload_n 0, 1) := by decide +kernel
theorem dX12_goSeeded_1 : decode cX12_goSeeded 1 = .ok (.invokevirtual 193, 3) := by decide +kernel
theorem dX12_goSeeded_4 : decode cX12_goSeeded 4 = .ok (.aload_n 0, 1) := by decide +kernel
theorem dX12_goSeeded_5 : decode cX12_goSeeded 5 = .ok (.bipush 10, 2) := by decide +kernel
theorem dX12_goSeeded_7 : decode cX12_goSeeded 7 = .ok (.invokevirtual 190, 3) := by decide +kernel
theorem dX12_goSeeded_10 : decode cX12_goSeeded 10 = .ok (.aload_n 0, 1) := by decide +kernel
theorem dX12_goSeeded_11 : decode cX12_goSeeded 11 = .ok (.getfield 79, 3) := by decide +kernel
theorem dX12_goSeeded_14 : decode cX12_goSeeded 14 = .ok (.if_icmp .ge 7, 3) := by decide +kernel
theorem dX12_goSeeded_17 : decode cX12_goSeeded 17 = .ok (.iconst 1, 1) := by decide +kernel
theorem dX12_goSeeded_18 : decode cX12_goSeeded 18 = .ok (.goto 4, 3) := by decide +kernel
theorem dX12_goSeeded_21 : decode cX12_goSeeded 21 = .ok (.iconst 0, 1) := by decide +kernel
theorem dX12_goSeeded_22 : decode cX12_goSeeded 22 = .ok (.istore_n 1, 1) := by decide +kernel
theorem dX12_goSeeded_23 : decode cX12_goSeeded 23 = .ok (.aload_n 0, 1) := by decide +kernel
theorem dX12_goSeeded_24 : decode cX12_goSeeded 24 = .ok (.dup, 1) := by decide +kernel
theorem dX12_goSeeded_25 : decode cX12_goSeeded 25 = .ok (.getfield 196, 3) := by decide +kernel
theorem dX12_goSeeded_28 : decode cX12_goSeeded 28 = .ok (.iload_n 1, 1) := by decide +kernel
theorem dX12_goSeeded_29 : decode cX12_goSeeded 29 = .ok (.ifCond .eq 7, 3) := by decide +kernel
theorem dX12_goSeeded_32 : decode cX12_goSeeded 32 = .ok (.iconst 1, 1) := by decide +kernel
theorem dX12_goSeeded_33 : decode cX12_goSeeded 33 = .ok (.goto 4, 3) := by decide +kernel
theorem dX12_goSeeded_36 : decode cX12_goSeeded 36 = .ok (.iconst 0, 1) := by decide +kernel
theorem dX12_goSeeded_37 : decode cX12_goSeeded 37 = .ok (.iadd, 1) := by decide +kernel
theorem dX12_goSeeded_38 : decode cX12_goSeeded 38 = .ok (.putfield 196, 3) := by decide +kernel
theorem dX12_goSeeded_41 : decode cX12_goSeeded 41 = .ok (.aload_n 0, 1) := by decide +kernel
theorem dX12_goSeeded_42 : decode cX12_goSeeded 42 = .ok (.getfield 13, 3) := by decide +kernel
theorem dX12_goSeeded_45 : decode cX12_goSeeded 45 = .ok (.aload_n 0, 1) := by decide +kernel
theorem dX12_goSeeded_46 : decode cX12_goSeeded 46 = .ok (.getfield 76, 3) := by decide +kernel
theorem dX12_goSeeded_49 : decode cX12_goSeeded 49 = .ok (.iload_n 1, 1) := by decide +kernel
theorem dX12_goSeeded_50 : decode cX12_goSeeded 50 = .ok (.ifCond .eq 19, 3) := by decide +kernel
theorem dX12_goSeeded_53 : decode cX12_goSeeded 53 = .ok (.aload_n 0, 1) := by decide +kernel
theorem dX12_goSeeded_54 : decode cX12_goSeeded 54 = .ok (.getfield 41, 3) := by decide +kernel
theorem dX12_goSeeded_57 : decode cX12_goSeeded 57 = .ok (.aload_n 0, 1) := by decide +kernel
theorem dX12_goSeeded_58 : decode cX12_goSeeded 58 = .ok (.getfield 76, 3) := by decide +kernel
theorem dX12_goSeeded_61 : decode cX12_goSeeded 61 = .ok (.iaload, 1) := by decide +kernel
theorem dX12_goSeeded_62 : decode cX12_goSeeded 62 = .ok (.iconst 1, 1) := by decide +kernel
theorem dX12_goSeeded_63 : decode cX12_goSeeded 63 = .ok (.iadd, 1) := by decide +kernel
theorem dX12_goSeeded_64 : decode cX12_goSeeded 64 = .ok (.iconst 3, 1) := by decide +kernel
theorem dX12_goSeeded_65 : decode cX12_goSeeded 65 = .ok (.irem, 1) := by decide +kernel
theorem dX12_goSeeded_66 : decode cX12_goSeeded 66 = .ok (.goto 12, 3) := by decide +kernel
theorem dX12_goSeeded_69 : decode cX12_goSeeded 69 = .ok (.aload_n 0, 1) := by decide +kernel
theorem dX12_goSeeded_70 : decode cX12_goSeeded 70 = .ok (.getfield 41, 3) := by decide +kernel
theorem dX12_goSeeded_73 : decode cX12_goSeeded 73 = .ok (.aload_n 0, 1) := by decide +kernel
theorem dX12_goSeeded_74 : decode cX12_goSeeded 74 = .ok (.getfield 76, 3) := by decide +kernel
theorem dX12_goSeeded_77 : decode cX12_goSeeded 77 = .ok (.iaload, 1) := by decide +kernel
theorem dX12_goSeeded_78 : decode cX12_goSeeded 78 = .ok (.iastore, 1) := by decide +kernel
theorem dX12_goSeeded_79 : decode cX12_goSeeded 79 = .ok (.aload_n 0, 1) := by decide +kernel
theorem dX12_goSeeded_80 : decode cX12_goSeeded 80 = .ok (.getfield 41, 3) := by decide +kernel
theorem dX12_goSeeded_83 : decode cX12_goSeeded 83 = .ok (.iconst 1, 1) := by decide +kernel
theorem dX12_goSeeded_84 : decode cX12_goSeeded 84 = .ok (.iaload, 1) := by decide +kernel
theorem dX12_goSeeded_85 : decode cX12_goSeeded 85 = .ok (.istore_n 2, 1) := by decide +kernel
theorem dX12_goSeeded_86 : decode cX12_goSeeded 86 = .ok (.aload_n 0, 1) := by decide +kernel
theorem dX12_goSeeded_87 : decode cX12_goSeeded 87 = .ok (.iload_n 2, 1) := by decide +kernel
theorem dX12_goSeeded_88 : decode cX12_goSeeded 88 = .ok (.iconst 0, 1) := by decide +kernel
theorem dX12_goSeeded_89 : decode cX12_goSeeded 89 = .ok (.invokevirtual 125, 3) := by decide +kernel
theorem dX12_goSeeded_92 : decode cX12_goSeeded 92 = .ok (.istore_n 3, 1) := by decide +kernel
theorem dX12_goSeeded_93 : decode cX12_goSeeded 93 = .ok (.iconst 1, 1) := by decide +kernel
theorem dX12_goSeeded_94 : decode cX12_goSeeded 94 = .ok (.istore 4, 2) := by decide +kernel
theorem dX12_goSeeded_96 : decode cX12_goSeeded 96 = .ok (.iload 4, 2) := by decide +kernel
theorem dX12_goSeeded_98 : decode cX12_goSeeded 98 = .ok (.aload_n 0, 1) := by decide +kernel
theorem dX12_goSeeded_99 : decode cX12_goSeeded 99 = .ok (.getfield 187, 3) := by decide +kernel
theorem dX12_goSeeded_102 : decode cX12_goSeeded 102 = .ok (.if_icmp .ge 25, 3) := by decide +kernel
theorem dX12_goSeeded_105 : decode cX12_goSeeded 105 = .ok (.aload_n 0, 1) := by decide +kernel
theorem dX12_goSeeded_106 : decode cX12_goSeeded 106 = .ok (.getfield 41, 3) := by decide +kernel
theorem dX12_goSeeded_109 : decode cX12_goSeeded 109 = .ok (.iload 4, 2) := by decide +kernel
theorem dX12_goSeeded_111 : decode cX12_goSeeded 111 = .ok (.aload_n 0, 1) := by decide +kernel
theorem dX12_goSeeded_112 : decode cX12_goSeeded 112 = .ok (.getfield 41, 3) := by decide +kernel
theorem dX12_goSeeded_115 : decode cX12_goSeeded 115 = .ok (.iload 4, 2) := by decide +kernel
theorem dX12_goSeeded_117 : decode cX12_goSeeded 117 = .ok (.iconst 1, 1) := by decide +kernel
theorem dX12_goSeeded_118 : decode cX12_goSeeded 118 = .ok (.iadd, 1) := by decide +kernel
theorem dX12_goSeeded_119 : decode cX12_goSeeded 119 = .ok (.iaload, 1) := by decide +kernel
theorem dX12_goSeeded_120 : decode cX12_goSeeded 120 = .ok (.iastore, 1) := by decide +kernel
theorem dX12_goSeeded_121 : decode cX12_goSeeded 121 = .ok (.iinc 4 1, 3) := by decide +kernel
theorem dX12_goSeeded_124 : decode cX12_goSeeded 124 = .ok (.goto (-28), 3) := by decide +kernel
theorem dX12_goSeeded_127 : decode cX12_goSeeded 127 = .ok (.aload_n 0, 1) := by decide +kernel
theorem dX12_goSeeded_128 : decode cX12_goSeeded 128 = .ok (.dup, 1) := by decide +kernel
theorem dX12_goSeeded_129 : decode cX12_goSeeded 129 = .ok (.getfield 187, 3) := by decide +kernel
theorem dX12_goSeeded_132 : decode cX12_goSeeded 132 = .ok (.iconst 1, 1) := by decide +kernel
theorem dX12_goSeeded_133 : decode cX12_goSeeded 133 = .ok (.isub, 1) := by decide +kernel
theorem dX12_goSeeded_134 : decode cX12_goSeeded 134 = .ok (.putfield 187, 3) := by decide +kernel
theorem dX12_goSeeded_137 : decode cX12_goSeeded 137 = .ok (.iload_n 3, 1) := by decide +kernel
theorem dX12_goSeeded_138 : decode cX12_goSeeded 138 = .ok (.ireturn, 1) := by decide +kernel
theorem dX12_daysNow_0 : decode cX12_daysNow 0 = .ok (.aload_n 0, 1) := by decide +kernel
theorem dX12_daysNow_1 : decode cX12_daysNow 1 = .ok (.aload_n 0, 1) := by decide +kernel
theorem dX12_daysNow_2 : decode cX12_daysNow 2 = .ok (.getfield 89, 3) := by decide +kernel
theorem dX12_daysNow_5 : decode cX12_daysNow 5 = .ok (.putfield 199, 3) := by decide +kernel
theorem dX12_daysNow_8 : decode cX12_daysNow 8 = .ok (.aload_n 0, 1) := by decide +kernel
theorem dX12_daysNow_9 : decode cX12_daysNow 9 = .ok (.aload_n 0, 1) := by decide +kernel
theorem dX12_daysNow_10 : decode cX12_daysNow 10 = .ok (.getfield 92, 3) := by decide +kernel
theorem dX12_daysNow_13 : decode cX12_daysNow 13 = .ok (.putfield 202, 3) := by decide +kernel
theorem dX12_daysNow_16 : decode cX12_daysNow 16 = .ok (.iconst 0, 1) := by decide +kernel
theorem dX12_daysNow_17 : decode cX12_daysNow 17 = .ok (.istore 4, 2) := by decide +kernel
theorem dX12_daysNow_19 : decode cX12_daysNow 19 = .ok (.iload 4, 2) := by decide +kernel
theorem dX12_daysNow_21 : decode cX12_daysNow 21 = .ok (.iconst 4, 1) := by decide +kernel
theorem dX12_daysNow_22 : decode cX12_daysNow 22 = .ok (.if_icmp .gt 31, 3) := by decide +kernel
theorem dX12_daysNow_25 : decode cX12_daysNow 25 = .ok (.aload_n 0, 1) := by decide +kernel
theorem dX12_daysNow_26 : decode cX12_daysNow 26 = .ok (.getfield 38, 3) := by decide +kernel
theorem dX12_daysNow_29 : decode cX12_daysNow 29 = .ok (.iload 4, 2) := by decide +kernel
theorem dX12_daysNow_31 : decode cX12_daysNow 31 = .ok (.aload_n 0, 1) := by decide +kernel
theorem dX12_daysNow_32 : decode cX12_daysNow 32 = .ok (.getfield 13, 3) := by decide +kernel
theorem dX12_daysNow_35 : decode cX12_daysNow 35 = .ok (.iload 4, 2) := by decide +kernel
theorem dX12_daysNow_37 : decode cX12_daysNow 37 = .ok (.iaload, 1) := by decide +kernel
theorem dX12_daysNow_38 : decode cX12_daysNow 38 = .ok (.iastore, 1) := by decide +kernel
theorem dX12_daysNow_39 : decode cX12_daysNow 39 = .ok (.aload_n 0, 1) := by decide +kernel
theorem dX12_daysNow_40 : decode cX12_daysNow 40 = .ok (.getfield 13, 3) := by decide +kernel
theorem dX12_daysNow_43 : decode cX12_daysNow 43 = .ok (.iload 4, 2) := by decide +kernel
theorem dX12_daysNow_45 : decode cX12_daysNow 45 = .ok (.iconst (-1), 1) := by decide +kernel
theorem dX12_daysNow_46 : decode cX12_daysNow 46 = .ok (.iastore, 1) := by decide +kernel
theorem dX12_daysNow_47 : decode cX12_daysNow 47 = .ok (.iinc 4 1, 3) := by decide +kernel
theorem dX12_daysNow_50 : decode cX12_daysNow 50 = .ok (.goto (-31), 3) := by decide +kernel
theorem dX12_daysNow_53 : decode cX12_daysNow 53 = .ok (.aload_n 0, 1) := by decide +kernel
theorem dX12_daysNow_54 : decode cX12_daysNow 54 = .ok (.iload_n 2, 1) := by decide +kernel
theorem dX12_daysNow_55 : decode cX12_daysNow 55 = .ok (.i2l, 1) := by decide +kernel
theorem dX12_daysNow_56 : decode cX12_daysNow 56 = .ok (.putfield 177, 3) := by decide +kernel
theorem dX12_daysNow_59 : decode cX12_daysNow 59 = .ok (.aload_n 0, 1) := by decide +kernel
theorem dX12_daysNow_60 : decode cX12_daysNow 60 = .ok (.iconst 0, 1) := by decide +kernel
theorem dX12_daysNow_61 : decode cX12_daysNow 61 = .ok (.putfield 187, 3) := by decide +kernel
theorem dX12_daysNow_64 : decode cX12_daysNow 64 = .ok (.aload_n 0, 1) := by decide +kernel
theorem dX12_daysNow_65 : decode cX12_daysNow 65 = .ok (.iconst 0, 1) := by decide +kernel
theorem dX12_daysNow_66 : decode cX12_daysNow 66 = .ok (.putfield 196, 3) := by decide +kernel
theorem dX12_daysNow_69 : decode cX12_daysNow 69 = .ok (.iconst 0, 1) := by decide +kernel
theorem dX12_daysNow_70 : decode cX12_daysNow 70 = .ok (.istore 4, 2) := by decide +kernel
theorem dX12_daysNow_72 : decode cX12_daysNow 72 = .ok (.iconst 0, 1) := by decide +kernel
theorem dX12_daysNow_73 : decode cX12_daysNow 73 = .ok (.istore 5, 2) := by decide +kernel
theorem dX12_daysNow_75 : decode cX12_daysNow 75 = .ok (.iconst 0, 1) := by decide +kernel
theorem dX12_daysNow_76 : decode cX12_daysNow 76 = .ok (.istore 6, 2) := by decide +kernel
theorem dX12_daysNow_78 : decode cX12_daysNow 78 = .ok (.iload 6, 2) := by decide +kernel
theorem dX12_daysNow_80 : decode cX12_daysNow 80 = .ok (.iload_n 1, 1) := by decide +kernel
theorem dX12_daysNow_81 : decode cX12_daysNow 81 = .ok (.if_icmp .ge 36, 3) := by decide +kernel
theorem dX12_daysNow_84 : decode cX12_daysNow 84 = .ok (.iload 5, 2) := by decide +kernel
theorem dX12_daysNow_86 : decode cX12_daysNow 86 = .ok (.aload_n 0, 1) := by decide +kernel
theorem dX12_daysNow_87 : decode cX12_daysNow 87 = .ok (.invokevirtual 205, 3) := by decide +kernel
theorem dX12_daysNow_90 : decode cX12_daysNow 90 = .ok (.iadd, 1) := by decide +kernel
theorem dX12_daysNow_91 : decode cX12_daysNow 91 = .ok (.istore 5, 2) := by decide +kernel
theorem dX12_daysNow_93 : decode cX12_daysNow 93 = .ok (.iload 4, 2) := by decide +kernel
theorem dX12_daysNow_95 : decode cX12_daysNow 95 = .ok (.aload_n 0, 1) := by decide +kernel
theorem dX12_daysNow_96 : decode cX12_daysNow 96 = .ok (.getfield 92, 3) := by decide +kernel
theorem dX12_daysNow_99 : decode cX12_daysNow 99 = .ok (.iconst 1, 1) := by decide +kernel
theorem dX12_daysNow_100 : decode cX12_daysNow 100 = .ok (.if_icmp .ne 7, 3) := by decide +kernel
theorem dX12_daysNow_103 : decode cX12_daysNow 103 = .ok (.iconst 1, 1) := by decide +kernel
theorem dX12_daysNow_104 : decode cX12_daysNow 104 = .ok (.goto 4, 3) := by decide +kernel
theorem dX12_daysNow_107 : decode cX12_daysNow 107 = .ok (.iconst 0, 1) := by decide +kernel
theorem dX12_daysNow_108 : decode cX12_daysNow 108 = .ok (.iadd, 1) := by decide +kernel
theorem dX12_daysNow_109 : decode cX12_daysNow 109 = .ok (.istore 4, 2) := by decide +kernel
theorem dX12_daysNow_111 : decode cX12_daysNow 111 = .ok (.iinc 6 1, 3) := by decide +kernel
theorem dX12_daysNow_114 : decode cX12_daysNow 114 = .ok (.goto (-36), 3) := by decide +kernel
theorem dX12_daysNow_117 : decode cX12_daysNow 117 = .ok (.aload_n 0, 1) := by decide +kernel
theorem dX12_daysNow_118 : decode cX12_daysNow 118 = .ok (.aload_n 0, 1) := by decide +kernel
theorem dX12_daysNow_119 : decode cX12_daysNow 119 = .ok (.getfield 199, 3) := by decide +kernel
theorem dX12_daysNow_122 : decode cX12_daysNow 122 = .ok (.putfield 89, 3) := by decide +kernel
theorem dX12_daysNow_125 : decode cX12_daysNow 125 = .ok (.aload_n 0, 1) := by decide +kernel
theorem dX12_daysNow_126 : decode cX12_daysNow 126 = .ok (.aload_n 0, 1) := by decide +kernel
theorem dX12_daysNow_127 : decode cX12_daysNow 127 = .ok (.getfield 202, 3) := by decide +kernel
theorem dX12_daysNow_130 : decode cX12_daysNow 130 = .ok (.putfield 92, 3) := by decide +kernel
theorem dX12_daysNow_133 : decode cX12_daysNow 133 = .ok (.iconst 0, 1) := by decide +kernel
theorem dX12_daysNow_134 : decode cX12_daysNow 134 = .ok (.istore 6, 2) := by decide +kernel
theorem dX12_daysNow_136 : decode cX12_daysNow 136 = .ok (.iload 6, 2) := by decide +kernel
theorem dX12_daysNow_138 : decode cX12_daysNow 138 = .ok (.iconst 4, 1) := by decide +kernel
theorem dX12_daysNow_139 : decode cX12_daysNow 139 = .ok (.if_icmp .gt 23, 3) := by decide +kernel
theorem dX12_daysNow_142 : decode cX12_daysNow 142 = .ok (.aload_n 0, 1) := by decide +kernel
theorem dX12_daysNow_143 : decode cX12_daysNow 143 = .ok (.getfield 13, 3) := by decide +kernel
theorem dX12_daysNow_146 : decode cX12_daysNow 146 = .ok (.iload 6, 2) := by decide +kernel
theorem dX12_daysNow_148 : decode cX12_daysNow 148 = .ok (.aload_n 0, 1) := by decide +kernel
theorem dX12_daysNow_149 : decode cX12_daysNow 149 = .ok (.getfield 38, 3) := by decide +kernel
theorem dX12_daysNow_152 : decode cX12_daysNow 152 = .ok (.iload 6, 2) := by decide +kernel
theorem dX12_daysNow_154 : decode cX12_daysNow 154 = .ok (.iaload, 1) := by decide +kernel
theorem dX12_daysNow_155 : decode cX12_daysNow 155 = .ok (.iastore, 1) := by decide +kernel
theorem dX12_daysNow_156 : decode cX12_daysNow 156 = .ok (.iinc 6 1, 3) := by decide +kernel
theorem dX12_daysNow_159 : decode cX12_daysNow 159 = .ok (.goto (-23), 3) := by decide +kernel
theorem dX12_daysNow_162 : decode cX12_daysNow 162 = .ok (.iload_n 3, 1) := by decide +kernel
theorem dX12_daysNow_163 : decode cX12_daysNow 163 = .ok (.ifCond .ne 8, 3) := by decide +kernel
theorem dX12_daysNow_166 : decode cX12_daysNow 166 = .ok (.iload 4, 2) := by decide +kernel
theorem dX12_daysNow_168 : decode cX12_daysNow 168 = .ok (.goto 30, 3) := by decide +kernel
theorem dX12_daysNow_171 : decode cX12_daysNow 171 = .ok (.iload_n 3, 1) := by decide +kernel
theorem dX12_daysNow_172 : decode cX12_daysNow 172 = .ok (.iconst 1, 1) := by decide +kernel
theorem dX12_daysNow_173 : decode cX12_daysNow 173 = .ok (.if_icmp .ne 8, 3) := by decide +kernel
theorem dX12_daysNow_176 : decode cX12_daysNow 176 = .ok (.iload 5, 2) := by decide +kernel
theorem dX12_daysNow_178 : decode cX12_daysNow 178 = .ok (.goto 20, 3) := by decide +kernel
theorem dX12_daysNow_181 : decode cX12_daysNow 181 = .ok (.iload_n 3, 1) := by decide +kernel
theorem dX12_daysNow_182 : decode cX12_daysNow 182 = .ok (.iconst 2, 1) := by decide +kernel
theorem dX12_daysNow_183 : decode cX12_daysNow 183 = .ok (.if_icmp .ne 10, 3) := by decide +kernel
theorem dX12_daysNow_186 : decode cX12_daysNow 186 = .ok (.aload_n 0, 1) := by decide +kernel
theorem dX12_daysNow_187 : decode cX12_daysNow 187 = .ok (.getfield 196, 3) := by decide +kernel
theorem dX12_daysNow_190 : decode cX12_daysNow 190 = .ok (.goto 8, 3) := by decide +kernel
theorem dX12_daysNow_193 : decode cX12_daysNow 193 = .ok (.aload_n 0, 1) := by decide +kernel
theorem dX12_daysNow_194 : decode cX12_daysNow 194 = .ok (.getfield 177, 3) := by decide +kernel
theorem dX12_daysNow_197 : decode cX12_daysNow 197 = .ok (.l2i, 1) := by decide +kernel
theorem dX12_daysNow_198 : decode cX12_daysNow 198 = .ok (.ireturn, 1) := by decide +kernel
theorem dX12_days_0 : decode cX12_days 0 = .ok (.iload_n 1, 1) := by decide +kernel
theorem dX12_days_1 : decode cX12_days 1 = .ok (.iconst 1, 1) := by decide +kernel
theorem dX12_days_2 : decode cX12_days 2 = .ok (.bipush 30, 2) := by decide +kernel
theorem dX12_days_4 : decode cX12_days 4 = .ok (.invokestatic 56, 3) := by decide +kernel
theorem dX12_days_7 : decode cX12_days 7 = .ok (.ifCond .eq 16, 3) := by decide +kernel
theorem dX12_days_10 : decode cX12_days 10 = .ok (.iload_n 2, 1) := by decide +kernel
theorem dX12_days_11 : decode cX12_days 11 = .ok (.ifCond .lt 12, 3) := by decide +kernel
theorem dX12_days_14 : decode cX12_days 14 = .ok (.iload_n 3, 1) := by decide +kernel
theorem dX12_days_15 : decode cX12_days 15 = .ok (.iconst 0, 1) := by decide +kernel
theorem dX12_days_16 : decode cX12_days 16 = .ok (.iconst 3, 1) := by decide +kernel
theorem dX12_days_17 : decode cX12_days 17 = .ok (.invokestatic 56, 3) := by decide +kernel
theorem dX12_days_20 : decode cX12_days 20 = .ok (.ifCond .ne 6, 3) := by decide +kernel
theorem dX12_days_23 : decode cX12_days 23 = .ok (.bipush (-102), 2) := by decide +kernel
theorem dX12_days_25 : decode cX12_days 25 = .ok (.ireturn, 1) := by decide +kernel
theorem dX12_days_26 : decode cX12_days 26 = .ok (.aload_n 0, 1) := by decide +kernel
theorem dX12_days_27 : decode cX12_days 27 = .ok (.getfield 82, 3) := by decide +kernel
theorem dX12_days_30 : decode cX12_days 30 = .ok (.ifCond .eq 13, 3) := by decide +kernel
theorem dX12_days_33 : decode cX12_days 33 = .ok (.aload_n 0, 1) := by decide +kernel
theorem dX12_days_34 : decode cX12_days 34 = .ok (.iload_n 1, 1) := by decide +kernel
theorem dX12_days_35 : decode cX12_days 35 = .ok (.iload_n 2, 1) := by decide +kernel
theorem dX12_days_36 : decode cX12_days 36 = .ok (.iload_n 3, 1) := by decide +kernel
theorem dX12_days_37 : decode cX12_days 37 = .ok (.invokevirtual 208, 3) := by decide +kernel
theorem dX12_days_40 : decode cX12_days 40 = .ok (.goto 5, 3) := by decide +kernel
theorem dX12_days_43 : decode cX12_days 43 = .ok (.bipush (-103), 2) := by decide +kernel
theorem dX12_days_45 : decode cX12_days 45 = .ok (.ireturn, 1) := by decide +kernel
theorem dX12_image_0 : decode cX12_image 0 = .ok (.aload_n 0, 1) := by decide +kernel
theorem dX12_image_1 : decode cX12_image 1 = .ok (.getfield 82, 3) := by decide +kernel
theorem dX12_image_4 : decode cX12_image 4 = .ok (.ifCond .ne 6, 3) := by decide +kernel
theorem dX12_image_7 : decode cX12_image 7 = .ok (.bipush (-103), 2) := by decide +kernel
theorem dX12_image_9 : decode cX12_image 9 = .ok (.ireturn, 1) := by decide +kernel
theorem dX12_image_10 : decode cX12_image 10 = .ok (.aload_n 0, 1) := by decide +kernel
theorem dX12_image_11 : decode cX12_image 11 = .ok (.iconst 1, 1) := by decide +kernel
theorem dX12_image_12 : decode cX12_image 12 = .ok (.putfield 212, 3) := by decide +kernel
theorem dX12_image_15 : decode cX12_image 15 = .ok (.aload_n 0, 1) := by decide +kernel
theorem dX12_image_16 : decode cX12_image 16 = .ok (.aload_n 0, 1) := by decide +kernel
theorem dX12_image_17 : decode cX12_image 17 = .ok (.getfield 86, 3) := by decide +kernel
theorem dX12_image_20 : decode cX12_image 20 = .ok (.putfield 215, 3) := by decide +kernel
theorem dX12_image_23 : decode cX12_image 23 = .ok (.aload_n 0, 1) := by decide +kernel
theorem dX12_image_24 : decode cX12_image 24 = .ok (.aload_n 0, 1) := by decide +kernel
theorem dX12_image_25 : decode cX12_image 25 = .ok (.getfield 89, 3) := by decide +kernel
theorem dX12_image_28 : decode cX12_image 28 = .ok (.putfield 218, 3) := by decide +kernel
theorem dX12_image_31 : decode cX12_image 31 = .ok (.aload_n 0, 1) := by decide +kernel
theorem dX12_image_32 : decode cX12_image 32 = .ok (.aload_n 0, 1) := by decide +kernel
theorem dX12_image_33 : decode cX12_image 33 = .ok (.getfield 92, 3) := by decide +kernel
theorem dX12_image_36 : decode cX12_image 36 = .ok (.putfield 221, 3) := by decide +kernel
theorem dX12_image_39 : decode cX12_image 39 = .ok (.aload_n 0, 1) := by decide +kernel
theorem dX12_image_40 : decode cX12_image 40 = .ok (.aload_n 0, 1) := by decide +kernel
theorem dX12_image_41 : decode cX12_image 41 = .ok (.getfield 95, 3) := by decide +kernel
theorem dX12_image_44 : decode cX12_image 44 = .ok (.putfield 224, 3) := by decide +kernel
theorem dX12_image_47 : decode cX12_image 47 = .ok (.aload_n 0, 1) := by decide +kernel
theorem dX12_image_48 : decode cX12_image 48 = .ok (.aload_n 0, 1) := by decide +kernel
theorem dX12_image_49 : decode cX12_image 49 = .ok (.getfield 98, 3) := by decide +kernel
theorem dX12_image_52 : decode cX12_image 52 = .ok (.putfield 227, 3) := by decide +kernel
theorem dX12_image_55 : decode cX12_image 55 = .ok (.iconst 0, 1) := by decide +kernel
theorem dX12_image_56 : decode cX12_image 56 = .ok (.istore_n 1, 1) := by decide +kernel
theorem dX12_image_57 : decode cX12_image 57 = .ok (.iload_n 1, 1) := by decide +kernel
theorem dX12_image_58 : decode cX12_image 58 = .ok (.iconst 4, 1) := by decide +kernel
theorem dX12_image_59 : decode cX12_image 59 = .ok (.if_icmp .gt 21, 3) := by decide +kernel
theorem dX12_image_62 : decode cX12_image 62 = .ok (.aload_n 0, 1) := by decide +kernel
theorem dX12_image_63 : decode cX12_image 63 = .ok (.getfield 44, 3) := by decide +kernel
theorem dX12_image_66 : decode cX12_image 66 = .ok (.iload_n 1, 1) := by decide +kernel
theorem dX12_image_67 : decode cX12_image 67 = .ok (.aload_n 0, 1) := by decide +kernel
theorem dX12_image_68 : decode cX12_image 68 = .ok (.getfield 13, 3) := by decide +kernel
theorem dX12_image_71 : decode cX12_image 71 = .ok (.iload_n 1, 1) := by decide +kernel
theorem dX12_image_72 : decode cX12_image 72 = .ok (.iaload, 1) := by decide +kernel
theorem dX12_image_73 : decode cX12_image 73 = .ok (.iastore, 1) := by decide +kernel
theorem dX12_image_74 : decode cX12_image 74 = .ok (.iinc 1 1, 3) := by decide +kernel
theorem dX12_image_77 : decode cX12_image 77 = .ok (.goto (-20), 3) := by decide +kernel
theorem dX12_image_80 : decode cX12_image 80 = .ok (.iconst 0, 1) := by decide +kernel
theorem dX12_image_81 : decode cX12_image 81 = .ok (.istore_n 1, 1) := by decide +kernel
theorem dX12_image_82 : decode cX12_image 82 = .ok (.iload_n 1, 1) := by decide +kernel
theorem dX12_image_83 : decode cX12_image 83 = .ok (.iconst 4, 1) := by decide +kernel
theorem dX12_image_84 : decode cX12_image 84 = .ok (.if_icmp .ge 21, 3) := by decide +kernel
theorem dX12_image_87 : decode cX12_image 87 = .ok (.aload_n 0, 1) := by decide +kernel
theorem dX12_image_88 : decode cX12_image 88 = .ok (.getfield 47, 3) := by decide +kernel
theorem dX12_image_91 : decode cX12_image 91 = .ok (.iload_n 1, 1) := by decide +kernel
theorem dX12_image_92 : decode cX12_image 92 = .ok (.aload_n 0, 1) := by decide +kernel
theorem dX12_image_93 : decode cX12_image 93 = .ok (.getfield 25, 3) := by decide +kernel
theorem dX12_image_96 : decode cX12_image 96 = .ok (.iload_n 1, 1) := by decide +kernel
theorem dX12_image_97 : decode cX12_image 97 = .ok (.iaload, 1) := by decide +kernel
theorem dX12_image_98 : decode cX12_image 98 = .ok (.iastore, 1) := by decide +kernel
theorem dX12_image_99 : decode cX12_image 99 = .ok (.iinc 1 1, 3) := by decide +kernel
theorem dX12_image_102 : decode cX12_image 102 = .ok (.goto (-20), 3) := by decide +kernel
theorem dX12_image_105 : decode cX12_image 105 = .ok (.iconst 0, 1) := by decide +kernel
theorem dX12_image_106 : decode cX12_image 106 = .ok (.istore_n 1, 1) := by decide +kernel
theorem dX12_image_107 : decode cX12_image 107 = .ok (.iload_n 1, 1) := by decide +kernel
theorem dX12_image_108 : decode cX12_image 108 = .ok (.bipush 12, 2) := by decide +kernel
theorem dX12_image_110 : decode cX12_image 110 = .ok (.if_icmp .ge 33, 3) := by decide +kernel
theorem dX12_image_113 : decode cX12_image 113 = .ok (.aload_n 0, 1) := by decide +kernel
theorem dX12_image_114 : decode cX12_image 114 = .ok (.getfield 50, 3) := by decide +kernel
theorem dX12_image_117 : decode cX12_image 117 = .ok (.iload_n 1, 1) := by decide +kernel
theorem dX12_image_118 : decode cX12_image 118 = .ok (.aload_n 0, 1) := by decide +kernel
theorem dX12_image_119 : decode cX12_image 119 = .ok (.getfield 28, 3) := by decide +kernel
theorem dX12_image_122 : decode cX12_image 122 = .ok (.iload_n 1, 1) := by decide +kernel
theorem dX12_image_123 : decode cX12_image 123 = .ok (.iaload, 1) := by decide +kernel
theorem dX12_image_124 : decode cX12_image 124 = .ok (.iastore, 1) := by decide +kernel
theorem dX12_image_125 : decode cX12_image 125 = .ok (.aload_n 0, 1) := by decide +kernel
theorem dX12_image_126 : decode cX12_image 126 = .ok (.getfield 53, 3) := by decide +kernel
theorem dX12_image_129 : decode cX12_image 129 = .ok (.iload_n 1, 1) := by decide +kernel
theorem dX12_image_130 : decode cX12_image 130 = .ok (.aload_n 0, 1) := by decide +kernel
theorem dX12_image_131 : decode cX12_image 131 = .ok (.getfield 31, 3) := by decide +kernel
theorem dX12_image_134 : decode cX12_image 134 = .ok (.iload_n 1, 1) := by decide +kernel
theorem dX12_image_135 : decode cX12_image 135 = .ok (.iaload, 1) := by decide +kernel
theorem dX12_image_136 : decode cX12_image 136 = .ok (.iastore, 1) := by decide +kernel
theorem dX12_image_137 : decode cX12_image 137 = .ok (.iinc 1 1, 3) := by decide +kernel
theorem dX12_image_140 : decode cX12_image 140 = .ok (.goto (-33), 3) := by decide +kernel
theorem dX12_image_143 : decode cX12_image 143 = .ok (.aload_n 0, 1) := by decide +kernel
theorem dX12_image_144 : decode cX12_image 144 = .ok (.getfield 89, 3) := by decide +kernel
theorem dX12_image_147 : decode cX12_image 147 = .ok (.ireturn, 1) := by decide +kernel
theorem dX12_restore_0 : decode cX12_restore 0 = .ok (.aload_n 0, 1) := by decide +kernel
theorem dX12_restore_1 : decode cX12_restore 1 = .ok (.getfield 212, 3) := by decide +kernel
theorem dX12_restore_4 : decode cX12_restore 4 = .ok (.ifCond .eq 14, 3) := by decide +kernel
theorem dX12_restore_7 : decode cX12_restore 7 = .ok (.aload_n 0, 1) := by decide +kernel
theorem dX12_restore_8 : decode cX12_restore 8 = .ok (.getfield 215, 3) := by decide +kernel
theorem dX12_restore_11 : decode cX12_restore 11 = .ok (.aload_n 0, 1) := by decide +kernel
theorem dX12_restore_12 : decode cX12_restore 12 = .ok (.getfield 86, 3) := by decide +kernel
theorem dX12_restore_15 : decode cX12_restore 15 = .ok (.if_icmp .eq 6, 3) := by decide +kernel
theorem dX12_restore_18 : decode cX12_restore 18 = .ok (.bipush (-103), 2) := by decide +kernel
theorem dX12_restore_20 : decode cX12_restore 20 = .ok (.ireturn, 1) := by decide +kernel
theorem dX12_restore_21 : decode cX12_restore 21 = .ok (.aload_n 0, 1) := by decide +kernel
theorem dX12_restore_22 : decode cX12_restore 22 = .ok (.aload_n 0, 1) := by decide +kernel
theorem dX12_restore_23 : decode cX12_restore 23 = .ok (.getfield 218, 3) := by decide +kernel
theorem dX12_restore_26 : decode cX12_restore 26 = .ok (.putfield 89, 3) := by decide +kernel
theorem dX12_restore_29 : decode cX12_restore 29 = .ok (.aload_n 0, 1) := by decide +kernel
theorem dX12_restore_30 : decode cX12_restore 30 = .ok (.aload_n 0, 1) := by decide +kernel
theorem dX12_restore_31 : decode cX12_restore 31 = .ok (.getfield 221, 3) := by decide +kernel
theorem dX12_restore_34 : decode cX12_restore 34 = .ok (.putfield 92, 3) := by decide +kernel
theorem dX12_restore_37 : decode cX12_restore 37 = .ok (.aload_n 0, 1) := by decide +kernel
theorem dX12_restore_38 : decode cX12_restore 38 = .ok (.aload_n 0, 1) := by decide +kernel
theorem dX12_restore_39 : decode cX12_restore 39 = .ok (.getfield 224, 3) := by decide +kernel
theorem dX12_restore_42 : decode cX12_restore 42 = .ok (.putfield 95, 3) := by decide +kernel
theorem dX12_restore_45 : decode cX12_restore 45 = .ok (.aload_n 0, 1) := by decide +kernel
theorem dX12_restore_46 : decode cX12_restore 46 = .ok (.aload_n 0, 1) := by decide +kernel
theorem dX12_restore_47 : decode cX12_restore 47 = .ok (.getfield 227, 3) := by decide +kernel
theorem dX12_restore_50 : decode cX12_restore 50 = .ok (.putfield 98, 3) := by decide +kernel
theorem dX12_restore_53 : decode cX12_restore 53 = .ok (.iconst 0, 1) := by decide +kernel
theorem dX12_restore_54 : decode cX12_restore 54 = .ok (.istore_n 1, 1) := by decide +kernel
theorem dX12_restore_55 : decode cX12_restore 55 = .ok (.iload_n 1, 1) := by decide +kernel
theorem dX12_restore_56 : decode cX12_restore 56 = .ok (.iconst 4, 1) := by decide +kernel
theorem dX12_restore_57 : decode cX12_restore 57 = .ok (.if_icmp .gt 21, 3) := by decide +kernel
theorem dX12_restore_60 : decode cX12_restore 60 = .ok (.aload_n 0, 1) := by decide +kernel
theorem dX12_restore_61 : decode cX12_restore 61 = .ok (.getfield 13, 3) := by decide +kernel
theorem dX12_restore_64 : decode cX12_restore 64 = .ok (.iload_n 1, 1) := by decide +kernel
theorem dX12_restore_65 : decode cX12_restore 65 = .ok (.aload_n 0, 1) := by decide +kernel
theorem dX12_restore_66 : decode cX12_restore 66 = .ok (.getfield 44, 3) := by decide +kernel
theorem dX12_restore_69 : decode cX12_restore 69 = .ok (.iload_n 1, 1) := by decide +kernel
theorem dX12_restore_70 : decode cX12_restore 70 = .ok (.iaload, 1) := by decide +kernel
theorem dX12_restore_71 : decode cX12_restore 71 = .ok (.iastore, 1) := by decide +kernel
theorem dX12_restore_72 : decode cX12_restore 72 = .ok (.iinc 1 1, 3) := by decide +kernel
theorem dX12_restore_75 : decode cX12_restore 75 = .ok (.goto (-20), 3) := by decide +kernel
theorem dX12_restore_78 : decode cX12_restore 78 = .ok (.iconst 0, 1) := by decide +kernel
theorem dX12_restore_79 : decode cX12_restore 79 = .ok (.istore_n 1, 1) := by decide +kernel
theorem dX12_restore_80 : decode cX12_restore 80 = .ok (.iload_n 1, 1) := by decide +kernel
theorem dX12_restore_81 : decode cX12_restore 81 = .ok (.iconst 4, 1) := by decide +kernel
theorem dX12_restore_82 : decode cX12_restore 82 = .ok (.if_icmp .ge 21, 3) := by decide +kernel
theorem dX12_restore_85 : decode cX12_restore 85 = .ok (.aload_n 0, 1) := by decide +kernel
theorem dX12_restore_86 : decode cX12_restore 86 = .ok (.getfield 25, 3) := by decide +kernel
theorem dX12_restore_89 : decode cX12_restore 89 = .ok (.iload_n 1, 1) := by decide +kernel
theorem dX12_restore_90 : decode cX12_restore 90 = .ok (.aload_n 0, 1) := by decide +kernel
theorem dX12_restore_91 : decode cX12_restore 91 = .ok (.getfield 47, 3) := by decide +kernel
theorem dX12_restore_94 : decode cX12_restore 94 = .ok (.iload_n 1, 1) := by decide +kernel
theorem dX12_restore_95 : decode cX12_restore 95 = .ok (.iaload, 1) := by decide +kernel
theorem dX12_restore_96 : decode cX12_restore 96 = .ok (.iastore, 1) := by decide +kernel
theorem dX12_restore_97 : decode cX12_restore 97 = .ok (.iinc 1 1, 3) := by decide +kernel
theorem dX12_restore_100 : decode cX12_restore 100 = .ok (.goto (-20), 3) := by decide +kernel
theorem dX12_restore_103 : decode cX12_restore 103 = .ok (.iconst 0, 1) := by decide +kernel
theorem dX12_restore_104 : decode cX12_restore 104 = .ok (.istore_n 1, 1) := by decide +kernel
theorem dX12_restore_105 : decode cX12_restore 105 = .ok (.iload_n 1, 1) := by decide +kernel
theorem dX12_restore_106 : decode cX12_restore 106 = .ok (.bipush 12, 2) := by decide +kernel
theorem dX12_restore_108 : decode cX12_restore 108 = .ok (.if_icmp .ge 33, 3) := by decide +kernel
theorem dX12_restore_111 : decode cX12_restore 111 = .ok (.aload_n 0, 1) := by decide +kernel
theorem dX12_restore_112 : decode cX12_restore 112 = .ok (.getfield 28, 3) := by decide +kernel
theorem dX12_restore_115 : decode cX12_restore 115 = .ok (.iload_n 1, 1) := by decide +kernel
theorem dX12_restore_116 : decode cX12_restore 116 = .ok (.aload_n 0, 1) := by decide +kernel
theorem dX12_restore_117 : decode cX12_restore 117 = .ok (.getfield 50, 3) := by decide +kernel
theorem dX12_restore_120 : decode cX12_restore 120 = .ok (.iload_n 1, 1) := by decide +kernel
theorem dX12_restore_121 : decode cX12_restore 121 = .ok (.iaload, 1) := by decide +kernel
theorem dX12_restore_122 : decode cX12_restore 122 = .ok (.iastore, 1) := by decide +kernel
theorem dX12_restore_123 : decode cX12_restore 123 = .ok (.aload_n 0, 1) := by decide +kernel
theorem dX12_restore_124 : decode cX12_restore 124 = .ok (.getfield 31, 3) := by decide +kernel
theorem dX12_restore_127 : decode cX12_restore 127 = .ok (.iload_n 1, 1) := by decide +kernel
theorem dX12_restore_128 : decode cX12_restore 128 = .ok (.aload_n 0, 1) := by decide +kernel
theorem dX12_restore_129 : decode cX12_restore 129 = .ok (.getfield 53, 3) := by decide +kernel
theorem dX12_restore_132 : decode cX12_restore 132 = .ok (.iload_n 1, 1) := by decide +kernel
theorem dX12_restore_133 : decode cX12_restore 133 = .ok (.iaload, 1) := by decide +kernel
theorem dX12_restore_134 : decode cX12_restore 134 = .ok (.iastore, 1) := by decide +kernel
theorem dX12_restore_135 : decode cX12_restore 135 = .ok (.iinc 1 1, 3) := by decide +kernel
theorem dX12_restore_138 : decode cX12_restore 138 = .ok (.goto (-33), 3) := by decide +kernel
theorem dX12_restore_141 : decode cX12_restore 141 = .ok (.aload_n 0, 1) := by decide +kernel
theorem dX12_restore_142 : decode cX12_restore 142 = .ok (.getfield 89, 3) := by decide +kernel
theorem dX12_restore_145 : decode cX12_restore 145 = .ok (.ireturn, 1) := by decide +kernel
theorem dX12_paidAll_0 : decode cX12_paidAll 0 = .ok (.iconst 0, 1) := by decide +kernel
theorem dX12_paidAll_1 : decode cX12_paidAll 1 = .ok (.istore_n 1, 1) := by decide +kernel
theorem dX12_paidAll_2 : decode cX12_paidAll 2 = .ok (.iconst 0, 1) := by decide +kernel
theorem dX12_paidAll_3 : decode cX12_paidAll 3 = .ok (.istore_n 2, 1) := by decide +kernel
theorem dX12_paidAll_4 : decode cX12_paidAll 4 = .ok (.iload_n 2, 1) := by decide +kernel
theorem dX12_paidAll_5 : decode cX12_paidAll 5 = .ok (.aload_n 0, 1) := by decide +kernel
theorem dX12_paidAll_6 : decode cX12_paidAll 6 = .ok (.getfield 95, 3) := by decide +kernel
theorem dX12_paidAll_9 : decode cX12_paidAll 9 = .ok (.if_icmp .ge 18, 3) := by decide +kernel
theorem dX12_paidAll_12 : decode cX12_paidAll 12 = .ok (.iload_n 1, 1) := by decide +kernel
theorem dX12_paidAll_13 : decode cX12_paidAll 13 = .ok (.aload_n 0, 1) := by decide +kernel
theorem dX12_paidAll_14 : decode cX12_paidAll 14 = .ok (.getfield 25, 3) := by decide +kernel
theorem dX12_paidAll_17 : decode cX12_paidAll 17 = .ok (.iload_n 2, 1) := by decide +kernel
theorem dX12_paidAll_18 : decode cX12_paidAll 18 = .ok (.iaload, 1) := by decide +kernel
theorem dX12_paidAll_19 : decode cX12_paidAll 19 = .ok (.iadd, 1) := by decide +kernel
theorem dX12_paidAll_20 : decode cX12_paidAll 20 = .ok (.istore_n 1, 1) := by decide +kernel
theorem dX12_paidAll_21 : decode cX12_paidAll 21 = .ok (.iinc 2 1, 3) := by decide +kernel
theorem dX12_paidAll_24 : decode cX12_paidAll 24 = .ok (.goto (-20), 3) := by decide +kernel
theorem dX12_paidAll_27 : decode cX12_paidAll 27 = .ok (.iload_n 1, 1) := by decide +kernel
theorem dX12_paidAll_28 : decode cX12_paidAll 28 = .ok (.ireturn, 1) := by decide +kernel
theorem dX12_howMany_0 : decode cX12_howMany 0 = .ok (.iload_n 1, 1) := by decide +kernel
theorem dX12_howMany_1 : decode cX12_howMany 1 = .ok (.tableswitch 105 0 9 #[55, 60, 65, 70, 75, 80, 85, 90, 95, 100], 55) := by decide +kernel
theorem dX12_howMany_56 : decode cX12_howMany 56 = .ok (.aload_n 0, 1) := by decide +kernel
theorem dX12_howMany_57 : decode cX12_howMany 57 = .ok (.getfield 76, 3) := by decide +kernel
theorem dX12_howMany_60 : decode cX12_howMany 60 = .ok (.ireturn, 1) := by decide +kernel
theorem dX12_howMany_61 : decode cX12_howMany 61 = .ok (.aload_n 0, 1) := by decide +kernel
theorem dX12_howMany_62 : decode cX12_howMany 62 = .ok (.getfield 79, 3) := by decide +kernel
theorem dX12_howMany_65 : decode cX12_howMany 65 = .ok (.ireturn, 1) := by decide +kernel
theorem dX12_howMany_66 : decode cX12_howMany 66 = .ok (.aload_n 0, 1) := by decide +kernel
theorem dX12_howMany_67 : decode cX12_howMany 67 = .ok (.getfield 89, 3) := by decide +kernel
theorem dX12_howMany_70 : decode cX12_howMany 70 = .ok (.ireturn, 1) := by decide +kernel
theorem dX12_howMany_71 : decode cX12_howMany 71 = .ok (.aload_n 0, 1) := by decide +kernel
theorem dX12_howMany_72 : decode cX12_howMany 72 = .ok (.getfield 92, 3) := by decide +kernel
theorem dX12_howMany_75 : decode cX12_howMany 75 = .ok (.ireturn, 1) := by decide +kernel
theorem dX12_howMany_76 : decode cX12_howMany 76 = .ok (.aload_n 0, 1) := by decide +kernel
theorem dX12_howMany_77 : decode cX12_howMany 77 = .ok (.invokevirtual 119, 3) := by decide +kernel
theorem dX12_howMany_80 : decode cX12_howMany 80 = .ok (.ireturn, 1) := by decide +kernel
theorem dX12_howMany_81 : decode cX12_howMany 81 = .ok (.aload_n 0, 1) := by decide +kernel
theorem dX12_howMany_82 : decode cX12_howMany 82 = .ok (.getfield 95, 3) := by decide +kernel
theorem dX12_howMany_85 : decode cX12_howMany 85 = .ok (.ireturn, 1) := by decide +kernel
theorem dX12_howMany_86 : decode cX12_howMany 86 = .ok (.aload_n 0, 1) := by decide +kernel
theorem dX12_howMany_87 : decode cX12_howMany 87 = .ok (.invokevirtual 230, 3) := by decide +kernel
theorem dX12_howMany_90 : decode cX12_howMany 90 = .ok (.ireturn, 1) := by decide +kernel
theorem dX12_howMany_91 : decode cX12_howMany 91 = .ok (.aload_n 0, 1) := by decide +kernel
theorem dX12_howMany_92 : decode cX12_howMany 92 = .ok (.getfield 98, 3) := by decide +kernel
theorem dX12_howMany_95 : decode cX12_howMany 95 = .ok (.ireturn, 1) := by decide +kernel
theorem dX12_howMany_96 : decode cX12_howMany 96 = .ok (.aload_n 0, 1) := by decide +kernel
theorem dX12_howMany_97 : decode cX12_howMany 97 = .ok (.getfield 60, 3) := by decide +kernel
theorem dX12_howMany_100 : decode cX12_howMany 100 = .ok (.ireturn, 1) := by decide +kernel
theorem dX12_howMany_101 : decode cX12_howMany 101 = .ok (.aload_n 0, 1) := by decide +kernel
theorem dX12_howMany_102 : decode cX12_howMany 102 = .ok (.getfield 86, 3) := by decide +kernel
theorem dX12_howMany_105 : decode cX12_howMany 105 = .ok (.ireturn, 1) := by decide +kernel
theorem dX12_howMany_106 : decode cX12_howMany 106 = .ok (.bipush (-102), 2) := by decide +kernel
theorem dX12_howMany_108 : decode cX12_howMany 108 = .ok (.ireturn, 1) := by decide +kernel
theorem dX12_count_0 : decode cX12_count 0 = .ok (.aload_n 0, 1) := by decide +kernel
theorem dX12_count_1 : decode cX12_count 1 = .ok (.iload_n 1, 1) := by decide +kernel
theorem dX12_count_2 : decode cX12_count 2 = .ok (.invokevirtual 233, 3) := by decide +kernel
theorem dX12_count_5 : decode cX12_count 5 = .ok (.ireturn, 1) := by decide +kernel
theorem dX12_mix_0 : decode cX12_mix 0 = .ok (.aload_n 0, 1) := by decide +kernel
theorem dX12_mix_1 : decode cX12_mix 1 = .ok (.ldc2_w 236, 3) := by decide +kernel
theorem dX12_mix_4 : decode cX12_mix 4 = .ok (.aload_n 0, 1) := by decide +kernel
theorem dX12_mix_5 : decode cX12_mix 5 = .ok (.getfield 238, 3) := by decide +kernel
theorem dX12_mix_8 : decode cX12_mix 8 = .ok (.lmul, 1) := by decide +kernel
theorem dX12_mix_9 : decode cX12_mix 9 = .ok (.lload_n 1, 1) := by decide +kernel
theorem dX12_mix_10 : decode cX12_mix 10 = .ok (.ladd, 1) := by decide +kernel
theorem dX12_mix_11 : decode cX12_mix 11 = .ok (.putfield 238, 3) := by decide +kernel
theorem dX12_mix_14 : decode cX12_mix 14 = .ok (.return_, 1) := by decide +kernel
theorem dX12_mixLikely_0 : decode cX12_mixLikely 0 = .ok (.iconst 0, 1) := by decide +kernel
theorem dX12_mixLikely_1 : decode cX12_mixLikely 1 = .ok (.istore_n 2, 1) := by decide +kernel
theorem dX12_mixLikely_2 : decode cX12_mixLikely 2 = .ok (.iload_n 2, 1) := by decide +kernel
theorem dX12_mixLikely_3 : decode cX12_mixLikely 3 = .ok (.iconst 3, 1) := by decide +kernel
theorem dX12_mixLikely_4 : decode cX12_mixLikely 4 = .ok (.if_icmp .ge 31, 3) := by decide +kernel
theorem dX12_mixLikely_7 : decode cX12_mixLikely 7 = .ok (.aload_n 0, 1) := by decide +kernel
theorem dX12_mixLikely_8 : decode cX12_mixLikely 8 = .ok (.aload_n 0, 1) := by decide +kernel
theorem dX12_mixLikely_9 : decode cX12_mixLikely 9 = .ok (.iload_n 1, 1) := by decide +kernel
theorem dX12_mixLikely_10 : decode cX12_mixLikely 10 = .ok (.iload_n 2, 1) := by decide +kernel
theorem dX12_mixLikely_11 : decode cX12_mixLikely 11 = .ok (.iconst 0, 1) := by decide +kernel
theorem dX12_mixLikely_12 : decode cX12_mixLikely 12 = .ok (.invokevirtual 143, 3) := by decide +kernel
theorem dX12_mixLikely_15 : decode cX12_mixLikely 15 = .ok (.invokevirtual 241, 3) := by decide +kernel
theorem dX12_mixLikely_18 : decode cX12_mixLikely 18 = .ok (.aload_n 0, 1) := by decide +kernel
theorem dX12_mixLikely_19 : decode cX12_mixLikely 19 = .ok (.aload_n 0, 1) := by decide +kernel
theorem dX12_mixLikely_20 : decode cX12_mixLikely 20 = .ok (.iload_n 1, 1) := by decide +kernel
theorem dX12_mixLikely_21 : decode cX12_mixLikely 21 = .ok (.iload_n 2, 1) := by decide +kernel
theorem dX12_mixLikely_22 : decode cX12_mixLikely 22 = .ok (.iconst 1, 1) := by decide +kernel
theorem dX12_mixLikely_23 : decode cX12_mixLikely 23 = .ok (.invokevirtual 143, 3) := by decide +kernel
theorem dX12_mixLikely_26 : decode cX12_mixLikely 26 = .ok (.invokevirtual 241, 3) := by decide +kernel
theorem dX12_mixLikely_29 : decode cX12_mixLikely 29 = .ok (.iinc 2 1, 3) := by decide +kernel
theorem dX12_mixLikely_32 : decode cX12_mixLikely 32 = .ok (.goto (-30), 3) := by decide +kernel
theorem dX12_mixLikely_35 : decode cX12_mixLikely 35 = .ok (.return_, 1) := by decide +kernel
theorem dX12_digest_0 : decode cX12_digest 0 = .ok (.aload_n 0, 1) := by decide +kernel
theorem dX12_digest_1 : decode cX12_digest 1 = .ok (.ldc2_w 245, 3) := by decide +kernel
theorem dX12_digest_4 : decode cX12_digest 4 = .ok (.putfield 238, 3) := by decide +kernel
theorem dX12_digest_7 : decode cX12_digest 7 = .ok (.iconst 0, 1) := by decide +kernel
theorem dX12_digest_8 : decode cX12_digest 8 = .ok (.istore_n 1, 1) := by decide +kernel
theorem dX12_digest_9 : decode cX12_digest 9 = .ok (.iload_n 1, 1) := by decide +kernel
theorem dX12_digest_10 : decode cX12_digest 10 = .ok (.aload_n 0, 1) := by decide +kernel
theorem dX12_digest_11 : decode cX12_digest 11 = .ok (.getfield 95, 3) := by decide +kernel
theorem dX12_digest_14 : decode cX12_digest 14 = .ok (.if_icmp .ge 33, 3) := by decide +kernel
theorem dX12_digest_17 : decode cX12_digest 17 = .ok (.iconst 0, 1) := by decide +kernel
theorem dX12_digest_18 : decode cX12_digest 18 = .ok (.istore_n 2, 1) := by decide +kernel
theorem dX12_digest_19 : decode cX12_digest 19 = .ok (.iload_n 2, 1) := by decide +kernel
theorem dX12_digest_20 : decode cX12_digest 20 = .ok (.iconst 5, 1) := by decide +kernel
theorem dX12_digest_21 : decode cX12_digest 21 = .ok (.if_icmp .ge 20, 3) := by decide +kernel
theorem dX12_digest_24 : decode cX12_digest 24 = .ok (.aload_n 0, 1) := by decide +kernel
theorem dX12_digest_25 : decode cX12_digest 25 = .ok (.aload_n 0, 1) := by decide +kernel
theorem dX12_digest_26 : decode cX12_digest 26 = .ok (.iload_n 1, 1) := by decide +kernel
theorem dX12_digest_27 : decode cX12_digest 27 = .ok (.iload_n 2, 1) := by decide +kernel
theorem dX12_digest_28 : decode cX12_digest 28 = .ok (.invokevirtual 132, 3) := by decide +kernel
theorem dX12_digest_31 : decode cX12_digest 31 = .ok (.i2l, 1) := by decide +kernel
theorem dX12_digest_32 : decode cX12_digest 32 = .ok (.invokevirtual 241, 3) := by decide +kernel
theorem dX12_digest_35 : decode cX12_digest 35 = .ok (.iinc 2 1, 3) := by decide +kernel
theorem dX12_digest_38 : decode cX12_digest 38 = .ok (.goto (-19), 3) := by decide +kernel
theorem dX12_digest_41 : decode cX12_digest 41 = .ok (.iinc 1 1, 3) := by decide +kernel
theorem dX12_digest_44 : decode cX12_digest 44 = .ok (.goto (-35), 3) := by decide +kernel
theorem dX12_digest_47 : decode cX12_digest 47 = .ok (.aload_n 0, 1) := by decide +kernel
theorem dX12_digest_48 : decode cX12_digest 48 = .ok (.getfield 82, 3) := by decide +kernel
theorem dX12_digest_51 : decode cX12_digest 51 = .ok (.ifCond .eq 88, 3) := by decide +kernel
theorem dX12_digest_54 : decode cX12_digest 54 = .ok (.iconst 1, 1) := by decide +kernel
theorem dX12_digest_55 : decode cX12_digest 55 = .ok (.istore_n 1, 1) := by decide +kernel
theorem dX12_digest_56 : decode cX12_digest 56 = .ok (.iload_n 1, 1) := by decide +kernel
theorem dX12_digest_57 : decode cX12_digest 57 = .ok (.iconst 4, 1) := by decide +kernel
theorem dX12_digest_58 : decode cX12_digest 58 = .ok (.if_icmp .gt 20, 3) := by decide +kernel
theorem dX12_digest_61 : decode cX12_digest 61 = .ok (.aload_n 0, 1) := by decide +kernel
theorem dX12_digest_62 : decode cX12_digest 62 = .ok (.aload_n 0, 1) := by decide +kernel
theorem dX12_digest_63 : decode cX12_digest 63 = .ok (.getfield 13, 3) := by decide +kernel
theorem dX12_digest_66 : decode cX12_digest 66 = .ok (.iload_n 1, 1) := by decide +kernel
theorem dX12_digest_67 : decode cX12_digest 67 = .ok (.iaload, 1) := by decide +kernel
theorem dX12_digest_68 : decode cX12_digest 68 = .ok (.i2l, 1) := by decide +kernel
theorem dX12_digest_69 : decode cX12_digest 69 = .ok (.invokevirtual 241, 3) := by decide +kernel
theorem dX12_digest_72 : decode cX12_digest 72 = .ok (.iinc 1 1, 3) := by decide +kernel
theorem dX12_digest_75 : decode cX12_digest 75 = .ok (.goto (-19), 3) := by decide +kernel
theorem dX12_digest_78 : decode cX12_digest 78 = .ok (.aload_n 0, 1) := by decide +kernel
theorem dX12_digest_79 : decode cX12_digest 79 = .ok (.iconst 1, 1) := by decide +kernel
theorem dX12_digest_80 : decode cX12_digest 80 = .ok (.invokevirtual 247, 3) := by decide +kernel
theorem dX12_digest_83 : decode cX12_digest 83 = .ok (.aload_n 0, 1) := by decide +kernel
theorem dX12_digest_84 : decode cX12_digest 84 = .ok (.bipush 6, 2) := by decide +kernel
theorem dX12_digest_86 : decode cX12_digest 86 = .ok (.invokevirtual 247, 3) := by decide +kernel
theorem dX12_digest_89 : decode cX12_digest 89 = .ok (.aload_n 0, 1) := by decide +kernel
theorem dX12_digest_90 : decode cX12_digest 90 = .ok (.aload_n 0, 1) := by decide +kernel
theorem dX12_digest_91 : decode cX12_digest 91 = .ok (.invokevirtual 151, 3) := by decide +kernel
theorem dX12_digest_94 : decode cX12_digest 94 = .ok (.i2l, 1) := by decide +kernel
theorem dX12_digest_95 : decode cX12_digest 95 = .ok (.invokevirtual 241, 3) := by decide +kernel
theorem dX12_digest_98 : decode cX12_digest 98 = .ok (.aload_n 0, 1) := by decide +kernel
theorem dX12_digest_99 : decode cX12_digest 99 = .ok (.aload_n 0, 1) := by decide +kernel
theorem dX12_digest_100 : decode cX12_digest 100 = .ok (.invokevirtual 154, 3) := by decide +kernel
theorem dX12_digest_103 : decode cX12_digest 103 = .ok (.i2l, 1) := by decide +kernel
theorem dX12_digest_104 : decode cX12_digest 104 = .ok (.invokevirtual 241, 3) := by decide +kernel
theorem dX12_digest_107 : decode cX12_digest 107 = .ok (.aload_n 0, 1) := by decide +kernel
theorem dX12_digest_108 : decode cX12_digest 108 = .ok (.aload_n 0, 1) := by decide +kernel
theorem dX12_digest_109 : decode cX12_digest 109 = .ok (.iconst 1, 1) := by decide +kernel
theorem dX12_digest_110 : decode cX12_digest 110 = .ok (.invokevirtual 157, 3) := by decide +kernel
theorem dX12_digest_113 : decode cX12_digest 113 = .ok (.i2l, 1) := by decide +kernel
theorem dX12_digest_114 : decode cX12_digest 114 = .ok (.invokevirtual 241, 3) := by decide +kernel
theorem dX12_digest_117 : decode cX12_digest 117 = .ok (.aload_n 0, 1) := by decide +kernel
theorem dX12_digest_118 : decode cX12_digest 118 = .ok (.aload_n 0, 1) := by decide +kernel
theorem dX12_digest_119 : decode cX12_digest 119 = .ok (.iconst 2, 1) := by decide +kernel
theorem dX12_digest_120 : decode cX12_digest 120 = .ok (.iconst 5, 1) := by decide +kernel
theorem dX12_digest_121 : decode cX12_digest 121 = .ok (.iconst 0, 1) := by decide +kernel
theorem dX12_digest_122 : decode cX12_digest 122 = .ok (.invokevirtual 166, 3) := by decide +kernel
theorem dX12_digest_125 : decode cX12_digest 125 = .ok (.invokevirtual 241, 3) := by decide +kernel
theorem dX12_digest_128 : decode cX12_digest 128 = .ok (.aload_n 0, 1) := by decide +kernel
theorem dX12_digest_129 : decode cX12_digest 129 = .ok (.aload_n 0, 1) := by decide +kernel
theorem dX12_digest_130 : decode cX12_digest 130 = .ok (.iconst 2, 1) := by decide +kernel
theorem dX12_digest_131 : decode cX12_digest 131 = .ok (.iconst 5, 1) := by decide +kernel
theorem dX12_digest_132 : decode cX12_digest 132 = .ok (.iconst 1, 1) := by decide +kernel
theorem dX12_digest_133 : decode cX12_digest 133 = .ok (.invokevirtual 166, 3) := by decide +kernel
theorem dX12_digest_136 : decode cX12_digest 136 = .ok (.invokevirtual 241, 3) := by decide +kernel
theorem dX12_digest_139 : decode cX12_digest 139 = .ok (.iconst 0, 1) := by decide +kernel
theorem dX12_digest_140 : decode cX12_digest 140 = .ok (.istore_n 1, 1) := by decide +kernel
theorem dX12_digest_141 : decode cX12_digest 141 = .ok (.iload_n 1, 1) := by decide +kernel
theorem dX12_digest_142 : decode cX12_digest 142 = .ok (.iconst 5, 1) := by decide +kernel
theorem dX12_digest_143 : decode cX12_digest 143 = .ok (.if_icmp .ge 20, 3) := by decide +kernel
theorem dX12_digest_146 : decode cX12_digest 146 = .ok (.aload_n 0, 1) := by decide +kernel
theorem dX12_digest_147 : decode cX12_digest 147 = .ok (.aload_n 0, 1) := by decide +kernel
theorem dX12_digest_148 : decode cX12_digest 148 = .ok (.iload_n 1, 1) := by decide +kernel
theorem dX12_digest_149 : decode cX12_digest 149 = .ok (.iconst 1, 1) := by decide +kernel
theorem dX12_digest_150 : decode cX12_digest 150 = .ok (.invokevirtual 169, 3) := by decide +kernel
theorem dX12_digest_153 : decode cX12_digest 153 = .ok (.i2l, 1) := by decide +kernel
theorem dX12_digest_154 : decode cX12_digest 154 = .ok (.invokevirtual 241, 3) := by decide +kernel
theorem dX12_digest_157 : decode cX12_digest 157 = .ok (.iinc 1 1, 3) := by decide +kernel
theorem dX12_digest_160 : decode cX12_digest 160 = .ok (.goto (-19), 3) := by decide +kernel
theorem dX12_digest_163 : decode cX12_digest 163 = .ok (.aload_n 0, 1) := by decide +kernel
theorem dX12_digest_164 : decode cX12_digest 164 = .ok (.aload_n 0, 1) := by decide +kernel
theorem dX12_digest_165 : decode cX12_digest 165 = .ok (.invokevirtual 172, 3) := by decide +kernel
theorem dX12_digest_168 : decode cX12_digest 168 = .ok (.i2l, 1) := by decide +kernel
theorem dX12_digest_169 : decode cX12_digest 169 = .ok (.invokevirtual 241, 3) := by decide +kernel
theorem dX12_digest_172 : decode cX12_digest 172 = .ok (.iconst 0, 1) := by decide +kernel
theorem dX12_digest_173 : decode cX12_digest 173 = .ok (.istore_n 1, 1) := by decide +kernel
theorem dX12_digest_174 : decode cX12_digest 174 = .ok (.iload_n 1, 1) := by decide +kernel
theorem dX12_digest_175 : decode cX12_digest 175 = .ok (.aload_n 0, 1) := by decide +kernel
theorem dX12_digest_176 : decode cX12_digest 176 = .ok (.getfield 60, 3) := by decide +kernel
theorem dX12_digest_179 : decode cX12_digest 179 = .ok (.if_icmp .ge 20, 3) := by decide +kernel
theorem dX12_digest_182 : decode cX12_digest 182 = .ok (.aload_n 0, 1) := by decide +kernel
theorem dX12_digest_183 : decode cX12_digest 183 = .ok (.aload_n 0, 1) := by decide +kernel
theorem dX12_digest_184 : decode cX12_digest 184 = .ok (.getfield 34, 3) := by decide +kernel
theorem dX12_digest_187 : decode cX12_digest 187 = .ok (.iload_n 1, 1) := by decide +kernel
theorem dX12_digest_188 : decode cX12_digest 188 = .ok (.baload, 1) := by decide +kernel
theorem dX12_digest_189 : decode cX12_digest 189 = .ok (.i2l, 1) := by decide +kernel
theorem dX12_digest_190 : decode cX12_digest 190 = .ok (.invokevirtual 241, 3) := by decide +kernel
theorem dX12_digest_193 : decode cX12_digest 193 = .ok (.iinc 1 1, 3) := by decide +kernel
theorem dX12_digest_196 : decode cX12_digest 196 = .ok (.goto (-22), 3) := by decide +kernel
theorem dX12_digest_199 : decode cX12_digest 199 = .ok (.iconst 0, 1) := by decide +kernel
theorem dX12_digest_200 : decode cX12_digest 200 = .ok (.istore_n 1, 1) := by decide +kernel
theorem dX12_digest_201 : decode cX12_digest 201 = .ok (.iload_n 1, 1) := by decide +kernel
theorem dX12_digest_202 : decode cX12_digest 202 = .ok (.bipush 10, 2) := by decide +kernel
theorem dX12_digest_204 : decode cX12_digest 204 = .ok (.if_icmp .ge 19, 3) := by decide +kernel
theorem dX12_digest_207 : decode cX12_digest 207 = .ok (.aload_n 0, 1) := by decide +kernel
theorem dX12_digest_208 : decode cX12_digest 208 = .ok (.aload_n 0, 1) := by decide +kernel
theorem dX12_digest_209 : decode cX12_digest 209 = .ok (.iload_n 1, 1) := by decide +kernel
theorem dX12_digest_210 : decode cX12_digest 210 = .ok (.invokevirtual 233, 3) := by decide +kernel
theorem dX12_digest_213 : decode cX12_digest 213 = .ok (.i2l, 1) := by decide +kernel
theorem dX12_digest_214 : decode cX12_digest 214 = .ok (.invokevirtual 241, 3) := by decide +kernel
theorem dX12_digest_217 : decode cX12_digest 217 = .ok (.iinc 1 1, 3) := by decide +kernel
theorem dX12_digest_220 : decode cX12_digest 220 = .ok (.goto (-19), 3) := by decide +kernel
theorem dX12_digest_223 : decode cX12_digest 223 = .ok (.aload_n 0, 1) := by decide +kernel
theorem dX12_digest_224 : decode cX12_digest 224 = .ok (.getfield 238, 3) := by decide +kernel
theorem dX12_digest_227 : decode cX12_digest 227 = .ok (.lreturn, 1) := by decide +kernel
theorem dL_law_0 : decode cL_law 0 = .ok (.new 7, 3) := by decide +kernel
theorem dL_law_3 : decode cL_law 3 = .ok (.dup, 1) := by decide +kernel
theorem dL_law_4 : decode cL_law 4 = .ok (.invokespecial 9, 3) := by decide +kernel
theorem dL_law_7 : decode cL_law 7 = .ok (.astore_n 1, 1) := by decide +kernel
theorem dL_law_8 : decode cL_law 8 = .ok (.new 10, 3) := by decide +kernel
theorem dL_law_11 : decode cL_law 11 = .ok (.dup, 1) := by decide +kernel
theorem dL_law_12 : decode cL_law 12 = .ok (.invokespecial 12, 3) := by decide +kernel
theorem dL_law_15 : decode cL_law 15 = .ok (.astore_n 2, 1) := by decide +kernel
theorem dL_law_16 : decode cL_law 16 = .ok (.iconst 0, 1) := by decide +kernel
theorem dL_law_17 : decode cL_law 17 = .ok (.istore_n 3, 1) := by decide +kernel
theorem dL_law_18 : decode cL_law 18 = .ok (.iload_n 3, 1) := by decide +kernel
theorem dL_law_19 : decode cL_law 19 = .ok (.aload_n 0, 1) := by decide +kernel
theorem dL_law_20 : decode cL_law 20 = .ok (.arraylength, 1) := by decide +kernel
theorem dL_law_21 : decode cL_law 21 = .ok (.iconst 4, 1) := by decide +kernel
theorem dL_law_22 : decode cL_law 22 = .ok (.isub, 1) := by decide +kernel
theorem dL_law_23 : decode cL_law 23 = .ok (.if_icmp .gt 729, 3) := by decide +kernel
theorem dL_law_26 : decode cL_law 26 = .ok (.aload_n 0, 1) := by decide +kernel
theorem dL_law_27 : decode cL_law 27 = .ok (.iload_n 3, 1) := by decide +kernel
theorem dL_law_28 : decode cL_law 28 = .ok (.iaload, 1) := by decide +kernel
theorem dL_law_29 : decode cL_law 29 = .ok (.bipush 31, 2) := by decide +kernel
theorem dL_law_31 : decode cL_law 31 = .ok (.iand, 1) := by decide +kernel
theorem dL_law_32 : decode cL_law 32 = .ok (.tableswitch 714 0 24 #[116, 139, 152, 165, 178, 211, 234, 257, 280, 323, 356, 389, 433, 446, 459, 482, 526, 559, 572, 595, 608, 651, 664, 677, 700], 116) := by decide +kernel
theorem dL_law_148 : decode cL_law 148 = .ok (.aload_n 1, 1) := by decide +kernel
theorem dL_law_149 : decode cL_law 149 = .ok (.aload_n 0, 1) := by decide +kernel
theorem dL_law_150 : decode cL_law 150 = .ok (.iload_n 3, 1) := by decide +kernel
theorem dL_law_151 : decode cL_law 151 = .ok (.iconst 1, 1) := by decide +kernel
theorem dL_law_152 : decode cL_law 152 = .ok (.iadd, 1) := by decide +kernel
theorem dL_law_153 : decode cL_law 153 = .ok (.iaload, 1) := by decide +kernel
theorem dL_law_154 : decode cL_law 154 = .ok (.invokevirtual 13, 3) := by decide +kernel
theorem dL_law_157 : decode cL_law 157 = .ok (.aload_n 2, 1) := by decide +kernel
theorem dL_law_158 : decode cL_law 158 = .ok (.aload_n 0, 1) := by decide +kernel
theorem dL_law_159 : decode cL_law 159 = .ok (.iload_n 3, 1) := by decide +kernel
theorem dL_law_160 : decode cL_law 160 = .ok (.iconst 1, 1) := by decide +kernel
theorem dL_law_161 : decode cL_law 161 = .ok (.iadd, 1) := by decide +kernel
theorem dL_law_162 : decode cL_law 162 = .ok (.iaload, 1) := by decide +kernel
theorem dL_law_163 : decode cL_law 163 = .ok (.invokevirtual 17, 3) := by decide +kernel
theorem dL_law_166 : decode cL_law 166 = .ok (.if_icmp .eq 580, 3) := by decide +kernel
theorem dL_law_169 : decode cL_law 169 = .ok (.iconst 0, 1) := by decide +kernel
theorem dL_law_170 : decode cL_law 170 = .ok (.ireturn, 1) := by decide +kernel
theorem dL_law_171 : decode cL_law 171 = .ok (.aload_n 1, 1) := by decide +kernel
theorem dL_law_172 : decode cL_law 172 = .ok (.invokevirtual 18, 3) := by decide +kernel
theorem dL_law_175 : decode cL_law 175 = .ok (.aload_n 2, 1) := by decide +kernel
theorem dL_law_176 : decode cL_law 176 = .ok (.invokevirtual 22, 3) := by decide +kernel
theorem dL_law_179 : decode cL_law 179 = .ok (.if_icmp .eq 567, 3) := by decide +kernel
theorem dL_law_182 : decode cL_law 182 = .ok (.iconst 0, 1) := by decide +kernel
theorem dL_law_183 : decode cL_law 183 = .ok (.ireturn, 1) := by decide +kernel
theorem dL_law_184 : decode cL_law 184 = .ok (.aload_n 1, 1) := by decide +kernel
theorem dL_law_185 : decode cL_law 185 = .ok (.invokevirtual 23, 3) := by decide +kernel
theorem dL_law_188 : decode cL_law 188 = .ok (.aload_n 2, 1) := by decide +kernel
theorem dL_law_189 : decode cL_law 189 = .ok (.invokevirtual 26, 3) := by decide +kernel
theorem dL_law_192 : decode cL_law 192 = .ok (.if_icmp .eq 554, 3) := by decide +kernel
theorem dL_law_195 : decode cL_law 195 = .ok (.iconst 0, 1) := by decide +kernel
theorem dL_law_196 : decode cL_law 196 = .ok (.ireturn, 1) := by decide +kernel
theorem dL_law_197 : decode cL_law 197 = .ok (.aload_n 1, 1) := by decide +kernel
theorem dL_law_198 : decode cL_law 198 = .ok (.invokevirtual 27, 3) := by decide +kernel
theorem dL_law_201 : decode cL_law 201 = .ok (.aload_n 2, 1) := by decide +kernel
theorem dL_law_202 : decode cL_law 202 = .ok (.invokevirtual 30, 3) := by decide +kernel
theorem dL_law_205 : decode cL_law 205 = .ok (.if_icmp .eq 541, 3) := by decide +kernel
theorem dL_law_208 : decode cL_law 208 = .ok (.iconst 0, 1) := by decide +kernel
theorem dL_law_209 : decode cL_law 209 = .ok (.ireturn, 1) := by decide +kernel
theorem dL_law_210 : decode cL_law 210 = .ok (.aload_n 1, 1) := by decide +kernel
theorem dL_law_211 : decode cL_law 211 = .ok (.aload_n 0, 1) := by decide +kernel
theorem dL_law_212 : decode cL_law 212 = .ok (.iload_n 3, 1) := by decide +kernel
theorem dL_law_213 : decode cL_law 213 = .ok (.iconst 1, 1) := by decide +kernel
theorem dL_law_214 : decode cL_law 214 = .ok (.iadd, 1) := by decide +kernel
theorem dL_law_215 : decode cL_law 215 = .ok (.iaload, 1) := by decide +kernel
theorem dL_law_216 : decode cL_law 216 = .ok (.aload_n 0, 1) := by decide +kernel
theorem dL_law_217 : decode cL_law 217 = .ok (.iload_n 3, 1) := by decide +kernel
theorem dL_law_218 : decode cL_law 218 = .ok (.iconst 2, 1) := by decide +kernel
theorem dL_law_219 : decode cL_law 219 = .ok (.iadd, 1) := by decide +kernel
theorem dL_law_220 : decode cL_law 220 = .ok (.iaload, 1) := by decide +kernel
theorem dL_law_221 : decode cL_law 221 = .ok (.invokevirtual 31, 3) := by decide +kernel
theorem dL_law_224 : decode cL_law 224 = .ok (.aload_n 2, 1) := by decide +kernel
theorem dL_law_225 : decode cL_law 225 = .ok (.aload_n 0, 1) := by decide +kernel
theorem dL_law_226 : decode cL_law 226 = .ok (.iload_n 3, 1) := by decide +kernel
theorem dL_law_227 : decode cL_law 227 = .ok (.iconst 1, 1) := by decide +kernel
theorem dL_law_228 : decode cL_law 228 = .ok (.iadd, 1) := by decide +kernel
theorem dL_law_229 : decode cL_law 229 = .ok (.iaload, 1) := by decide +kernel
theorem dL_law_230 : decode cL_law 230 = .ok (.aload_n 0, 1) := by decide +kernel
theorem dL_law_231 : decode cL_law 231 = .ok (.iload_n 3, 1) := by decide +kernel
theorem dL_law_232 : decode cL_law 232 = .ok (.iconst 2, 1) := by decide +kernel
theorem dL_law_233 : decode cL_law 233 = .ok (.iadd, 1) := by decide +kernel
theorem dL_law_234 : decode cL_law 234 = .ok (.iaload, 1) := by decide +kernel
theorem dL_law_235 : decode cL_law 235 = .ok (.invokevirtual 35, 3) := by decide +kernel
theorem dL_law_238 : decode cL_law 238 = .ok (.if_icmp .eq 508, 3) := by decide +kernel
theorem dL_law_241 : decode cL_law 241 = .ok (.iconst 0, 1) := by decide +kernel
theorem dL_law_242 : decode cL_law 242 = .ok (.ireturn, 1) := by decide +kernel
theorem dL_law_243 : decode cL_law 243 = .ok (.aload_n 1, 1) := by decide +kernel
theorem dL_law_244 : decode cL_law 244 = .ok (.aload_n 0, 1) := by decide +kernel
theorem dL_law_245 : decode cL_law 245 = .ok (.iload_n 3, 1) := by decide +kernel
theorem dL_law_246 : decode cL_law 246 = .ok (.iconst 1, 1) := by decide +kernel
theorem dL_law_247 : decode cL_law 247 = .ok (.iadd, 1) := by decide +kernel
theorem dL_law_248 : decode cL_law 248 = .ok (.iaload, 1) := by decide +kernel
theorem dL_law_249 : decode cL_law 249 = .ok (.invokevirtual 36, 3) := by decide +kernel
theorem dL_law_252 : decode cL_law 252 = .ok (.aload_n 2, 1) := by decide +kernel
theorem dL_law_253 : decode cL_law 253 = .ok (.aload_n 0, 1) := by decide +kernel
theorem dL_law_254 : decode cL_law 254 = .ok (.iload_n 3, 1) := by decide +kernel
theorem dL_law_255 : decode cL_law 255 = .ok (.iconst 1, 1) := by decide +kernel
theorem dL_law_256 : decode cL_law 256 = .ok (.iadd, 1) := by decide +kernel
theorem dL_law_257 : decode cL_law 257 = .ok (.iaload, 1) := by decide +kernel
theorem dL_law_258 : decode cL_law 258 = .ok (.invokevirtual 39, 3) := by decide +kernel
theorem dL_law_261 : decode cL_law 261 = .ok (.if_icmp .eq 485, 3) := by decide +kernel
theorem dL_law_264 : decode cL_law 264 = .ok (.iconst 0, 1) := by decide +kernel
theorem dL_law_265 : decode cL_law 265 = .ok (.ireturn, 1) := by decide +kernel
theorem dL_law_266 : decode cL_law 266 = .ok (.aload_n 1, 1) := by decide +kernel
theorem dL_law_267 : decode cL_law 267 = .ok (.aload_n 0, 1) := by decide +kernel
theorem dL_law_268 : decode cL_law 268 = .ok (.iload_n 3, 1) := by decide +kernel
theorem dL_law_269 : decode cL_law 269 = .ok (.iconst 1, 1) := by decide +kernel
theorem dL_law_270 : decode cL_law 270 = .ok (.iadd, 1) := by decide +kernel
theorem dL_law_271 : decode cL_law 271 = .ok (.iaload, 1) := by decide +kernel
theorem dL_law_272 : decode cL_law 272 = .ok (.invokevirtual 40, 3) := by decide +kernel
theorem dL_law_275 : decode cL_law 275 = .ok (.aload_n 2, 1) := by decide +kernel
theorem dL_law_276 : decode cL_law 276 = .ok (.aload_n 0, 1) := by decide +kernel
theorem dL_law_277 : decode cL_law 277 = .ok (.iload_n 3, 1) := by decide +kernel
theorem dL_law_278 : decode cL_law 278 = .ok (.iconst 1, 1) := by decide +kernel
theorem dL_law_279 : decode cL_law 279 = .ok (.iadd, 1) := by decide +kernel
theorem dL_law_280 : decode cL_law 280 = .ok (.iaload, 1) := by decide +kernel
theorem dL_law_281 : decode cL_law 281 = .ok (.invokevirtual 43, 3) := by decide +kernel
theorem dL_law_284 : decode cL_law 284 = .ok (.if_icmp .eq 462, 3) := by decide +kernel
theorem dL_law_287 : decode cL_law 287 = .ok (.iconst 0, 1) := by decide +kernel
theorem dL_law_288 : decode cL_law 288 = .ok (.ireturn, 1) := by decide +kernel
theorem dL_law_289 : decode cL_law 289 = .ok (.aload_n 1, 1) := by decide +kernel
theorem dL_law_290 : decode cL_law 290 = .ok (.aload_n 0, 1) := by decide +kernel
theorem dL_law_291 : decode cL_law 291 = .ok (.iload_n 3, 1) := by decide +kernel
theorem dL_law_292 : decode cL_law 292 = .ok (.iconst 1, 1) := by decide +kernel
theorem dL_law_293 : decode cL_law 293 = .ok (.iadd, 1) := by decide +kernel
theorem dL_law_294 : decode cL_law 294 = .ok (.iaload, 1) := by decide +kernel
theorem dL_law_295 : decode cL_law 295 = .ok (.invokevirtual 44, 3) := by decide +kernel
theorem dL_law_298 : decode cL_law 298 = .ok (.aload_n 2, 1) := by decide +kernel
theorem dL_law_299 : decode cL_law 299 = .ok (.aload_n 0, 1) := by decide +kernel
theorem dL_law_300 : decode cL_law 300 = .ok (.iload_n 3, 1) := by decide +kernel
theorem dL_law_301 : decode cL_law 301 = .ok (.iconst 1, 1) := by decide +kernel
theorem dL_law_302 : decode cL_law 302 = .ok (.iadd, 1) := by decide +kernel
theorem dL_law_303 : decode cL_law 303 = .ok (.iaload, 1) := by decide +kernel
theorem dL_law_304 : decode cL_law 304 = .ok (.invokevirtual 47, 3) := by decide +kernel
theorem dL_law_307 : decode cL_law 307 = .ok (.if_icmp .eq 439, 3) := by decide +kernel
theorem dL_law_310 : decode cL_law 310 = .ok (.iconst 0, 1) := by decide +kernel
theorem dL_law_311 : decode cL_law 311 = .ok (.ireturn, 1) := by decide +kernel
theorem dL_law_312 : decode cL_law 312 = .ok (.aload_n 1, 1) := by decide +kernel
theorem dL_law_313 : decode cL_law 313 = .ok (.aload_n 0, 1) := by decide +kernel
theorem dL_law_314 : decode cL_law 314 = .ok (.iload_n 3, 1) := by decide +kernel
theorem dL_law_315 : decode cL_law 315 = .ok (.iconst 1, 1) := by decide +kernel
theorem dL_law_316 : decode cL_law 316 = .ok (.iadd, 1) := by decide +kernel
theorem dL_law_317 : decode cL_law 317 = .ok (.iaload, 1) := by decide +kernel
theorem dL_law_318 : decode cL_law 318 = .ok (.aload_n 0, 1) := by decide +kernel
theorem dL_law_319 : decode cL_law 319 = .ok (.iload_n 3, 1) := by decide +kernel
theorem dL_law_320 : decode cL_law 320 = .ok (.iconst 2, 1) := by decide +kernel
theorem dL_law_321 : decode cL_law 321 = .ok (.iadd, 1) := by decide +kernel
theorem dL_law_322 : decode cL_law 322 = .ok (.iaload, 1) := by decide +kernel
theorem dL_law_323 : decode cL_law 323 = .ok (.aload_n 0, 1) := by decide +kernel
theorem dL_law_324 : decode cL_law 324 = .ok (.iload_n 3, 1) := by decide +kernel
theorem dL_law_325 : decode cL_law 325 = .ok (.iconst 3, 1) := by decide +kernel
theorem dL_law_326 : decode cL_law 326 = .ok (.iadd, 1) := by decide +kernel
theorem dL_law_327 : decode cL_law 327 = .ok (.iaload, 1) := by decide +kernel
theorem dL_law_328 : decode cL_law 328 = .ok (.invokevirtual 48, 3) := by decide +kernel
theorem dL_law_331 : decode cL_law 331 = .ok (.aload_n 2, 1) := by decide +kernel
theorem dL_law_332 : decode cL_law 332 = .ok (.aload_n 0, 1) := by decide +kernel
theorem dL_law_333 : decode cL_law 333 = .ok (.iload_n 3, 1) := by decide +kernel
theorem dL_law_334 : decode cL_law 334 = .ok (.iconst 1, 1) := by decide +kernel
theorem dL_law_335 : decode cL_law 335 = .ok (.iadd, 1) := by decide +kernel
theorem dL_law_336 : decode cL_law 336 = .ok (.iaload, 1) := by decide +kernel
theorem dL_law_337 : decode cL_law 337 = .ok (.aload_n 0, 1) := by decide +kernel
theorem dL_law_338 : decode cL_law 338 = .ok (.iload_n 3, 1) := by decide +kernel
theorem dL_law_339 : decode cL_law 339 = .ok (.iconst 2, 1) := by decide +kernel
theorem dL_law_340 : decode cL_law 340 = .ok (.iadd, 1) := by decide +kernel
theorem dL_law_341 : decode cL_law 341 = .ok (.iaload, 1) := by decide +kernel
theorem dL_law_342 : decode cL_law 342 = .ok (.aload_n 0, 1) := by decide +kernel
theorem dL_law_343 : decode cL_law 343 = .ok (.iload_n 3, 1) := by decide +kernel
theorem dL_law_344 : decode cL_law 344 = .ok (.iconst 3, 1) := by decide +kernel
theorem dL_law_345 : decode cL_law 345 = .ok (.iadd, 1) := by decide +kernel
theorem dL_law_346 : decode cL_law 346 = .ok (.iaload, 1) := by decide +kernel
theorem dL_law_347 : decode cL_law 347 = .ok (.invokevirtual 52, 3) := by decide +kernel
theorem dL_law_350 : decode cL_law 350 = .ok (.if_icmp .eq 396, 3) := by decide +kernel
theorem dL_law_353 : decode cL_law 353 = .ok (.iconst 0, 1) := by decide +kernel
theorem dL_law_354 : decode cL_law 354 = .ok (.ireturn, 1) := by decide +kernel
theorem dL_law_355 : decode cL_law 355 = .ok (.aload_n 1, 1) := by decide +kernel
theorem dL_law_356 : decode cL_law 356 = .ok (.aload_n 0, 1) := by decide +kernel
theorem dL_law_357 : decode cL_law 357 = .ok (.iload_n 3, 1) := by decide +kernel
theorem dL_law_358 : decode cL_law 358 = .ok (.iconst 1, 1) := by decide +kernel
theorem dL_law_359 : decode cL_law 359 = .ok (.iadd, 1) := by decide +kernel
theorem dL_law_360 : decode cL_law 360 = .ok (.iaload, 1) := by decide +kernel
theorem dL_law_361 : decode cL_law 361 = .ok (.aload_n 0, 1) := by decide +kernel
theorem dL_law_362 : decode cL_law 362 = .ok (.iload_n 3, 1) := by decide +kernel
theorem dL_law_363 : decode cL_law 363 = .ok (.iconst 2, 1) := by decide +kernel
theorem dL_law_364 : decode cL_law 364 = .ok (.iadd, 1) := by decide +kernel
theorem dL_law_365 : decode cL_law 365 = .ok (.iaload, 1) := by decide +kernel
theorem dL_law_366 : decode cL_law 366 = .ok (.invokevirtual 53, 3) := by decide +kernel
theorem dL_law_369 : decode cL_law 369 = .ok (.aload_n 2, 1) := by decide +kernel
theorem dL_law_370 : decode cL_law 370 = .ok (.aload_n 0, 1) := by decide +kernel
theorem dL_law_371 : decode cL_law 371 = .ok (.iload_n 3, 1) := by decide +kernel
theorem dL_law_372 : decode cL_law 372 = .ok (.iconst 1, 1) := by decide +kernel
theorem dL_law_373 : decode cL_law 373 = .ok (.iadd, 1) := by decide +kernel
theorem dL_law_374 : decode cL_law 374 = .ok (.iaload, 1) := by decide +kernel
theorem dL_law_375 : decode cL_law 375 = .ok (.aload_n 0, 1) := by decide +kernel
theorem dL_law_376 : decode cL_law 376 = .ok (.iload_n 3, 1) := by decide +kernel
theorem dL_law_377 : decode cL_law 377 = .ok (.iconst 2, 1) := by decide +kernel
theorem dL_law_378 : decode cL_law 378 = .ok (.iadd, 1) := by decide +kernel
theorem dL_law_379 : decode cL_law 379 = .ok (.iaload, 1) := by decide +kernel
theorem dL_law_380 : decode cL_law 380 = .ok (.invokevirtual 56, 3) := by decide +kernel
theorem dL_law_383 : decode cL_law 383 = .ok (.if_icmp .eq 363, 3) := by decide +kernel
theorem dL_law_386 : decode cL_law 386 = .ok (.iconst 0, 1) := by decide +kernel
theorem dL_law_387 : decode cL_law 387 = .ok (.ireturn, 1) := by decide +kernel
theorem dL_law_388 : decode cL_law 388 = .ok (.aload_n 1, 1) := by decide +kernel
theorem dL_law_389 : decode cL_law 389 = .ok (.aload_n 0, 1) := by decide +kernel
theorem dL_law_390 : decode cL_law 390 = .ok (.iload_n 3, 1) := by decide +kernel
theorem dL_law_391 : decode cL_law 391 = .ok (.iconst 1, 1) := by decide +kernel
theorem dL_law_392 : decode cL_law 392 = .ok (.iadd, 1) := by decide +kernel
theorem dL_law_393 : decode cL_law 393 = .ok (.iaload, 1) := by decide +kernel
theorem dL_law_394 : decode cL_law 394 = .ok (.aload_n 0, 1) := by decide +kernel
theorem dL_law_395 : decode cL_law 395 = .ok (.iload_n 3, 1) := by decide +kernel
theorem dL_law_396 : decode cL_law 396 = .ok (.iconst 2, 1) := by decide +kernel
theorem dL_law_397 : decode cL_law 397 = .ok (.iadd, 1) := by decide +kernel
theorem dL_law_398 : decode cL_law 398 = .ok (.iaload, 1) := by decide +kernel
theorem dL_law_399 : decode cL_law 399 = .ok (.invokevirtual 57, 3) := by decide +kernel
theorem dL_law_402 : decode cL_law 402 = .ok (.aload_n 2, 1) := by decide +kernel
theorem dL_law_403 : decode cL_law 403 = .ok (.aload_n 0, 1) := by decide +kernel
theorem dL_law_404 : decode cL_law 404 = .ok (.iload_n 3, 1) := by decide +kernel
theorem dL_law_405 : decode cL_law 405 = .ok (.iconst 1, 1) := by decide +kernel
theorem dL_law_406 : decode cL_law 406 = .ok (.iadd, 1) := by decide +kernel
theorem dL_law_407 : decode cL_law 407 = .ok (.iaload, 1) := by decide +kernel
theorem dL_law_408 : decode cL_law 408 = .ok (.aload_n 0, 1) := by decide +kernel
theorem dL_law_409 : decode cL_law 409 = .ok (.iload_n 3, 1) := by decide +kernel
theorem dL_law_410 : decode cL_law 410 = .ok (.iconst 2, 1) := by decide +kernel
theorem dL_law_411 : decode cL_law 411 = .ok (.iadd, 1) := by decide +kernel
theorem dL_law_412 : decode cL_law 412 = .ok (.iaload, 1) := by decide +kernel
theorem dL_law_413 : decode cL_law 413 = .ok (.invokevirtual 60, 3) := by decide +kernel
theorem dL_law_416 : decode cL_law 416 = .ok (.if_icmp .eq 330, 3) := by decide +kernel
theorem dL_law_419 : decode cL_law 419 = .ok (.iconst 0, 1) := by decide +kernel
theorem dL_law_420 : decode cL_law 420 = .ok (.ireturn, 1) := by decide +kernel
theorem dL_law_421 : decode cL_law 421 = .ok (.aload_n 1, 1) := by decide +kernel
theorem dL_law_422 : decode cL_law 422 = .ok (.aload_n 0, 1) := by decide +kernel
theorem dL_law_423 : decode cL_law 423 = .ok (.iload_n 3, 1) := by decide +kernel
theorem dL_law_424 : decode cL_law 424 = .ok (.iconst 1, 1) := by decide +kernel
theorem dL_law_425 : decode cL_law 425 = .ok (.iadd, 1) := by decide +kernel
theorem dL_law_426 : decode cL_law 426 = .ok (.iaload, 1) := by decide +kernel
theorem dL_law_427 : decode cL_law 427 = .ok (.aload_n 0, 1) := by decide +kernel
theorem dL_law_428 : decode cL_law 428 = .ok (.iload_n 3, 1) := by decide +kernel
theorem dL_law_429 : decode cL_law 429 = .ok (.iconst 2, 1) := by decide +kernel
theorem dL_law_430 : decode cL_law 430 = .ok (.iadd, 1) := by decide +kernel
theorem dL_law_431 : decode cL_law 431 = .ok (.iaload, 1) := by decide +kernel
theorem dL_law_432 : decode cL_law 432 = .ok (.aload_n 0, 1) := by decide +kernel
theorem dL_law_433 : decode cL_law 433 = .ok (.iload_n 3, 1) := by decide +kernel
theorem dL_law_434 : decode cL_law 434 = .ok (.iconst 3, 1) := by decide +kernel
theorem dL_law_435 : decode cL_law 435 = .ok (.iadd, 1) := by decide +kernel
theorem dL_law_436 : decode cL_law 436 = .ok (.iaload, 1) := by decide +kernel
theorem dL_law_437 : decode cL_law 437 = .ok (.invokevirtual 61, 3) := by decide +kernel
theorem dL_law_440 : decode cL_law 440 = .ok (.aload_n 2, 1) := by decide +kernel
theorem dL_law_441 : decode cL_law 441 = .ok (.aload_n 0, 1) := by decide +kernel
theorem dL_law_442 : decode cL_law 442 = .ok (.iload_n 3, 1) := by decide +kernel
theorem dL_law_443 : decode cL_law 443 = .ok (.iconst 1, 1) := by decide +kernel
theorem dL_law_444 : decode cL_law 444 = .ok (.iadd, 1) := by decide +kernel
theorem dL_law_445 : decode cL_law 445 = .ok (.iaload, 1) := by decide +kernel
theorem dL_law_446 : decode cL_law 446 = .ok (.aload_n 0, 1) := by decide +kernel
theorem dL_law_447 : decode cL_law 447 = .ok (.iload_n 3, 1) := by decide +kernel
theorem dL_law_448 : decode cL_law 448 = .ok (.iconst 2, 1) := by decide +kernel
theorem dL_law_449 : decode cL_law 449 = .ok (.iadd, 1) := by decide +kernel
theorem dL_law_450 : decode cL_law 450 = .ok (.iaload, 1) := by decide +kernel
theorem dL_law_451 : decode cL_law 451 = .ok (.aload_n 0, 1) := by decide +kernel
theorem dL_law_452 : decode cL_law 452 = .ok (.iload_n 3, 1) := by decide +kernel
theorem dL_law_453 : decode cL_law 453 = .ok (.iconst 3, 1) := by decide +kernel
theorem dL_law_454 : decode cL_law 454 = .ok (.iadd, 1) := by decide +kernel
theorem dL_law_455 : decode cL_law 455 = .ok (.iaload, 1) := by decide +kernel
theorem dL_law_456 : decode cL_law 456 = .ok (.invokevirtual 65, 3) := by decide +kernel
theorem dL_law_459 : decode cL_law 459 = .ok (.lcmp, 1) := by decide +kernel
theorem dL_law_460 : decode cL_law 460 = .ok (.ifCond .eq 286, 3) := by decide +kernel
theorem dL_law_463 : decode cL_law 463 = .ok (.iconst 0, 1) := by decide +kernel
theorem dL_law_464 : decode cL_law 464 = .ok (.ireturn, 1) := by decide +kernel
theorem dL_law_465 : decode cL_law 465 = .ok (.aload_n 1, 1) := by decide +kernel
theorem dL_law_466 : decode cL_law 466 = .ok (.invokevirtual 66, 3) := by decide +kernel
theorem dL_law_469 : decode cL_law 469 = .ok (.aload_n 2, 1) := by decide +kernel
theorem dL_law_470 : decode cL_law 470 = .ok (.invokevirtual 69, 3) := by decide +kernel
theorem dL_law_473 : decode cL_law 473 = .ok (.if_icmp .eq 273, 3) := by decide +kernel
theorem dL_law_476 : decode cL_law 476 = .ok (.iconst 0, 1) := by decide +kernel
theorem dL_law_477 : decode cL_law 477 = .ok (.ireturn, 1) := by decide +kernel
theorem dL_law_478 : decode cL_law 478 = .ok (.aload_n 1, 1) := by decide +kernel
theorem dL_law_479 : decode cL_law 479 = .ok (.invokevirtual 70, 3) := by decide +kernel
theorem dL_law_482 : decode cL_law 482 = .ok (.aload_n 2, 1) := by decide +kernel
theorem dL_law_483 : decode cL_law 483 = .ok (.invokevirtual 73, 3) := by decide +kernel
theorem dL_law_486 : decode cL_law 486 = .ok (.if_icmp .eq 260, 3) := by decide +kernel
theorem dL_law_489 : decode cL_law 489 = .ok (.iconst 0, 1) := by decide +kernel
theorem dL_law_490 : decode cL_law 490 = .ok (.ireturn, 1) := by decide +kernel
theorem dL_law_491 : decode cL_law 491 = .ok (.aload_n 1, 1) := by decide +kernel
theorem dL_law_492 : decode cL_law 492 = .ok (.aload_n 0, 1) := by decide +kernel
theorem dL_law_493 : decode cL_law 493 = .ok (.iload_n 3, 1) := by decide +kernel
theorem dL_law_494 : decode cL_law 494 = .ok (.iconst 1, 1) := by decide +kernel
theorem dL_law_495 : decode cL_law 495 = .ok (.iadd, 1) := by decide +kernel
theorem dL_law_496 : decode cL_law 496 = .ok (.iaload, 1) := by decide +kernel
theorem dL_law_497 : decode cL_law 497 = .ok (.invokevirtual 74, 3) := by decide +kernel
theorem dL_law_500 : decode cL_law 500 = .ok (.aload_n 2, 1) := by decide +kernel
theorem dL_law_501 : decode cL_law 501 = .ok (.aload_n 0, 1) := by decide +kernel
theorem dL_law_502 : decode cL_law 502 = .ok (.iload_n 3, 1) := by decide +kernel
theorem dL_law_503 : decode cL_law 503 = .ok (.iconst 1, 1) := by decide +kernel
theorem dL_law_504 : decode cL_law 504 = .ok (.iadd, 1) := by decide +kernel
theorem dL_law_505 : decode cL_law 505 = .ok (.iaload, 1) := by decide +kernel
theorem dL_law_506 : decode cL_law 506 = .ok (.invokevirtual 77, 3) := by decide +kernel
theorem dL_law_509 : decode cL_law 509 = .ok (.if_icmp .eq 237, 3) := by decide +kernel
theorem dL_law_512 : decode cL_law 512 = .ok (.iconst 0, 1) := by decide +kernel
theorem dL_law_513 : decode cL_law 513 = .ok (.ireturn, 1) := by decide +kernel
theorem dL_law_514 : decode cL_law 514 = .ok (.aload_n 1, 1) := by decide +kernel
theorem dL_law_515 : decode cL_law 515 = .ok (.aload_n 0, 1) := by decide +kernel
theorem dL_law_516 : decode cL_law 516 = .ok (.iload_n 3, 1) := by decide +kernel
theorem dL_law_517 : decode cL_law 517 = .ok (.iconst 1, 1) := by decide +kernel
theorem dL_law_518 : decode cL_law 518 = .ok (.iadd, 1) := by decide +kernel
theorem dL_law_519 : decode cL_law 519 = .ok (.iaload, 1) := by decide +kernel
theorem dL_law_520 : decode cL_law 520 = .ok (.aload_n 0, 1) := by decide +kernel
theorem dL_law_521 : decode cL_law 521 = .ok (.iload_n 3, 1) := by decide +kernel
theorem dL_law_522 : decode cL_law 522 = .ok (.iconst 2, 1) := by decide +kernel
theorem dL_law_523 : decode cL_law 523 = .ok (.iadd, 1) := by decide +kernel
theorem dL_law_524 : decode cL_law 524 = .ok (.iaload, 1) := by decide +kernel
theorem dL_law_525 : decode cL_law 525 = .ok (.aload_n 0, 1) := by decide +kernel
theorem dL_law_526 : decode cL_law 526 = .ok (.iload_n 3, 1) := by decide +kernel
theorem dL_law_527 : decode cL_law 527 = .ok (.iconst 3, 1) := by decide +kernel
theorem dL_law_528 : decode cL_law 528 = .ok (.iadd, 1) := by decide +kernel
theorem dL_law_529 : decode cL_law 529 = .ok (.iaload, 1) := by decide +kernel
theorem dL_law_530 : decode cL_law 530 = .ok (.invokevirtual 78, 3) := by decide +kernel
theorem dL_law_533 : decode cL_law 533 = .ok (.aload_n 2, 1) := by decide +kernel
theorem dL_law_534 : decode cL_law 534 = .ok (.aload_n 0, 1) := by decide +kernel
theorem dL_law_535 : decode cL_law 535 = .ok (.iload_n 3, 1) := by decide +kernel
theorem dL_law_536 : decode cL_law 536 = .ok (.iconst 1, 1) := by decide +kernel
theorem dL_law_537 : decode cL_law 537 = .ok (.iadd, 1) := by decide +kernel
theorem dL_law_538 : decode cL_law 538 = .ok (.iaload, 1) := by decide +kernel
theorem dL_law_539 : decode cL_law 539 = .ok (.aload_n 0, 1) := by decide +kernel
theorem dL_law_540 : decode cL_law 540 = .ok (.iload_n 3, 1) := by decide +kernel
theorem dL_law_541 : decode cL_law 541 = .ok (.iconst 2, 1) := by decide +kernel
theorem dL_law_542 : decode cL_law 542 = .ok (.iadd, 1) := by decide +kernel
theorem dL_law_543 : decode cL_law 543 = .ok (.iaload, 1) := by decide +kernel
theorem dL_law_544 : decode cL_law 544 = .ok (.aload_n 0, 1) := by decide +kernel
theorem dL_law_545 : decode cL_law 545 = .ok (.iload_n 3, 1) := by decide +kernel
theorem dL_law_546 : decode cL_law 546 = .ok (.iconst 3, 1) := by decide +kernel
theorem dL_law_547 : decode cL_law 547 = .ok (.iadd, 1) := by decide +kernel
theorem dL_law_548 : decode cL_law 548 = .ok (.iaload, 1) := by decide +kernel
theorem dL_law_549 : decode cL_law 549 = .ok (.invokevirtual 81, 3) := by decide +kernel
theorem dL_law_552 : decode cL_law 552 = .ok (.lcmp, 1) := by decide +kernel
theorem dL_law_553 : decode cL_law 553 = .ok (.ifCond .eq 193, 3) := by decide +kernel
theorem dL_law_556 : decode cL_law 556 = .ok (.iconst 0, 1) := by decide +kernel
theorem dL_law_557 : decode cL_law 557 = .ok (.ireturn, 1) := by decide +kernel
theorem dL_law_558 : decode cL_law 558 = .ok (.aload_n 1, 1) := by decide +kernel
theorem dL_law_559 : decode cL_law 559 = .ok (.aload_n 0, 1) := by decide +kernel
theorem dL_law_560 : decode cL_law 560 = .ok (.iload_n 3, 1) := by decide +kernel
theorem dL_law_561 : decode cL_law 561 = .ok (.iconst 1, 1) := by decide +kernel
theorem dL_law_562 : decode cL_law 562 = .ok (.iadd, 1) := by decide +kernel
theorem dL_law_563 : decode cL_law 563 = .ok (.iaload, 1) := by decide +kernel
theorem dL_law_564 : decode cL_law 564 = .ok (.aload_n 0, 1) := by decide +kernel
theorem dL_law_565 : decode cL_law 565 = .ok (.iload_n 3, 1) := by decide +kernel
theorem dL_law_566 : decode cL_law 566 = .ok (.iconst 2, 1) := by decide +kernel
theorem dL_law_567 : decode cL_law 567 = .ok (.iadd, 1) := by decide +kernel
theorem dL_law_568 : decode cL_law 568 = .ok (.iaload, 1) := by decide +kernel
theorem dL_law_569 : decode cL_law 569 = .ok (.invokevirtual 82, 3) := by decide +kernel
theorem dL_law_572 : decode cL_law 572 = .ok (.aload_n 2, 1) := by decide +kernel
theorem dL_law_573 : decode cL_law 573 = .ok (.aload_n 0, 1) := by decide +kernel
theorem dL_law_574 : decode cL_law 574 = .ok (.iload_n 3, 1) := by decide +kernel
theorem dL_law_575 : decode cL_law 575 = .ok (.iconst 1, 1) := by decide +kernel
theorem dL_law_576 : decode cL_law 576 = .ok (.iadd, 1) := by decide +kernel
theorem dL_law_577 : decode cL_law 577 = .ok (.iaload, 1) := by decide +kernel
theorem dL_law_578 : decode cL_law 578 = .ok (.aload_n 0, 1) := by decide +kernel
theorem dL_law_579 : decode cL_law 579 = .ok (.iload_n 3, 1) := by decide +kernel
theorem dL_law_580 : decode cL_law 580 = .ok (.iconst 2, 1) := by decide +kernel
theorem dL_law_581 : decode cL_law 581 = .ok (.iadd, 1) := by decide +kernel
theorem dL_law_582 : decode cL_law 582 = .ok (.iaload, 1) := by decide +kernel
theorem dL_law_583 : decode cL_law 583 = .ok (.invokevirtual 85, 3) := by decide +kernel
theorem dL_law_586 : decode cL_law 586 = .ok (.if_icmp .eq 160, 3) := by decide +kernel
theorem dL_law_589 : decode cL_law 589 = .ok (.iconst 0, 1) := by decide +kernel
theorem dL_law_590 : decode cL_law 590 = .ok (.ireturn, 1) := by decide +kernel
theorem dL_law_591 : decode cL_law 591 = .ok (.aload_n 1, 1) := by decide +kernel
theorem dL_law_592 : decode cL_law 592 = .ok (.invokevirtual 86, 3) := by decide +kernel
theorem dL_law_595 : decode cL_law 595 = .ok (.aload_n 2, 1) := by decide +kernel
theorem dL_law_596 : decode cL_law 596 = .ok (.invokevirtual 89, 3) := by decide +kernel
theorem dL_law_599 : decode cL_law 599 = .ok (.if_icmp .eq 147, 3) := by decide +kernel
theorem dL_law_602 : decode cL_law 602 = .ok (.iconst 0, 1) := by decide +kernel
theorem dL_law_603 : decode cL_law 603 = .ok (.ireturn, 1) := by decide +kernel
theorem dL_law_604 : decode cL_law 604 = .ok (.aload_n 1, 1) := by decide +kernel
theorem dL_law_605 : decode cL_law 605 = .ok (.aload_n 0, 1) := by decide +kernel
theorem dL_law_606 : decode cL_law 606 = .ok (.iload_n 3, 1) := by decide +kernel
theorem dL_law_607 : decode cL_law 607 = .ok (.iconst 1, 1) := by decide +kernel
theorem dL_law_608 : decode cL_law 608 = .ok (.iadd, 1) := by decide +kernel
theorem dL_law_609 : decode cL_law 609 = .ok (.iaload, 1) := by decide +kernel
theorem dL_law_610 : decode cL_law 610 = .ok (.invokevirtual 90, 3) := by decide +kernel
theorem dL_law_613 : decode cL_law 613 = .ok (.aload_n 2, 1) := by decide +kernel
theorem dL_law_614 : decode cL_law 614 = .ok (.aload_n 0, 1) := by decide +kernel
theorem dL_law_615 : decode cL_law 615 = .ok (.iload_n 3, 1) := by decide +kernel
theorem dL_law_616 : decode cL_law 616 = .ok (.iconst 1, 1) := by decide +kernel
theorem dL_law_617 : decode cL_law 617 = .ok (.iadd, 1) := by decide +kernel
theorem dL_law_618 : decode cL_law 618 = .ok (.iaload, 1) := by decide +kernel
theorem dL_law_619 : decode cL_law 619 = .ok (.invokevirtual 93, 3) := by decide +kernel
theorem dL_law_622 : decode cL_law 622 = .ok (.if_icmp .eq 124, 3) := by decide +kernel
theorem dL_law_625 : decode cL_law 625 = .ok (.iconst 0, 1) := by decide +kernel
theorem dL_law_626 : decode cL_law 626 = .ok (.ireturn, 1) := by decide +kernel
theorem dL_law_627 : decode cL_law 627 = .ok (.aload_n 1, 1) := by decide +kernel
theorem dL_law_628 : decode cL_law 628 = .ok (.invokevirtual 94, 3) := by decide +kernel
theorem dL_law_631 : decode cL_law 631 = .ok (.aload_n 2, 1) := by decide +kernel
theorem dL_law_632 : decode cL_law 632 = .ok (.invokevirtual 97, 3) := by decide +kernel
theorem dL_law_635 : decode cL_law 635 = .ok (.if_icmp .eq 111, 3) := by decide +kernel
theorem dL_law_638 : decode cL_law 638 = .ok (.iconst 0, 1) := by decide +kernel
theorem dL_law_639 : decode cL_law 639 = .ok (.ireturn, 1) := by decide +kernel
theorem dL_law_640 : decode cL_law 640 = .ok (.aload_n 1, 1) := by decide +kernel
theorem dL_law_641 : decode cL_law 641 = .ok (.aload_n 0, 1) := by decide +kernel
theorem dL_law_642 : decode cL_law 642 = .ok (.iload_n 3, 1) := by decide +kernel
theorem dL_law_643 : decode cL_law 643 = .ok (.iconst 1, 1) := by decide +kernel
theorem dL_law_644 : decode cL_law 644 = .ok (.iadd, 1) := by decide +kernel
theorem dL_law_645 : decode cL_law 645 = .ok (.iaload, 1) := by decide +kernel
theorem dL_law_646 : decode cL_law 646 = .ok (.aload_n 0, 1) := by decide +kernel
theorem dL_law_647 : decode cL_law 647 = .ok (.iload_n 3, 1) := by decide +kernel
theorem dL_law_648 : decode cL_law 648 = .ok (.iconst 2, 1) := by decide +kernel
theorem dL_law_649 : decode cL_law 649 = .ok (.iadd, 1) := by decide +kernel
theorem dL_law_650 : decode cL_law 650 = .ok (.iaload, 1) := by decide +kernel
theorem dL_law_651 : decode cL_law 651 = .ok (.aload_n 0, 1) := by decide +kernel
theorem dL_law_652 : decode cL_law 652 = .ok (.iload_n 3, 1) := by decide +kernel
theorem dL_law_653 : decode cL_law 653 = .ok (.iconst 3, 1) := by decide +kernel
theorem dL_law_654 : decode cL_law 654 = .ok (.iadd, 1) := by decide +kernel
theorem dL_law_655 : decode cL_law 655 = .ok (.iaload, 1) := by decide +kernel
theorem dL_law_656 : decode cL_law 656 = .ok (.invokevirtual 98, 3) := by decide +kernel
theorem dL_law_659 : decode cL_law 659 = .ok (.aload_n 2, 1) := by decide +kernel
theorem dL_law_660 : decode cL_law 660 = .ok (.aload_n 0, 1) := by decide +kernel
theorem dL_law_661 : decode cL_law 661 = .ok (.iload_n 3, 1) := by decide +kernel
theorem dL_law_662 : decode cL_law 662 = .ok (.iconst 1, 1) := by decide +kernel
theorem dL_law_663 : decode cL_law 663 = .ok (.iadd, 1) := by decide +kernel
theorem dL_law_664 : decode cL_law 664 = .ok (.iaload, 1) := by decide +kernel
theorem dL_law_665 : decode cL_law 665 = .ok (.aload_n 0, 1) := by decide +kernel
theorem dL_law_666 : decode cL_law 666 = .ok (.iload_n 3, 1) := by decide +kernel
theorem dL_law_667 : decode cL_law 667 = .ok (.iconst 2, 1) := by decide +kernel
theorem dL_law_668 : decode cL_law 668 = .ok (.iadd, 1) := by decide +kernel
theorem dL_law_669 : decode cL_law 669 = .ok (.iaload, 1) := by decide +kernel
theorem dL_law_670 : decode cL_law 670 = .ok (.aload_n 0, 1) := by decide +kernel
theorem dL_law_671 : decode cL_law 671 = .ok (.iload_n 3, 1) := by decide +kernel
theorem dL_law_672 : decode cL_law 672 = .ok (.iconst 3, 1) := by decide +kernel
theorem dL_law_673 : decode cL_law 673 = .ok (.iadd, 1) := by decide +kernel
theorem dL_law_674 : decode cL_law 674 = .ok (.iaload, 1) := by decide +kernel
theorem dL_law_675 : decode cL_law 675 = .ok (.invokevirtual 101, 3) := by decide +kernel
theorem dL_law_678 : decode cL_law 678 = .ok (.if_icmp .eq 68, 3) := by decide +kernel
theorem dL_law_681 : decode cL_law 681 = .ok (.iconst 0, 1) := by decide +kernel
theorem dL_law_682 : decode cL_law 682 = .ok (.ireturn, 1) := by decide +kernel
theorem dL_law_683 : decode cL_law 683 = .ok (.aload_n 1, 1) := by decide +kernel
theorem dL_law_684 : decode cL_law 684 = .ok (.invokevirtual 102, 3) := by decide +kernel
theorem dL_law_687 : decode cL_law 687 = .ok (.aload_n 2, 1) := by decide +kernel
theorem dL_law_688 : decode cL_law 688 = .ok (.invokevirtual 105, 3) := by decide +kernel
theorem dL_law_691 : decode cL_law 691 = .ok (.if_icmp .eq 55, 3) := by decide +kernel
theorem dL_law_694 : decode cL_law 694 = .ok (.iconst 0, 1) := by decide +kernel
theorem dL_law_695 : decode cL_law 695 = .ok (.ireturn, 1) := by decide +kernel
theorem dL_law_696 : decode cL_law 696 = .ok (.aload_n 1, 1) := by decide +kernel
theorem dL_law_697 : decode cL_law 697 = .ok (.invokevirtual 106, 3) := by decide +kernel
theorem dL_law_700 : decode cL_law 700 = .ok (.aload_n 2, 1) := by decide +kernel
theorem dL_law_701 : decode cL_law 701 = .ok (.invokevirtual 109, 3) := by decide +kernel
theorem dL_law_704 : decode cL_law 704 = .ok (.if_icmp .eq 42, 3) := by decide +kernel
theorem dL_law_707 : decode cL_law 707 = .ok (.iconst 0, 1) := by decide +kernel
theorem dL_law_708 : decode cL_law 708 = .ok (.ireturn, 1) := by decide +kernel
theorem dL_law_709 : decode cL_law 709 = .ok (.aload_n 1, 1) := by decide +kernel
theorem dL_law_710 : decode cL_law 710 = .ok (.aload_n 0, 1) := by decide +kernel
theorem dL_law_711 : decode cL_law 711 = .ok (.iload_n 3, 1) := by decide +kernel
theorem dL_law_712 : decode cL_law 712 = .ok (.iconst 1, 1) := by decide +kernel
theorem dL_law_713 : decode cL_law 713 = .ok (.iadd, 1) := by decide +kernel
theorem dL_law_714 : decode cL_law 714 = .ok (.iaload, 1) := by decide +kernel
theorem dL_law_715 : decode cL_law 715 = .ok (.invokevirtual 110, 3) := by decide +kernel
theorem dL_law_718 : decode cL_law 718 = .ok (.aload_n 2, 1) := by decide +kernel
theorem dL_law_719 : decode cL_law 719 = .ok (.aload_n 0, 1) := by decide +kernel
theorem dL_law_720 : decode cL_law 720 = .ok (.iload_n 3, 1) := by decide +kernel
theorem dL_law_721 : decode cL_law 721 = .ok (.iconst 1, 1) := by decide +kernel
theorem dL_law_722 : decode cL_law 722 = .ok (.iadd, 1) := by decide +kernel
theorem dL_law_723 : decode cL_law 723 = .ok (.iaload, 1) := by decide +kernel
theorem dL_law_724 : decode cL_law 724 = .ok (.invokevirtual 113, 3) := by decide +kernel
theorem dL_law_727 : decode cL_law 727 = .ok (.if_icmp .eq 19, 3) := by decide +kernel
theorem dL_law_730 : decode cL_law 730 = .ok (.iconst 0, 1) := by decide +kernel
theorem dL_law_731 : decode cL_law 731 = .ok (.ireturn, 1) := by decide +kernel
theorem dL_law_732 : decode cL_law 732 = .ok (.aload_n 1, 1) := by decide +kernel
theorem dL_law_733 : decode cL_law 733 = .ok (.invokevirtual 114, 3) := by decide +kernel
theorem dL_law_736 : decode cL_law 736 = .ok (.aload_n 2, 1) := by decide +kernel
theorem dL_law_737 : decode cL_law 737 = .ok (.invokevirtual 118, 3) := by decide +kernel
theorem dL_law_740 : decode cL_law 740 = .ok (.lcmp, 1) := by decide +kernel
theorem dL_law_741 : decode cL_law 741 = .ok (.ifCond .eq 5, 3) := by decide +kernel
theorem dL_law_744 : decode cL_law 744 = .ok (.iconst 0, 1) := by decide +kernel
theorem dL_law_745 : decode cL_law 745 = .ok (.ireturn, 1) := by decide +kernel
theorem dL_law_746 : decode cL_law 746 = .ok (.iinc 3 4, 3) := by decide +kernel
theorem dL_law_749 : decode cL_law 749 = .ok (.goto (-731), 3) := by decide +kernel
theorem dL_law_752 : decode cL_law 752 = .ok (.iconst 1, 1) := by decide +kernel
theorem dL_law_753 : decode cL_law 753 = .ok (.ireturn, 1) := by decide +kernel
