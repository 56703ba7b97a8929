theorem dX12_init_0 : decode cX12_init 0 = .ok (.aload_n 0, 1) := by decide +kernel
theorem dX12_init_1 : decode cX12_init 1 = .ok (.invokespecial 1, 3) := by decide +kernel
theorem dX12_init_4 : decode cX12_init 4 = .ok (.aload_n 0, 1) := by decide +kernel
theorem dX12_init_5 : decode cX12_init 5 = .ok (.lconst 1, 1) := by decide +kernel
theorem dX12_init_6 : decode cX12_init 6 = .ok (.putfield 7, 3) := by decide +kernel
theorem dX12_init_9 : decode cX12_init 9 = .ok (.aload_n 0, 1) := by decide +kernel
theorem dX12_init_10 : decode cX12_init 10 = .ok (.iconst 4, 1) := by decide +kernel
theorem dX12_init_11 : decode cX12_init 11 = .ok (.newarray .int, 2) := by decide +kernel
theorem dX12_init_13 : decode cX12_init 13 = .ok (.putfield 13, 3) := by decide +kernel
theorem dX12_init_16 : decode cX12_init 16 = .ok (.aload_n 0, 1) := by decide +kernel
theorem dX12_init_17 : decode cX12_init 17 = .ok (.iconst 4, 1) := by decide +kernel
theorem dX12_init_18 : decode cX12_init 18 = .ok (.newarray .int, 2) := by decide +kernel
theorem dX12_init_20 : decode cX12_init 20 = .ok (.putfield 17, 3) := by decide +kernel
theorem dX12_init_23 : decode cX12_init 23 = .ok (.aload_n 0, 1) := by decide +kernel
theorem dX12_init_24 : decode cX12_init 24 = .ok (.sipush 240, 3) := by decide +kernel
theorem dX12_init_27 : decode cX12_init 27 = .ok (.newarray .long, 2) := by decide +kernel
theorem dX12_init_29 : decode cX12_init 29 = .ok (.putfield 20, 3) := by decide +kernel
theorem dX12_init_32 : decode cX12_init 32 = .ok (.aload_n 0, 1) := by decide +kernel
theorem dX12_init_33 : decode cX12_init 33 = .ok (.sipush 900, 3) := by decide +kernel
theorem dX12_init_36 : decode cX12_init 36 = .ok (.newarray .byte, 2) := by decide +kernel
theorem dX12_init_38 : decode cX12_init 38 = .ok (.putfield 24, 3) := by decide +kernel
theorem dX12_init_41 : decode cX12_init 41 = .ok (.aload_n 0, 1) := by decide +kernel
theorem dX12_init_42 : decode cX12_init 42 = .ok (.iconst (-1), 1) := by decide +kernel
theorem dX12_init_43 : decode cX12_init 43 = .ok (.putfield 28, 3) := by decide +kernel
theorem dX12_init_46 : decode cX12_init 46 = .ok (.aload_n 0, 1) := by decide +kernel
theorem dX12_init_47 : decode cX12_init 47 = .ok (.iconst (-1), 1) := by decide +kernel
theorem dX12_init_48 : decode cX12_init 48 = .ok (.putfield 32, 3) := by decide +kernel
theorem dX12_init_51 : decode cX12_init 51 = .ok (.aload_n 0, 1) := by decide +kernel
theorem dX12_init_52 : decode cX12_init 52 = .ok (.sipush 2600, 3) := by decide +kernel
theorem dX12_init_55 : decode cX12_init 55 = .ok (.newarray .int, 2) := by decide +kernel
theorem dX12_init_57 : decode cX12_init 57 = .ok (.putfield 35, 3) := by decide +kernel
theorem dX12_init_60 : decode cX12_init 60 = .ok (.aload_n 0, 1) := by decide +kernel
theorem dX12_init_61 : decode cX12_init 61 = .ok (.sipush 242, 3) := by decide +kernel
theorem dX12_init_64 : decode cX12_init 64 = .ok (.newarray .int, 2) := by decide +kernel
theorem dX12_init_66 : decode cX12_init 66 = .ok (.putfield 38, 3) := by decide +kernel
theorem dX12_init_69 : decode cX12_init 69 = .ok (.aload_n 0, 1) := by decide +kernel
theorem dX12_init_70 : decode cX12_init 70 = .ok (.bipush 108, 2) := by decide +kernel
theorem dX12_init_72 : decode cX12_init 72 = .ok (.newarray .int, 2) := by decide +kernel
theorem dX12_init_74 : decode cX12_init 74 = .ok (.putfield 41, 3) := by decide +kernel
theorem dX12_init_77 : decode cX12_init 77 = .ok (.aload_n 0, 1) := by decide +kernel
theorem dX12_init_78 : decode cX12_init 78 = .ok (.iconst 2, 1) := by decide +kernel
theorem dX12_init_79 : decode cX12_init 79 = .ok (.newarray .long, 2) := by decide +kernel
theorem dX12_init_81 : decode cX12_init 81 = .ok (.putfield 44, 3) := by decide +kernel
theorem dX12_init_84 : decode cX12_init 84 = .ok (.aload_n 0, 1) := by decide +kernel
theorem dX12_init_85 : decode cX12_init 85 = .ok (.bipush 36, 2) := by decide +kernel
theorem dX12_init_87 : decode cX12_init 87 = .ok (.newarray .int, 2) := by decide +kernel
theorem dX12_init_89 : decode cX12_init 89 = .ok (.putfield 47, 3) := by decide +kernel
theorem dX12_init_92 : decode cX12_init 92 = .ok (.aload_n 0, 1) := by decide +kernel
theorem dX12_init_93 : decode cX12_init 93 = .ok (.bipush 36, 2) := by decide +kernel
theorem dX12_init_95 : decode cX12_init 95 = .ok (.newarray .int, 2) := by decide +kernel
theorem dX12_init_97 : decode cX12_init 97 = .ok (.putfield 50, 3) := by decide +kernel
theorem dX12_init_100 : decode cX12_init 100 = .ok (.aload_n 0, 1) := by decide +kernel
theorem dX12_init_101 : decode cX12_init 101 = .ok (.iconst 3, 1) := by decide +kernel
theorem dX12_init_102 : decode cX12_init 102 = .ok (.newarray .int, 2) := by decide +kernel
theorem dX12_init_104 : decode cX12_init 104 = .ok (.putfield 53, 3) := by decide +kernel
theorem dX12_init_107 : decode cX12_init 107 = .ok (.aload_n 0, 1) := by decide +kernel
theorem dX12_init_108 : decode cX12_init 108 = .ok (.sipush 169, 3) := by decide +kernel
theorem dX12_init_111 : decode cX12_init 111 = .ok (.newarray .boolean, 2) := by decide +kernel
theorem dX12_init_113 : decode cX12_init 113 = .ok (.putfield 56, 3) := by decide +kernel
theorem dX12_init_116 : decode cX12_init 116 = .ok (.aload_n 0, 1) := by decide +kernel
theorem dX12_init_117 : decode cX12_init 117 = .ok (.bipush 100, 2) := by decide +kernel
theorem dX12_init_119 : decode cX12_init 119 = .ok (.newarray .long, 2) := by decide +kernel
theorem dX12_init_121 : decode cX12_init 121 = .ok (.putfield 60, 3) := by decide +kernel
theorem dX12_init_124 : decode cX12_init 124 = .ok (.aload_n 0, 1) := by decide +kernel
theorem dX12_init_125 : decode cX12_init 125 = .ok (.bipush 100, 2) := by decide +kernel
theorem dX12_init_127 : decode cX12_init 127 = .ok (.newarray .long, 2) := by decide +kernel
theorem dX12_init_129 : decode cX12_init 129 = .ok (.putfield 63, 3) := by decide +kernel
theorem dX12_init_132 : decode cX12_init 132 = .ok (.aload_n 0, 1) := by decide +kernel
theorem dX12_init_133 : decode cX12_init 133 = .ok (.iconst 4, 1) := by decide +kernel
theorem dX12_init_134 : decode cX12_init 134 = .ok (.newarray .int, 2) := by decide +kernel
theorem dX12_init_136 : decode cX12_init 136 = .ok (.putfield 66, 3) := by decide +kernel
theorem dX12_init_139 : decode cX12_init 139 = .ok (.iconst 0, 1) := by decide +kernel
theorem dX12_init_140 : decode cX12_init 140 = .ok (.istore_n 1, 1) := by decide +kernel
theorem dX12_init_141 : decode cX12_init 141 = .ok (.iload_n 1, 1) := by decide +kernel
theorem dX12_init_142 : decode cX12_init 142 = .ok (.iconst 4, 1) := by decide +kernel
theorem dX12_init_143 : decode cX12_init 143 = .ok (.if_icmp .ge 16, 3) := by decide +kernel
theorem dX12_init_146 : decode cX12_init 146 = .ok (.aload_n 0, 1) := by decide +kernel
theorem dX12_init_147 : decode cX12_init 147 = .ok (.getfield 17, 3) := by decide +kernel
theorem dX12_init_150 : decode cX12_init 150 = .ok (.iload_n 1, 1) := by decide +kernel
theorem dX12_init_151 : decode cX12_init 151 = .ok (.iconst (-1), 1) := by decide +kernel
theorem dX12_init_152 : decode cX12_init 152 = .ok (.iastore, 1) := by decide +kernel
theorem dX12_init_153 : decode cX12_init 153 = .ok (.iinc 1 1, 3) := by decide +kernel
theorem dX12_init_156 : decode cX12_init 156 = .ok (.goto (-15), 3) := by decide +kernel
theorem dX12_init_159 : decode cX12_init 159 = .ok (.aload_n 0, 1) := by decide +kernel
theorem dX12_init_160 : decode cX12_init 160 = .ok (.getfield 35, 3) := by decide +kernel
theorem dX12_init_163 : decode cX12_init 163 = .ok (.iconst 0, 1) := by decide +kernel
theorem dX12_init_164 : decode cX12_init 164 = .ok (.iconst 2, 1) := by decide +kernel
theorem dX12_init_165 : decode cX12_init 165 = .ok (.iastore, 1) := by decide +kernel
theorem dX12_init_166 : decode cX12_init 166 = .ok (.aload_n 0, 1) := by decide +kernel
theorem dX12_init_167 : decode cX12_init 167 = .ok (.getfield 35, 3) := by decide +kernel
theorem dX12_init_170 : decode cX12_init 170 = .ok (.iconst 1, 1) := by decide +kernel
theorem dX12_init_171 : decode cX12_init 171 = .ok (.iconst 1, 1) := by decide +kernel
theorem dX12_init_172 : decode cX12_init 172 = .ok (.iastore, 1) := by decide +kernel
theorem dX12_init_173 : decode cX12_init 173 = .ok (.return_, 1) := by decide +kernel
theorem dX12_status_0 : decode cX12_status 0 = .ok (.aload_n 0, 1) := by decide +kernel
theorem dX12_status_1 : decode cX12_status 1 = .ok (.iconst 0, 1) := by decide +kernel
theorem dX12_status_2 : decode cX12_status 2 = .ok (.putfield 69, 3) := by decide +kernel
theorem dX12_status_5 : decode cX12_status 5 = .ok (.aload_n 0, 1) := by decide +kernel
theorem dX12_status_6 : decode cX12_status 6 = .ok (.getfield 72, 3) := by decide +kernel
theorem dX12_status_9 : decode cX12_status 9 = .ok (.ireturn, 1) := by decide +kernel
theorem dX12_top_0 : decode cX12_top 0 = .ok (.aload_n 0, 1) := by decide +kernel
theorem dX12_top_1 : decode cX12_top 1 = .ok (.iconst 0, 1) := by decide +kernel
theorem dX12_top_2 : decode cX12_top 2 = .ok (.putfield 69, 3) := by decide +kernel
theorem dX12_top_5 : decode cX12_top 5 = .ok (.aload_n 0, 1) := by decide +kernel
theorem dX12_top_6 : decode cX12_top 6 = .ok (.getfield 75, 3) := by decide +kernel
theorem dX12_top_9 : decode cX12_top 9 = .ok (.lreturn, 1) := by decide +kernel
theorem dX12_bottom_0 : decode cX12_bottom 0 = .ok (.aload_n 0, 1) := by decide +kernel
theorem dX12_bottom_1 : decode cX12_bottom 1 = .ok (.iconst 0, 1) := by decide +kernel
theorem dX12_bottom_2 : decode cX12_bottom 2 = .ok (.putfield 69, 3) := by decide +kernel
theorem dX12_bottom_5 : decode cX12_bottom 5 = .ok (.aload_n 0, 1) := by decide +kernel
theorem dX12_bottom_6 : decode cX12_bottom 6 = .ok (.getfield 7, 3) := by decide +kernel
theorem dX12_bottom_9 : decode cX12_bottom 9 = .ok (.lreturn, 1) := by decide +kernel
theorem dX12_refuse_0 : decode cX12_refuse 0 = .ok (.aload_n 0, 1) := by decide +kernel
theorem dX12_refuse_1 : decode cX12_refuse 1 = .ok (.iload_n 1, 1) := by decide +kernel
theorem dX12_refuse_2 : decode cX12_refuse 2 = .ok (.putfield 72, 3) := by decide +kernel
theorem dX12_refuse_5 : decode cX12_refuse 5 = .ok (.iconst (-1), 1) := by decide +kernel
theorem dX12_refuse_6 : decode cX12_refuse 6 = .ok (.ireturn, 1) := by decide +kernel
theorem dX12_no_0 : decode cX12_no 0 = .ok (.aload_n 0, 1) := by decide +kernel
theorem dX12_no_1 : decode cX12_no 1 = .ok (.iload_n 1, 1) := by decide +kernel
theorem dX12_no_2 : decode cX12_no 2 = .ok (.putfield 72, 3) := by decide +kernel
theorem dX12_no_5 : decode cX12_no 5 = .ok (.iconst 0, 1) := by decide +kernel
theorem dX12_no_6 : decode cX12_no 6 = .ok (.ireturn, 1) := by decide +kernel
theorem dX12_isIn_0 : decode cX12_isIn 0 = .ok (.lload_n 0, 1) := by decide +kernel
theorem dX12_isIn_1 : decode cX12_isIn 1 = .ok (.lload_n 2, 1) := by decide +kernel
theorem dX12_isIn_2 : decode cX12_isIn 2 = .ok (.lcmp, 1) := by decide +kernel
theorem dX12_isIn_3 : decode cX12_isIn 3 = .ok (.ifCond .lt 14, 3) := by decide +kernel
theorem dX12_isIn_6 : decode cX12_isIn 6 = .ok (.lload_n 0, 1) := by decide +kernel
theorem dX12_isIn_7 : decode cX12_isIn 7 = .ok (.lload 4, 2) := by decide +kernel
theorem dX12_isIn_9 : decode cX12_isIn 9 = .ok (.lcmp, 1) := by decide +kernel
theorem dX12_isIn_10 : decode cX12_isIn 10 = .ok (.ifCond .gt 7, 3) := by decide +kernel
theorem dX12_isIn_13 : decode cX12_isIn 13 = .ok (.iconst 1, 1) := by decide +kernel
theorem dX12_isIn_14 : decode cX12_isIn 14 = .ok (.goto 4, 3) := by decide +kernel
theorem dX12_isIn_17 : decode cX12_isIn 17 = .ok (.iconst 0, 1) := by decide +kernel
theorem dX12_isIn_18 : decode cX12_isIn 18 = .ok (.ireturn, 1) := by decide +kernel
theorem dX12_fraction_0 : decode cX12_fraction 0 = .ok (.lload_n 1, 1) := by decide +kernel
theorem dX12_fraction_1 : decode cX12_fraction 1 = .ok (.invokestatic 78, 3) := by decide +kernel
theorem dX12_fraction_4 : decode cX12_fraction 4 = .ok (.lstore 5, 2) := by decide +kernel
theorem dX12_fraction_6 : decode cX12_fraction 6 = .ok (.lload_n 3, 1) := by decide +kernel
theorem dX12_fraction_7 : decode cX12_fraction 7 = .ok (.lstore 7, 2) := by decide +kernel
theorem dX12_fraction_9 : decode cX12_fraction 9 = .ok (.lload 7, 2) := by decide +kernel
theorem dX12_fraction_11 : decode cX12_fraction 11 = .ok (.lconst 0, 1) := by decide +kernel
theorem dX12_fraction_12 : decode cX12_fraction 12 = .ok (.lcmp, 1) := by decide +kernel
theorem dX12_fraction_13 : decode cX12_fraction 13 = .ok (.ifCond .eq 21, 3) := by decide +kernel
theorem dX12_fraction_16 : decode cX12_fraction 16 = .ok (.lload 5, 2) := by decide +kernel
theorem dX12_fraction_18 : decode cX12_fraction 18 = .ok (.lload 7, 2) := by decide +kernel
theorem dX12_fraction_20 : decode cX12_fraction 20 = .ok (.lrem, 1) := by decide +kernel
theorem dX12_fraction_21 : decode cX12_fraction 21 = .ok (.lstore 9, 2) := by decide +kernel
theorem dX12_fraction_23 : decode cX12_fraction 23 = .ok (.lload 7, 2) := by decide +kernel
theorem dX12_fraction_25 : decode cX12_fraction 25 = .ok (.lstore 5, 2) := by decide +kernel
theorem dX12_fraction_27 : decode cX12_fraction 27 = .ok (.lload 9, 2) := by decide +kernel
theorem dX12_fraction_29 : decode cX12_fraction 29 = .ok (.lstore 7, 2) := by decide +kernel
theorem dX12_fraction_31 : decode cX12_fraction 31 = .ok (.goto (-22), 3) := by decide +kernel
theorem dX12_fraction_34 : decode cX12_fraction 34 = .ok (.aload_n 0, 1) := by decide +kernel
theorem dX12_fraction_35 : decode cX12_fraction 35 = .ok (.lload_n 1, 1) := by decide +kernel
theorem dX12_fraction_36 : decode cX12_fraction 36 = .ok (.lload 5, 2) := by decide +kernel
theorem dX12_fraction_38 : decode cX12_fraction 38 = .ok (.ldiv, 1) := by decide +kernel
theorem dX12_fraction_39 : decode cX12_fraction 39 = .ok (.putfield 75, 3) := by decide +kernel
theorem dX12_fraction_42 : decode cX12_fraction 42 = .ok (.aload_n 0, 1) := by decide +kernel
theorem dX12_fraction_43 : decode cX12_fraction 43 = .ok (.lload_n 3, 1) := by decide +kernel
theorem dX12_fraction_44 : decode cX12_fraction 44 = .ok (.lload 5, 2) := by decide +kernel
theorem dX12_fraction_46 : decode cX12_fraction 46 = .ok (.ldiv, 1) := by decide +kernel
theorem dX12_fraction_47 : decode cX12_fraction 47 = .ok (.putfield 7, 3) := by decide +kernel
theorem dX12_fraction_50 : decode cX12_fraction 50 = .ok (.iconst 1, 1) := by decide +kernel
theorem dX12_fraction_51 : decode cX12_fraction 51 = .ok (.ireturn, 1) := by decide +kernel
theorem dX12_cut_0 : decode cX12_cut 0 = .ok (.iload_n 0, 1) := by decide +kernel
theorem dX12_cut_1 : decode cX12_cut 1 = .ok (.ifCond .ne 10, 3) := by decide +kernel
theorem dX12_cut_4 : decode cX12_cut 4 = .ok (.lload_n 1, 1) := by decide +kernel
theorem dX12_cut_5 : decode cX12_cut 5 = .ok (.l2i, 1) := by decide +kernel
theorem dX12_cut_6 : decode cX12_cut 6 = .ok (.i2b, 1) := by decide +kernel
theorem dX12_cut_7 : decode cX12_cut 7 = .ok (.i2l, 1) := by decide +kernel
theorem dX12_cut_8 : decode cX12_cut 8 = .ok (.goto 27, 3) := by decide +kernel
theorem dX12_cut_11 : decode cX12_cut 11 = .ok (.iload_n 0, 1) := by decide +kernel
theorem dX12_cut_12 : decode cX12_cut 12 = .ok (.iconst 1, 1) := by decide +kernel
theorem dX12_cut_13 : decode cX12_cut 13 = .ok (.if_icmp .ne 10, 3) := by decide +kernel
theorem dX12_cut_16 : decode cX12_cut 16 = .ok (.lload_n 1, 1) := by decide +kernel
theorem dX12_cut_17 : decode cX12_cut 17 = .ok (.l2i, 1) := by decide +kernel
theorem dX12_cut_18 : decode cX12_cut 18 = .ok (.i2s, 1) := by decide +kernel
theorem dX12_cut_19 : decode cX12_cut 19 = .ok (.i2l, 1) := by decide +kernel
theorem dX12_cut_20 : decode cX12_cut 20 = .ok (.goto 15, 3) := by decide +kernel
theorem dX12_cut_23 : decode cX12_cut 23 = .ok (.iload_n 0, 1) := by decide +kernel
theorem dX12_cut_24 : decode cX12_cut 24 = .ok (.iconst 2, 1) := by decide +kernel
theorem dX12_cut_25 : decode cX12_cut 25 = .ok (.if_icmp .ne 9, 3) := by decide +kernel
theorem dX12_cut_28 : decode cX12_cut 28 = .ok (.lload_n 1, 1) := by decide +kernel
theorem dX12_cut_29 : decode cX12_cut 29 = .ok (.l2i, 1) := by decide +kernel
theorem dX12_cut_30 : decode cX12_cut 30 = .ok (.i2l, 1) := by decide +kernel
theorem dX12_cut_31 : decode cX12_cut 31 = .ok (.goto 4, 3) := by decide +kernel
theorem dX12_cut_34 : decode cX12_cut 34 = .ok (.lload_n 1, 1) := by decide +kernel
theorem dX12_cut_35 : decode cX12_cut 35 = .ok (.lreturn, 1) := by decide +kernel
theorem dX12_tray_0 : decode cX12_tray 0 = .ok (.aload_n 0, 1) := by decide +kernel
theorem dX12_tray_1 : decode cX12_tray 1 = .ok (.iconst 0, 1) := by decide +kernel
theorem dX12_tray_2 : decode cX12_tray 2 = .ok (.putfield 69, 3) := by decide +kernel
theorem dX12_tray_5 : decode cX12_tray 5 = .ok (.aload_n 0, 1) := by decide +kernel
theorem dX12_tray_6 : decode cX12_tray 6 = .ok (.iconst 0, 1) := by decide +kernel
theorem dX12_tray_7 : decode cX12_tray 7 = .ok (.putfield 72, 3) := by decide +kernel
theorem dX12_tray_10 : decode cX12_tray 10 = .ok (.iload_n 1, 1) := by decide +kernel
theorem dX12_tray_11 : decode cX12_tray 11 = .ok (.ifCond .lt 17, 3) := by decide +kernel
theorem dX12_tray_14 : decode cX12_tray 14 = .ok (.iload_n 1, 1) := by decide +kernel
theorem dX12_tray_15 : decode cX12_tray 15 = .ok (.iconst 4, 1) := by decide +kernel
theorem dX12_tray_16 : decode cX12_tray 16 = .ok (.if_icmp .ge 12, 3) := by decide +kernel
theorem dX12_tray_19 : decode cX12_tray 19 = .ok (.iload_n 2, 1) := by decide +kernel
theorem dX12_tray_20 : decode cX12_tray 20 = .ok (.ifCond .lt 8, 3) := by decide +kernel
theorem dX12_tray_23 : decode cX12_tray 23 = .ok (.iload_n 2, 1) := by decide +kernel
theorem dX12_tray_24 : decode cX12_tray 24 = .ok (.iconst 3, 1) := by decide +kernel
theorem dX12_tray_25 : decode cX12_tray 25 = .ok (.if_icmp .le 9, 3) := by decide +kernel
theorem dX12_tray_28 : decode cX12_tray 28 = .ok (.aload_n 0, 1) := by decide +kernel
theorem dX12_tray_29 : decode cX12_tray 29 = .ok (.iconst 1, 1) := by decide +kernel
theorem dX12_tray_30 : decode cX12_tray 30 = .ok (.invokevirtual 84, 3) := by decide +kernel
theorem dX12_tray_33 : decode cX12_tray 33 = .ok (.ireturn, 1) := by decide +kernel
theorem dX12_tray_34 : decode cX12_tray 34 = .ok (.iload_n 3, 1) := by decide +kernel
theorem dX12_tray_35 : decode cX12_tray 35 = .ok (.bipush 60, 2) := by decide +kernel
theorem dX12_tray_37 : decode cX12_tray 37 = .ok (.if_icmp .le 9, 3) := by decide +kernel
theorem dX12_tray_40 : decode cX12_tray 40 = .ok (.aload_n 0, 1) := by decide +kernel
theorem dX12_tray_41 : decode cX12_tray 41 = .ok (.iconst 5, 1) := by decide +kernel
theorem dX12_tray_42 : decode cX12_tray 42 = .ok (.invokevirtual 84, 3) := by decide +kernel
theorem dX12_tray_45 : decode cX12_tray 45 = .ok (.ireturn, 1) := by decide +kernel
theorem dX12_tray_46 : decode cX12_tray 46 = .ok (.iload_n 3, 1) := by decide +kernel
theorem dX12_tray_47 : decode cX12_tray 47 = .ok (.ifCond .ge 10, 3) := by decide +kernel
theorem dX12_tray_50 : decode cX12_tray 50 = .ok (.aload_n 0, 1) := by decide +kernel
theorem dX12_tray_51 : decode cX12_tray 51 = .ok (.bipush 6, 2) := by decide +kernel
theorem dX12_tray_53 : decode cX12_tray 53 = .ok (.invokevirtual 84, 3) := by decide +kernel
theorem dX12_tray_56 : decode cX12_tray 56 = .ok (.ireturn, 1) := by decide +kernel
theorem dX12_tray_57 : decode cX12_tray 57 = .ok (.aload_n 0, 1) := by decide +kernel
theorem dX12_tray_58 : decode cX12_tray 58 = .ok (.getfield 13, 3) := by decide +kernel
theorem dX12_tray_61 : decode cX12_tray 61 = .ok (.iload_n 1, 1) := by decide +kernel
theorem dX12_tray_62 : decode cX12_tray 62 = .ok (.iload_n 2, 1) := by decide +kernel
theorem dX12_tray_63 : decode cX12_tray 63 = .ok (.iastore, 1) := by decide +kernel
theorem dX12_tray_64 : decode cX12_tray 64 = .ok (.aload_n 0, 1) := by decide +kernel
theorem dX12_tray_65 : decode cX12_tray 65 = .ok (.getfield 17, 3) := by decide +kernel
theorem dX12_tray_68 : decode cX12_tray 68 = .ok (.iload_n 1, 1) := by decide +kernel
theorem dX12_tray_69 : decode cX12_tray 69 = .ok (.iload_n 3, 1) := by decide +kernel
theorem dX12_tray_70 : decode cX12_tray 70 = .ok (.iastore, 1) := by decide +kernel
theorem dX12_tray_71 : decode cX12_tray 71 = .ok (.iconst 0, 1) := by decide +kernel
theorem dX12_tray_72 : decode cX12_tray 72 = .ok (.istore 4, 2) := by decide +kernel
theorem dX12_tray_74 : decode cX12_tray 74 = .ok (.iload 4, 2) := by decide +kernel
theorem dX12_tray_76 : decode cX12_tray 76 = .ok (.iload_n 3, 1) := by decide +kernel
theorem dX12_tray_77 : decode cX12_tray 77 = .ok (.if_icmp .ge 22, 3) := by decide +kernel
theorem dX12_tray_80 : decode cX12_tray 80 = .ok (.aload_n 0, 1) := by decide +kernel
theorem dX12_tray_81 : decode cX12_tray 81 = .ok (.getfield 20, 3) := by decide +kernel
theorem dX12_tray_84 : decode cX12_tray 84 = .ok (.bipush 60, 2) := by decide +kernel
theorem dX12_tray_86 : decode cX12_tray 86 = .ok (.iload_n 1, 1) := by decide +kernel
theorem dX12_tray_87 : decode cX12_tray 87 = .ok (.imul, 1) := by decide +kernel
theorem dX12_tray_88 : decode cX12_tray 88 = .ok (.iload 4, 2) := by decide +kernel
theorem dX12_tray_90 : decode cX12_tray 90 = .ok (.iadd, 1) := by decide +kernel
theorem dX12_tray_91 : decode cX12_tray 91 = .ok (.lconst 0, 1) := by decide +kernel
theorem dX12_tray_92 : decode cX12_tray 92 = .ok (.lastore, 1) := by decide +kernel
theorem dX12_tray_93 : decode cX12_tray 93 = .ok (.iinc 4 1, 3) := by decide +kernel
theorem dX12_tray_96 : decode cX12_tray 96 = .ok (.goto (-22), 3) := by decide +kernel
theorem dX12_tray_99 : decode cX12_tray 99 = .ok (.iconst 1, 1) := by decide +kernel
theorem dX12_tray_100 : decode cX12_tray 100 = .ok (.ireturn, 1) := by decide +kernel
theorem dX12_trayed_0 : decode cX12_trayed 0 = .ok (.iload_n 1, 1) := by decide +kernel
theorem dX12_trayed_1 : decode cX12_trayed 1 = .ok (.ifCond .lt 8, 3) := by decide +kernel
theorem dX12_trayed_4 : decode cX12_trayed 4 = .ok (.iload_n 1, 1) := by decide +kernel
theorem dX12_trayed_5 : decode cX12_trayed 5 = .ok (.iconst 4, 1) := by decide +kernel
theorem dX12_trayed_6 : decode cX12_trayed 6 = .ok (.if_icmp .lt 7, 3) := by decide +kernel
theorem dX12_trayed_9 : decode cX12_trayed 9 = .ok (.iconst 1, 1) := by decide +kernel
theorem dX12_trayed_10 : decode cX12_trayed 10 = .ok (.goto 17, 3) := by decide +kernel
theorem dX12_trayed_13 : decode cX12_trayed 13 = .ok (.aload_n 0, 1) := by decide +kernel
theorem dX12_trayed_14 : decode cX12_trayed 14 = .ok (.getfield 17, 3) := by decide +kernel
theorem dX12_trayed_17 : decode cX12_trayed 17 = .ok (.iload_n 1, 1) := by decide +kernel
theorem dX12_trayed_18 : decode cX12_trayed 18 = .ok (.iaload, 1) := by decide +kernel
theorem dX12_trayed_19 : decode cX12_trayed 19 = .ok (.ifCond .ge 7, 3) := by decide +kernel
theorem dX12_trayed_22 : decode cX12_trayed 22 = .ok (.iconst 3, 1) := by decide +kernel
theorem dX12_trayed_23 : decode cX12_trayed 23 = .ok (.goto 4, 3) := by decide +kernel
theorem dX12_trayed_26 : decode cX12_trayed 26 = .ok (.iconst 0, 1) := by decide +kernel
theorem dX12_trayed_27 : decode cX12_trayed 27 = .ok (.ireturn, 1) := by decide +kernel
theorem dX12_placed_0 : decode cX12_placed 0 = .ok (.aload_n 0, 1) := by decide +kernel
theorem dX12_placed_1 : decode cX12_placed 1 = .ok (.iload_n 1, 1) := by decide +kernel
theorem dX12_placed_2 : decode cX12_placed 2 = .ok (.invokevirtual 88, 3) := by decide +kernel
theorem dX12_placed_5 : decode cX12_placed 5 = .ok (.istore_n 3, 1) := by decide +kernel
theorem dX12_placed_6 : decode cX12_placed 6 = .ok (.iload_n 3, 1) := by decide +kernel
theorem dX12_placed_7 : decode cX12_placed 7 = .ok (.ifCond .le 7, 3) := by decide +kernel
theorem dX12_placed_10 : decode cX12_placed 10 = .ok (.iload_n 3, 1) := by decide +kernel
theorem dX12_placed_11 : decode cX12_placed 11 = .ok (.goto 22, 3) := by decide +kernel
theorem dX12_placed_14 : decode cX12_placed 14 = .ok (.iload_n 2, 1) := by decide +kernel
theorem dX12_placed_15 : decode cX12_placed 15 = .ok (.ifCond .lt 13, 3) := by decide +kernel
theorem dX12_placed_18 : decode cX12_placed 18 = .ok (.iload_n 2, 1) := by decide +kernel
theorem dX12_placed_19 : decode cX12_placed 19 = .ok (.aload_n 0, 1) := by decide +kernel
theorem dX12_placed_20 : decode cX12_placed 20 = .ok (.getfield 17, 3) := by decide +kernel
theorem dX12_placed_23 : decode cX12_placed 23 = .ok (.iload_n 1, 1) := by decide +kernel
theorem dX12_placed_24 : decode cX12_placed 24 = .ok (.iaload, 1) := by decide +kernel
theorem dX12_placed_25 : decode cX12_placed 25 = .ok (.if_icmp .lt 7, 3) := by decide +kernel
theorem dX12_placed_28 : decode cX12_placed 28 = .ok (.iconst 4, 1) := by decide +kernel
theorem dX12_placed_29 : decode cX12_placed 29 = .ok (.goto 4, 3) := by decide +kernel
theorem dX12_placed_32 : decode cX12_placed 32 = .ok (.iconst 0, 1) := by decide +kernel
theorem dX12_placed_33 : decode cX12_placed 33 = .ok (.ireturn, 1) := by decide +kernel
theorem dX12_write_0 : decode cX12_write 0 = .ok (.aload_n 0, 1) := by decide +kernel
theorem dX12_write_1 : decode cX12_write 1 = .ok (.iconst 0, 1) := by decide +kernel
theorem dX12_write_2 : decode cX12_write 2 = .ok (.putfield 69, 3) := by decide +kernel
theorem dX12_write_5 : decode cX12_write 5 = .ok (.aload_n 0, 1) := by decide +kernel
theorem dX12_write_6 : decode cX12_write 6 = .ok (.aload_n 0, 1) := by decide +kernel
theorem dX12_write_7 : decode cX12_write 7 = .ok (.iload_n 1, 1) := by decide +kernel
theorem dX12_write_8 : decode cX12_write 8 = .ok (.iload_n 2, 1) := by decide +kernel
theorem dX12_write_9 : decode cX12_write 9 = .ok (.invokevirtual 92, 3) := by decide +kernel
theorem dX12_write_12 : decode cX12_write 12 = .ok (.putfield 72, 3) := by decide +kernel
theorem dX12_write_15 : decode cX12_write 15 = .ok (.aload_n 0, 1) := by decide +kernel
theorem dX12_write_16 : decode cX12_write 16 = .ok (.getfield 72, 3) := by decide +kernel
theorem dX12_write_19 : decode cX12_write 19 = .ok (.ifCond .le 5, 3) := by decide +kernel
theorem dX12_write_22 : decode cX12_write 22 = .ok (.iconst 0, 1) := by decide +kernel
theorem dX12_write_23 : decode cX12_write 23 = .ok (.ireturn, 1) := by decide +kernel
theorem dX12_write_24 : decode cX12_write 24 = .ok (.aload_n 0, 1) := by decide +kernel
theorem dX12_write_25 : decode cX12_write 25 = .ok (.getfield 20, 3) := by decide +kernel
theorem dX12_write_28 : decode cX12_write 28 = .ok (.bipush 60, 2) := by decide +kernel
theorem dX12_write_30 : decode cX12_write 30 = .ok (.iload_n 1, 1) := by decide +kernel
theorem dX12_write_31 : decode cX12_write 31 = .ok (.imul, 1) := by decide +kernel
theorem dX12_write_32 : decode cX12_write 32 = .ok (.iload_n 2, 1) := by decide +kernel
theorem dX12_write_33 : decode cX12_write 33 = .ok (.iadd, 1) := by decide +kernel
theorem dX12_write_34 : decode cX12_write 34 = .ok (.aload_n 0, 1) := by decide +kernel
theorem dX12_write_35 : decode cX12_write 35 = .ok (.getfield 13, 3) := by decide +kernel
theorem dX12_write_38 : decode cX12_write 38 = .ok (.iload_n 1, 1) := by decide +kernel
theorem dX12_write_39 : decode cX12_write 39 = .ok (.iaload, 1) := by decide +kernel
theorem dX12_write_40 : decode cX12_write 40 = .ok (.lload_n 3, 1) := by decide +kernel
theorem dX12_write_41 : decode cX12_write 41 = .ok (.invokestatic 96, 3) := by decide +kernel
theorem dX12_write_44 : decode cX12_write 44 = .ok (.lastore, 1) := by decide +kernel
theorem dX12_write_45 : decode cX12_write 45 = .ok (.iconst 1, 1) := by decide +kernel
theorem dX12_write_46 : decode cX12_write 46 = .ok (.ireturn, 1) := by decide +kernel
theorem dX12_read_0 : decode cX12_read 0 = .ok (.aload_n 0, 1) := by decide +kernel
theorem dX12_read_1 : decode cX12_read 1 = .ok (.iconst 0, 1) := by decide +kernel
theorem dX12_read_2 : decode cX12_read 2 = .ok (.putfield 69, 3) := by decide +kernel
theorem dX12_read_5 : decode cX12_read 5 = .ok (.aload_n 0, 1) := by decide +kernel
theorem dX12_read_6 : decode cX12_read 6 = .ok (.aload_n 0, 1) := by decide +kernel
theorem dX12_read_7 : decode cX12_read 7 = .ok (.iload_n 1, 1) := by decide +kernel
theorem dX12_read_8 : decode cX12_read 8 = .ok (.iload_n 2, 1) := by decide +kernel
theorem dX12_read_9 : decode cX12_read 9 = .ok (.invokevirtual 92, 3) := by decide +kernel
theorem dX12_read_12 : decode cX12_read 12 = .ok (.putfield 72, 3) := by decide +kernel
theorem dX12_read_15 : decode cX12_read 15 = .ok (.aload_n 0, 1) := by decide +kernel
theorem dX12_read_16 : decode cX12_read 16 = .ok (.getfield 72, 3) := by decide +kernel
theorem dX12_read_19 : decode cX12_read 19 = .ok (.ifCond .le 9, 3) := by decide +kernel
theorem dX12_read_22 : decode cX12_read 22 = .ok (.ldc2_w 100, 3) := by decide +kernel
theorem dX12_read_25 : decode cX12_read 25 = .ok (.goto 14, 3) := by decide +kernel
theorem dX12_read_28 : decode cX12_read 28 = .ok (.aload_n 0, 1) := by decide +kernel
theorem dX12_read_29 : decode cX12_read 29 = .ok (.getfield 20, 3) := by decide +kernel
theorem dX12_read_32 : decode cX12_read 32 = .ok (.bipush 60, 2) := by decide +kernel
theorem dX12_read_34 : decode cX12_read 34 = .ok (.iload_n 1, 1) := by decide +kernel
theorem dX12_read_35 : decode cX12_read 35 = .ok (.imul, 1) := by decide +kernel
theorem dX12_read_36 : decode cX12_read 36 = .ok (.iload_n 2, 1) := by decide +kernel
theorem dX12_read_37 : decode cX12_read 37 = .ok (.iadd, 1) := by decide +kernel
theorem dX12_read_38 : decode cX12_read 38 = .ok (.laload, 1) := by decide +kernel
theorem dX12_read_39 : decode cX12_read 39 = .ok (.lreturn, 1) := by decide +kernel
theorem dX12_pour_0 : decode cX12_pour 0 = .ok (.aload_n 0, 1) := by decide +kernel
theorem dX12_pour_1 : decode cX12_pour 1 = .ok (.iconst 0, 1) := by decide +kernel
theorem dX12_pour_2 : decode cX12_pour 2 = .ok (.putfield 69, 3) := by decide +kernel
theorem dX12_pour_5 : decode cX12_pour 5 = .ok (.aload_n 0, 1) := by decide +kernel
theorem dX12_pour_6 : decode cX12_pour 6 = .ok (.iconst 0, 1) := by decide +kernel
theorem dX12_pour_7 : decode cX12_pour 7 = .ok (.putfield 72, 3) := by decide +kernel
theorem dX12_pour_10 : decode cX12_pour 10 = .ok (.iload_n 1, 1) := by decide +kernel
theorem dX12_pour_11 : decode cX12_pour 11 = .ok (.ifCond .lt 17, 3) := by decide +kernel
theorem dX12_pour_14 : decode cX12_pour 14 = .ok (.iload_n 1, 1) := by decide +kernel
theorem dX12_pour_15 : decode cX12_pour 15 = .ok (.iconst 4, 1) := by decide +kernel
theorem dX12_pour_16 : decode cX12_pour 16 = .ok (.if_icmp .ge 12, 3) := by decide +kernel
theorem dX12_pour_19 : decode cX12_pour 19 = .ok (.iload_n 3, 1) := by decide +kernel
theorem dX12_pour_20 : decode cX12_pour 20 = .ok (.ifCond .lt 8, 3) := by decide +kernel
theorem dX12_pour_23 : decode cX12_pour 23 = .ok (.iload_n 3, 1) := by decide +kernel
theorem dX12_pour_24 : decode cX12_pour 24 = .ok (.iconst 4, 1) := by decide +kernel
theorem dX12_pour_25 : decode cX12_pour 25 = .ok (.if_icmp .lt 9, 3) := by decide +kernel
theorem dX12_pour_28 : decode cX12_pour 28 = .ok (.aload_n 0, 1) := by decide +kernel
theorem dX12_pour_29 : decode cX12_pour 29 = .ok (.iconst 1, 1) := by decide +kernel
theorem dX12_pour_30 : decode cX12_pour 30 = .ok (.invokevirtual 84, 3) := by decide +kernel
theorem dX12_pour_33 : decode cX12_pour 33 = .ok (.ireturn, 1) := by decide +kernel
theorem dX12_pour_34 : decode cX12_pour 34 = .ok (.aload_n 0, 1) := by decide +kernel
theorem dX12_pour_35 : decode cX12_pour 35 = .ok (.getfield 17, 3) := by decide +kernel
theorem dX12_pour_38 : decode cX12_pour 38 = .ok (.iload_n 1, 1) := by decide +kernel
theorem dX12_pour_39 : decode cX12_pour 39 = .ok (.iaload, 1) := by decide +kernel
theorem dX12_pour_40 : decode cX12_pour 40 = .ok (.ifCond .lt 12, 3) := by decide +kernel
theorem dX12_pour_43 : decode cX12_pour 43 = .ok (.aload_n 0, 1) := by decide +kernel
theorem dX12_pour_44 : decode cX12_pour 44 = .ok (.getfield 17, 3) := by decide +kernel
theorem dX12_pour_47 : decode cX12_pour 47 = .ok (.iload_n 3, 1) := by decide +kernel
theorem dX12_pour_48 : decode cX12_pour 48 = .ok (.iaload, 1) := by decide +kernel
theorem dX12_pour_49 : decode cX12_pour 49 = .ok (.ifCond .ge 9, 3) := by decide +kernel
theorem dX12_pour_52 : decode cX12_pour 52 = .ok (.aload_n 0, 1) := by decide +kernel
theorem dX12_pour_53 : decode cX12_pour 53 = .ok (.iconst 3, 1) := by decide +kernel
theorem dX12_pour_54 : decode cX12_pour 54 = .ok (.invokevirtual 84, 3) := by decide +kernel
theorem dX12_pour_57 : decode cX12_pour 57 = .ok (.ireturn, 1) := by decide +kernel
theorem dX12_pour_58 : decode cX12_pour 58 = .ok (.aload_n 0, 1) := by decide +kernel
theorem dX12_pour_59 : decode cX12_pour 59 = .ok (.getfield 13, 3) := by decide +kernel
theorem dX12_pour_62 : decode cX12_pour 62 = .ok (.iload_n 1, 1) := by decide +kernel
theorem dX12_pour_63 : decode cX12_pour 63 = .ok (.iaload, 1) := by decide +kernel
theorem dX12_pour_64 : decode cX12_pour 64 = .ok (.aload_n 0, 1) := by decide +kernel
theorem dX12_pour_65 : decode cX12_pour 65 = .ok (.getfield 13, 3) := by decide +kernel
theorem dX12_pour_68 : decode cX12_pour 68 = .ok (.iload_n 3, 1) := by decide +kernel
theorem dX12_pour_69 : decode cX12_pour 69 = .ok (.iaload, 1) := by decide +kernel
theorem dX12_pour_70 : decode cX12_pour 70 = .ok (.if_icmp .eq 10, 3) := by decide +kernel
theorem dX12_pour_73 : decode cX12_pour 73 = .ok (.aload_n 0, 1) := by decide +kernel
theorem dX12_pour_74 : decode cX12_pour 74 = .ok (.bipush 11, 2) := by decide +kernel
theorem dX12_pour_76 : decode cX12_pour 76 = .ok (.invokevirtual 84, 3) := by decide +kernel
theorem dX12_pour_79 : decode cX12_pour 79 = .ok (.ireturn, 1) := by decide +kernel
theorem dX12_pour_80 : decode cX12_pour 80 = .ok (.iload 5, 2) := by decide +kernel
theorem dX12_pour_82 : decode cX12_pour 82 = .ok (.ifCond .ge 10, 3) := by decide +kernel
theorem dX12_pour_85 : decode cX12_pour 85 = .ok (.aload_n 0, 1) := by decide +kernel
theorem dX12_pour_86 : decode cX12_pour 86 = .ok (.bipush 6, 2) := by decide +kernel
theorem dX12_pour_88 : decode cX12_pour 88 = .ok (.invokevirtual 84, 3) := by decide +kernel
theorem dX12_pour_91 : decode cX12_pour 91 = .ok (.ireturn, 1) := by decide +kernel
theorem dX12_pour_92 : decode cX12_pour 92 = .ok (.iload_n 2, 1) := by decide +kernel
theorem dX12_pour_93 : decode cX12_pour 93 = .ok (.ifCond .lt 43, 3) := by decide +kernel
theorem dX12_pour_96 : decode cX12_pour 96 = .ok (.iload 4, 2) := by decide +kernel
theorem dX12_pour_98 : decode cX12_pour 98 = .ok (.ifCond .lt 38, 3) := by decide +kernel
theorem dX12_pour_101 : decode cX12_pour 101 = .ok (.iload_n 2, 1) := by decide +kernel
theorem dX12_pour_102 : decode cX12_pour 102 = .ok (.i2l, 1) := by decide +kernel
theorem dX12_pour_103 : decode cX12_pour 103 = .ok (.iload 5, 2) := by decide +kernel
theorem dX12_pour_105 : decode cX12_pour 105 = .ok (.i2l, 1) := by decide +kernel
theorem dX12_pour_106 : decode cX12_pour 106 = .ok (.ladd, 1) := by decide +kernel
theorem dX12_pour_107 : decode cX12_pour 107 = .ok (.aload_n 0, 1) := by decide +kernel
theorem dX12_pour_108 : decode cX12_pour 108 = .ok (.getfield 17, 3) := by decide +kernel
theorem dX12_pour_111 : decode cX12_pour 111 = .ok (.iload_n 1, 1) := by decide +kernel
theorem dX12_pour_112 : decode cX12_pour 112 = .ok (.iaload, 1) := by decide +kernel
theorem dX12_pour_113 : decode cX12_pour 113 = .ok (.i2l, 1) := by decide +kernel
theorem dX12_pour_114 : decode cX12_pour 114 = .ok (.lcmp, 1) := by decide +kernel
theorem dX12_pour_115 : decode cX12_pour 115 = .ok (.ifCond .gt 21, 3) := by decide +kernel
theorem dX12_pour_118 : decode cX12_pour 118 = .ok (.iload 4, 2) := by decide +kernel
theorem dX12_pour_120 : decode cX12_pour 120 = .ok (.i2l, 1) := by decide +kernel
theorem dX12_pour_121 : decode cX12_pour 121 = .ok (.iload 5, 2) := by decide +kernel
theorem dX12_pour_123 : decode cX12_pour 123 = .ok (.i2l, 1) := by decide +kernel
theorem dX12_pour_124 : decode cX12_pour 124 = .ok (.ladd, 1) := by decide +kernel
theorem dX12_pour_125 : decode cX12_pour 125 = .ok (.aload_n 0, 1) := by decide +kernel
theorem dX12_pour_126 : decode cX12_pour 126 = .ok (.getfield 17, 3) := by decide +kernel
theorem dX12_pour_129 : decode cX12_pour 129 = .ok (.iload_n 3, 1) := by decide +kernel
theorem dX12_pour_130 : decode cX12_pour 130 = .ok (.iaload, 1) := by decide +kernel
theorem dX12_pour_131 : decode cX12_pour 131 = .ok (.i2l, 1) := by decide +kernel
theorem dX12_pour_132 : decode cX12_pour 132 = .ok (.lcmp, 1) := by decide +kernel
theorem dX12_pour_133 : decode cX12_pour 133 = .ok (.ifCond .le 9, 3) := by decide +kernel
theorem dX12_pour_136 : decode cX12_pour 136 = .ok (.aload_n 0, 1) := by decide +kernel
theorem dX12_pour_137 : decode cX12_pour 137 = .ok (.iconst 4, 1) := by decide +kernel
theorem dX12_pour_138 : decode cX12_pour 138 = .ok (.invokevirtual 84, 3) := by decide +kernel
theorem dX12_pour_141 : decode cX12_pour 141 = .ok (.ireturn, 1) := by decide +kernel
theorem dX12_pour_142 : decode cX12_pour 142 = .ok (.iload_n 2, 1) := by decide +kernel
theorem dX12_pour_143 : decode cX12_pour 143 = .ok (.iload 4, 2) := by decide +kernel
theorem dX12_pour_145 : decode cX12_pour 145 = .ok (.if_icmp .ge 7, 3) := by decide +kernel
theorem dX12_pour_148 : decode cX12_pour 148 = .ok (.iconst 1, 1) := by decide +kernel
theorem dX12_pour_149 : decode cX12_pour 149 = .ok (.goto 4, 3) := by decide +kernel
theorem dX12_pour_152 : decode cX12_pour 152 = .ok (.iconst 0, 1) := by decide +kernel
theorem dX12_pour_153 : decode cX12_pour 153 = .ok (.istore 6, 2) := by decide +kernel
theorem dX12_pour_155 : decode cX12_pour 155 = .ok (.iconst 0, 1) := by decide +kernel
theorem dX12_pour_156 : decode cX12_pour 156 = .ok (.istore 7, 2) := by decide +kernel
theorem dX12_pour_158 : decode cX12_pour 158 = .ok (.iload 7, 2) := by decide +kernel
theorem dX12_pour_160 : decode cX12_pour 160 = .ok (.iload 5, 2) := by decide +kernel
theorem dX12_pour_162 : decode cX12_pour 162 = .ok (.if_icmp .ge 57, 3) := by decide +kernel
theorem dX12_pour_165 : decode cX12_pour 165 = .ok (.iload 6, 2) := by decide +kernel
theorem dX12_pour_167 : decode cX12_pour 167 = .ok (.ifCond .eq 13, 3) := by decide +kernel
theorem dX12_pour_170 : decode cX12_pour 170 = .ok (.iload 5, 2) := by decide +kernel
theorem dX12_pour_172 : decode cX12_pour 172 = .ok (.iconst 1, 1) := by decide +kernel
theorem dX12_pour_173 : decode cX12_pour 173 = .ok (.isub, 1) := by decide +kernel
theorem dX12_pour_174 : decode cX12_pour 174 = .ok (.iload 7, 2) := by decide +kernel
theorem dX12_pour_176 : decode cX12_pour 176 = .ok (.isub, 1) := by decide +kernel
theorem dX12_pour_177 : decode cX12_pour 177 = .ok (.goto 5, 3) := by decide +kernel
theorem dX12_pour_180 : decode cX12_pour 180 = .ok (.iload 7, 2) := by decide +kernel
theorem dX12_pour_182 : decode cX12_pour 182 = .ok (.istore 8, 2) := by decide +kernel
theorem dX12_pour_184 : decode cX12_pour 184 = .ok (.aload_n 0, 1) := by decide +kernel
theorem dX12_pour_185 : decode cX12_pour 185 = .ok (.getfield 20, 3) := by decide +kernel
theorem dX12_pour_188 : decode cX12_pour 188 = .ok (.bipush 60, 2) := by decide +kernel
theorem dX12_pour_190 : decode cX12_pour 190 = .ok (.iload_n 3, 1) := by decide +kernel
theorem dX12_pour_191 : decode cX12_pour 191 = .ok (.imul, 1) := by decide +kernel
theorem dX12_pour_192 : decode cX12_pour 192 = .ok (.iload 4, 2) := by decide +kernel
theorem dX12_pour_194 : decode cX12_pour 194 = .ok (.iadd, 1) := by decide +kernel
theorem dX12_pour_195 : decode cX12_pour 195 = .ok (.iload 8, 2) := by decide +kernel
theorem dX12_pour_197 : decode cX12_pour 197 = .ok (.iadd, 1) := by decide +kernel
theorem dX12_pour_198 : decode cX12_pour 198 = .ok (.aload_n 0, 1) := by decide +kernel
theorem dX12_pour_199 : decode cX12_pour 199 = .ok (.getfield 20, 3) := by decide +kernel
theorem dX12_pour_202 : decode cX12_pour 202 = .ok (.bipush 60, 2) := by decide +kernel
theorem dX12_pour_204 : decode cX12_pour 204 = .ok (.iload_n 1, 1) := by decide +kernel
theorem dX12_pour_205 : decode cX12_pour 205 = .ok (.imul, 1) := by decide +kernel
theorem dX12_pour_206 : decode cX12_pour 206 = .ok (.iload_n 2, 1) := by decide +kernel
theorem dX12_pour_207 : decode cX12_pour 207 = .ok (.iadd, 1) := by decide +kernel
theorem dX12_pour_208 : decode cX12_pour 208 = .ok (.iload 8, 2) := by decide +kernel
theorem dX12_pour_210 : decode cX12_pour 210 = .ok (.iadd, 1) := by decide +kernel
theorem dX12_pour_211 : decode cX12_pour 211 = .ok (.laload, 1) := by decide +kernel
theorem dX12_pour_212 : decode cX12_pour 212 = .ok (.lastore, 1) := by decide +kernel
theorem dX12_pour_213 : decode cX12_pour 213 = .ok (.iinc 7 1, 3) := by decide +kernel
theorem dX12_pour_216 : decode cX12_pour 216 = .ok (.goto (-58), 3) := by decide +kernel
theorem dX12_pour_219 : decode cX12_pour 219 = .ok (.iconst 1, 1) := by decide +kernel
theorem dX12_pour_220 : decode cX12_pour 220 = .ok (.ireturn, 1) := by decide +kernel
theorem dX12_numberOf_0 : decode cX12_numberOf 0 = .ok (.aload_n 0, 1) := by decide +kernel
theorem dX12_numberOf_1 : decode cX12_numberOf 1 = .ok (.getfield 20, 3) := by decide +kernel
theorem dX12_numberOf_4 : decode cX12_numberOf 4 = .ok (.bipush 60, 2) := by decide +kernel
theorem dX12_numberOf_6 : decode cX12_numberOf 6 = .ok (.iload_n 1, 1) := by decide +kernel
theorem dX12_numberOf_7 : decode cX12_numberOf 7 = .ok (.imul, 1) := by decide +kernel
theorem dX12_numberOf_8 : decode cX12_numberOf 8 = .ok (.iload_n 2, 1) := by decide +kernel
theorem dX12_numberOf_9 : decode cX12_numberOf 9 = .ok (.iadd, 1) := by decide +kernel
theorem dX12_numberOf_10 : decode cX12_numberOf 10 = .ok (.laload, 1) := by decide +kernel
theorem dX12_numberOf_11 : decode cX12_numberOf 11 = .ok (.lreturn, 1) := by decide +kernel
theorem dX12_isTray_0 : decode cX12_isTray 0 = .ok (.iload_n 1, 1) := by decide +kernel
theorem dX12_isTray_1 : decode cX12_isTray 1 = .ok (.i2l, 1) := by decide +kernel
theorem dX12_isTray_2 : decode cX12_isTray 2 = .ok (.lconst 0, 1) := by decide +kernel
theorem dX12_isTray_3 : decode cX12_isTray 3 = .ok (.ldc2_w 102, 3) := by decide +kernel
theorem dX12_isTray_6 : decode cX12_isTray 6 = .ok (.invokestatic 104, 3) := by decide +kernel
theorem dX12_isTray_9 : decode cX12_isTray 9 = .ok (.ireturn, 1) := by decide +kernel
theorem dX12_look2_0 : decode cX12_look2 0 = .ok (.iload_n 1, 1) := by decide +kernel
theorem dX12_look2_1 : decode cX12_look2 1 = .ok (.aload_n 0, 1) := by decide +kernel
theorem dX12_look2_2 : decode cX12_look2 2 = .ok (.getfield 108, 3) := by decide +kernel
theorem dX12_look2_5 : decode cX12_look2 5 = .ok (.if_icmp .ge 16, 3) := by decide +kernel
theorem dX12_look2_8 : decode cX12_look2 8 = .ok (.aload_n 0, 1) := by decide +kernel
theorem dX12_look2_9 : decode cX12_look2 9 = .ok (.getfield 24, 3) := by decide +kernel
theorem dX12_look2_12 : decode cX12_look2 12 = .ok (.iload_n 1, 1) := by decide +kernel
theorem dX12_look2_13 : decode cX12_look2 13 = .ok (.baload, 1) := by decide +kernel
theorem dX12_look2_14 : decode cX12_look2 14 = .ok (.sipush 255, 3) := by decide +kernel
theorem dX12_look2_17 : decode cX12_look2 17 = .ok (.iand, 1) := by decide +kernel
theorem dX12_look2_18 : decode cX12_look2 18 = .ok (.goto 4, 3) := by decide +kernel
theorem dX12_look2_21 : decode cX12_look2 21 = .ok (.iconst 0, 1) := by decide +kernel
theorem dX12_look2_22 : decode cX12_look2 22 = .ok (.ireturn, 1) := by decide +kernel
theorem dX12_isLetter_0 : decode cX12_isLetter 0 = .ok (.iload_n 0, 1) := by decide +kernel
theorem dX12_isLetter_1 : decode cX12_isLetter 1 = .ok (.bipush 97, 2) := by decide +kernel
theorem dX12_isLetter_3 : decode cX12_isLetter 3 = .ok (.if_icmp .lt 13, 3) := by decide +kernel
theorem dX12_isLetter_6 : decode cX12_isLetter 6 = .ok (.iload_n 0, 1) := by decide +kernel
theorem dX12_isLetter_7 : decode cX12_isLetter 7 = .ok (.bipush 122, 2) := by decide +kernel
theorem dX12_isLetter_9 : decode cX12_isLetter 9 = .ok (.if_icmp .gt 7, 3) := by decide +kernel
theorem dX12_isLetter_12 : decode cX12_isLetter 12 = .ok (.iconst 1, 1) := by decide +kernel
theorem dX12_isLetter_13 : decode cX12_isLetter 13 = .ok (.goto 4, 3) := by decide +kernel
theorem dX12_isLetter_16 : decode cX12_isLetter 16 = .ok (.iconst 0, 1) := by decide +kernel
theorem dX12_isLetter_17 : decode cX12_isLetter 17 = .ok (.ireturn, 1) := by decide +kernel
theorem dX12_isDigit_0 : decode cX12_isDigit 0 = .ok (.iload_n 0, 1) := by decide +kernel
theorem dX12_isDigit_1 : decode cX12_isDigit 1 = .ok (.bipush 48, 2) := by decide +kernel
theorem dX12_isDigit_3 : decode cX12_isDigit 3 = .ok (.if_icmp .lt 13, 3) := by decide +kernel
theorem dX12_isDigit_6 : decode cX12_isDigit 6 = .ok (.iload_n 0, 1) := by decide +kernel
theorem dX12_isDigit_7 : decode cX12_isDigit 7 = .ok (.bipush 57, 2) := by decide +kernel
theorem dX12_isDigit_9 : decode cX12_isDigit 9 = .ok (.if_icmp .gt 7, 3) := by decide +kernel
theorem dX12_isDigit_12 : decode cX12_isDigit 12 = .ok (.iconst 1, 1) := by decide +kernel
theorem dX12_isDigit_13 : decode cX12_isDigit 13 = .ok (.goto 4, 3) := by decide +kernel
theorem dX12_isDigit_16 : decode cX12_isDigit 16 = .ok (.iconst 0, 1) := by decide +kernel
theorem dX12_isDigit_17 : decode cX12_isDigit 17 = .ok (.ireturn, 1) := by decide +kernel
theorem dX12_isSignByte_0 : decode cX12_isSignByte 0 = .ok (.iload_n 1, 1) := by decide +kernel
theorem dX12_isSignByte_1 : decode cX12_isSignByte 1 = .ok (.bipush 59, 2) := by decide +kernel
theorem dX12_isSignByte_3 : decode cX12_isSignByte 3 = .ok (.if_icmp .eq 21, 3) := by decide +kernel
theorem dX12_isSignByte_6 : decode cX12_isSignByte 6 = .ok (.iload_n 1, 1) := by decide +kernel
theorem dX12_isSignByte_7 : decode cX12_isSignByte 7 = .ok (.bipush 60, 2) := by decide +kernel
theorem dX12_isSignByte_9 : decode cX12_isSignByte 9 = .ok (.if_icmp .eq 15, 3) := by decide +kernel
theorem dX12_isSignByte_12 : decode cX12_isSignByte 12 = .ok (.iload_n 1, 1) := by decide +kernel
theorem dX12_isSignByte_13 : decode cX12_isSignByte 13 = .ok (.bipush 62, 2) := by decide +kernel
theorem dX12_isSignByte_15 : decode cX12_isSignByte 15 = .ok (.if_icmp .eq 9, 3) := by decide +kernel
theorem dX12_isSignByte_18 : decode cX12_isSignByte 18 = .ok (.iload_n 1, 1) := by decide +kernel
theorem dX12_isSignByte_19 : decode cX12_isSignByte 19 = .ok (.bipush 61, 2) := by decide +kernel
theorem dX12_isSignByte_21 : decode cX12_isSignByte 21 = .ok (.if_icmp .ne 7, 3) := by decide +kernel
theorem dX12_isSignByte_24 : decode cX12_isSignByte 24 = .ok (.iconst 1, 1) := by decide +kernel
theorem dX12_isSignByte_25 : decode cX12_isSignByte 25 = .ok (.goto 4, 3) := by decide +kernel
theorem dX12_isSignByte_28 : decode cX12_isSignByte 28 = .ok (.iconst 0, 1) := by decide +kernel
theorem dX12_isSignByte_29 : decode cX12_isSignByte 29 = .ok (.ireturn, 1) := by decide +kernel
theorem dX12_next_0 : decode cX12_next 0 = .ok (.aload_n 0, 1) := by decide +kernel
theorem dX12_next_1 : decode cX12_next 1 = .ok (.aload_n 0, 1) := by decide +kernel
theorem dX12_next_2 : decode cX12_next 2 = .ok (.getfield 111, 3) := by decide +kernel
theorem dX12_next_5 : decode cX12_next 5 = .ok (.putfield 114, 3) := by decide +kernel
theorem dX12_next_8 : decode cX12_next 8 = .ok (.aload_n 0, 1) := by decide +kernel
theorem dX12_next_9 : decode cX12_next 9 = .ok (.getfield 114, 3) := by decide +kernel
theorem dX12_next_12 : decode cX12_next 12 = .ok (.aload_n 0, 1) := by decide +kernel
theorem dX12_next_13 : decode cX12_next 13 = .ok (.getfield 108, 3) := by decide +kernel
theorem dX12_next_16 : decode cX12_next 16 = .ok (.if_icmp .ge 42, 3) := by decide +kernel
theorem dX12_next_19 : decode cX12_next 19 = .ok (.aload_n 0, 1) := by decide +kernel
theorem dX12_next_20 : decode cX12_next 20 = .ok (.aload_n 0, 1) := by decide +kernel
theorem dX12_next_21 : decode cX12_next 21 = .ok (.getfield 114, 3) := by decide +kernel
theorem dX12_next_24 : decode cX12_next 24 = .ok (.invokevirtual 117, 3) := by decide +kernel
theorem dX12_next_27 : decode cX12_next 27 = .ok (.bipush 10, 2) := by decide +kernel
theorem dX12_next_29 : decode cX12_next 29 = .ok (.if_icmp .eq 16, 3) := by decide +kernel
theorem dX12_next_32 : decode cX12_next 32 = .ok (.aload_n 0, 1) := by decide +kernel
theorem dX12_next_33 : decode cX12_next 33 = .ok (.aload_n 0, 1) := by decide +kernel
theorem dX12_next_34 : decode cX12_next 34 = .ok (.getfield 114, 3) := by decide +kernel
theorem dX12_next_37 : decode cX12_next 37 = .ok (.invokevirtual 117, 3) := by decide +kernel
theorem dX12_next_40 : decode cX12_next 40 = .ok (.bipush 32, 2) := by decide +kernel
theorem dX12_next_42 : decode cX12_next 42 = .ok (.if_icmp .ne 16, 3) := by decide +kernel
theorem dX12_next_45 : decode cX12_next 45 = .ok (.aload_n 0, 1) := by decide +kernel
theorem dX12_next_46 : decode cX12_next 46 = .ok (.dup, 1) := by decide +kernel
theorem dX12_next_47 : decode cX12_next 47 = .ok (.getfield 114, 3) := by decide +kernel
theorem dX12_next_50 : decode cX12_next 50 = .ok (.iconst 1, 1) := by decide +kernel
theorem dX12_next_51 : decode cX12_next 51 = .ok (.iadd, 1) := by decide +kernel
theorem dX12_next_52 : decode cX12_next 52 = .ok (.putfield 114, 3) := by decide +kernel
theorem dX12_next_55 : decode cX12_next 55 = .ok (.goto (-47), 3) := by decide +kernel
theorem dX12_next_58 : decode cX12_next 58 = .ok (.aload_n 0, 1) := by decide +kernel
theorem dX12_next_59 : decode cX12_next 59 = .ok (.aload_n 0, 1) := by decide +kernel
theorem dX12_next_60 : decode cX12_next 60 = .ok (.getfield 114, 3) := by decide +kernel
theorem dX12_next_63 : decode cX12_next 63 = .ok (.putfield 111, 3) := by decide +kernel
theorem dX12_next_66 : decode cX12_next 66 = .ok (.aload_n 0, 1) := by decide +kernel
theorem dX12_next_67 : decode cX12_next 67 = .ok (.getfield 114, 3) := by decide +kernel
theorem dX12_next_70 : decode cX12_next 70 = .ok (.aload_n 0, 1) := by decide +kernel
theorem dX12_next_71 : decode cX12_next 71 = .ok (.getfield 108, 3) := by decide +kernel
theorem dX12_next_74 : decode cX12_next 74 = .ok (.if_icmp .lt 9, 3) := by decide +kernel
theorem dX12_next_77 : decode cX12_next 77 = .ok (.aload_n 0, 1) := by decide +kernel
theorem dX12_next_78 : decode cX12_next 78 = .ok (.iconst 0, 1) := by decide +kernel
theorem dX12_next_79 : decode cX12_next 79 = .ok (.putfield 120, 3) := by decide +kernel
theorem dX12_next_82 : decode cX12_next 82 = .ok (.return_, 1) := by decide +kernel
theorem dX12_next_83 : decode cX12_next 83 = .ok (.aload_n 0, 1) := by decide +kernel
theorem dX12_next_84 : decode cX12_next 84 = .ok (.aload_n 0, 1) := by decide +kernel
theorem dX12_next_85 : decode cX12_next 85 = .ok (.getfield 114, 3) := by decide +kernel
theorem dX12_next_88 : decode cX12_next 88 = .ok (.invokevirtual 117, 3) := by decide +kernel
theorem dX12_next_91 : decode cX12_next 91 = .ok (.istore_n 1, 1) := by decide +kernel
theorem dX12_next_92 : decode cX12_next 92 = .ok (.iload_n 1, 1) := by decide +kernel
theorem dX12_next_93 : decode cX12_next 93 = .ok (.invokestatic 123, 3) := by decide +kernel
theorem dX12_next_96 : decode cX12_next 96 = .ok (.ifCond .eq 102, 3) := by decide +kernel
theorem dX12_next_99 : decode cX12_next 99 = .ok (.aload_n 0, 1) := by decide +kernel
theorem dX12_next_100 : decode cX12_next 100 = .ok (.iconst 1, 1) := by decide +kernel
theorem dX12_next_101 : decode cX12_next 101 = .ok (.putfield 120, 3) := by decide +kernel
theorem dX12_next_104 : decode cX12_next 104 = .ok (.aload_n 0, 1) := by decide +kernel
theorem dX12_next_105 : decode cX12_next 105 = .ok (.lconst 0, 1) := by decide +kernel
theorem dX12_next_106 : decode cX12_next 106 = .ok (.putfield 126, 3) := by decide +kernel
theorem dX12_next_109 : decode cX12_next 109 = .ok (.aload_n 0, 1) := by decide +kernel
theorem dX12_next_110 : decode cX12_next 110 = .ok (.aload_n 0, 1) := by decide +kernel
theorem dX12_next_111 : decode cX12_next 111 = .ok (.getfield 111, 3) := by decide +kernel
theorem dX12_next_114 : decode cX12_next 114 = .ok (.invokevirtual 117, 3) := by decide +kernel
theorem dX12_next_117 : decode cX12_next 117 = .ok (.invokestatic 123, 3) := by decide +kernel
theorem dX12_next_120 : decode cX12_next 120 = .ok (.ifCond .eq 62, 3) := by decide +kernel
theorem dX12_next_123 : decode cX12_next 123 = .ok (.aload_n 0, 1) := by decide +kernel
theorem dX12_next_124 : decode cX12_next 124 = .ok (.aload_n 0, 1) := by decide +kernel
theorem dX12_next_125 : decode cX12_next 125 = .ok (.getfield 111, 3) := by decide +kernel
theorem dX12_next_128 : decode cX12_next 128 = .ok (.aload_n 0, 1) := by decide +kernel
theorem dX12_next_129 : decode cX12_next 129 = .ok (.getfield 114, 3) := by decide +kernel
theorem dX12_next_132 : decode cX12_next 132 = .ok (.isub, 1) := by decide +kernel
theorem dX12_next_133 : decode cX12_next 133 = .ok (.bipush 8, 2) := by decide +kernel
theorem dX12_next_135 : decode cX12_next 135 = .ok (.if_icmp .ge 28, 3) := by decide +kernel
theorem dX12_next_138 : decode cX12_next 138 = .ok (.aload_n 0, 1) := by decide +kernel
theorem dX12_next_139 : decode cX12_next 139 = .ok (.getfield 126, 3) := by decide +kernel
theorem dX12_next_142 : decode cX12_next 142 = .ok (.ldc2_w 129, 3) := by decide +kernel
theorem dX12_next_145 : decode cX12_next 145 = .ok (.lmul, 1) := by decide +kernel
theorem dX12_next_146 : decode cX12_next 146 = .ok (.aload_n 0, 1) := by decide +kernel
theorem dX12_next_147 : decode cX12_next 147 = .ok (.aload_n 0, 1) := by decide +kernel
theorem dX12_next_148 : decode cX12_next 148 = .ok (.getfield 111, 3) := by decide +kernel
theorem dX12_next_151 : decode cX12_next 151 = .ok (.invokevirtual 117, 3) := by decide +kernel
theorem dX12_next_154 : decode cX12_next 154 = .ok (.i2l, 1) := by decide +kernel
theorem dX12_next_155 : decode cX12_next 155 = .ok (.ladd, 1) := by decide +kernel
theorem dX12_next_156 : decode cX12_next 156 = .ok (.ldc2_w 131, 3) := by decide +kernel
theorem dX12_next_159 : decode cX12_next 159 = .ok (.lsub, 1) := by decide +kernel
theorem dX12_next_160 : decode cX12_next 160 = .ok (.goto 6, 3) := by decide +kernel
theorem dX12_next_163 : decode cX12_next 163 = .ok (.ldc2_w 100, 3) := by decide +kernel
theorem dX12_next_166 : decode cX12_next 166 = .ok (.putfield 126, 3) := by decide +kernel
theorem dX12_next_169 : decode cX12_next 169 = .ok (.aload_n 0, 1) := by decide +kernel
theorem dX12_next_170 : decode cX12_next 170 = .ok (.dup, 1) := by decide +kernel
theorem dX12_next_171 : decode cX12_next 171 = .ok (.getfield 111, 3) := by decide +kernel
theorem dX12_next_174 : decode cX12_next 174 = .ok (.iconst 1, 1) := by decide +kernel
theorem dX12_next_175 : decode cX12_next 175 = .ok (.iadd, 1) := by decide +kernel
theorem dX12_next_176 : decode cX12_next 176 = .ok (.putfield 111, 3) := by decide +kernel
theorem dX12_next_179 : decode cX12_next 179 = .ok (.goto (-70), 3) := by decide +kernel
theorem dX12_next_182 : decode cX12_next 182 = .ok (.aload_n 0, 1) := by decide +kernel
theorem dX12_next_183 : decode cX12_next 183 = .ok (.aload_n 0, 1) := by decide +kernel
theorem dX12_next_184 : decode cX12_next 184 = .ok (.getfield 111, 3) := by decide +kernel
theorem dX12_next_187 : decode cX12_next 187 = .ok (.aload_n 0, 1) := by decide +kernel
theorem dX12_next_188 : decode cX12_next 188 = .ok (.getfield 114, 3) := by decide +kernel
theorem dX12_next_191 : decode cX12_next 191 = .ok (.isub, 1) := by decide +kernel
theorem dX12_next_192 : decode cX12_next 192 = .ok (.putfield 133, 3) := by decide +kernel
theorem dX12_next_195 : decode cX12_next 195 = .ok (.goto 135, 3) := by decide +kernel
theorem dX12_next_198 : decode cX12_next 198 = .ok (.iload_n 1, 1) := by decide +kernel
theorem dX12_next_199 : decode cX12_next 199 = .ok (.invokestatic 136, 3) := by decide +kernel
theorem dX12_next_202 : decode cX12_next 202 = .ok (.ifCond .eq 96, 3) := by decide +kernel
theorem dX12_next_205 : decode cX12_next 205 = .ok (.aload_n 0, 1) := by decide +kernel
theorem dX12_next_206 : decode cX12_next 206 = .ok (.iconst 0, 1) := by decide +kernel
theorem dX12_next_207 : decode cX12_next 207 = .ok (.putfield 139, 3) := by decide +kernel
theorem dX12_next_210 : decode cX12_next 210 = .ok (.aload_n 0, 1) := by decide +kernel
theorem dX12_next_211 : decode cX12_next 211 = .ok (.aload_n 0, 1) := by decide +kernel
theorem dX12_next_212 : decode cX12_next 212 = .ok (.getfield 111, 3) := by decide +kernel
theorem dX12_next_215 : decode cX12_next 215 = .ok (.invokevirtual 117, 3) := by decide +kernel
theorem dX12_next_218 : decode cX12_next 218 = .ok (.invokestatic 136, 3) := by decide +kernel
theorem dX12_next_221 : decode cX12_next 221 = .ok (.ifCond .eq 52, 3) := by decide +kernel
theorem dX12_next_224 : decode cX12_next 224 = .ok (.aload_n 0, 1) := by decide +kernel
theorem dX12_next_225 : decode cX12_next 225 = .ok (.getfield 111, 3) := by decide +kernel
theorem dX12_next_228 : decode cX12_next 228 = .ok (.aload_n 0, 1) := by decide +kernel
theorem dX12_next_229 : decode cX12_next 229 = .ok (.getfield 114, 3) := by decide +kernel
theorem dX12_next_232 : decode cX12_next 232 = .ok (.isub, 1) := by decide +kernel
theorem dX12_next_233 : decode cX12_next 233 = .ok (.iconst 4, 1) := by decide +kernel
theorem dX12_next_234 : decode cX12_next 234 = .ok (.if_icmp .ge 26, 3) := by decide +kernel
theorem dX12_next_237 : decode cX12_next 237 = .ok (.aload_n 0, 1) := by decide +kernel
theorem dX12_next_238 : decode cX12_next 238 = .ok (.bipush 10, 2) := by decide +kernel
theorem dX12_next_240 : decode cX12_next 240 = .ok (.aload_n 0, 1) := by decide +kernel
theorem dX12_next_241 : decode cX12_next 241 = .ok (.getfield 139, 3) := by decide +kernel
theorem dX12_next_244 : decode cX12_next 244 = .ok (.imul, 1) := by decide +kernel
theorem dX12_next_245 : decode cX12_next 245 = .ok (.aload_n 0, 1) := by decide +kernel
theorem dX12_next_246 : decode cX12_next 246 = .ok (.aload_n 0, 1) := by decide +kernel
theorem dX12_next_247 : decode cX12_next 247 = .ok (.getfield 111, 3) := by decide +kernel
theorem dX12_next_250 : decode cX12_next 250 = .ok (.invokevirtual 117, 3) := by decide +kernel
theorem dX12_next_253 : decode cX12_next 253 = .ok (.iadd, 1) := by decide +kernel
theorem dX12_next_254 : decode cX12_next 254 = .ok (.bipush 48, 2) := by decide +kernel
theorem dX12_next_256 : decode cX12_next 256 = .ok (.isub, 1) := by decide +kernel
theorem dX12_next_257 : decode cX12_next 257 = .ok (.putfield 139, 3) := by decide +kernel
theorem dX12_next_260 : decode cX12_next 260 = .ok (.aload_n 0, 1) := by decide +kernel
theorem dX12_next_261 : decode cX12_next 261 = .ok (.dup, 1) := by decide +kernel
theorem dX12_next_262 : decode cX12_next 262 = .ok (.getfield 111, 3) := by decide +kernel
theorem dX12_next_265 : decode cX12_next 265 = .ok (.iconst 1, 1) := by decide +kernel
theorem dX12_next_266 : decode cX12_next 266 = .ok (.iadd, 1) := by decide +kernel
theorem dX12_next_267 : decode cX12_next 267 = .ok (.putfield 111, 3) := by decide +kernel
theorem dX12_next_270 : decode cX12_next 270 = .ok (.goto (-60), 3) := by decide +kernel
theorem dX12_next_273 : decode cX12_next 273 = .ok (.aload_n 0, 1) := by decide +kernel
theorem dX12_next_274 : decode cX12_next 274 = .ok (.aload_n 0, 1) := by decide +kernel
theorem dX12_next_275 : decode cX12_next 275 = .ok (.getfield 111, 3) := by decide +kernel
theorem dX12_next_278 : decode cX12_next 278 = .ok (.aload_n 0, 1) := by decide +kernel
theorem dX12_next_279 : decode cX12_next 279 = .ok (.getfield 114, 3) := by decide +kernel
theorem dX12_next_282 : decode cX12_next 282 = .ok (.isub, 1) := by decide +kernel
theorem dX12_next_283 : decode cX12_next 283 = .ok (.iconst 4, 1) := by decide +kernel
theorem dX12_next_284 : decode cX12_next 284 = .ok (.if_icmp .le 7, 3) := by decide +kernel
theorem dX12_next_287 : decode cX12_next 287 = .ok (.iconst 4, 1) := by decide +kernel
theorem dX12_next_288 : decode cX12_next 288 = .ok (.goto 4, 3) := by decide +kernel
theorem dX12_next_291 : decode cX12_next 291 = .ok (.iconst 2, 1) := by decide +kernel
theorem dX12_next_292 : decode cX12_next 292 = .ok (.putfield 120, 3) := by decide +kernel
theorem dX12_next_295 : decode cX12_next 295 = .ok (.goto 35, 3) := by decide +kernel
theorem dX12_next_298 : decode cX12_next 298 = .ok (.aload_n 0, 1) := by decide +kernel
theorem dX12_next_299 : decode cX12_next 299 = .ok (.aload_n 0, 1) := by decide +kernel
theorem dX12_next_300 : decode cX12_next 300 = .ok (.getfield 114, 3) := by decide +kernel
theorem dX12_next_303 : decode cX12_next 303 = .ok (.iconst 1, 1) := by decide +kernel
theorem dX12_next_304 : decode cX12_next 304 = .ok (.iadd, 1) := by decide +kernel
theorem dX12_next_305 : decode cX12_next 305 = .ok (.putfield 111, 3) := by decide +kernel
theorem dX12_next_308 : decode cX12_next 308 = .ok (.aload_n 0, 1) := by decide +kernel
theorem dX12_next_309 : decode cX12_next 309 = .ok (.iload_n 1, 1) := by decide +kernel
theorem dX12_next_310 : decode cX12_next 310 = .ok (.putfield 139, 3) := by decide +kernel
theorem dX12_next_313 : decode cX12_next 313 = .ok (.aload_n 0, 1) := by decide +kernel
theorem dX12_next_314 : decode cX12_next 314 = .ok (.aload_n 0, 1) := by decide +kernel
theorem dX12_next_315 : decode cX12_next 315 = .ok (.iload_n 1, 1) := by decide +kernel
theorem dX12_next_316 : decode cX12_next 316 = .ok (.invokevirtual 142, 3) := by decide +kernel
theorem dX12_next_319 : decode cX12_next 319 = .ok (.ifCond .eq 7, 3) := by decide +kernel
theorem dX12_next_322 : decode cX12_next 322 = .ok (.iconst 3, 1) := by decide +kernel
theorem dX12_next_323 : decode cX12_next 323 = .ok (.goto 4, 3) := by decide +kernel
theorem dX12_next_326 : decode cX12_next 326 = .ok (.iconst 4, 1) := by decide +kernel
theorem dX12_next_327 : decode cX12_next 327 = .ok (.putfield 120, 3) := by decide +kernel
theorem dX12_next_330 : decode cX12_next 330 = .ok (.return_, 1) := by decide +kernel
theorem dX12_isSign_0 : decode cX12_isSign 0 = .ok (.aload_n 0, 1) := by decide +kernel
theorem dX12_isSign_1 : decode cX12_isSign 1 = .ok (.getfield 120, 3) := by decide +kernel
theorem dX12_isSign_4 : decode cX12_isSign 4 = .ok (.iconst 3, 1) := by decide +kernel
theorem dX12_isSign_5 : decode cX12_isSign 5 = .ok (.if_icmp .ne 15, 3) := by decide +kernel
theorem dX12_isSign_8 : decode cX12_isSign 8 = .ok (.aload_n 0, 1) := by decide +kernel
theorem dX12_isSign_9 : decode cX12_isSign 9 = .ok (.getfield 139, 3) := by decide +kernel
theorem dX12_isSign_12 : decode cX12_isSign 12 = .ok (.iload_n 1, 1) := by decide +kernel
theorem dX12_isSign_13 : decode cX12_isSign 13 = .ok (.if_icmp .ne 7, 3) := by decide +kernel
theorem dX12_isSign_16 : decode cX12_isSign 16 = .ok (.iconst 1, 1) := by decide +kernel
theorem dX12_isSign_17 : decode cX12_isSign 17 = .ok (.goto 4, 3) := by decide +kernel
theorem dX12_isSign_20 : decode cX12_isSign 20 = .ok (.iconst 0, 1) := by decide +kernel
theorem dX12_isSign_21 : decode cX12_isSign 21 = .ok (.ireturn, 1) := by decide +kernel
theorem dX12_spelled_0 : decode cX12_spelled 0 = .ok (.iload_n 0, 1) := by decide +kernel
theorem dX12_spelled_1 : decode cX12_spelled 1 = .ok (.i2l, 1) := by decide +kernel
theorem dX12_spelled_2 : decode cX12_spelled 2 = .ok (.ldc2_w 131, 3) := by decide +kernel
theorem dX12_spelled_5 : decode cX12_spelled 5 = .ok (.lsub, 1) := by decide +kernel
theorem dX12_spelled_6 : decode cX12_spelled 6 = .ok (.ldc2_w 129, 3) := by decide +kernel
theorem dX12_spelled_9 : decode cX12_spelled 9 = .ok (.lmul, 1) := by decide +kernel
theorem dX12_spelled_10 : decode cX12_spelled 10 = .ok (.iload_n 1, 1) := by decide +kernel
theorem dX12_spelled_11 : decode cX12_spelled 11 = .ok (.i2l, 1) := by decide +kernel
theorem dX12_spelled_12 : decode cX12_spelled 12 = .ok (.ladd, 1) := by decide +kernel
theorem dX12_spelled_13 : decode cX12_spelled 13 = .ok (.ldc2_w 131, 3) := by decide +kernel
theorem dX12_spelled_16 : decode cX12_spelled 16 = .ok (.lsub, 1) := by decide +kernel
theorem dX12_spelled_17 : decode cX12_spelled 17 = .ok (.lstore 6, 2) := by decide +kernel
theorem dX12_spelled_19 : decode cX12_spelled 19 = .ok (.iload_n 2, 1) := by decide +kernel
theorem dX12_spelled_20 : decode cX12_spelled 20 = .ok (.ifCond .le 19, 3) := by decide +kernel
theorem dX12_spelled_23 : decode cX12_spelled 23 = .ok (.lload 6, 2) := by decide +kernel
theorem dX12_spelled_25 : decode cX12_spelled 25 = .ok (.ldc2_w 129, 3) := by decide +kernel
theorem dX12_spelled_28 : decode cX12_spelled 28 = .ok (.lmul, 1) := by decide +kernel
theorem dX12_spelled_29 : decode cX12_spelled 29 = .ok (.iload_n 2, 1) := by decide +kernel
theorem dX12_spelled_30 : decode cX12_spelled 30 = .ok (.i2l, 1) := by decide +kernel
theorem dX12_spelled_31 : decode cX12_spelled 31 = .ok (.ladd, 1) := by decide +kernel
theorem dX12_spelled_32 : decode cX12_spelled 32 = .ok (.ldc2_w 131, 3) := by decide +kernel
theorem dX12_spelled_35 : decode cX12_spelled 35 = .ok (.lsub, 1) := by decide +kernel
theorem dX12_spelled_36 : decode cX12_spelled 36 = .ok (.goto 5, 3) := by decide +kernel
theorem dX12_spelled_39 : decode cX12_spelled 39 = .ok (.lload 6, 2) := by decide +kernel
theorem dX12_spelled_41 : decode cX12_spelled 41 = .ok (.lstore 6, 2) := by decide +kernel
theorem dX12_spelled_43 : decode cX12_spelled 43 = .ok (.iload_n 3, 1) := by decide +kernel
theorem dX12_spelled_44 : decode cX12_spelled 44 = .ok (.ifCond .le 19, 3) := by decide +kernel
theorem dX12_spelled_47 : decode cX12_spelled 47 = .ok (.lload 6, 2) := by decide +kernel
theorem dX12_spelled_49 : decode cX12_spelled 49 = .ok (.ldc2_w 129, 3) := by decide +kernel
theorem dX12_spelled_52 : decode cX12_spelled 52 = .ok (.lmul, 1) := by decide +kernel
theorem dX12_spelled_53 : decode cX12_spelled 53 = .ok (.iload_n 3, 1) := by decide +kernel
theorem dX12_spelled_54 : decode cX12_spelled 54 = .ok (.i2l, 1) := by decide +kernel
theorem dX12_spelled_55 : decode cX12_spelled 55 = .ok (.ladd, 1) := by decide +kernel
theorem dX12_spelled_56 : decode cX12_spelled 56 = .ok (.ldc2_w 131, 3) := by decide +kernel
theorem dX12_spelled_59 : decode cX12_spelled 59 = .ok (.lsub, 1) := by decide +kernel
theorem dX12_spelled_60 : decode cX12_spelled 60 = .ok (.goto 5, 3) := by decide +kernel
theorem dX12_spelled_63 : decode cX12_spelled 63 = .ok (.lload 6, 2) := by decide +kernel
theorem dX12_spelled_65 : decode cX12_spelled 65 = .ok (.lstore 6, 2) := by decide +kernel
theorem dX12_spelled_67 : decode cX12_spelled 67 = .ok (.iload 4, 2) := by decide +kernel
theorem dX12_spelled_69 : decode cX12_spelled 69 = .ok (.ifCond .le 20, 3) := by decide +kernel
theorem dX12_spelled_72 : decode cX12_spelled 72 = .ok (.lload 6, 2) := by decide +kernel
theorem dX12_spelled_74 : decode cX12_spelled 74 = .ok (.ldc2_w 129, 3) := by decide +kernel
theorem dX12_spelled_77 : decode cX12_spelled 77 = .ok (.lmul, 1) := by decide +kernel
theorem dX12_spelled_78 : decode cX12_spelled 78 = .ok (.iload 4, 2) := by decide +kernel
theorem dX12_spelled_80 : decode cX12_spelled 80 = .ok (.i2l, 1) := by decide +kernel
theorem dX12_spelled_81 : decode cX12_spelled 81 = .ok (.ladd, 1) := by decide +kernel
theorem dX12_spelled_82 : decode cX12_spelled 82 = .ok (.ldc2_w 131, 3) := by decide +kernel
theorem dX12_spelled_85 : decode cX12_spelled 85 = .ok (.lsub, 1) := by decide +kernel
theorem dX12_spelled_86 : decode cX12_spelled 86 = .ok (.goto 5, 3) := by decide +kernel
theorem dX12_spelled_89 : decode cX12_spelled 89 = .ok (.lload 6, 2) := by decide +kernel
theorem dX12_spelled_91 : decode cX12_spelled 91 = .ok (.lstore 6, 2) := by decide +kernel
theorem dX12_spelled_93 : decode cX12_spelled 93 = .ok (.iload 5, 2) := by decide +kernel
theorem dX12_spelled_95 : decode cX12_spelled 95 = .ok (.ifCond .le 20, 3) := by decide +kernel
theorem dX12_spelled_98 : decode cX12_spelled 98 = .ok (.lload 6, 2) := by decide +kernel
theorem dX12_spelled_100 : decode cX12_spelled 100 = .ok (.ldc2_w 129, 3) := by decide +kernel
theorem dX12_spelled_103 : decode cX12_spelled 103 = .ok (.lmul, 1) := by decide +kernel
theorem dX12_spelled_104 : decode cX12_spelled 104 = .ok (.iload 5, 2) := by decide +kernel
theorem dX12_spelled_106 : decode cX12_spelled 106 = .ok (.i2l, 1) := by decide +kernel
theorem dX12_spelled_107 : decode cX12_spelled 107 = .ok (.ladd, 1) := by decide +kernel
theorem dX12_spelled_108 : decode cX12_spelled 108 = .ok (.ldc2_w 131, 3) := by decide +kernel
theorem dX12_spelled_111 : decode cX12_spelled 111 = .ok (.lsub, 1) := by decide +kernel
theorem dX12_spelled_112 : decode cX12_spelled 112 = .ok (.goto 5, 3) := by decide +kernel
theorem dX12_spelled_115 : decode cX12_spelled 115 = .ok (.lload 6, 2) := by decide +kernel
theorem dX12_spelled_117 : decode cX12_spelled 117 = .ok (.lreturn, 1) := by decide +kernel
theorem dX12_isWord_0 : decode cX12_isWord 0 = .ok (.aload_n 0, 1) := by decide +kernel
theorem dX12_isWord_1 : decode cX12_isWord 1 = .ok (.getfield 120, 3) := by decide +kernel
theorem dX12_isWord_4 : decode cX12_isWord 4 = .ok (.iconst 1, 1) := by decide +kernel
theorem dX12_isWord_5 : decode cX12_isWord 5 = .ok (.if_icmp .ne 16, 3) := by decide +kernel
theorem dX12_isWord_8 : decode cX12_isWord 8 = .ok (.aload_n 0, 1) := by decide +kernel
theorem dX12_isWord_9 : decode cX12_isWord 9 = .ok (.getfield 126, 3) := by decide +kernel
theorem dX12_isWord_12 : decode cX12_isWord 12 = .ok (.lload_n 1, 1) := by decide +kernel
theorem dX12_isWord_13 : decode cX12_isWord 13 = .ok (.lcmp, 1) := by decide +kernel
theorem dX12_isWord_14 : decode cX12_isWord 14 = .ok (.ifCond .ne 7, 3) := by decide +kernel
theorem dX12_isWord_17 : decode cX12_isWord 17 = .ok (.iconst 1, 1) := by decide +kernel
theorem dX12_isWord_18 : decode cX12_isWord 18 = .ok (.goto 4, 3) := by decide +kernel
theorem dX12_isWord_21 : decode cX12_isWord 21 = .ok (.iconst 0, 1) := by decide +kernel
theorem dX12_isWord_22 : decode cX12_isWord 22 = .ok (.ireturn, 1) := by decide +kernel
theorem dX12_isWide_0 : decode cX12_isWide 0 = .ok (.aload_n 0, 1) := by decide +kernel
theorem dX12_isWide_1 : decode cX12_isWide 1 = .ok (.bipush 119, 2) := by decide +kernel
theorem dX12_isWide_3 : decode cX12_isWide 3 = .ok (.bipush 105, 2) := by decide +kernel
theorem dX12_isWide_5 : decode cX12_isWide 5 = .ok (.bipush 100, 2) := by decide +kernel
theorem dX12_isWide_7 : decode cX12_isWide 7 = .ok (.bipush 101, 2) := by decide +kernel
theorem dX12_isWide_9 : decode cX12_isWide 9 = .ok (.iconst 0, 1) := by decide +kernel
theorem dX12_isWide_10 : decode cX12_isWide 10 = .ok (.iconst 0, 1) := by decide +kernel
theorem dX12_isWide_11 : decode cX12_isWide 11 = .ok (.invokestatic 145, 3) := by decide +kernel
theorem dX12_isWide_14 : decode cX12_isWide 14 = .ok (.invokevirtual 149, 3) := by decide +kernel
theorem dX12_isWide_17 : decode cX12_isWide 17 = .ok (.ireturn, 1) := by decide +kernel
theorem dX12_isHigh_0 : decode cX12_isHigh 0 = .ok (.aload_n 0, 1) := by decide +kernel
theorem dX12_isHigh_1 : decode cX12_isHigh 1 = .ok (.bipush 104, 2) := by decide +kernel
theorem dX12_isHigh_3 : decode cX12_isHigh 3 = .ok (.bipush 105, 2) := by decide +kernel
theorem dX12_isHigh_5 : decode cX12_isHigh 5 = .ok (.bipush 103, 2) := by decide +kernel
theorem dX12_isHigh_7 : decode cX12_isHigh 7 = .ok (.bipush 104, 2) := by decide +kernel
theorem dX12_isHigh_9 : decode cX12_isHigh 9 = .ok (.iconst 0, 1) := by decide +kernel
theorem dX12_isHigh_10 : decode cX12_isHigh 10 = .ok (.iconst 0, 1) := by decide +kernel
theorem dX12_isHigh_11 : decode cX12_isHigh 11 = .ok (.invokestatic 145, 3) := by decide +kernel
theorem dX12_isHigh_14 : decode cX12_isHigh 14 = .ok (.invokevirtual 149, 3) := by decide +kernel
theorem dX12_isHigh_17 : decode cX12_isHigh 17 = .ok (.ireturn, 1) := by decide +kernel
theorem dX12_isSchool_0 : decode cX12_isSchool 0 = .ok (.aload_n 0, 1) := by decide +kernel
theorem dX12_isSchool_1 : decode cX12_isSchool 1 = .ok (.bipush 115, 2) := by decide +kernel
theorem dX12_isSchool_3 : decode cX12_isSchool 3 = .ok (.bipush 99, 2) := by decide +kernel
theorem dX12_isSchool_5 : decode cX12_isSchool 5 = .ok (.bipush 104, 2) := by decide +kernel
theorem dX12_isSchool_7 : decode cX12_isSchool 7 = .ok (.bipush 111, 2) := by decide +kernel
theorem dX12_isSchool_9 : decode cX12_isSchool 9 = .ok (.bipush 111, 2) := by decide +kernel
theorem dX12_isSchool_11 : decode cX12_isSchool 11 = .ok (.bipush 108, 2) := by decide +kernel
theorem dX12_isSchool_13 : decode cX12_isSchool 13 = .ok (.invokestatic 145, 3) := by decide +kernel
theorem dX12_isSchool_16 : decode cX12_isSchool 16 = .ok (.invokevirtual 149, 3) := by decide +kernel
theorem dX12_isSchool_19 : decode cX12_isSchool 19 = .ok (.ireturn, 1) := by decide +kernel
theorem dX12_isHands_0 : decode cX12_isHands 0 = .ok (.aload_n 0, 1) := by decide +kernel
theorem dX12_isHands_1 : decode cX12_isHands 1 = .ok (.bipush 104, 2) := by decide +kernel
theorem dX12_isHands_3 : decode cX12_isHands 3 = .ok (.bipush 97, 2) := by decide +kernel
theorem dX12_isHands_5 : decode cX12_isHands 5 = .ok (.bipush 110, 2) := by decide +kernel
theorem dX12_isHands_7 : decode cX12_isHands 7 = .ok (.bipush 100, 2) := by decide +kernel
theorem dX12_isHands_9 : decode cX12_isHands 9 = .ok (.bipush 115, 2) := by decide +kernel
theorem dX12_isHands_11 : decode cX12_isHands 11 = .ok (.iconst 0, 1) := by decide +kernel
theorem dX12_isHands_12 : decode cX12_isHands 12 = .ok (.invokestatic 145, 3) := by decide +kernel
theorem dX12_isHands_15 : decode cX12_isHands 15 = .ok (.invokevirtual 149, 3) := by decide +kernel
theorem dX12_isHands_18 : decode cX12_isHands 18 = .ok (.ireturn, 1) := by decide +kernel
theorem dX12_isSnow_0 : decode cX12_isSnow 0 = .ok (.aload_n 0, 1) := by decide +kernel
theorem dX12_isSnow_1 : decode cX12_isSnow 1 = .ok (.bipush 115, 2) := by decide +kernel
theorem dX12_isSnow_3 : decode cX12_isSnow 3 = .ok (.bipush 110, 2) := by decide +kernel
theorem dX12_isSnow_5 : decode cX12_isSnow 5 = .ok (.bipush 111, 2) := by decide +kernel
theorem dX12_isSnow_7 : decode cX12_isSnow 7 = .ok (.bipush 119, 2) := by decide +kernel
theorem dX12_isSnow_9 : decode cX12_isSnow 9 = .ok (.iconst 0, 1) := by decide +kernel
theorem dX12_isSnow_10 : decode cX12_isSnow 10 = .ok (.iconst 0, 1) := by decide +kernel
theorem dX12_isSnow_11 : decode cX12_isSnow 11 = .ok (.invokestatic 145, 3) := by decide +kernel
theorem dX12_isSnow_14 : decode cX12_isSnow 14 = .ok (.invokevirtual 149, 3) := by decide +kernel
theorem dX12_isSnow_17 : decode cX12_isSnow 17 = .ok (.ireturn, 1) := by decide +kernel
theorem dX12_isDeep_0 : decode cX12_isDeep 0 = .ok (.aload_n 0, 1) := by decide +kernel
theorem dX12_isDeep_1 : decode cX12_isDeep 1 = .ok (.bipush 100, 2) := by decide +kernel
theorem dX12_isDeep_3 : decode cX12_isDeep 3 = .ok (.bipush 101, 2) := by decide +kernel
theorem dX12_isDeep_5 : decode cX12_isDeep 5 = .ok (.bipush 101, 2) := by decide +kernel
theorem dX12_isDeep_7 : decode cX12_isDeep 7 = .ok (.bipush 112, 2) := by decide +kernel
theorem dX12_isDeep_9 : decode cX12_isDeep 9 = .ok (.iconst 0, 1) := by decide +kernel
theorem dX12_isDeep_10 : decode cX12_isDeep 10 = .ok (.iconst 0, 1) := by decide +kernel
theorem dX12_isDeep_11 : decode cX12_isDeep 11 = .ok (.invokestatic 145, 3) := by decide +kernel
theorem dX12_isDeep_14 : decode cX12_isDeep 14 = .ok (.invokevirtual 149, 3) := by decide +kernel
theorem dX12_isDeep_17 : decode cX12_isDeep 17 = .ok (.ireturn, 1) := by decide +kernel
theorem dX12_isWall_0 : decode cX12_isWall 0 = .ok (.aload_n 0, 1) := by decide +kernel
theorem dX12_isWall_1 : decode cX12_isWall 1 = .ok (.bipush 119, 2) := by decide +kernel
theorem dX12_isWall_3 : decode cX12_isWall 3 = .ok (.bipush 97, 2) := by decide +kernel
theorem dX12_isWall_5 : decode cX12_isWall 5 = .ok (.bipush 108, 2) := by decide +kernel
theorem dX12_isWall_7 : decode cX12_isWall 7 = .ok (.bipush 108, 2) := by decide +kernel
theorem dX12_isWall_9 : decode cX12_isWall 9 = .ok (.iconst 0, 1) := by decide +kernel
theorem dX12_isWall_10 : decode cX12_isWall 10 = .ok (.iconst 0, 1) := by decide +kernel
theorem dX12_isWall_11 : decode cX12_isWall 11 = .ok (.invokestatic 145, 3) := by decide +kernel
theorem dX12_isWall_14 : decode cX12_isWall 14 = .ok (.invokevirtual 149, 3) := by decide +kernel
theorem dX12_isWall_17 : decode cX12_isWall 17 = .ok (.ireturn, 1) := by decide +kernel
theorem dX12_isTall_0 : decode cX12_isTall 0 = .ok (.aload_n 0, 1) := by decide +kernel
theorem dX12_isTall_1 : decode cX12_isTall 1 = .ok (.bipush 116, 2) := by decide +kernel
theorem dX12_isTall_3 : decode cX12_isTall 3 = .ok (.bipush 97, 2) := by decide +kernel
theorem dX12_isTall_5 : decode cX12_isTall 5 = .ok (.bipush 108, 2) := by decide +kernel
theorem dX12_isTall_7 : decode cX12_isTall 7 = .ok (.bipush 108, 2) := by decide +kernel
theorem dX12_isTall_9 : decode cX12_isTall 9 = .ok (.iconst 0, 1) := by decide +kernel
theorem dX12_isTall_10 : decode cX12_isTall 10 = .ok (.iconst 0, 1) := by decide +kernel
theorem dX12_isTall_11 : decode cX12_isTall 11 = .ok (.invokestatic 145, 3) := by decide +kernel
theorem dX12_isTall_14 : decode cX12_isTall 14 = .ok (.invokevirtual 149, 3) := by decide +kernel
theorem dX12_isTall_17 : decode cX12_isTall 17 = .ok (.ireturn, 1) := by decide +kernel
theorem dX12_isSun_0 : decode cX12_isSun 0 = .ok (.aload_n 0, 1) := by decide +kernel
theorem dX12_isSun_1 : decode cX12_isSun 1 = .ok (.bipush 115, 2) := by decide +kernel
theorem dX12_isSun_3 : decode cX12_isSun 3 = .ok (.bipush 117, 2) := by decide +kernel
theorem dX12_isSun_5 : decode cX12_isSun 5 = .ok (.bipush 110, 2) := by decide +kernel
theorem dX12_isSun_7 : decode cX12_isSun 7 = .ok (.iconst 0, 1) := by decide +kernel
theorem dX12_isSun_8 : decode cX12_isSun 8 = .ok (.iconst 0, 1) := by decide +kernel
theorem dX12_isSun_9 : decode cX12_isSun 9 = .ok (.iconst 0, 1) := by decide +kernel
theorem dX12_isSun_10 : decode cX12_isSun 10 = .ok (.invokestatic 145, 3) := by decide +kernel
theorem dX12_isSun_13 : decode cX12_isSun 13 = .ok (.invokevirtual 149, 3) := by decide +kernel
theorem dX12_isSun_16 : decode cX12_isSun 16 = .ok (.ireturn, 1) := by decide +kernel
theorem dX12_isBy_0 : decode cX12_isBy 0 = .ok (.aload_n 0, 1) := by decide +kernel
theorem dX12_isBy_1 : decode cX12_isBy 1 = .ok (.bipush 98, 2) := by decide +kernel
theorem dX12_isBy_3 : decode cX12_isBy 3 = .ok (.bipush 121, 2) := by decide +kernel
theorem dX12_isBy_5 : decode cX12_isBy 5 = .ok (.iconst 0, 1) := by decide +kernel
theorem dX12_isBy_6 : decode cX12_isBy 6 = .ok (.iconst 0, 1) := by decide +kernel
theorem dX12_isBy_7 : decode cX12_isBy 7 = .ok (.iconst 0, 1) := by decide +kernel
theorem dX12_isBy_8 : decode cX12_isBy 8 = .ok (.iconst 0, 1) := by decide +kernel
theorem dX12_isBy_9 : decode cX12_isBy 9 = .ok (.invokestatic 145, 3) := by decide +kernel
theorem dX12_isBy_12 : decode cX12_isBy 12 = .ok (.invokevirtual 149, 3) := by decide +kernel
theorem dX12_isBy_15 : decode cX12_isBy 15 = .ok (.ireturn, 1) := by decide +kernel
theorem dX12_isNo_0 : decode cX12_isNo 0 = .ok (.aload_n 0, 1) := by decide +kernel
theorem dX12_isNo_1 : decode cX12_isNo 1 = .ok (.bipush 110, 2) := by decide +kernel
theorem dX12_isNo_3 : decode cX12_isNo 3 = .ok (.bipush 111, 2) := by decide +kernel
theorem dX12_isNo_5 : decode cX12_isNo 5 = .ok (.iconst 0, 1) := by decide +kernel
theorem dX12_isNo_6 : decode cX12_isNo 6 = .ok (.iconst 0, 1) := by decide +kernel
theorem dX12_isNo_7 : decode cX12_isNo 7 = .ok (.iconst 0, 1) := by decide +kernel
theorem dX12_isNo_8 : decode cX12_isNo 8 = .ok (.iconst 0, 1) := by decide +kernel
theorem dX12_isNo_9 : decode cX12_isNo 9 = .ok (.invokestatic 145, 3) := by decide +kernel
theorem dX12_isNo_12 : decode cX12_isNo 12 = .ok (.invokevirtual 149, 3) := by decide +kernel
theorem dX12_isNo_15 : decode cX12_isNo 15 = .ok (.ireturn, 1) := by decide +kernel
theorem dX12_isAbove_0 : decode cX12_isAbove 0 = .ok (.aload_n 0, 1) := by decide +kernel
theorem dX12_isAbove_1 : decode cX12_isAbove 1 = .ok (.bipush 97, 2) := by decide +kernel
theorem dX12_isAbove_3 : decode cX12_isAbove 3 = .ok (.bipush 98, 2) := by decide +kernel
theorem dX12_isAbove_5 : decode cX12_isAbove 5 = .ok (.bipush 111, 2) := by decide +kernel
theorem dX12_isAbove_7 : decode cX12_isAbove 7 = .ok (.bipush 118, 2) := by decide +kernel
theorem dX12_isAbove_9 : decode cX12_isAbove 9 = .ok (.bipush 101, 2) := by decide +kernel
theorem dX12_isAbove_11 : decode cX12_isAbove 11 = .ok (.iconst 0, 1) := by decide +kernel
theorem dX12_isAbove_12 : decode cX12_isAbove 12 = .ok (.invokestatic 145, 3) := by decide +kernel
theorem dX12_isAbove_15 : decode cX12_isAbove 15 = .ok (.invokevirtual 149, 3) := by decide +kernel
theorem dX12_isAbove_18 : decode cX12_isAbove 18 = .ok (.ireturn, 1) := by decide +kernel
theorem dX12_isBuild_0 : decode cX12_isBuild 0 = .ok (.aload_n 0, 1) := by decide +kernel
theorem dX12_isBuild_1 : decode cX12_isBuild 1 = .ok (.bipush 98, 2) := by decide +kernel
theorem dX12_isBuild_3 : decode cX12_isBuild 3 = .ok (.bipush 117, 2) := by decide +kernel
theorem dX12_isBuild_5 : decode cX12_isBuild 5 = .ok (.bipush 105, 2) := by decide +kernel
theorem dX12_isBuild_7 : decode cX12_isBuild 7 = .ok (.bipush 108, 2) := by decide +kernel
theorem dX12_isBuild_9 : decode cX12_isBuild 9 = .ok (.bipush 100, 2) := by decide +kernel
theorem dX12_isBuild_11 : decode cX12_isBuild 11 = .ok (.iconst 0, 1) := by decide +kernel
theorem dX12_isBuild_12 : decode cX12_isBuild 12 = .ok (.invokestatic 145, 3) := by decide +kernel
theorem dX12_isBuild_15 : decode cX12_isBuild 15 = .ok (.invokevirtual 149, 3) := by decide +kernel
theorem dX12_isBuild_18 : decode cX12_isBuild 18 = .ok (.ireturn, 1) := by decide +kernel
theorem dX12_isBehind_0 : decode cX12_isBehind 0 = .ok (.aload_n 0, 1) := by decide +kernel
theorem dX12_isBehind_1 : decode cX12_isBehind 1 = .ok (.bipush 98, 2) := by decide +kernel
theorem dX12_isBehind_3 : decode cX12_isBehind 3 = .ok (.bipush 101, 2) := by decide +kernel
theorem dX12_isBehind_5 : decode cX12_isBehind 5 = .ok (.bipush 104, 2) := by decide +kernel
theorem dX12_isBehind_7 : decode cX12_isBehind 7 = .ok (.bipush 105, 2) := by decide +kernel
theorem dX12_isBehind_9 : decode cX12_isBehind 9 = .ok (.bipush 110, 2) := by decide +kernel
theorem dX12_isBehind_11 : decode cX12_isBehind 11 = .ok (.bipush 100, 2) := by decide +kernel
theorem dX12_isBehind_13 : decode cX12_isBehind 13 = .ok (.invokestatic 145, 3) := by decide +kernel
theorem dX12_isBehind_16 : decode cX12_isBehind 16 = .ok (.invokevirtual 149, 3) := by decide +kernel
theorem dX12_isBehind_19 : decode cX12_isBehind 19 = .ok (.ireturn, 1) := by decide +kernel
theorem dX12_isSteal_0 : decode cX12_isSteal 0 = .ok (.aload_n 0, 1) := by decide +kernel
theorem dX12_isSteal_1 : decode cX12_isSteal 1 = .ok (.bipush 115, 2) := by decide +kernel
theorem dX12_isSteal_3 : decode cX12_isSteal 3 = .ok (.bipush 116, 2) := by decide +kernel
theorem dX12_isSteal_5 : decode cX12_isSteal 5 = .ok (.bipush 101, 2) := by decide +kernel
theorem dX12_isSteal_7 : decode cX12_isSteal 7 = .ok (.bipush 97, 2) := by decide +kernel
theorem dX12_isSteal_9 : decode cX12_isSteal 9 = .ok (.bipush 108, 2) := by decide +kernel
theorem dX12_isSteal_11 : decode cX12_isSteal 11 = .ok (.iconst 0, 1) := by decide +kernel
theorem dX12_isSteal_12 : decode cX12_isSteal 12 = .ok (.invokestatic 145, 3) := by decide +kernel
theorem dX12_isSteal_15 : decode cX12_isSteal 15 = .ok (.invokevirtual 149, 3) := by decide +kernel
theorem dX12_isSteal_18 : decode cX12_isSteal 18 = .ok (.ireturn, 1) := by decide +kernel
theorem dX12_isIce_0 : decode cX12_isIce 0 = .ok (.aload_n 0, 1) := by decide +kernel
theorem dX12_isIce_1 : decode cX12_isIce 1 = .ok (.bipush 105, 2) := by decide +kernel
theorem dX12_isIce_3 : decode cX12_isIce 3 = .ok (.bipush 99, 2) := by decide +kernel
theorem dX12_isIce_5 : decode cX12_isIce 5 = .ok (.bipush 101, 2) := by decide +kernel
theorem dX12_isIce_7 : decode cX12_isIce 7 = .ok (.iconst 0, 1) := by decide +kernel
theorem dX12_isIce_8 : decode cX12_isIce 8 = .ok (.iconst 0, 1) := by decide +kernel
theorem dX12_isIce_9 : decode cX12_isIce 9 = .ok (.iconst 0, 1) := by decide +kernel
theorem dX12_isIce_10 : decode cX12_isIce 10 = .ok (.invokestatic 145, 3) := by decide +kernel
theorem dX12_isIce_13 : decode cX12_isIce 13 = .ok (.invokevirtual 149, 3) := by decide +kernel
theorem dX12_isIce_16 : decode cX12_isIce 16 = .ok (.ireturn, 1) := by decide +kernel
theorem dX12_isTo_0 : decode cX12_isTo 0 = .ok (.aload_n 0, 1) := by decide +kernel
theorem dX12_isTo_1 : decode cX12_isTo 1 = .ok (.bipush 116, 2) := by decide +kernel
theorem dX12_isTo_3 : decode cX12_isTo 3 = .ok (.bipush 111, 2) := by decide +kernel
theorem dX12_isTo_5 : decode cX12_isTo 5 = .ok (.iconst 0, 1) := by decide +kernel
theorem dX12_isTo_6 : decode cX12_isTo 6 = .ok (.iconst 0, 1) := by decide +kernel
theorem dX12_isTo_7 : decode cX12_isTo 7 = .ok (.iconst 0, 1) := by decide +kernel
theorem dX12_isTo_8 : decode cX12_isTo 8 = .ok (.iconst 0, 1) := by decide +kernel
theorem dX12_isTo_9 : decode cX12_isTo 9 = .ok (.invokestatic 145, 3) := by decide +kernel
theorem dX12_isTo_12 : decode cX12_isTo 12 = .ok (.invokevirtual 149, 3) := by decide +kernel
theorem dX12_isTo_15 : decode cX12_isTo 15 = .ok (.ireturn, 1) := by decide +kernel
theorem dX12_isFrom_0 : decode cX12_isFrom 0 = .ok (.aload_n 0, 1) := by decide +kernel
theorem dX12_isFrom_1 : decode cX12_isFrom 1 = .ok (.bipush 102, 2) := by decide +kernel
theorem dX12_isFrom_3 : decode cX12_isFrom 3 = .ok (.bipush 114, 2) := by decide +kernel
theorem dX12_isFrom_5 : decode cX12_isFrom 5 = .ok (.bipush 111, 2) := by decide +kernel
theorem dX12_isFrom_7 : decode cX12_isFrom 7 = .ok (.bipush 109, 2) := by decide +kernel
theorem dX12_isFrom_9 : decode cX12_isFrom 9 = .ok (.iconst 0, 1) := by decide +kernel
theorem dX12_isFrom_10 : decode cX12_isFrom 10 = .ok (.iconst 0, 1) := by decide +kernel
theorem dX12_isFrom_11 : decode cX12_isFrom 11 = .ok (.invokestatic 145, 3) := by decide +kernel
theorem dX12_isFrom_14 : decode cX12_isFrom 14 = .ok (.invokevirtual 149, 3) := by decide +kernel
theorem dX12_isFrom_17 : decode cX12_isFrom 17 = .ok (.ireturn, 1) := by decide +kernel
theorem dX12_stepWord_0 : decode cX12_stepWord 0 = .ok (.aload_n 0, 1) := by decide +kernel
theorem dX12_stepWord_1 : decode cX12_stepWord 1 = .ok (.bipush 102, 2) := by decide +kernel
theorem dX12_stepWord_3 : decode cX12_stepWord 3 = .ok (.bipush 97, 2) := by decide +kernel
theorem dX12_stepWord_5 : decode cX12_stepWord 5 = .ok (.bipush 108, 2) := by decide +kernel
theorem dX12_stepWord_7 : decode cX12_stepWord 7 = .ok (.bipush 108, 2) := by decide +kernel
theorem dX12_stepWord_9 : decode cX12_stepWord 9 = .ok (.iconst 0, 1) := by decide +kernel
theorem dX12_stepWord_10 : decode cX12_stepWord 10 = .ok (.iconst 0, 1) := by decide +kernel
theorem dX12_stepWord_11 : decode cX12_stepWord 11 = .ok (.invokestatic 145, 3) := by decide +kernel
theorem dX12_stepWord_14 : decode cX12_stepWord 14 = .ok (.invokevirtual 149, 3) := by decide +kernel
theorem dX12_stepWord_17 : decode cX12_stepWord 17 = .ok (.ifCond .eq 5, 3) := by decide +kernel
theorem dX12_stepWord_20 : decode cX12_stepWord 20 = .ok (.iconst 0, 1) := by decide +kernel
theorem dX12_stepWord_21 : decode cX12_stepWord 21 = .ok (.ireturn, 1) := by decide +kernel
theorem dX12_stepWord_22 : decode cX12_stepWord 22 = .ok (.aload_n 0, 1) := by decide +kernel
theorem dX12_stepWord_23 : decode cX12_stepWord 23 = .ok (.bipush 116, 2) := by decide +kernel
theorem dX12_stepWord_25 : decode cX12_stepWord 25 = .ok (.bipush 104, 2) := by decide +kernel
theorem dX12_stepWord_27 : decode cX12_stepWord 27 = .ok (.bipush 97, 2) := by decide +kernel
theorem dX12_stepWord_29 : decode cX12_stepWord 29 = .ok (.bipush 119, 2) := by decide +kernel
theorem dX12_stepWord_31 : decode cX12_stepWord 31 = .ok (.iconst 0, 1) := by decide +kernel
theorem dX12_stepWord_32 : decode cX12_stepWord 32 = .ok (.iconst 0, 1) := by decide +kernel
theorem dX12_stepWord_33 : decode cX12_stepWord 33 = .ok (.invokestatic 145, 3) := by decide +kernel
theorem dX12_stepWord_36 : decode cX12_stepWord 36 = .ok (.invokevirtual 149, 3) := by decide +kernel
theorem dX12_stepWord_39 : decode cX12_stepWord 39 = .ok (.ifCond .eq 5, 3) := by decide +kernel
theorem dX12_stepWord_42 : decode cX12_stepWord 42 = .ok (.iconst 1, 1) := by decide +kernel
theorem dX12_stepWord_43 : decode cX12_stepWord 43 = .ok (.ireturn, 1) := by decide +kernel
theorem dX12_stepWord_44 : decode cX12_stepWord 44 = .ok (.aload_n 0, 1) := by decide +kernel
theorem dX12_stepWord_45 : decode cX12_stepWord 45 = .ok (.bipush 115, 2) := by decide +kernel
theorem dX12_stepWord_47 : decode cX12_stepWord 47 = .ok (.bipush 116, 2) := by decide +kernel
theorem dX12_stepWord_49 : decode cX12_stepWord 49 = .ok (.bipush 111, 2) := by decide +kernel
theorem dX12_stepWord_51 : decode cX12_stepWord 51 = .ok (.bipush 114, 2) := by decide +kernel
theorem dX12_stepWord_53 : decode cX12_stepWord 53 = .ok (.bipush 109, 2) := by decide +kernel
theorem dX12_stepWord_55 : decode cX12_stepWord 55 = .ok (.iconst 0, 1) := by decide +kernel
theorem dX12_stepWord_56 : decode cX12_stepWord 56 = .ok (.invokestatic 145, 3) := by decide +kernel
theorem dX12_stepWord_59 : decode cX12_stepWord 59 = .ok (.invokevirtual 149, 3) := by decide +kernel
theorem dX12_stepWord_62 : decode cX12_stepWord 62 = .ok (.ifCond .eq 5, 3) := by decide +kernel
theorem dX12_stepWord_65 : decode cX12_stepWord 65 = .ok (.iconst 2, 1) := by decide +kernel
theorem dX12_stepWord_66 : decode cX12_stepWord 66 = .ok (.ireturn, 1) := by decide +kernel
theorem dX12_stepWord_67 : decode cX12_stepWord 67 = .ok (.aload_n 0, 1) := by decide +kernel
theorem dX12_stepWord_68 : decode cX12_stepWord 68 = .ok (.invokevirtual 153, 3) := by decide +kernel
theorem dX12_stepWord_71 : decode cX12_stepWord 71 = .ok (.ifCond .eq 5, 3) := by decide +kernel
theorem dX12_stepWord_74 : decode cX12_stepWord 74 = .ok (.iconst 3, 1) := by decide +kernel
theorem dX12_stepWord_75 : decode cX12_stepWord 75 = .ok (.ireturn, 1) := by decide +kernel
theorem dX12_stepWord_76 : decode cX12_stepWord 76 = .ok (.aload_n 0, 1) := by decide +kernel
theorem dX12_stepWord_77 : decode cX12_stepWord 77 = .ok (.invokevirtual 157, 3) := by decide +kernel
theorem dX12_stepWord_80 : decode cX12_stepWord 80 = .ok (.ifCond .eq 5, 3) := by decide +kernel
theorem dX12_stepWord_83 : decode cX12_stepWord 83 = .ok (.iconst 4, 1) := by decide +kernel
theorem dX12_stepWord_84 : decode cX12_stepWord 84 = .ok (.ireturn, 1) := by decide +kernel
theorem dX12_stepWord_85 : decode cX12_stepWord 85 = .ok (.aload_n 0, 1) := by decide +kernel
theorem dX12_stepWord_86 : decode cX12_stepWord 86 = .ok (.invokevirtual 160, 3) := by decide +kernel
theorem dX12_stepWord_89 : decode cX12_stepWord 89 = .ok (.ifCond .eq 5, 3) := by decide +kernel
theorem dX12_stepWord_92 : decode cX12_stepWord 92 = .ok (.iconst 5, 1) := by decide +kernel
theorem dX12_stepWord_93 : decode cX12_stepWord 93 = .ok (.ireturn, 1) := by decide +kernel
theorem dX12_stepWord_94 : decode cX12_stepWord 94 = .ok (.aload_n 0, 1) := by decide +kernel
theorem dX12_stepWord_95 : decode cX12_stepWord 95 = .ok (.bipush 110, 2) := by decide +kernel
theorem dX12_stepWord_97 : decode cX12_stepWord 97 = .ok (.bipush 105, 2) := by decide +kernel
theorem dX12_stepWord_99 : decode cX12_stepWord 99 = .ok (.bipush 103, 2) := by decide +kernel
theorem dX12_stepWord_101 : decode cX12_stepWord 101 = .ok (.bipush 104, 2) := by decide +kernel
theorem dX12_stepWord_103 : decode cX12_stepWord 103 = .ok (.bipush 116, 2) := by decide +kernel
theorem dX12_stepWord_105 : decode cX12_stepWord 105 = .ok (.iconst 0, 1) := by decide +kernel
theorem dX12_stepWord_106 : decode cX12_stepWord 106 = .ok (.invokestatic 145, 3) := by decide +kernel
theorem dX12_stepWord_109 : decode cX12_stepWord 109 = .ok (.invokevirtual 149, 3) := by decide +kernel
theorem dX12_stepWord_112 : decode cX12_stepWord 112 = .ok (.ifCond .eq 6, 3) := by decide +kernel
theorem dX12_stepWord_115 : decode cX12_stepWord 115 = .ok (.bipush 6, 2) := by decide +kernel
theorem dX12_stepWord_117 : decode cX12_stepWord 117 = .ok (.ireturn, 1) := by decide +kernel
theorem dX12_stepWord_118 : decode cX12_stepWord 118 = .ok (.aload_n 0, 1) := by decide +kernel
theorem dX12_stepWord_119 : decode cX12_stepWord 119 = .ok (.bipush 119, 2) := by decide +kernel
theorem dX12_stepWord_121 : decode cX12_stepWord 121 = .ok (.bipush 104, 2) := by decide +kernel
theorem dX12_stepWord_123 : decode cX12_stepWord 123 = .ok (.bipush 101, 2) := by decide +kernel
theorem dX12_stepWord_125 : decode cX12_stepWord 125 = .ok (.bipush 110, 2) := by decide +kernel
theorem dX12_stepWord_127 : decode cX12_stepWord 127 = .ok (.iconst 0, 1) := by decide +kernel
theorem dX12_stepWord_128 : decode cX12_stepWord 128 = .ok (.iconst 0, 1) := by decide +kernel
theorem dX12_stepWord_129 : decode cX12_stepWord 129 = .ok (.invokestatic 145, 3) := by decide +kernel
theorem dX12_stepWord_132 : decode cX12_stepWord 132 = .ok (.invokevirtual 149, 3) := by decide +kernel
theorem dX12_stepWord_135 : decode cX12_stepWord 135 = .ok (.ifCond .eq 6, 3) := by decide +kernel
theorem dX12_stepWord_138 : decode cX12_stepWord 138 = .ok (.bipush 7, 2) := by decide +kernel
theorem dX12_stepWord_140 : decode cX12_stepWord 140 = .ok (.ireturn, 1) := by decide +kernel
theorem dX12_stepWord_141 : decode cX12_stepWord 141 = .ok (.aload_n 0, 1) := by decide +kernel
theorem dX12_stepWord_142 : decode cX12_stepWord 142 = .ok (.bipush 108, 2) := by decide +kernel
theorem dX12_stepWord_144 : decode cX12_stepWord 144 = .ok (.bipush 111, 2) := by decide +kernel
theorem dX12_stepWord_146 : decode cX12_stepWord 146 = .ok (.bipush 111, 2) := by decide +kernel
theorem dX12_stepWord_148 : decode cX12_stepWord 148 = .ok (.bipush 112, 2) := by decide +kernel
theorem dX12_stepWord_150 : decode cX12_stepWord 150 = .ok (.iconst 0, 1) := by decide +kernel
theorem dX12_stepWord_151 : decode cX12_stepWord 151 = .ok (.iconst 0, 1) := by decide +kernel
theorem dX12_stepWord_152 : decode cX12_stepWord 152 = .ok (.invokestatic 145, 3) := by decide +kernel
theorem dX12_stepWord_155 : decode cX12_stepWord 155 = .ok (.invokevirtual 149, 3) := by decide +kernel
theorem dX12_stepWord_158 : decode cX12_stepWord 158 = .ok (.ifCond .eq 6, 3) := by decide +kernel
theorem dX12_stepWord_161 : decode cX12_stepWord 161 = .ok (.bipush 8, 2) := by decide +kernel
theorem dX12_stepWord_163 : decode cX12_stepWord 163 = .ok (.ireturn, 1) := by decide +kernel
theorem dX12_stepWord_164 : decode cX12_stepWord 164 = .ok (.aload_n 0, 1) := by decide +kernel
theorem dX12_stepWord_165 : decode cX12_stepWord 165 = .ok (.bipush 115, 2) := by decide +kernel
theorem dX12_stepWord_167 : decode cX12_stepWord 167 = .ok (.bipush 116, 2) := by decide +kernel
theorem dX12_stepWord_169 : decode cX12_stepWord 169 = .ok (.bipush 111, 2) := by decide +kernel
theorem dX12_stepWord_171 : decode cX12_stepWord 171 = .ok (.bipush 112, 2) := by decide +kernel
theorem dX12_stepWord_173 : decode cX12_stepWord 173 = .ok (.iconst 0, 1) := by decide +kernel
theorem dX12_stepWord_174 : decode cX12_stepWord 174 = .ok (.iconst 0, 1) := by decide +kernel
theorem dX12_stepWord_175 : decode cX12_stepWord 175 = .ok (.invokestatic 145, 3) := by decide +kernel
theorem dX12_stepWord_178 : decode cX12_stepWord 178 = .ok (.invokevirtual 149, 3) := by decide +kernel
theorem dX12_stepWord_181 : decode cX12_stepWord 181 = .ok (.ifCond .eq 8, 3) := by decide +kernel
theorem dX12_stepWord_184 : decode cX12_stepWord 184 = .ok (.bipush 9, 2) := by decide +kernel
theorem dX12_stepWord_186 : decode cX12_stepWord 186 = .ok (.goto 4, 3) := by decide +kernel
theorem dX12_stepWord_189 : decode cX12_stepWord 189 = .ok (.iconst (-1), 1) := by decide +kernel
theorem dX12_stepWord_190 : decode cX12_stepWord 190 = .ok (.ireturn, 1) := by decide +kernel
theorem dX12_testWord_0 : decode cX12_testWord 0 = .ok (.aload_n 0, 1) := by decide +kernel
theorem dX12_testWord_1 : decode cX12_testWord 1 = .ok (.bipush 100, 2) := by decide +kernel
theorem dX12_testWord_3 : decode cX12_testWord 3 = .ok (.bipush 97, 2) := by decide +kernel
theorem dX12_testWord_5 : decode cX12_testWord 5 = .ok (.bipush 121, 2) := by decide +kernel
theorem dX12_testWord_7 : decode cX12_testWord 7 = .ok (.iconst 0, 1) := by decide +kernel
theorem dX12_testWord_8 : decode cX12_testWord 8 = .ok (.iconst 0, 1) := by decide +kernel
theorem dX12_testWord_9 : decode cX12_testWord 9 = .ok (.iconst 0, 1) := by decide +kernel
theorem dX12_testWord_10 : decode cX12_testWord 10 = .ok (.invokestatic 145, 3) := by decide +kernel
theorem dX12_testWord_13 : decode cX12_testWord 13 = .ok (.invokevirtual 149, 3) := by decide +kernel
theorem dX12_testWord_16 : decode cX12_testWord 16 = .ok (.ifCond .eq 5, 3) := by decide +kernel
theorem dX12_testWord_19 : decode cX12_testWord 19 = .ok (.iconst 0, 1) := by decide +kernel
theorem dX12_testWord_20 : decode cX12_testWord 20 = .ok (.ireturn, 1) := by decide +kernel
theorem dX12_testWord_21 : decode cX12_testWord 21 = .ok (.aload_n 0, 1) := by decide +kernel
theorem dX12_testWord_22 : decode cX12_testWord 22 = .ok (.invokevirtual 163, 3) := by decide +kernel
theorem dX12_testWord_25 : decode cX12_testWord 25 = .ok (.ifCond .eq 5, 3) := by decide +kernel
theorem dX12_testWord_28 : decode cX12_testWord 28 = .ok (.iconst 1, 1) := by decide +kernel
theorem dX12_testWord_29 : decode cX12_testWord 29 = .ok (.ireturn, 1) := by decide +kernel
theorem dX12_testWord_30 : decode cX12_testWord 30 = .ok (.aload_n 0, 1) := by decide +kernel
theorem dX12_testWord_31 : decode cX12_testWord 31 = .ok (.bipush 98, 2) := by decide +kernel
theorem dX12_testWord_33 : decode cX12_testWord 33 = .ok (.bipush 114, 2) := by decide +kernel
theorem dX12_testWord_35 : decode cX12_testWord 35 = .ok (.bipush 101, 2) := by decide +kernel
theorem dX12_testWord_37 : decode cX12_testWord 37 = .ok (.bipush 97, 2) := by decide +kernel
theorem dX12_testWord_39 : decode cX12_testWord 39 = .ok (.bipush 99, 2) := by decide +kernel
theorem dX12_testWord_41 : decode cX12_testWord 41 = .ok (.bipush 104, 2) := by decide +kernel
theorem dX12_testWord_43 : decode cX12_testWord 43 = .ok (.invokestatic 145, 3) := by decide +kernel
theorem dX12_testWord_46 : decode cX12_testWord 46 = .ok (.invokevirtual 149, 3) := by decide +kernel
theorem dX12_testWord_49 : decode cX12_testWord 49 = .ok (.ifCond .eq 5, 3) := by decide +kernel
theorem dX12_testWord_52 : decode cX12_testWord 52 = .ok (.iconst 2, 1) := by decide +kernel
theorem dX12_testWord_53 : decode cX12_testWord 53 = .ok (.ireturn, 1) := by decide +kernel
theorem dX12_testWord_54 : decode cX12_testWord 54 = .ok (.aload_n 0, 1) := by decide +kernel
theorem dX12_testWord_55 : decode cX12_testWord 55 = .ok (.bipush 119, 2) := by decide +kernel
theorem dX12_testWord_57 : decode cX12_testWord 57 = .ok (.bipush 97, 2) := by decide +kernel
theorem dX12_testWord_59 : decode cX12_testWord 59 = .ok (.bipush 121, 2) := by decide +kernel
theorem dX12_testWord_61 : decode cX12_testWord 61 = .ok (.iconst 0, 1) := by decide +kernel
theorem dX12_testWord_62 : decode cX12_testWord 62 = .ok (.iconst 0, 1) := by decide +kernel
theorem dX12_testWord_63 : decode cX12_testWord 63 = .ok (.iconst 0, 1) := by decide +kernel
theorem dX12_testWord_64 : decode cX12_testWord 64 = .ok (.invokestatic 145, 3) := by decide +kernel
theorem dX12_testWord_67 : decode cX12_testWord 67 = .ok (.invokevirtual 149, 3) := by decide +kernel
theorem dX12_testWord_70 : decode cX12_testWord 70 = .ok (.ifCond .eq 7, 3) := by decide +kernel
theorem dX12_testWord_73 : decode cX12_testWord 73 = .ok (.iconst 3, 1) := by decide +kernel
theorem dX12_testWord_74 : decode cX12_testWord 74 = .ok (.goto 4, 3) := by decide +kernel
theorem dX12_testWord_77 : decode cX12_testWord 77 = .ok (.iconst (-1), 1) := by decide +kernel
theorem dX12_testWord_78 : decode cX12_testWord 78 = .ok (.ireturn, 1) := by decide +kernel
theorem dX12_isEnd_0 : decode cX12_isEnd 0 = .ok (.aload_n 0, 1) := by decide +kernel
theorem dX12_isEnd_1 : decode cX12_isEnd 1 = .ok (.bipush 101, 2) := by decide +kernel
theorem dX12_isEnd_3 : decode cX12_isEnd 3 = .ok (.bipush 110, 2) := by decide +kernel
theorem dX12_isEnd_5 : decode cX12_isEnd 5 = .ok (.bipush 100, 2) := by decide +kernel
theorem dX12_isEnd_7 : decode cX12_isEnd 7 = .ok (.iconst 0, 1) := by decide +kernel
theorem dX12_isEnd_8 : decode cX12_isEnd 8 = .ok (.iconst 0, 1) := by decide +kernel
theorem dX12_isEnd_9 : decode cX12_isEnd 9 = .ok (.iconst 0, 1) := by decide +kernel
theorem dX12_isEnd_10 : decode cX12_isEnd 10 = .ok (.invokestatic 145, 3) := by decide +kernel
theorem dX12_isEnd_13 : decode cX12_isEnd 13 = .ok (.invokevirtual 149, 3) := by decide +kernel
theorem dX12_isEnd_16 : decode cX12_isEnd 16 = .ok (.ireturn, 1) := by decide +kernel
theorem dX12_isKept_0 : decode cX12_isKept 0 = .ok (.aload_n 0, 1) := by decide +kernel
theorem dX12_isKept_1 : decode cX12_isKept 1 = .ok (.invokevirtual 166, 3) := by decide +kernel
theorem dX12_isKept_4 : decode cX12_isKept 4 = .ok (.ifCond .ne 80, 3) := by decide +kernel
theorem dX12_isKept_7 : decode cX12_isKept 7 = .ok (.aload_n 0, 1) := by decide +kernel
theorem dX12_isKept_8 : decode cX12_isKept 8 = .ok (.invokevirtual 169, 3) := by decide +kernel
theorem dX12_isKept_11 : decode cX12_isKept 11 = .ok (.ifCond .ne 73, 3) := by decide +kernel
theorem dX12_isKept_14 : decode cX12_isKept 14 = .ok (.aload_n 0, 1) := by decide +kernel
theorem dX12_isKept_15 : decode cX12_isKept 15 = .ok (.invokevirtual 172, 3) := by decide +kernel
theorem dX12_isKept_18 : decode cX12_isKept 18 = .ok (.ifCond .ne 66, 3) := by decide +kernel
theorem dX12_isKept_21 : decode cX12_isKept 21 = .ok (.aload_n 0, 1) := by decide +kernel
theorem dX12_isKept_22 : decode cX12_isKept 22 = .ok (.invokevirtual 175, 3) := by decide +kernel
theorem dX12_isKept_25 : decode cX12_isKept 25 = .ok (.ifCond .ne 59, 3) := by decide +kernel
theorem dX12_isKept_28 : decode cX12_isKept 28 = .ok (.aload_n 0, 1) := by decide +kernel
theorem dX12_isKept_29 : decode cX12_isKept 29 = .ok (.invokevirtual 178, 3) := by decide +kernel
theorem dX12_isKept_32 : decode cX12_isKept 32 = .ok (.ifCond .ne 52, 3) := by decide +kernel
theorem dX12_isKept_35 : decode cX12_isKept 35 = .ok (.aload_n 0, 1) := by decide +kernel
theorem dX12_isKept_36 : decode cX12_isKept 36 = .ok (.invokevirtual 181, 3) := by decide +kernel
theorem dX12_isKept_39 : decode cX12_isKept 39 = .ok (.ifCond .ne 45, 3) := by decide +kernel
theorem dX12_isKept_42 : decode cX12_isKept 42 = .ok (.aload_n 0, 1) := by decide +kernel
theorem dX12_isKept_43 : decode cX12_isKept 43 = .ok (.invokevirtual 184, 3) := by decide +kernel
theorem dX12_isKept_46 : decode cX12_isKept 46 = .ok (.ifCond .ne 38, 3) := by decide +kernel
theorem dX12_isKept_49 : decode cX12_isKept 49 = .ok (.aload_n 0, 1) := by decide +kernel
theorem dX12_isKept_50 : decode cX12_isKept 50 = .ok (.invokevirtual 187, 3) := by decide +kernel
theorem dX12_isKept_53 : decode cX12_isKept 53 = .ok (.ifCond .ne 31, 3) := by decide +kernel
theorem dX12_isKept_56 : decode cX12_isKept 56 = .ok (.aload_n 0, 1) := by decide +kernel
theorem dX12_isKept_57 : decode cX12_isKept 57 = .ok (.invokevirtual 190, 3) := by decide +kernel
theorem dX12_isKept_60 : decode cX12_isKept 60 = .ok (.ifCond .ne 24, 3) := by decide +kernel
theorem dX12_isKept_63 : decode cX12_isKept 63 = .ok (.aload_n 0, 1) := by decide +kernel
theorem dX12_isKept_64 : decode cX12_isKept 64 = .ok (.invokevirtual 193, 3) := by decide +kernel
theorem dX12_isKept_67 : decode cX12_isKept 67 = .ok (.ifCond .ne 17, 3) := by decide +kernel
theorem dX12_isKept_70 : decode cX12_isKept 70 = .ok (.aload_n 0, 1) := by decide +kernel
theorem dX12_isKept_71 : decode cX12_isKept 71 = .ok (.invokevirtual 196, 3) := by decide +kernel
theorem dX12_isKept_74 : decode cX12_isKept 74 = .ok (.ifCond .ne 10, 3) := by decide +kernel
theorem dX12_isKept_77 : decode cX12_isKept 77 = .ok (.aload_n 0, 1) := by decide +kernel
theorem dX12_isKept_78 : decode cX12_isKept 78 = .ok (.invokevirtual 199, 3) := by decide +kernel
theorem dX12_isKept_81 : decode cX12_isKept 81 = .ok (.ifCond .eq 5, 3) := by decide +kernel
theorem dX12_isKept_84 : decode cX12_isKept 84 = .ok (.iconst 1, 1) := by decide +kernel
theorem dX12_isKept_85 : decode cX12_isKept 85 = .ok (.ireturn, 1) := by decide +kernel
theorem dX12_isKept_86 : decode cX12_isKept 86 = .ok (.aload_n 0, 1) := by decide +kernel
theorem dX12_isKept_87 : decode cX12_isKept 87 = .ok (.invokevirtual 202, 3) := by decide +kernel
theorem dX12_isKept_90 : decode cX12_isKept 90 = .ok (.ifCond .ne 31, 3) := by decide +kernel
theorem dX12_isKept_93 : decode cX12_isKept 93 = .ok (.aload_n 0, 1) := by decide +kernel
theorem dX12_isKept_94 : decode cX12_isKept 94 = .ok (.invokevirtual 205, 3) := by decide +kernel
theorem dX12_isKept_97 : decode cX12_isKept 97 = .ok (.ifCond .ne 24, 3) := by decide +kernel
theorem dX12_isKept_100 : decode cX12_isKept 100 = .ok (.aload_n 0, 1) := by decide +kernel
theorem dX12_isKept_101 : decode cX12_isKept 101 = .ok (.invokevirtual 208, 3) := by decide +kernel
theorem dX12_isKept_104 : decode cX12_isKept 104 = .ok (.ifCond .ge 17, 3) := by decide +kernel
theorem dX12_isKept_107 : decode cX12_isKept 107 = .ok (.aload_n 0, 1) := by decide +kernel
theorem dX12_isKept_108 : decode cX12_isKept 108 = .ok (.invokevirtual 212, 3) := by decide +kernel
theorem dX12_isKept_111 : decode cX12_isKept 111 = .ok (.ifCond .ge 10, 3) := by decide +kernel
theorem dX12_isKept_114 : decode cX12_isKept 114 = .ok (.aload_n 0, 1) := by decide +kernel
theorem dX12_isKept_115 : decode cX12_isKept 115 = .ok (.invokevirtual 215, 3) := by decide +kernel
theorem dX12_isKept_118 : decode cX12_isKept 118 = .ok (.ifCond .eq 7, 3) := by decide +kernel
theorem dX12_isKept_121 : decode cX12_isKept 121 = .ok (.iconst 1, 1) := by decide +kernel
theorem dX12_isKept_122 : decode cX12_isKept 122 = .ok (.goto 4, 3) := by decide +kernel
theorem dX12_isKept_125 : decode cX12_isKept 125 = .ok (.iconst 0, 1) := by decide +kernel
theorem dX12_isKept_126 : decode cX12_isKept 126 = .ok (.ireturn, 1) := by decide +kernel
theorem dX12_fail_0 : decode cX12_fail 0 = .ok (.aload_n 0, 1) := by decide +kernel
theorem dX12_fail_1 : decode cX12_fail 1 = .ok (.getfield 218, 3) := by decide +kernel
theorem dX12_fail_4 : decode cX12_fail 4 = .ok (.ifCond .le 4, 3) := by decide +kernel
theorem dX12_fail_7 : decode cX12_fail 7 = .ok (.return_, 1) := by decide +kernel
theorem dX12_fail_8 : decode cX12_fail 8 = .ok (.aload_n 0, 1) := by decide +kernel
theorem dX12_fail_9 : decode cX12_fail 9 = .ok (.iload_n 1, 1) := by decide +kernel
theorem dX12_fail_10 : decode cX12_fail 10 = .ok (.putfield 218, 3) := by decide +kernel
theorem dX12_fail_13 : decode cX12_fail 13 = .ok (.aload_n 0, 1) := by decide +kernel
theorem dX12_fail_14 : decode cX12_fail 14 = .ok (.iload_n 2, 1) := by decide +kernel
theorem dX12_fail_15 : decode cX12_fail 15 = .ok (.putfield 221, 3) := by decide +kernel
theorem dX12_fail_18 : decode cX12_fail 18 = .ok (.return_, 1) := by decide +kernel
theorem dX12_wrong_0 : decode cX12_wrong 0 = .ok (.aload_n 0, 1) := by decide +kernel
theorem dX12_wrong_1 : decode cX12_wrong 1 = .ok (.aload_n 0, 1) := by decide +kernel
theorem dX12_wrong_2 : decode cX12_wrong 2 = .ok (.getfield 120, 3) := by decide +kernel
theorem dX12_wrong_5 : decode cX12_wrong 5 = .ok (.iconst 4, 1) := by decide +kernel
theorem dX12_wrong_6 : decode cX12_wrong 6 = .ok (.if_icmp .ne 7, 3) := by decide +kernel
theorem dX12_wrong_9 : decode cX12_wrong 9 = .ok (.iconst 1, 1) := by decide +kernel
theorem dX12_wrong_10 : decode cX12_wrong 10 = .ok (.goto 4, 3) := by decide +kernel
theorem dX12_wrong_13 : decode cX12_wrong 13 = .ok (.iconst 2, 1) := by decide +kernel
theorem dX12_wrong_14 : decode cX12_wrong 14 = .ok (.aload_n 0, 1) := by decide +kernel
theorem dX12_wrong_15 : decode cX12_wrong 15 = .ok (.getfield 114, 3) := by decide +kernel
theorem dX12_wrong_18 : decode cX12_wrong 18 = .ok (.invokevirtual 224, 3) := by decide +kernel
theorem dX12_wrong_21 : decode cX12_wrong 21 = .ok (.return_, 1) := by decide +kernel
theorem dX12_must_0 : decode cX12_must 0 = .ok (.aload_n 0, 1) := by decide +kernel
theorem dX12_must_1 : decode cX12_must 1 = .ok (.getfield 218, 3) := by decide +kernel
theorem dX12_must_4 : decode cX12_must 4 = .ok (.ifCond .le 4, 3) := by decide +kernel
theorem dX12_must_7 : decode cX12_must 7 = .ok (.return_, 1) := by decide +kernel
theorem dX12_must_8 : decode cX12_must 8 = .ok (.iload_n 1, 1) := by decide +kernel
theorem dX12_must_9 : decode cX12_must 9 = .ok (.ifCond .eq 10, 3) := by decide +kernel
theorem dX12_must_12 : decode cX12_must 12 = .ok (.aload_n 0, 1) := by decide +kernel
theorem dX12_must_13 : decode cX12_must 13 = .ok (.invokevirtual 228, 3) := by decide +kernel
theorem dX12_must_16 : decode cX12_must 16 = .ok (.goto 7, 3) := by decide +kernel
theorem dX12_must_19 : decode cX12_must 19 = .ok (.aload_n 0, 1) := by decide +kernel
theorem dX12_must_20 : decode cX12_must 20 = .ok (.invokevirtual 231, 3) := by decide +kernel
theorem dX12_must_23 : decode cX12_must 23 = .ok (.return_, 1) := by decide +kernel
theorem dX12_count_0 : decode cX12_count 0 = .ok (.aload_n 0, 1) := by decide +kernel
theorem dX12_count_1 : decode cX12_count 1 = .ok (.getfield 218, 3) := by decide +kernel
theorem dX12_count_4 : decode cX12_count 4 = .ok (.ifCond .ne 15, 3) := by decide +kernel
theorem dX12_count_7 : decode cX12_count 7 = .ok (.aload_n 0, 1) := by decide +kernel
theorem dX12_count_8 : decode cX12_count 8 = .ok (.getfield 120, 3) := by decide +kernel
theorem dX12_count_11 : decode cX12_count 11 = .ok (.iconst 2, 1) := by decide +kernel
theorem dX12_count_12 : decode cX12_count 12 = .ok (.if_icmp .eq 7, 3) := by decide +kernel
theorem dX12_count_15 : decode cX12_count 15 = .ok (.aload_n 0, 1) := by decide +kernel
theorem dX12_count_16 : decode cX12_count 16 = .ok (.invokevirtual 231, 3) := by decide +kernel
theorem dX12_count_19 : decode cX12_count 19 = .ok (.aload_n 0, 1) := by decide +kernel
theorem dX12_count_20 : decode cX12_count 20 = .ok (.getfield 218, 3) := by decide +kernel
theorem dX12_count_23 : decode cX12_count 23 = .ok (.ifCond .ne 27, 3) := by decide +kernel
theorem dX12_count_26 : decode cX12_count 26 = .ok (.aload_n 0, 1) := by decide +kernel
theorem dX12_count_27 : decode cX12_count 27 = .ok (.getfield 139, 3) := by decide +kernel
theorem dX12_count_30 : decode cX12_count 30 = .ok (.i2l, 1) := by decide +kernel
theorem dX12_count_31 : decode cX12_count 31 = .ok (.iload_n 1, 1) := by decide +kernel
theorem dX12_count_32 : decode cX12_count 32 = .ok (.i2l, 1) := by decide +kernel
theorem dX12_count_33 : decode cX12_count 33 = .ok (.iload_n 2, 1) := by decide +kernel
theorem dX12_count_34 : decode cX12_count 34 = .ok (.i2l, 1) := by decide +kernel
theorem dX12_count_35 : decode cX12_count 35 = .ok (.invokestatic 104, 3) := by decide +kernel
theorem dX12_count_38 : decode cX12_count 38 = .ok (.ifCond .ne 12, 3) := by decide +kernel
theorem dX12_count_41 : decode cX12_count 41 = .ok (.aload_n 0, 1) := by decide +kernel
theorem dX12_count_42 : decode cX12_count 42 = .ok (.iconst 4, 1) := by decide +kernel
theorem dX12_count_43 : decode cX12_count 43 = .ok (.aload_n 0, 1) := by decide +kernel
theorem dX12_count_44 : decode cX12_count 44 = .ok (.getfield 114, 3) := by decide +kernel
theorem dX12_count_47 : decode cX12_count 47 = .ok (.invokevirtual 224, 3) := by decide +kernel
theorem dX12_count_50 : decode cX12_count 50 = .ok (.aload_n 0, 1) := by decide +kernel
theorem dX12_count_51 : decode cX12_count 51 = .ok (.getfield 218, 3) := by decide +kernel
theorem dX12_count_54 : decode cX12_count 54 = .ok (.ifCond .le 5, 3) := by decide +kernel
theorem dX12_count_57 : decode cX12_count 57 = .ok (.iconst 0, 1) := by decide +kernel
theorem dX12_count_58 : decode cX12_count 58 = .ok (.ireturn, 1) := by decide +kernel
theorem dX12_count_59 : decode cX12_count 59 = .ok (.aload_n 0, 1) := by decide +kernel
theorem dX12_count_60 : decode cX12_count 60 = .ok (.getfield 139, 3) := by decide +kernel
theorem dX12_count_63 : decode cX12_count 63 = .ok (.istore_n 3, 1) := by decide +kernel
theorem dX12_count_64 : decode cX12_count 64 = .ok (.aload_n 0, 1) := by decide +kernel
theorem dX12_count_65 : decode cX12_count 65 = .ok (.invokevirtual 228, 3) := by decide +kernel
theorem dX12_count_68 : decode cX12_count 68 = .ok (.iload_n 3, 1) := by decide +kernel
theorem dX12_count_69 : decode cX12_count 69 = .ok (.ireturn, 1) := by decide +kernel
theorem dX12_feed_0 : decode cX12_feed 0 = .ok (.aload_n 0, 1) := by decide +kernel
theorem dX12_feed_1 : decode cX12_feed 1 = .ok (.iconst 0, 1) := by decide +kernel
theorem dX12_feed_2 : decode cX12_feed 2 = .ok (.putfield 69, 3) := by decide +kernel
theorem dX12_feed_5 : decode cX12_feed 5 = .ok (.aload_n 0, 1) := by decide +kernel
theorem dX12_feed_6 : decode cX12_feed 6 = .ok (.getfield 234, 3) := by decide +kernel
theorem dX12_feed_9 : decode cX12_feed 9 = .ok (.bipush 20, 2) := by decide +kernel
theorem dX12_feed_11 : decode cX12_feed 11 = .ok (.iadd, 1) := by decide +kernel
theorem dX12_feed_12 : decode cX12_feed 12 = .ok (.sipush 900, 3) := by decide +kernel
theorem dX12_feed_15 : decode cX12_feed 15 = .ok (.if_icmp .le 5, 3) := by decide +kernel
theorem dX12_feed_18 : decode cX12_feed 18 = .ok (.iconst (-1), 1) := by decide +kernel
theorem dX12_feed_19 : decode cX12_feed 19 = .ok (.ireturn, 1) := by decide +kernel
theorem dX12_feed_20 : decode cX12_feed 20 = .ok (.aload_n 0, 1) := by decide +kernel
theorem dX12_feed_21 : decode cX12_feed 21 = .ok (.iload_n 1, 1) := by decide +kernel
theorem dX12_feed_22 : decode cX12_feed 22 = .ok (.invokevirtual 237, 3) := by decide +kernel
theorem dX12_feed_25 : decode cX12_feed 25 = .ok (.aload_n 0, 1) := by decide +kernel
theorem dX12_feed_26 : decode cX12_feed 26 = .ok (.iload_n 2, 1) := by decide +kernel
theorem dX12_feed_27 : decode cX12_feed 27 = .ok (.invokevirtual 237, 3) := by decide +kernel
theorem dX12_feed_30 : decode cX12_feed 30 = .ok (.aload_n 0, 1) := by decide +kernel
theorem dX12_feed_31 : decode cX12_feed 31 = .ok (.iload_n 3, 1) := by decide +kernel
theorem dX12_feed_32 : decode cX12_feed 32 = .ok (.invokevirtual 237, 3) := by decide +kernel
theorem dX12_feed_35 : decode cX12_feed 35 = .ok (.aload_n 0, 1) := by decide +kernel
theorem dX12_feed_36 : decode cX12_feed 36 = .ok (.iload 4, 2) := by decide +kernel
theorem dX12_feed_38 : decode cX12_feed 38 = .ok (.invokevirtual 237, 3) := by decide +kernel
theorem dX12_feed_41 : decode cX12_feed 41 = .ok (.aload_n 0, 1) := by decide +kernel
theorem dX12_feed_42 : decode cX12_feed 42 = .ok (.iload 5, 2) := by decide +kernel
theorem dX12_feed_44 : decode cX12_feed 44 = .ok (.invokevirtual 237, 3) := by decide +kernel
theorem dX12_feed_47 : decode cX12_feed 47 = .ok (.aload_n 0, 1) := by decide +kernel
theorem dX12_feed_48 : decode cX12_feed 48 = .ok (.getfield 234, 3) := by decide +kernel
theorem dX12_feed_51 : decode cX12_feed 51 = .ok (.ireturn, 1) := by decide +kernel
theorem dX12_lay_0 : decode cX12_lay 0 = .ok (.iconst 3, 1) := by decide +kernel
theorem dX12_lay_1 : decode cX12_lay 1 = .ok (.istore_n 2, 1) := by decide +kernel
theorem dX12_lay_2 : decode cX12_lay 2 = .ok (.iload_n 2, 1) := by decide +kernel
theorem dX12_lay_3 : decode cX12_lay 3 = .ok (.ifCond .lt 35, 3) := by decide +kernel
theorem dX12_lay_6 : decode cX12_lay 6 = .ok (.aload_n 0, 1) := by decide +kernel
theorem dX12_lay_7 : decode cX12_lay 7 = .ok (.getfield 24, 3) := by decide +kernel
theorem dX12_lay_10 : decode cX12_lay 10 = .ok (.aload_n 0, 1) := by decide +kernel
theorem dX12_lay_11 : decode cX12_lay 11 = .ok (.getfield 234, 3) := by decide +kernel
theorem dX12_lay_14 : decode cX12_lay 14 = .ok (.iload_n 1, 1) := by decide +kernel
theorem dX12_lay_15 : decode cX12_lay 15 = .ok (.bipush 8, 2) := by decide +kernel
theorem dX12_lay_17 : decode cX12_lay 17 = .ok (.iload_n 2, 1) := by decide +kernel
theorem dX12_lay_18 : decode cX12_lay 18 = .ok (.imul, 1) := by decide +kernel
theorem dX12_lay_19 : decode cX12_lay 19 = .ok (.ishr, 1) := by decide +kernel
theorem dX12_lay_20 : decode cX12_lay 20 = .ok (.i2b, 1) := by decide +kernel
theorem dX12_lay_21 : decode cX12_lay 21 = .ok (.bastore, 1) := by decide +kernel
theorem dX12_lay_22 : decode cX12_lay 22 = .ok (.aload_n 0, 1) := by decide +kernel
theorem dX12_lay_23 : decode cX12_lay 23 = .ok (.dup, 1) := by decide +kernel
theorem dX12_lay_24 : decode cX12_lay 24 = .ok (.getfield 234, 3) := by decide +kernel
theorem dX12_lay_27 : decode cX12_lay 27 = .ok (.iconst 1, 1) := by decide +kernel
theorem dX12_lay_28 : decode cX12_lay 28 = .ok (.iadd, 1) := by decide +kernel
theorem dX12_lay_29 : decode cX12_lay 29 = .ok (.putfield 234, 3) := by decide +kernel
theorem dX12_lay_32 : decode cX12_lay 32 = .ok (.iinc 2 (-1), 3) := by decide +kernel
theorem dX12_lay_35 : decode cX12_lay 35 = .ok (.goto (-33), 3) := by decide +kernel
theorem dX12_lay_38 : decode cX12_lay 38 = .ok (.return_, 1) := by decide +kernel
theorem dX12_opens_0 : decode cX12_opens 0 = .ok (.iload_n 1, 1) := by decide +kernel
theorem dX12_opens_1 : decode cX12_opens 1 = .ok (.ifCond .lt 16, 3) := by decide +kernel
theorem dX12_opens_4 : decode cX12_opens 4 = .ok (.iload_n 1, 1) := by decide +kernel
theorem dX12_opens_5 : decode cX12_opens 5 = .ok (.aload_n 0, 1) := by decide +kernel
theorem dX12_opens_6 : decode cX12_opens 6 = .ok (.getfield 234, 3) := by decide +kernel
theorem dX12_opens_9 : decode cX12_opens 9 = .ok (.if_icmp .gt 8, 3) := by decide +kernel
theorem dX12_opens_12 : decode cX12_opens 12 = .ok (.iload_n 1, 1) := by decide +kernel
theorem dX12_opens_13 : decode cX12_opens 13 = .ok (.iload_n 2, 1) := by decide +kernel
theorem dX12_opens_14 : decode cX12_opens 14 = .ok (.if_icmp .le 9, 3) := by decide +kernel
theorem dX12_opens_17 : decode cX12_opens 17 = .ok (.aload_n 0, 1) := by decide +kernel
theorem dX12_opens_18 : decode cX12_opens 18 = .ok (.iconst 5, 1) := by decide +kernel
theorem dX12_opens_19 : decode cX12_opens 19 = .ok (.invokevirtual 84, 3) := by decide +kernel
theorem dX12_opens_22 : decode cX12_opens 22 = .ok (.ireturn, 1) := by decide +kernel
theorem dX12_opens_23 : decode cX12_opens 23 = .ok (.aload_n 0, 1) := by decide +kernel
theorem dX12_opens_24 : decode cX12_opens 24 = .ok (.iload_n 1, 1) := by decide +kernel
theorem dX12_opens_25 : decode cX12_opens 25 = .ok (.putfield 108, 3) := by decide +kernel
theorem dX12_opens_28 : decode cX12_opens 28 = .ok (.aload_n 0, 1) := by decide +kernel
theorem dX12_opens_29 : decode cX12_opens 29 = .ok (.iconst 0, 1) := by decide +kernel
theorem dX12_opens_30 : decode cX12_opens 30 = .ok (.putfield 234, 3) := by decide +kernel
theorem dX12_opens_33 : decode cX12_opens 33 = .ok (.aload_n 0, 1) := by decide +kernel
theorem dX12_opens_34 : decode cX12_opens 34 = .ok (.iconst 0, 1) := by decide +kernel
theorem dX12_opens_35 : decode cX12_opens 35 = .ok (.putfield 111, 3) := by decide +kernel
theorem dX12_opens_38 : decode cX12_opens 38 = .ok (.aload_n 0, 1) := by decide +kernel
theorem dX12_opens_39 : decode cX12_opens 39 = .ok (.iconst 0, 1) := by decide +kernel
theorem dX12_opens_40 : decode cX12_opens 40 = .ok (.putfield 218, 3) := by decide +kernel
theorem dX12_opens_43 : decode cX12_opens 43 = .ok (.aload_n 0, 1) := by decide +kernel
theorem dX12_opens_44 : decode cX12_opens 44 = .ok (.invokevirtual 228, 3) := by decide +kernel
theorem dX12_opens_47 : decode cX12_opens 47 = .ok (.iconst 1, 1) := by decide +kernel
theorem dX12_opens_48 : decode cX12_opens 48 = .ok (.ireturn, 1) := by decide +kernel
theorem dX12_isWell_0 : decode cX12_isWell 0 = .ok (.aload_n 0, 1) := by decide +kernel
theorem dX12_isWell_1 : decode cX12_isWell 1 = .ok (.aload_n 0, 1) := by decide +kernel
theorem dX12_isWell_2 : decode cX12_isWell 2 = .ok (.getfield 218, 3) := by decide +kernel
theorem dX12_isWell_5 : decode cX12_isWell 5 = .ok (.putfield 28, 3) := by decide +kernel
theorem dX12_isWell_8 : decode cX12_isWell 8 = .ok (.aload_n 0, 1) := by decide +kernel
theorem dX12_isWell_9 : decode cX12_isWell 9 = .ok (.aload_n 0, 1) := by decide +kernel
theorem dX12_isWell_10 : decode cX12_isWell 10 = .ok (.getfield 218, 3) := by decide +kernel
theorem dX12_isWell_13 : decode cX12_isWell 13 = .ok (.ifCond .ne 7, 3) := by decide +kernel
theorem dX12_isWell_16 : decode cX12_isWell 16 = .ok (.iconst (-1), 1) := by decide +kernel
theorem dX12_isWell_17 : decode cX12_isWell 17 = .ok (.goto 7, 3) := by decide +kernel
theorem dX12_isWell_20 : decode cX12_isWell 20 = .ok (.aload_n 0, 1) := by decide +kernel
theorem dX12_isWell_21 : decode cX12_isWell 21 = .ok (.getfield 221, 3) := by decide +kernel
theorem dX12_isWell_24 : decode cX12_isWell 24 = .ok (.putfield 32, 3) := by decide +kernel
theorem dX12_isWell_27 : decode cX12_isWell 27 = .ok (.aload_n 0, 1) := by decide +kernel
theorem dX12_isWell_28 : decode cX12_isWell 28 = .ok (.getfield 218, 3) := by decide +kernel
theorem dX12_isWell_31 : decode cX12_isWell 31 = .ok (.ifCond .eq 12, 3) := by decide +kernel
theorem dX12_isWell_34 : decode cX12_isWell 34 = .ok (.aload_n 0, 1) := by decide +kernel
theorem dX12_isWell_35 : decode cX12_isWell 35 = .ok (.bipush 10, 2) := by decide +kernel
theorem dX12_isWell_37 : decode cX12_isWell 37 = .ok (.invokevirtual 84, 3) := by decide +kernel
theorem dX12_isWell_40 : decode cX12_isWell 40 = .ok (.ifCond .eq 7, 3) := by decide +kernel
theorem dX12_isWell_43 : decode cX12_isWell 43 = .ok (.iconst 1, 1) := by decide +kernel
theorem dX12_isWell_44 : decode cX12_isWell 44 = .ok (.goto 4, 3) := by decide +kernel
theorem dX12_isWell_47 : decode cX12_isWell 47 = .ok (.iconst 0, 1) := by decide +kernel
theorem dX12_isWell_48 : decode cX12_isWell 48 = .ok (.ireturn, 1) := by decide +kernel
theorem dX12_fault_0 : decode cX12_fault 0 = .ok (.aload_n 0, 1) := by decide +kernel
theorem dX12_fault_1 : decode cX12_fault 1 = .ok (.iconst 0, 1) := by decide +kernel
theorem dX12_fault_2 : decode cX12_fault 2 = .ok (.putfield 69, 3) := by decide +kernel
theorem dX12_fault_5 : decode cX12_fault 5 = .ok (.iload_n 1, 1) := by decide +kernel
theorem dX12_fault_6 : decode cX12_fault 6 = .ok (.ifCond .ne 10, 3) := by decide +kernel
theorem dX12_fault_9 : decode cX12_fault 9 = .ok (.aload_n 0, 1) := by decide +kernel
theorem dX12_fault_10 : decode cX12_fault 10 = .ok (.getfield 28, 3) := by decide +kernel
theorem dX12_fault_13 : decode cX12_fault 13 = .ok (.goto 16, 3) := by decide +kernel
theorem dX12_fault_16 : decode cX12_fault 16 = .ok (.iload_n 1, 1) := by decide +kernel
theorem dX12_fault_17 : decode cX12_fault 17 = .ok (.iconst 1, 1) := by decide +kernel
theorem dX12_fault_18 : decode cX12_fault 18 = .ok (.if_icmp .ne 10, 3) := by decide +kernel
theorem dX12_fault_21 : decode cX12_fault 21 = .ok (.aload_n 0, 1) := by decide +kernel
theorem dX12_fault_22 : decode cX12_fault 22 = .ok (.getfield 32, 3) := by decide +kernel
theorem dX12_fault_25 : decode cX12_fault 25 = .ok (.goto 4, 3) := by decide +kernel
theorem dX12_fault_28 : decode cX12_fault 28 = .ok (.iconst (-1), 1) := by decide +kernel
theorem dX12_fault_29 : decode cX12_fault 29 = .ok (.ireturn, 1) := by decide +kernel
theorem dX12_readSchool_0 : decode cX12_readSchool 0 = .ok (.aload_n 0, 1) := by decide +kernel
theorem dX12_readSchool_1 : decode cX12_readSchool 1 = .ok (.getfield 35, 3) := by decide +kernel
theorem dX12_readSchool_4 : decode cX12_readSchool 4 = .ok (.sipush 2082, 3) := by decide +kernel
theorem dX12_readSchool_7 : decode cX12_readSchool 7 = .ok (.iaload, 1) := by decide +kernel
theorem dX12_readSchool_8 : decode cX12_readSchool 8 = .ok (.istore_n 1, 1) := by decide +kernel
theorem dX12_readSchool_9 : decode cX12_readSchool 9 = .ok (.iload_n 1, 1) := by decide +kernel
theorem dX12_readSchool_10 : decode cX12_readSchool 10 = .ok (.iconst 2, 1) := by decide +kernel
theorem dX12_readSchool_11 : decode cX12_readSchool 11 = .ok (.if_icmp .ne 13, 3) := by decide +kernel
theorem dX12_readSchool_14 : decode cX12_readSchool 14 = .ok (.aload_n 0, 1) := by decide +kernel
theorem dX12_readSchool_15 : decode cX12_readSchool 15 = .ok (.bipush 6, 2) := by decide +kernel
theorem dX12_readSchool_17 : decode cX12_readSchool 17 = .ok (.aload_n 0, 1) := by decide +kernel
theorem dX12_readSchool_18 : decode cX12_readSchool 18 = .ok (.getfield 114, 3) := by decide +kernel
theorem dX12_readSchool_21 : decode cX12_readSchool 21 = .ok (.invokevirtual 224, 3) := by decide +kernel
theorem dX12_readSchool_24 : decode cX12_readSchool 24 = .ok (.aload_n 0, 1) := by decide +kernel
theorem dX12_readSchool_25 : decode cX12_readSchool 25 = .ok (.getfield 218, 3) := by decide +kernel
theorem dX12_readSchool_28 : decode cX12_readSchool 28 = .ok (.ifCond .le 4, 3) := by decide +kernel
theorem dX12_readSchool_31 : decode cX12_readSchool 31 = .ok (.return_, 1) := by decide +kernel
theorem dX12_readSchool_32 : decode cX12_readSchool 32 = .ok (.aload_n 0, 1) := by decide +kernel
theorem dX12_readSchool_33 : decode cX12_readSchool 33 = .ok (.invokevirtual 228, 3) := by decide +kernel
theorem dX12_readSchool_36 : decode cX12_readSchool 36 = .ok (.aload_n 0, 1) := by decide +kernel
theorem dX12_readSchool_37 : decode cX12_readSchool 37 = .ok (.getfield 120, 3) := by decide +kernel
theorem dX12_readSchool_40 : decode cX12_readSchool 40 = .ok (.iconst 1, 1) := by decide +kernel
theorem dX12_readSchool_41 : decode cX12_readSchool 41 = .ok (.if_icmp .ne 19, 3) := by decide +kernel
theorem dX12_readSchool_44 : decode cX12_readSchool 44 = .ok (.aload_n 0, 1) := by decide +kernel
theorem dX12_readSchool_45 : decode cX12_readSchool 45 = .ok (.getfield 133, 3) := by decide +kernel
theorem dX12_readSchool_48 : decode cX12_readSchool 48 = .ok (.bipush 8, 2) := by decide +kernel
theorem dX12_readSchool_50 : decode cX12_readSchool 50 = .ok (.if_icmp .gt 10, 3) := by decide +kernel
theorem dX12_readSchool_53 : decode cX12_readSchool 53 = .ok (.aload_n 0, 1) := by decide +kernel
theorem dX12_readSchool_54 : decode cX12_readSchool 54 = .ok (.invokevirtual 241, 3) := by decide +kernel
theorem dX12_readSchool_57 : decode cX12_readSchool 57 = .ok (.ifCond .eq 7, 3) := by decide +kernel
theorem dX12_readSchool_60 : decode cX12_readSchool 60 = .ok (.aload_n 0, 1) := by decide +kernel
theorem dX12_readSchool_61 : decode cX12_readSchool 61 = .ok (.invokevirtual 231, 3) := by decide +kernel
theorem dX12_readSchool_64 : decode cX12_readSchool 64 = .ok (.aload_n 0, 1) := by decide +kernel
theorem dX12_readSchool_65 : decode cX12_readSchool 65 = .ok (.getfield 218, 3) := by decide +kernel
theorem dX12_readSchool_68 : decode cX12_readSchool 68 = .ok (.ifCond .ne 31, 3) := by decide +kernel
theorem dX12_readSchool_71 : decode cX12_readSchool 71 = .ok (.iload_n 1, 1) := by decide +kernel
theorem dX12_readSchool_72 : decode cX12_readSchool 72 = .ok (.iconst 1, 1) := by decide +kernel
theorem dX12_readSchool_73 : decode cX12_readSchool 73 = .ok (.if_icmp .ne 26, 3) := by decide +kernel
theorem dX12_readSchool_76 : decode cX12_readSchool 76 = .ok (.aload_n 0, 1) := by decide +kernel
theorem dX12_readSchool_77 : decode cX12_readSchool 77 = .ok (.getfield 44, 3) := by decide +kernel
theorem dX12_readSchool_80 : decode cX12_readSchool 80 = .ok (.iconst 0, 1) := by decide +kernel
theorem dX12_readSchool_81 : decode cX12_readSchool 81 = .ok (.laload, 1) := by decide +kernel
theorem dX12_readSchool_82 : decode cX12_readSchool 82 = .ok (.aload_n 0, 1) := by decide +kernel
theorem dX12_readSchool_83 : decode cX12_readSchool 83 = .ok (.getfield 126, 3) := by decide +kernel
theorem dX12_readSchool_86 : decode cX12_readSchool 86 = .ok (.lcmp, 1) := by decide +kernel
theorem dX12_readSchool_87 : decode cX12_readSchool 87 = .ok (.ifCond .ne 12, 3) := by decide +kernel
theorem dX12_readSchool_90 : decode cX12_readSchool 90 = .ok (.aload_n 0, 1) := by decide +kernel
theorem dX12_readSchool_91 : decode cX12_readSchool 91 = .ok (.iconst 3, 1) := by decide +kernel
theorem dX12_readSchool_92 : decode cX12_readSchool 92 = .ok (.aload_n 0, 1) := by decide +kernel
theorem dX12_readSchool_93 : decode cX12_readSchool 93 = .ok (.getfield 114, 3) := by decide +kernel
theorem dX12_readSchool_96 : decode cX12_readSchool 96 = .ok (.invokevirtual 224, 3) := by decide +kernel
theorem dX12_readSchool_99 : decode cX12_readSchool 99 = .ok (.aload_n 0, 1) := by decide +kernel
theorem dX12_readSchool_100 : decode cX12_readSchool 100 = .ok (.getfield 218, 3) := by decide +kernel
theorem dX12_readSchool_103 : decode cX12_readSchool 103 = .ok (.ifCond .le 4, 3) := by decide +kernel
theorem dX12_readSchool_106 : decode cX12_readSchool 106 = .ok (.return_, 1) := by decide +kernel
theorem dX12_readSchool_107 : decode cX12_readSchool 107 = .ok (.aload_n 0, 1) := by decide +kernel
theorem dX12_readSchool_108 : decode cX12_readSchool 108 = .ok (.getfield 44, 3) := by decide +kernel
theorem dX12_readSchool_111 : decode cX12_readSchool 111 = .ok (.iload_n 1, 1) := by decide +kernel
theorem dX12_readSchool_112 : decode cX12_readSchool 112 = .ok (.aload_n 0, 1) := by decide +kernel
theorem dX12_readSchool_113 : decode cX12_readSchool 113 = .ok (.getfield 126, 3) := by decide +kernel
theorem dX12_readSchool_116 : decode cX12_readSchool 116 = .ok (.lastore, 1) := by decide +kernel
theorem dX12_readSchool_117 : decode cX12_readSchool 117 = .ok (.aload_n 0, 1) := by decide +kernel
theorem dX12_readSchool_118 : decode cX12_readSchool 118 = .ok (.invokevirtual 228, 3) := by decide +kernel
theorem dX12_readSchool_121 : decode cX12_readSchool 121 = .ok (.aload_n 0, 1) := by decide +kernel
theorem dX12_readSchool_122 : decode cX12_readSchool 122 = .ok (.aload_n 0, 1) := by decide +kernel
theorem dX12_readSchool_123 : decode cX12_readSchool 123 = .ok (.invokevirtual 175, 3) := by decide +kernel
theorem dX12_readSchool_126 : decode cX12_readSchool 126 = .ok (.invokevirtual 244, 3) := by decide +kernel
theorem dX12_readSchool_129 : decode cX12_readSchool 129 = .ok (.aload_n 0, 1) := by decide +kernel
theorem dX12_readSchool_130 : decode cX12_readSchool 130 = .ok (.getfield 35, 3) := by decide +kernel
theorem dX12_readSchool_133 : decode cX12_readSchool 133 = .ok (.sipush 2092, 3) := by decide +kernel
theorem dX12_readSchool_136 : decode cX12_readSchool 136 = .ok (.iload_n 1, 1) := by decide +kernel
theorem dX12_readSchool_137 : decode cX12_readSchool 137 = .ok (.iadd, 1) := by decide +kernel
theorem dX12_readSchool_138 : decode cX12_readSchool 138 = .ok (.aload_n 0, 1) := by decide +kernel
theorem dX12_readSchool_139 : decode cX12_readSchool 139 = .ok (.iconst 0, 1) := by decide +kernel
theorem dX12_readSchool_140 : decode cX12_readSchool 140 = .ok (.bipush 40, 2) := by decide +kernel
theorem dX12_readSchool_142 : decode cX12_readSchool 142 = .ok (.invokevirtual 248, 3) := by decide +kernel
theorem dX12_readSchool_145 : decode cX12_readSchool 145 = .ok (.iastore, 1) := by decide +kernel
theorem dX12_readSchool_146 : decode cX12_readSchool 146 = .ok (.aload_n 0, 1) := by decide +kernel
theorem dX12_readSchool_147 : decode cX12_readSchool 147 = .ok (.getfield 218, 3) := by decide +kernel
theorem dX12_readSchool_150 : decode cX12_readSchool 150 = .ok (.ifCond .ne 15, 3) := by decide +kernel
theorem dX12_readSchool_153 : decode cX12_readSchool 153 = .ok (.aload_n 0, 1) := by decide +kernel
theorem dX12_readSchool_154 : decode cX12_readSchool 154 = .ok (.getfield 35, 3) := by decide +kernel
theorem dX12_readSchool_157 : decode cX12_readSchool 157 = .ok (.sipush 2082, 3) := by decide +kernel
theorem dX12_readSchool_160 : decode cX12_readSchool 160 = .ok (.dup2, 1) := by decide +kernel
theorem dX12_readSchool_161 : decode cX12_readSchool 161 = .ok (.iaload, 1) := by decide +kernel
theorem dX12_readSchool_162 : decode cX12_readSchool 162 = .ok (.iconst 1, 1) := by decide +kernel
theorem dX12_readSchool_163 : decode cX12_readSchool 163 = .ok (.iadd, 1) := by decide +kernel
theorem dX12_readSchool_164 : decode cX12_readSchool 164 = .ok (.iastore, 1) := by decide +kernel
theorem dX12_readSchool_165 : decode cX12_readSchool 165 = .ok (.return_, 1) := by decide +kernel
theorem dX12_readCell_0 : decode cX12_readCell 0 = .ok (.aload_n 0, 1) := by decide +kernel
theorem dX12_readCell_1 : decode cX12_readCell 1 = .ok (.invokevirtual 228, 3) := by decide +kernel
theorem dX12_readCell_4 : decode cX12_readCell 4 = .ok (.aload_n 0, 1) := by decide +kernel
theorem dX12_readCell_5 : decode cX12_readCell 5 = .ok (.iconst 0, 1) := by decide +kernel
theorem dX12_readCell_6 : decode cX12_readCell 6 = .ok (.aload_n 0, 1) := by decide +kernel
theorem dX12_readCell_7 : decode cX12_readCell 7 = .ok (.getfield 35, 3) := by decide +kernel
theorem dX12_readCell_10 : decode cX12_readCell 10 = .ok (.sipush 2080, 3) := by decide +kernel
theorem dX12_readCell_13 : decode cX12_readCell 13 = .ok (.iaload, 1) := by decide +kernel
theorem dX12_readCell_14 : decode cX12_readCell 14 = .ok (.iconst 1, 1) := by decide +kernel
theorem dX12_readCell_15 : decode cX12_readCell 15 = .ok (.isub, 1) := by decide +kernel
theorem dX12_readCell_16 : decode cX12_readCell 16 = .ok (.invokevirtual 248, 3) := by decide +kernel
theorem dX12_readCell_19 : decode cX12_readCell 19 = .ok (.istore_n 2, 1) := by decide +kernel
theorem dX12_readCell_20 : decode cX12_readCell 20 = .ok (.aload_n 0, 1) := by decide +kernel
theorem dX12_readCell_21 : decode cX12_readCell 21 = .ok (.getfield 114, 3) := by decide +kernel
theorem dX12_readCell_24 : decode cX12_readCell 24 = .ok (.istore_n 3, 1) := by decide +kernel
theorem dX12_readCell_25 : decode cX12_readCell 25 = .ok (.aload_n 0, 1) := by decide +kernel
theorem dX12_readCell_26 : decode cX12_readCell 26 = .ok (.iconst 0, 1) := by decide +kernel
theorem dX12_readCell_27 : decode cX12_readCell 27 = .ok (.aload_n 0, 1) := by decide +kernel
theorem dX12_readCell_28 : decode cX12_readCell 28 = .ok (.getfield 35, 3) := by decide +kernel
theorem dX12_readCell_31 : decode cX12_readCell 31 = .ok (.sipush 2081, 3) := by decide +kernel
theorem dX12_readCell_34 : decode cX12_readCell 34 = .ok (.iaload, 1) := by decide +kernel
theorem dX12_readCell_35 : decode cX12_readCell 35 = .ok (.iconst 1, 1) := by decide +kernel
theorem dX12_readCell_36 : decode cX12_readCell 36 = .ok (.isub, 1) := by decide +kernel
theorem dX12_readCell_37 : decode cX12_readCell 37 = .ok (.invokevirtual 248, 3) := by decide +kernel
theorem dX12_readCell_40 : decode cX12_readCell 40 = .ok (.istore 4, 2) := by decide +kernel
theorem dX12_readCell_42 : decode cX12_readCell 42 = .ok (.bipush 6, 2) := by decide +kernel
theorem dX12_readCell_44 : decode cX12_readCell 44 = .ok (.iload 4, 2) := by decide +kernel
theorem dX12_readCell_46 : decode cX12_readCell 46 = .ok (.imul, 1) := by decide +kernel
theorem dX12_readCell_47 : decode cX12_readCell 47 = .ok (.iload_n 2, 1) := by decide +kernel
theorem dX12_readCell_48 : decode cX12_readCell 48 = .ok (.iadd, 1) := by decide +kernel
theorem dX12_readCell_49 : decode cX12_readCell 49 = .ok (.istore 5, 2) := by decide +kernel
theorem dX12_readCell_51 : decode cX12_readCell 51 = .ok (.aload_n 0, 1) := by decide +kernel
theorem dX12_readCell_52 : decode cX12_readCell 52 = .ok (.getfield 218, 3) := by decide +kernel
theorem dX12_readCell_55 : decode cX12_readCell 55 = .ok (.ifCond .ne 25, 3) := by decide +kernel
theorem dX12_readCell_58 : decode cX12_readCell 58 = .ok (.aload_n 0, 1) := by decide +kernel
theorem dX12_readCell_59 : decode cX12_readCell 59 = .ok (.getfield 41, 3) := by decide +kernel
theorem dX12_readCell_62 : decode cX12_readCell 62 = .ok (.bipush 36, 2) := by decide +kernel
theorem dX12_readCell_64 : decode cX12_readCell 64 = .ok (.iload_n 1, 1) := by decide +kernel
theorem dX12_readCell_65 : decode cX12_readCell 65 = .ok (.imul, 1) := by decide +kernel
theorem dX12_readCell_66 : decode cX12_readCell 66 = .ok (.iload 5, 2) := by decide +kernel
theorem dX12_readCell_68 : decode cX12_readCell 68 = .ok (.iadd, 1) := by decide +kernel
theorem dX12_readCell_69 : decode cX12_readCell 69 = .ok (.iaload, 1) := by decide +kernel
theorem dX12_readCell_70 : decode cX12_readCell 70 = .ok (.iconst 1, 1) := by decide +kernel
theorem dX12_readCell_71 : decode cX12_readCell 71 = .ok (.if_icmp .ne 9, 3) := by decide +kernel
theorem dX12_readCell_74 : decode cX12_readCell 74 = .ok (.aload_n 0, 1) := by decide +kernel
theorem dX12_readCell_75 : decode cX12_readCell 75 = .ok (.iconst 5, 1) := by decide +kernel
theorem dX12_readCell_76 : decode cX12_readCell 76 = .ok (.iload_n 3, 1) := by decide +kernel
theorem dX12_readCell_77 : decode cX12_readCell 77 = .ok (.invokevirtual 224, 3) := by decide +kernel
theorem dX12_readCell_80 : decode cX12_readCell 80 = .ok (.aload_n 0, 1) := by decide +kernel
theorem dX12_readCell_81 : decode cX12_readCell 81 = .ok (.iload_n 1, 1) := by decide +kernel
theorem dX12_readCell_82 : decode cX12_readCell 82 = .ok (.ifCond .ne 10, 3) := by decide +kernel
theorem dX12_readCell_85 : decode cX12_readCell 85 = .ok (.aload_n 0, 1) := by decide +kernel
theorem dX12_readCell_86 : decode cX12_readCell 86 = .ok (.invokevirtual 181, 3) := by decide +kernel
theorem dX12_readCell_89 : decode cX12_readCell 89 = .ok (.goto 19, 3) := by decide +kernel
theorem dX12_readCell_92 : decode cX12_readCell 92 = .ok (.iload_n 1, 1) := by decide +kernel
theorem dX12_readCell_93 : decode cX12_readCell 93 = .ok (.iconst 1, 1) := by decide +kernel
theorem dX12_readCell_94 : decode cX12_readCell 94 = .ok (.if_icmp .ne 10, 3) := by decide +kernel
theorem dX12_readCell_97 : decode cX12_readCell 97 = .ok (.aload_n 0, 1) := by decide +kernel
theorem dX12_readCell_98 : decode cX12_readCell 98 = .ok (.invokevirtual 184, 3) := by decide +kernel
theorem dX12_readCell_101 : decode cX12_readCell 101 = .ok (.goto 7, 3) := by decide +kernel
theorem dX12_readCell_104 : decode cX12_readCell 104 = .ok (.aload_n 0, 1) := by decide +kernel
theorem dX12_readCell_105 : decode cX12_readCell 105 = .ok (.invokevirtual 190, 3) := by decide +kernel
theorem dX12_readCell_108 : decode cX12_readCell 108 = .ok (.invokevirtual 244, 3) := by decide +kernel
theorem dX12_readCell_111 : decode cX12_readCell 111 = .ok (.aload_n 0, 1) := by decide +kernel
theorem dX12_readCell_112 : decode cX12_readCell 112 = .ok (.iconst 0, 1) := by decide +kernel
theorem dX12_readCell_113 : decode cX12_readCell 113 = .ok (.iload_n 1, 1) := by decide +kernel
theorem dX12_readCell_114 : decode cX12_readCell 114 = .ok (.iconst 2, 1) := by decide +kernel
theorem dX12_readCell_115 : decode cX12_readCell 115 = .ok (.if_icmp .ne 8, 3) := by decide +kernel
theorem dX12_readCell_118 : decode cX12_readCell 118 = .ok (.bipush 9, 2) := by decide +kernel
theorem dX12_readCell_120 : decode cX12_readCell 120 = .ok (.goto 5, 3) := by decide +kernel
theorem dX12_readCell_123 : decode cX12_readCell 123 = .ok (.bipush 99, 2) := by decide +kernel
theorem dX12_readCell_125 : decode cX12_readCell 125 = .ok (.invokevirtual 248, 3) := by decide +kernel
theorem dX12_readCell_128 : decode cX12_readCell 128 = .ok (.istore 6, 2) := by decide +kernel
theorem dX12_readCell_130 : decode cX12_readCell 130 = .ok (.aload_n 0, 1) := by decide +kernel
theorem dX12_readCell_131 : decode cX12_readCell 131 = .ok (.getfield 218, 3) := by decide +kernel
theorem dX12_readCell_134 : decode cX12_readCell 134 = .ok (.ifCond .le 4, 3) := by decide +kernel
theorem dX12_readCell_137 : decode cX12_readCell 137 = .ok (.return_, 1) := by decide +kernel
theorem dX12_readCell_138 : decode cX12_readCell 138 = .ok (.aload_n 0, 1) := by decide +kernel
theorem dX12_readCell_139 : decode cX12_readCell 139 = .ok (.getfield 41, 3) := by decide +kernel
theorem dX12_readCell_142 : decode cX12_readCell 142 = .ok (.bipush 36, 2) := by decide +kernel
theorem dX12_readCell_144 : decode cX12_readCell 144 = .ok (.iload_n 1, 1) := by decide +kernel
theorem dX12_readCell_145 : decode cX12_readCell 145 = .ok (.imul, 1) := by decide +kernel
theorem dX12_readCell_146 : decode cX12_readCell 146 = .ok (.iload 5, 2) := by decide +kernel
theorem dX12_readCell_148 : decode cX12_readCell 148 = .ok (.iadd, 1) := by decide +kernel
theorem dX12_readCell_149 : decode cX12_readCell 149 = .ok (.iconst 1, 1) := by decide +kernel
theorem dX12_readCell_150 : decode cX12_readCell 150 = .ok (.iastore, 1) := by decide +kernel
theorem dX12_readCell_151 : decode cX12_readCell 151 = .ok (.aload_n 0, 1) := by decide +kernel
theorem dX12_readCell_152 : decode cX12_readCell 152 = .ok (.getfield 35, 3) := by decide +kernel
theorem dX12_readCell_155 : decode cX12_readCell 155 = .ok (.sipush 2080, 3) := by decide +kernel
theorem dX12_readCell_158 : decode cX12_readCell 158 = .ok (.iload_n 1, 1) := by decide +kernel
theorem dX12_readCell_159 : decode cX12_readCell 159 = .ok (.ifCond .ne 8, 3) := by decide +kernel
theorem dX12_readCell_162 : decode cX12_readCell 162 = .ok (.bipush 26, 2) := by decide +kernel
theorem dX12_readCell_164 : decode cX12_readCell 164 = .ok (.goto 15, 3) := by decide +kernel
theorem dX12_readCell_167 : decode cX12_readCell 167 = .ok (.iload_n 1, 1) := by decide +kernel
theorem dX12_readCell_168 : decode cX12_readCell 168 = .ok (.iconst 1, 1) := by decide +kernel
theorem dX12_readCell_169 : decode cX12_readCell 169 = .ok (.if_icmp .ne 8, 3) := by decide +kernel
theorem dX12_readCell_172 : decode cX12_readCell 172 = .ok (.bipush 62, 2) := by decide +kernel
theorem dX12_readCell_174 : decode cX12_readCell 174 = .ok (.goto 5, 3) := by decide +kernel
theorem dX12_readCell_177 : decode cX12_readCell 177 = .ok (.bipush 98, 2) := by decide +kernel
theorem dX12_readCell_179 : decode cX12_readCell 179 = .ok (.iadd, 1) := by decide +kernel
theorem dX12_readCell_180 : decode cX12_readCell 180 = .ok (.iload 5, 2) := by decide +kernel
theorem dX12_readCell_182 : decode cX12_readCell 182 = .ok (.iadd, 1) := by decide +kernel
theorem dX12_readCell_183 : decode cX12_readCell 183 = .ok (.iload 6, 2) := by decide +kernel
theorem dX12_readCell_185 : decode cX12_readCell 185 = .ok (.iastore, 1) := by decide +kernel
theorem dX12_readCell_186 : decode cX12_readCell 186 = .ok (.return_, 1) := by decide +kernel
theorem dX12_readArticle_0 : decode cX12_readArticle 0 = .ok (.aload_n 0, 1) := by decide +kernel
theorem dX12_readArticle_1 : decode cX12_readArticle 1 = .ok (.invokevirtual 228, 3) := by decide +kernel
theorem dX12_readArticle_4 : decode cX12_readArticle 4 = .ok (.aload_n 0, 1) := by decide +kernel
theorem dX12_readArticle_5 : decode cX12_readArticle 5 = .ok (.invokevirtual 163, 3) := by decide +kernel
theorem dX12_readArticle_8 : decode cX12_readArticle 8 = .ok (.ifCond .eq 7, 3) := by decide +kernel
theorem dX12_readArticle_11 : decode cX12_readArticle 11 = .ok (.iconst 0, 1) := by decide +kernel
theorem dX12_readArticle_12 : decode cX12_readArticle 12 = .ok (.goto 37, 3) := by decide +kernel
theorem dX12_readArticle_15 : decode cX12_readArticle 15 = .ok (.aload_n 0, 1) := by decide +kernel
theorem dX12_readArticle_16 : decode cX12_readArticle 16 = .ok (.invokevirtual 153, 3) := by decide +kernel
theorem dX12_readArticle_19 : decode cX12_readArticle 19 = .ok (.ifCond .eq 7, 3) := by decide +kernel
theorem dX12_readArticle_22 : decode cX12_readArticle 22 = .ok (.iconst 1, 1) := by decide +kernel
theorem dX12_readArticle_23 : decode cX12_readArticle 23 = .ok (.goto 26, 3) := by decide +kernel
theorem dX12_readArticle_26 : decode cX12_readArticle 26 = .ok (.aload_n 0, 1) := by decide +kernel
theorem dX12_readArticle_27 : decode cX12_readArticle 27 = .ok (.invokevirtual 160, 3) := by decide +kernel
theorem dX12_readArticle_30 : decode cX12_readArticle 30 = .ok (.ifCond .eq 7, 3) := by decide +kernel
theorem dX12_readArticle_33 : decode cX12_readArticle 33 = .ok (.iconst 2, 1) := by decide +kernel
theorem dX12_readArticle_34 : decode cX12_readArticle 34 = .ok (.goto 15, 3) := by decide +kernel
theorem dX12_readArticle_37 : decode cX12_readArticle 37 = .ok (.aload_n 0, 1) := by decide +kernel
theorem dX12_readArticle_38 : decode cX12_readArticle 38 = .ok (.invokevirtual 157, 3) := by decide +kernel
theorem dX12_readArticle_41 : decode cX12_readArticle 41 = .ok (.ifCond .eq 7, 3) := by decide +kernel
theorem dX12_readArticle_44 : decode cX12_readArticle 44 = .ok (.iconst 3, 1) := by decide +kernel
theorem dX12_readArticle_45 : decode cX12_readArticle 45 = .ok (.goto 4, 3) := by decide +kernel
theorem dX12_readArticle_48 : decode cX12_readArticle 48 = .ok (.iconst (-1), 1) := by decide +kernel
theorem dX12_readArticle_49 : decode cX12_readArticle 49 = .ok (.istore_n 1, 1) := by decide +kernel
theorem dX12_readArticle_50 : decode cX12_readArticle 50 = .ok (.iload_n 1, 1) := by decide +kernel
theorem dX12_readArticle_51 : decode cX12_readArticle 51 = .ok (.ifCond .ge 7, 3) := by decide +kernel
theorem dX12_readArticle_54 : decode cX12_readArticle 54 = .ok (.aload_n 0, 1) := by decide +kernel
theorem dX12_readArticle_55 : decode cX12_readArticle 55 = .ok (.invokevirtual 231, 3) := by decide +kernel
theorem dX12_readArticle_58 : decode cX12_readArticle 58 = .ok (.aload_n 0, 1) := by decide +kernel
theorem dX12_readArticle_59 : decode cX12_readArticle 59 = .ok (.getfield 218, 3) := by decide +kernel
theorem dX12_readArticle_62 : decode cX12_readArticle 62 = .ok (.ifCond .ne 26, 3) := by decide +kernel
theorem dX12_readArticle_65 : decode cX12_readArticle 65 = .ok (.aload_n 0, 1) := by decide +kernel
theorem dX12_readArticle_66 : decode cX12_readArticle 66 = .ok (.getfield 35, 3) := by decide +kernel
theorem dX12_readArticle_69 : decode cX12_readArticle 69 = .ok (.sipush 2098, 3) := by decide +kernel
theorem dX12_readArticle_72 : decode cX12_readArticle 72 = .ok (.iload_n 1, 1) := by decide +kernel
theorem dX12_readArticle_73 : decode cX12_readArticle 73 = .ok (.iadd, 1) := by decide +kernel
theorem dX12_readArticle_74 : decode cX12_readArticle 74 = .ok (.iaload, 1) := by decide +kernel
theorem dX12_readArticle_75 : decode cX12_readArticle 75 = .ok (.iconst 1, 1) := by decide +kernel
theorem dX12_readArticle_76 : decode cX12_readArticle 76 = .ok (.if_icmp .ne 12, 3) := by decide +kernel
theorem dX12_readArticle_79 : decode cX12_readArticle 79 = .ok (.aload_n 0, 1) := by decide +kernel
theorem dX12_readArticle_80 : decode cX12_readArticle 80 = .ok (.iconst 5, 1) := by decide +kernel
theorem dX12_readArticle_81 : decode cX12_readArticle 81 = .ok (.aload_n 0, 1) := by decide +kernel
theorem dX12_readArticle_82 : decode cX12_readArticle 82 = .ok (.getfield 114, 3) := by decide +kernel
theorem dX12_readArticle_85 : decode cX12_readArticle 85 = .ok (.invokevirtual 224, 3) := by decide +kernel
theorem dX12_readArticle_88 : decode cX12_readArticle 88 = .ok (.aload_n 0, 1) := by decide +kernel
theorem dX12_readArticle_89 : decode cX12_readArticle 89 = .ok (.iconst 1, 1) := by decide +kernel
theorem dX12_readArticle_90 : decode cX12_readArticle 90 = .ok (.invokevirtual 244, 3) := by decide +kernel
theorem dX12_readArticle_93 : decode cX12_readArticle 93 = .ok (.aload_n 0, 1) := by decide +kernel
theorem dX12_readArticle_94 : decode cX12_readArticle 94 = .ok (.getfield 218, 3) := by decide +kernel
theorem dX12_readArticle_97 : decode cX12_readArticle 97 = .ok (.ifCond .ne 64, 3) := by decide +kernel
theorem dX12_readArticle_100 : decode cX12_readArticle 100 = .ok (.iload_n 1, 1) := by decide +kernel
theorem dX12_readArticle_101 : decode cX12_readArticle 101 = .ok (.iconst 2, 1) := by decide +kernel
theorem dX12_readArticle_102 : decode cX12_readArticle 102 = .ok (.if_icmp .eq 59, 3) := by decide +kernel
theorem dX12_readArticle_105 : decode cX12_readArticle 105 = .ok (.aload_n 0, 1) := by decide +kernel
theorem dX12_readArticle_106 : decode cX12_readArticle 106 = .ok (.iload_n 1, 1) := by decide +kernel
theorem dX12_readArticle_107 : decode cX12_readArticle 107 = .ok (.iconst 1, 1) := by decide +kernel
theorem dX12_readArticle_108 : decode cX12_readArticle 108 = .ok (.if_icmp .ne 10, 3) := by decide +kernel
theorem dX12_readArticle_111 : decode cX12_readArticle 111 = .ok (.aload_n 0, 1) := by decide +kernel
theorem dX12_readArticle_112 : decode cX12_readArticle 112 = .ok (.invokevirtual 199, 3) := by decide +kernel
theorem dX12_readArticle_115 : decode cX12_readArticle 115 = .ok (.goto 7, 3) := by decide +kernel
theorem dX12_readArticle_118 : decode cX12_readArticle 118 = .ok (.aload_n 0, 1) := by decide +kernel
theorem dX12_readArticle_119 : decode cX12_readArticle 119 = .ok (.invokevirtual 196, 3) := by decide +kernel
theorem dX12_readArticle_122 : decode cX12_readArticle 122 = .ok (.invokevirtual 244, 3) := by decide +kernel
theorem dX12_readArticle_125 : decode cX12_readArticle 125 = .ok (.aload_n 0, 1) := by decide +kernel
theorem dX12_readArticle_126 : decode cX12_readArticle 126 = .ok (.getfield 35, 3) := by decide +kernel
theorem dX12_readArticle_129 : decode cX12_readArticle 129 = .ok (.sipush 2102, 3) := by decide +kernel
theorem dX12_readArticle_132 : decode cX12_readArticle 132 = .ok (.iload_n 1, 1) := by decide +kernel
theorem dX12_readArticle_133 : decode cX12_readArticle 133 = .ok (.iadd, 1) := by decide +kernel
theorem dX12_readArticle_134 : decode cX12_readArticle 134 = .ok (.aload_n 0, 1) := by decide +kernel
theorem dX12_readArticle_135 : decode cX12_readArticle 135 = .ok (.iconst 0, 1) := by decide +kernel
theorem dX12_readArticle_136 : decode cX12_readArticle 136 = .ok (.iload_n 1, 1) := by decide +kernel
theorem dX12_readArticle_137 : decode cX12_readArticle 137 = .ok (.ifCond .ne 8, 3) := by decide +kernel
theorem dX12_readArticle_140 : decode cX12_readArticle 140 = .ok (.bipush 20, 2) := by decide +kernel
theorem dX12_readArticle_142 : decode cX12_readArticle 142 = .ok (.goto 15, 3) := by decide +kernel
theorem dX12_readArticle_145 : decode cX12_readArticle 145 = .ok (.iload_n 1, 1) := by decide +kernel
theorem dX12_readArticle_146 : decode cX12_readArticle 146 = .ok (.iconst 1, 1) := by decide +kernel
theorem dX12_readArticle_147 : decode cX12_readArticle 147 = .ok (.if_icmp .ne 8, 3) := by decide +kernel
theorem dX12_readArticle_150 : decode cX12_readArticle 150 = .ok (.bipush 40, 2) := by decide +kernel
theorem dX12_readArticle_152 : decode cX12_readArticle 152 = .ok (.goto 5, 3) := by decide +kernel
theorem dX12_readArticle_155 : decode cX12_readArticle 155 = .ok (.bipush 18, 2) := by decide +kernel
theorem dX12_readArticle_157 : decode cX12_readArticle 157 = .ok (.invokevirtual 248, 3) := by decide +kernel
theorem dX12_readArticle_160 : decode cX12_readArticle 160 = .ok (.iastore, 1) := by decide +kernel
theorem dX12_readArticle_161 : decode cX12_readArticle 161 = .ok (.aload_n 0, 1) := by decide +kernel
theorem dX12_readArticle_162 : decode cX12_readArticle 162 = .ok (.getfield 218, 3) := by decide +kernel
theorem dX12_readArticle_165 : decode cX12_readArticle 165 = .ok (.ifCond .ne 14, 3) := by decide +kernel
theorem dX12_readArticle_168 : decode cX12_readArticle 168 = .ok (.aload_n 0, 1) := by decide +kernel
theorem dX12_readArticle_169 : decode cX12_readArticle 169 = .ok (.getfield 35, 3) := by decide +kernel
theorem dX12_readArticle_172 : decode cX12_readArticle 172 = .ok (.sipush 2098, 3) := by decide +kernel
theorem dX12_readArticle_175 : decode cX12_readArticle 175 = .ok (.iload_n 1, 1) := by decide +kernel
theorem dX12_readArticle_176 : decode cX12_readArticle 176 = .ok (.iadd, 1) := by decide +kernel
theorem dX12_readArticle_177 : decode cX12_readArticle 177 = .ok (.iconst 1, 1) := by decide +kernel
theorem dX12_readArticle_178 : decode cX12_readArticle 178 = .ok (.iastore, 1) := by decide +kernel
theorem dX12_readArticle_179 : decode cX12_readArticle 179 = .ok (.return_, 1) := by decide +kernel
theorem dX12_yard_0 : decode cX12_yard 0 = .ok (.aload_n 0, 1) := by decide +kernel
theorem dX12_yard_1 : decode cX12_yard 1 = .ok (.iconst 0, 1) := by decide +kernel
theorem dX12_yard_2 : decode cX12_yard 2 = .ok (.putfield 69, 3) := by decide +kernel
theorem dX12_yard_5 : decode cX12_yard 5 = .ok (.aload_n 0, 1) := by decide +kernel
theorem dX12_yard_6 : decode cX12_yard 6 = .ok (.iconst 0, 1) := by decide +kernel
theorem dX12_yard_7 : decode cX12_yard 7 = .ok (.putfield 72, 3) := by decide +kernel
theorem dX12_yard_10 : decode cX12_yard 10 = .ok (.aload_n 0, 1) := by decide +kernel
theorem dX12_yard_11 : decode cX12_yard 11 = .ok (.iload_n 1, 1) := by decide +kernel
theorem dX12_yard_12 : decode cX12_yard 12 = .ok (.sipush 900, 3) := by decide +kernel
theorem dX12_yard_15 : decode cX12_yard 15 = .ok (.invokevirtual 251, 3) := by decide +kernel
theorem dX12_yard_18 : decode cX12_yard 18 = .ok (.ifCond .ne 5, 3) := by decide +kernel
theorem dX12_yard_21 : decode cX12_yard 21 = .ok (.iconst (-1), 1) := by decide +kernel
theorem dX12_yard_22 : decode cX12_yard 22 = .ok (.ireturn, 1) := by decide +kernel
theorem dX12_yard_23 : decode cX12_yard 23 = .ok (.iconst 0, 1) := by decide +kernel
theorem dX12_yard_24 : decode cX12_yard 24 = .ok (.istore_n 2, 1) := by decide +kernel
theorem dX12_yard_25 : decode cX12_yard 25 = .ok (.iload_n 2, 1) := by decide +kernel
theorem dX12_yard_26 : decode cX12_yard 26 = .ok (.sipush 520, 3) := by decide +kernel
theorem dX12_yard_29 : decode cX12_yard 29 = .ok (.if_icmp .ge 20, 3) := by decide +kernel
theorem dX12_yard_32 : decode cX12_yard 32 = .ok (.aload_n 0, 1) := by decide +kernel
theorem dX12_yard_33 : decode cX12_yard 33 = .ok (.getfield 35, 3) := by decide +kernel
theorem dX12_yard_36 : decode cX12_yard 36 = .ok (.sipush 2080, 3) := by decide +kernel
theorem dX12_yard_39 : decode cX12_yard 39 = .ok (.iload_n 2, 1) := by decide +kernel
theorem dX12_yard_40 : decode cX12_yard 40 = .ok (.iadd, 1) := by decide +kernel
theorem dX12_yard_41 : decode cX12_yard 41 = .ok (.iconst 0, 1) := by decide +kernel
theorem dX12_yard_42 : decode cX12_yard 42 = .ok (.iastore, 1) := by decide +kernel
theorem dX12_yard_43 : decode cX12_yard 43 = .ok (.iinc 2 1, 3) := by decide +kernel
theorem dX12_yard_46 : decode cX12_yard 46 = .ok (.goto (-21), 3) := by decide +kernel
theorem dX12_yard_49 : decode cX12_yard 49 = .ok (.iconst 0, 1) := by decide +kernel
theorem dX12_yard_50 : decode cX12_yard 50 = .ok (.istore_n 2, 1) := by decide +kernel
theorem dX12_yard_51 : decode cX12_yard 51 = .ok (.iload_n 2, 1) := by decide +kernel
theorem dX12_yard_52 : decode cX12_yard 52 = .ok (.bipush 108, 2) := by decide +kernel
theorem dX12_yard_54 : decode cX12_yard 54 = .ok (.if_icmp .ge 16, 3) := by decide +kernel
theorem dX12_yard_57 : decode cX12_yard 57 = .ok (.aload_n 0, 1) := by decide +kernel
theorem dX12_yard_58 : decode cX12_yard 58 = .ok (.getfield 41, 3) := by decide +kernel
theorem dX12_yard_61 : decode cX12_yard 61 = .ok (.iload_n 2, 1) := by decide +kernel
theorem dX12_yard_62 : decode cX12_yard 62 = .ok (.iconst 0, 1) := by decide +kernel
theorem dX12_yard_63 : decode cX12_yard 63 = .ok (.iastore, 1) := by decide +kernel
theorem dX12_yard_64 : decode cX12_yard 64 = .ok (.iinc 2 1, 3) := by decide +kernel
theorem dX12_yard_67 : decode cX12_yard 67 = .ok (.goto (-16), 3) := by decide +kernel
theorem dX12_yard_70 : decode cX12_yard 70 = .ok (.aload_n 0, 1) := by decide +kernel
theorem dX12_yard_71 : decode cX12_yard 71 = .ok (.aload_n 0, 1) := by decide +kernel
theorem dX12_yard_72 : decode cX12_yard 72 = .ok (.invokevirtual 166, 3) := by decide +kernel
theorem dX12_yard_75 : decode cX12_yard 75 = .ok (.invokevirtual 244, 3) := by decide +kernel
theorem dX12_yard_78 : decode cX12_yard 78 = .ok (.aload_n 0, 1) := by decide +kernel
theorem dX12_yard_79 : decode cX12_yard 79 = .ok (.getfield 114, 3) := by decide +kernel
theorem dX12_yard_82 : decode cX12_yard 82 = .ok (.istore_n 2, 1) := by decide +kernel
theorem dX12_yard_83 : decode cX12_yard 83 = .ok (.aload_n 0, 1) := by decide +kernel
theorem dX12_yard_84 : decode cX12_yard 84 = .ok (.getfield 35, 3) := by decide +kernel
theorem dX12_yard_87 : decode cX12_yard 87 = .ok (.sipush 2080, 3) := by decide +kernel
theorem dX12_yard_90 : decode cX12_yard 90 = .ok (.aload_n 0, 1) := by decide +kernel
theorem dX12_yard_91 : decode cX12_yard 91 = .ok (.iconst 2, 1) := by decide +kernel
theorem dX12_yard_92 : decode cX12_yard 92 = .ok (.bipush 6, 2) := by decide +kernel
theorem dX12_yard_94 : decode cX12_yard 94 = .ok (.invokevirtual 248, 3) := by decide +kernel
theorem dX12_yard_97 : decode cX12_yard 97 = .ok (.iastore, 1) := by decide +kernel
theorem dX12_yard_98 : decode cX12_yard 98 = .ok (.aload_n 0, 1) := by decide +kernel
theorem dX12_yard_99 : decode cX12_yard 99 = .ok (.getfield 218, 3) := by decide +kernel
theorem dX12_yard_102 : decode cX12_yard 102 = .ok (.ifCond .ne 23, 3) := by decide +kernel
theorem dX12_yard_105 : decode cX12_yard 105 = .ok (.aload_n 0, 1) := by decide +kernel
theorem dX12_yard_106 : decode cX12_yard 106 = .ok (.getfield 35, 3) := by decide +kernel
theorem dX12_yard_109 : decode cX12_yard 109 = .ok (.sipush 2080, 3) := by decide +kernel
theorem dX12_yard_112 : decode cX12_yard 112 = .ok (.iaload, 1) := by decide +kernel
theorem dX12_yard_113 : decode cX12_yard 113 = .ok (.iconst 2, 1) := by decide +kernel
theorem dX12_yard_114 : decode cX12_yard 114 = .ok (.irem, 1) := by decide +kernel
theorem dX12_yard_115 : decode cX12_yard 115 = .ok (.iconst 1, 1) := by decide +kernel
theorem dX12_yard_116 : decode cX12_yard 116 = .ok (.if_icmp .ne 9, 3) := by decide +kernel
theorem dX12_yard_119 : decode cX12_yard 119 = .ok (.aload_n 0, 1) := by decide +kernel
theorem dX12_yard_120 : decode cX12_yard 120 = .ok (.iconst 4, 1) := by decide +kernel
theorem dX12_yard_121 : decode cX12_yard 121 = .ok (.iload_n 2, 1) := by decide +kernel
theorem dX12_yard_122 : decode cX12_yard 122 = .ok (.invokevirtual 224, 3) := by decide +kernel
theorem dX12_yard_125 : decode cX12_yard 125 = .ok (.aload_n 0, 1) := by decide +kernel
theorem dX12_yard_126 : decode cX12_yard 126 = .ok (.aload_n 0, 1) := by decide +kernel
theorem dX12_yard_127 : decode cX12_yard 127 = .ok (.invokevirtual 169, 3) := by decide +kernel
theorem dX12_yard_130 : decode cX12_yard 130 = .ok (.invokevirtual 244, 3) := by decide +kernel
theorem dX12_yard_133 : decode cX12_yard 133 = .ok (.aload_n 0, 1) := by decide +kernel
theorem dX12_yard_134 : decode cX12_yard 134 = .ok (.getfield 35, 3) := by decide +kernel
theorem dX12_yard_137 : decode cX12_yard 137 = .ok (.sipush 2081, 3) := by decide +kernel
theorem dX12_yard_140 : decode cX12_yard 140 = .ok (.aload_n 0, 1) := by decide +kernel
theorem dX12_yard_141 : decode cX12_yard 141 = .ok (.iconst 1, 1) := by decide +kernel
theorem dX12_yard_142 : decode cX12_yard 142 = .ok (.bipush 6, 2) := by decide +kernel
theorem dX12_yard_144 : decode cX12_yard 144 = .ok (.invokevirtual 248, 3) := by decide +kernel
theorem dX12_yard_147 : decode cX12_yard 147 = .ok (.iastore, 1) := by decide +kernel
theorem dX12_yard_148 : decode cX12_yard 148 = .ok (.aload_n 0, 1) := by decide +kernel
theorem dX12_yard_149 : decode cX12_yard 149 = .ok (.aload_n 0, 1) := by decide +kernel
theorem dX12_yard_150 : decode cX12_yard 150 = .ok (.bipush 59, 2) := by decide +kernel
theorem dX12_yard_152 : decode cX12_yard 152 = .ok (.invokevirtual 255, 3) := by decide +kernel
theorem dX12_yard_155 : decode cX12_yard 155 = .ok (.invokevirtual 244, 3) := by decide +kernel
theorem dX12_yard_158 : decode cX12_yard 158 = .ok (.aload_n 0, 1) := by decide +kernel
theorem dX12_yard_159 : decode cX12_yard 159 = .ok (.getfield 218, 3) := by decide +kernel
theorem dX12_yard_162 : decode cX12_yard 162 = .ok (.ifCond .ne 100, 3) := by decide +kernel
theorem dX12_yard_165 : decode cX12_yard 165 = .ok (.aload_n 0, 1) := by decide +kernel
theorem dX12_yard_166 : decode cX12_yard 166 = .ok (.getfield 120, 3) := by decide +kernel
theorem dX12_yard_169 : decode cX12_yard 169 = .ok (.ifCond .eq 93, 3) := by decide +kernel
theorem dX12_yard_172 : decode cX12_yard 172 = .ok (.aload_n 0, 1) := by decide +kernel
theorem dX12_yard_173 : decode cX12_yard 173 = .ok (.invokevirtual 172, 3) := by decide +kernel
theorem dX12_yard_176 : decode cX12_yard 176 = .ok (.ifCond .eq 10, 3) := by decide +kernel
theorem dX12_yard_179 : decode cX12_yard 179 = .ok (.aload_n 0, 1) := by decide +kernel
theorem dX12_yard_180 : decode cX12_yard 180 = .ok (.invokevirtual 258, 3) := by decide +kernel
theorem dX12_yard_183 : decode cX12_yard 183 = .ok (.goto 66, 3) := by decide +kernel
theorem dX12_yard_186 : decode cX12_yard 186 = .ok (.aload_n 0, 1) := by decide +kernel
theorem dX12_yard_187 : decode cX12_yard 187 = .ok (.invokevirtual 178, 3) := by decide +kernel
theorem dX12_yard_190 : decode cX12_yard 190 = .ok (.ifCond .eq 11, 3) := by decide +kernel
theorem dX12_yard_193 : decode cX12_yard 193 = .ok (.aload_n 0, 1) := by decide +kernel
theorem dX12_yard_194 : decode cX12_yard 194 = .ok (.iconst 0, 1) := by decide +kernel
theorem dX12_yard_195 : decode cX12_yard 195 = .ok (.invokevirtual 261, 3) := by decide +kernel
theorem dX12_yard_198 : decode cX12_yard 198 = .ok (.goto 51, 3) := by decide +kernel
theorem dX12_yard_201 : decode cX12_yard 201 = .ok (.aload_n 0, 1) := by decide +kernel
theorem dX12_yard_202 : decode cX12_yard 202 = .ok (.invokevirtual 163, 3) := by decide +kernel
theorem dX12_yard_205 : decode cX12_yard 205 = .ok (.ifCond .eq 11, 3) := by decide +kernel
theorem dX12_yard_208 : decode cX12_yard 208 = .ok (.aload_n 0, 1) := by decide +kernel
theorem dX12_yard_209 : decode cX12_yard 209 = .ok (.iconst 1, 1) := by decide +kernel
theorem dX12_yard_210 : decode cX12_yard 210 = .ok (.invokevirtual 261, 3) := by decide +kernel
theorem dX12_yard_213 : decode cX12_yard 213 = .ok (.goto 36, 3) := by decide +kernel
theorem dX12_yard_216 : decode cX12_yard 216 = .ok (.aload_n 0, 1) := by decide +kernel
theorem dX12_yard_217 : decode cX12_yard 217 = .ok (.invokevirtual 187, 3) := by decide +kernel
theorem dX12_yard_220 : decode cX12_yard 220 = .ok (.ifCond .eq 11, 3) := by decide +kernel
theorem dX12_yard_223 : decode cX12_yard 223 = .ok (.aload_n 0, 1) := by decide +kernel
theorem dX12_yard_224 : decode cX12_yard 224 = .ok (.iconst 2, 1) := by decide +kernel
theorem dX12_yard_225 : decode cX12_yard 225 = .ok (.invokevirtual 261, 3) := by decide +kernel
theorem dX12_yard_228 : decode cX12_yard 228 = .ok (.goto 21, 3) := by decide +kernel
theorem dX12_yard_231 : decode cX12_yard 231 = .ok (.aload_n 0, 1) := by decide +kernel
theorem dX12_yard_232 : decode cX12_yard 232 = .ok (.invokevirtual 193, 3) := by decide +kernel
theorem dX12_yard_235 : decode cX12_yard 235 = .ok (.ifCond .eq 10, 3) := by decide +kernel
theorem dX12_yard_238 : decode cX12_yard 238 = .ok (.aload_n 0, 1) := by decide +kernel
theorem dX12_yard_239 : decode cX12_yard 239 = .ok (.invokevirtual 264, 3) := by decide +kernel
theorem dX12_yard_242 : decode cX12_yard 242 = .ok (.goto 7, 3) := by decide +kernel
theorem dX12_yard_245 : decode cX12_yard 245 = .ok (.aload_n 0, 1) := by decide +kernel
theorem dX12_yard_246 : decode cX12_yard 246 = .ok (.invokevirtual 231, 3) := by decide +kernel
theorem dX12_yard_249 : decode cX12_yard 249 = .ok (.aload_n 0, 1) := by decide +kernel
theorem dX12_yard_250 : decode cX12_yard 250 = .ok (.aload_n 0, 1) := by decide +kernel
theorem dX12_yard_251 : decode cX12_yard 251 = .ok (.bipush 59, 2) := by decide +kernel
theorem dX12_yard_253 : decode cX12_yard 253 = .ok (.invokevirtual 255, 3) := by decide +kernel
theorem dX12_yard_256 : decode cX12_yard 256 = .ok (.invokevirtual 244, 3) := by decide +kernel
theorem dX12_yard_259 : decode cX12_yard 259 = .ok (.goto (-101), 3) := by decide +kernel
theorem dX12_yard_262 : decode cX12_yard 262 = .ok (.aload_n 0, 1) := by decide +kernel
theorem dX12_yard_263 : decode cX12_yard 263 = .ok (.invokevirtual 267, 3) := by decide +kernel
theorem dX12_yard_266 : decode cX12_yard 266 = .ok (.ifCond .ne 5, 3) := by decide +kernel
theorem dX12_yard_269 : decode cX12_yard 269 = .ok (.iconst (-1), 1) := by decide +kernel
theorem dX12_yard_270 : decode cX12_yard 270 = .ok (.ireturn, 1) := by decide +kernel
theorem dX12_yard_271 : decode cX12_yard 271 = .ok (.iconst 0, 1) := by decide +kernel
theorem dX12_yard_272 : decode cX12_yard 272 = .ok (.istore_n 3, 1) := by decide +kernel
theorem dX12_yard_273 : decode cX12_yard 273 = .ok (.iload_n 3, 1) := by decide +kernel
theorem dX12_yard_274 : decode cX12_yard 274 = .ok (.bipush 36, 2) := by decide +kernel
theorem dX12_yard_276 : decode cX12_yard 276 = .ok (.if_icmp .ge 29, 3) := by decide +kernel
theorem dX12_yard_279 : decode cX12_yard 279 = .ok (.aload_n 0, 1) := by decide +kernel
theorem dX12_yard_280 : decode cX12_yard 280 = .ok (.getfield 35, 3) := by decide +kernel
theorem dX12_yard_283 : decode cX12_yard 283 = .ok (.sipush 2214, 3) := by decide +kernel
theorem dX12_yard_286 : decode cX12_yard 286 = .ok (.iload_n 3, 1) := by decide +kernel
theorem dX12_yard_287 : decode cX12_yard 287 = .ok (.iadd, 1) := by decide +kernel
theorem dX12_yard_288 : decode cX12_yard 288 = .ok (.aload_n 0, 1) := by decide +kernel
theorem dX12_yard_289 : decode cX12_yard 289 = .ok (.getfield 35, 3) := by decide +kernel
theorem dX12_yard_292 : decode cX12_yard 292 = .ok (.sipush 2142, 3) := by decide +kernel
theorem dX12_yard_295 : decode cX12_yard 295 = .ok (.iload_n 3, 1) := by decide +kernel
theorem dX12_yard_296 : decode cX12_yard 296 = .ok (.iadd, 1) := by decide +kernel
theorem dX12_yard_297 : decode cX12_yard 297 = .ok (.iaload, 1) := by decide +kernel
theorem dX12_yard_298 : decode cX12_yard 298 = .ok (.iastore, 1) := by decide +kernel
theorem dX12_yard_299 : decode cX12_yard 299 = .ok (.iinc 3 1, 3) := by decide +kernel
theorem dX12_yard_302 : decode cX12_yard 302 = .ok (.goto (-29), 3) := by decide +kernel
theorem dX12_yard_305 : decode cX12_yard 305 = .ok (.iconst 0, 1) := by decide +kernel
theorem dX12_yard_306 : decode cX12_yard 306 = .ok (.istore_n 3, 1) := by decide +kernel
theorem dX12_yard_307 : decode cX12_yard 307 = .ok (.iload_n 3, 1) := by decide +kernel
theorem dX12_yard_308 : decode cX12_yard 308 = .ok (.sipush 520, 3) := by decide +kernel
theorem dX12_yard_311 : decode cX12_yard 311 = .ok (.if_icmp .ge 25, 3) := by decide +kernel
theorem dX12_yard_314 : decode cX12_yard 314 = .ok (.aload_n 0, 1) := by decide +kernel
theorem dX12_yard_315 : decode cX12_yard 315 = .ok (.getfield 35, 3) := by decide +kernel
theorem dX12_yard_318 : decode cX12_yard 318 = .ok (.iload_n 3, 1) := by decide +kernel
theorem dX12_yard_319 : decode cX12_yard 319 = .ok (.aload_n 0, 1) := by decide +kernel
theorem dX12_yard_320 : decode cX12_yard 320 = .ok (.getfield 35, 3) := by decide +kernel
theorem dX12_yard_323 : decode cX12_yard 323 = .ok (.sipush 2080, 3) := by decide +kernel
theorem dX12_yard_326 : decode cX12_yard 326 = .ok (.iload_n 3, 1) := by decide +kernel
theorem dX12_yard_327 : decode cX12_yard 327 = .ok (.iadd, 1) := by decide +kernel
theorem dX12_yard_328 : decode cX12_yard 328 = .ok (.iaload, 1) := by decide +kernel
theorem dX12_yard_329 : decode cX12_yard 329 = .ok (.iastore, 1) := by decide +kernel
theorem dX12_yard_330 : decode cX12_yard 330 = .ok (.iinc 3 1, 3) := by decide +kernel
theorem dX12_yard_333 : decode cX12_yard 333 = .ok (.goto (-26), 3) := by decide +kernel
theorem dX12_yard_336 : decode cX12_yard 336 = .ok (.aload_n 0, 1) := by decide +kernel
theorem dX12_yard_337 : decode cX12_yard 337 = .ok (.getfield 35, 3) := by decide +kernel
theorem dX12_yard_340 : decode cX12_yard 340 = .ok (.iconst 0, 1) := by decide +kernel
theorem dX12_yard_341 : decode cX12_yard 341 = .ok (.iaload, 1) := by decide +kernel
theorem dX12_yard_342 : decode cX12_yard 342 = .ok (.aload_n 0, 1) := by decide +kernel
theorem dX12_yard_343 : decode cX12_yard 343 = .ok (.getfield 35, 3) := by decide +kernel
theorem dX12_yard_346 : decode cX12_yard 346 = .ok (.iconst 1, 1) := by decide +kernel
theorem dX12_yard_347 : decode cX12_yard 347 = .ok (.iaload, 1) := by decide +kernel
theorem dX12_yard_348 : decode cX12_yard 348 = .ok (.imul, 1) := by decide +kernel
theorem dX12_yard_349 : decode cX12_yard 349 = .ok (.ireturn, 1) := by decide +kernel
theorem dX12_readPlace_0 : decode cX12_readPlace 0 = .ok (.aload_n 0, 1) := by decide +kernel
theorem dX12_readPlace_1 : decode cX12_readPlace 1 = .ok (.getfield 114, 3) := by decide +kernel
theorem dX12_readPlace_4 : decode cX12_readPlace 4 = .ok (.istore_n 2, 1) := by decide +kernel
theorem dX12_readPlace_5 : decode cX12_readPlace 5 = .ok (.aload_n 0, 1) := by decide +kernel
theorem dX12_readPlace_6 : decode cX12_readPlace 6 = .ok (.iconst 0, 1) := by decide +kernel
theorem dX12_readPlace_7 : decode cX12_readPlace 7 = .ok (.aload_n 0, 1) := by decide +kernel
theorem dX12_readPlace_8 : decode cX12_readPlace 8 = .ok (.getfield 35, 3) := by decide +kernel
theorem dX12_readPlace_11 : decode cX12_readPlace 11 = .ok (.iconst 0, 1) := by decide +kernel
theorem dX12_readPlace_12 : decode cX12_readPlace 12 = .ok (.iaload, 1) := by decide +kernel
theorem dX12_readPlace_13 : decode cX12_readPlace 13 = .ok (.iconst 1, 1) := by decide +kernel
theorem dX12_readPlace_14 : decode cX12_readPlace 14 = .ok (.isub, 1) := by decide +kernel
theorem dX12_readPlace_15 : decode cX12_readPlace 15 = .ok (.invokevirtual 248, 3) := by decide +kernel
theorem dX12_readPlace_18 : decode cX12_readPlace 18 = .ok (.istore_n 3, 1) := by decide +kernel
theorem dX12_readPlace_19 : decode cX12_readPlace 19 = .ok (.aload_n 0, 1) := by decide +kernel
theorem dX12_readPlace_20 : decode cX12_readPlace 20 = .ok (.getfield 218, 3) := by decide +kernel
theorem dX12_readPlace_23 : decode cX12_readPlace 23 = .ok (.ifCond .ne 27, 3) := by decide +kernel
theorem dX12_readPlace_26 : decode cX12_readPlace 26 = .ok (.iload_n 1, 1) := by decide +kernel
theorem dX12_readPlace_27 : decode cX12_readPlace 27 = .ok (.ifCond .eq 23, 3) := by decide +kernel
theorem dX12_readPlace_30 : decode cX12_readPlace 30 = .ok (.aload_n 0, 1) := by decide +kernel
theorem dX12_readPlace_31 : decode cX12_readPlace 31 = .ok (.iload_n 3, 1) := by decide +kernel
theorem dX12_readPlace_32 : decode cX12_readPlace 32 = .ok (.invokevirtual 270, 3) := by decide +kernel
theorem dX12_readPlace_35 : decode cX12_readPlace 35 = .ok (.aload_n 0, 1) := by decide +kernel
theorem dX12_readPlace_36 : decode cX12_readPlace 36 = .ok (.getfield 35, 3) := by decide +kernel
theorem dX12_readPlace_39 : decode cX12_readPlace 39 = .ok (.iconst 2, 1) := by decide +kernel
theorem dX12_readPlace_40 : decode cX12_readPlace 40 = .ok (.iaload, 1) := by decide +kernel
theorem dX12_readPlace_41 : decode cX12_readPlace 41 = .ok (.if_icmp .lt 9, 3) := by decide +kernel
theorem dX12_readPlace_44 : decode cX12_readPlace 44 = .ok (.aload_n 0, 1) := by decide +kernel
theorem dX12_readPlace_45 : decode cX12_readPlace 45 = .ok (.iconst 4, 1) := by decide +kernel
theorem dX12_readPlace_46 : decode cX12_readPlace 46 = .ok (.iload_n 2, 1) := by decide +kernel
theorem dX12_readPlace_47 : decode cX12_readPlace 47 = .ok (.invokevirtual 224, 3) := by decide +kernel
theorem dX12_readPlace_50 : decode cX12_readPlace 50 = .ok (.aload_n 0, 1) := by decide +kernel
theorem dX12_readPlace_51 : decode cX12_readPlace 51 = .ok (.iconst 0, 1) := by decide +kernel
theorem dX12_readPlace_52 : decode cX12_readPlace 52 = .ok (.aload_n 0, 1) := by decide +kernel
theorem dX12_readPlace_53 : decode cX12_readPlace 53 = .ok (.getfield 35, 3) := by decide +kernel
theorem dX12_readPlace_56 : decode cX12_readPlace 56 = .ok (.iconst 1, 1) := by decide +kernel
theorem dX12_readPlace_57 : decode cX12_readPlace 57 = .ok (.iaload, 1) := by decide +kernel
theorem dX12_readPlace_58 : decode cX12_readPlace 58 = .ok (.iconst 1, 1) := by decide +kernel
theorem dX12_readPlace_59 : decode cX12_readPlace 59 = .ok (.isub, 1) := by decide +kernel
theorem dX12_readPlace_60 : decode cX12_readPlace 60 = .ok (.invokevirtual 248, 3) := by decide +kernel
theorem dX12_readPlace_63 : decode cX12_readPlace 63 = .ok (.istore 4, 2) := by decide +kernel
theorem dX12_readPlace_65 : decode cX12_readPlace 65 = .ok (.bipush 6, 2) := by decide +kernel
theorem dX12_readPlace_67 : decode cX12_readPlace 67 = .ok (.iload 4, 2) := by decide +kernel
theorem dX12_readPlace_69 : decode cX12_readPlace 69 = .ok (.imul, 1) := by decide +kernel
theorem dX12_readPlace_70 : decode cX12_readPlace 70 = .ok (.iload_n 3, 1) := by decide +kernel
theorem dX12_readPlace_71 : decode cX12_readPlace 71 = .ok (.iadd, 1) := by decide +kernel
theorem dX12_readPlace_72 : decode cX12_readPlace 72 = .ok (.ireturn, 1) := by decide +kernel
theorem dX12_readTest_0 : decode cX12_readTest 0 = .ok (.aload_n 0, 1) := by decide +kernel
theorem dX12_readTest_1 : decode cX12_readTest 1 = .ok (.invokevirtual 212, 3) := by decide +kernel
theorem dX12_readTest_4 : decode cX12_readTest 4 = .ok (.istore_n 2, 1) := by decide +kernel
theorem dX12_readTest_5 : decode cX12_readTest 5 = .ok (.aload_n 0, 1) := by decide +kernel
theorem dX12_readTest_6 : decode cX12_readTest 6 = .ok (.iload_n 2, 1) := by decide +kernel
theorem dX12_readTest_7 : decode cX12_readTest 7 = .ok (.ifCond .lt 7, 3) := by decide +kernel
theorem dX12_readTest_10 : decode cX12_readTest 10 = .ok (.iconst 1, 1) := by decide +kernel
theorem dX12_readTest_11 : decode cX12_readTest 11 = .ok (.goto 4, 3) := by decide +kernel
theorem dX12_readTest_14 : decode cX12_readTest 14 = .ok (.iconst 0, 1) := by decide +kernel
theorem dX12_readTest_15 : decode cX12_readTest 15 = .ok (.invokevirtual 244, 3) := by decide +kernel
theorem dX12_readTest_18 : decode cX12_readTest 18 = .ok (.aload_n 0, 1) := by decide +kernel
theorem dX12_readTest_19 : decode cX12_readTest 19 = .ok (.getfield 35, 3) := by decide +kernel
theorem dX12_readTest_22 : decode cX12_readTest 22 = .ok (.iload_n 1, 1) := by decide +kernel
theorem dX12_readTest_23 : decode cX12_readTest 23 = .ok (.bipush 6, 2) := by decide +kernel
theorem dX12_readTest_25 : decode cX12_readTest 25 = .ok (.iadd, 1) := by decide +kernel
theorem dX12_readTest_26 : decode cX12_readTest 26 = .ok (.iload_n 2, 1) := by decide +kernel
theorem dX12_readTest_27 : decode cX12_readTest 27 = .ok (.iastore, 1) := by decide +kernel
theorem dX12_readTest_28 : decode cX12_readTest 28 = .ok (.iload_n 2, 1) := by decide +kernel
theorem dX12_readTest_29 : decode cX12_readTest 29 = .ok (.iconst 1, 1) := by decide +kernel
theorem dX12_readTest_30 : decode cX12_readTest 30 = .ok (.if_icmp .ne 16, 3) := by decide +kernel
theorem dX12_readTest_33 : decode cX12_readTest 33 = .ok (.aload_n 0, 1) := by decide +kernel
theorem dX12_readTest_34 : decode cX12_readTest 34 = .ok (.getfield 35, 3) := by decide +kernel
theorem dX12_readTest_37 : decode cX12_readTest 37 = .ok (.iload_n 1, 1) := by decide +kernel
theorem dX12_readTest_38 : decode cX12_readTest 38 = .ok (.iconst 1, 1) := by decide +kernel
theorem dX12_readTest_39 : decode cX12_readTest 39 = .ok (.iadd, 1) := by decide +kernel
theorem dX12_readTest_40 : decode cX12_readTest 40 = .ok (.aload_n 0, 1) := by decide +kernel
theorem dX12_readTest_41 : decode cX12_readTest 41 = .ok (.iconst 0, 1) := by decide +kernel
theorem dX12_readTest_42 : decode cX12_readTest 42 = .ok (.invokevirtual 273, 3) := by decide +kernel
theorem dX12_readTest_45 : decode cX12_readTest 45 = .ok (.iastore, 1) := by decide +kernel
theorem dX12_readTest_46 : decode cX12_readTest 46 = .ok (.aload_n 0, 1) := by decide +kernel
theorem dX12_readTest_47 : decode cX12_readTest 47 = .ok (.getfield 218, 3) := by decide +kernel
theorem dX12_readTest_50 : decode cX12_readTest 50 = .ok (.ifCond .gt 8, 3) := by decide +kernel
theorem dX12_readTest_53 : decode cX12_readTest 53 = .ok (.iload_n 2, 1) := by decide +kernel
theorem dX12_readTest_54 : decode cX12_readTest 54 = .ok (.iconst 2, 1) := by decide +kernel
theorem dX12_readTest_55 : decode cX12_readTest 55 = .ok (.if_icmp .ne 4, 3) := by decide +kernel
theorem dX12_readTest_58 : decode cX12_readTest 58 = .ok (.return_, 1) := by decide +kernel
theorem dX12_readTest_59 : decode cX12_readTest 59 = .ok (.aload_n 0, 1) := by decide +kernel
theorem dX12_readTest_60 : decode cX12_readTest 60 = .ok (.getfield 35, 3) := by decide +kernel
theorem dX12_readTest_63 : decode cX12_readTest 63 = .ok (.iload_n 1, 1) := by decide +kernel
theorem dX12_readTest_64 : decode cX12_readTest 64 = .ok (.bipush 7, 2) := by decide +kernel
theorem dX12_readTest_66 : decode cX12_readTest 66 = .ok (.iadd, 1) := by decide +kernel
theorem dX12_readTest_67 : decode cX12_readTest 67 = .ok (.aload_n 0, 1) := by decide +kernel
theorem dX12_readTest_68 : decode cX12_readTest 68 = .ok (.getfield 120, 3) := by decide +kernel
theorem dX12_readTest_71 : decode cX12_readTest 71 = .ok (.iconst 3, 1) := by decide +kernel
theorem dX12_readTest_72 : decode cX12_readTest 72 = .ok (.if_icmp .ne 10, 3) := by decide +kernel
theorem dX12_readTest_75 : decode cX12_readTest 75 = .ok (.aload_n 0, 1) := by decide +kernel
theorem dX12_readTest_76 : decode cX12_readTest 76 = .ok (.getfield 139, 3) := by decide +kernel
theorem dX12_readTest_79 : decode cX12_readTest 79 = .ok (.goto 4, 3) := by decide +kernel
theorem dX12_readTest_82 : decode cX12_readTest 82 = .ok (.iconst 0, 1) := by decide +kernel
theorem dX12_readTest_83 : decode cX12_readTest 83 = .ok (.iastore, 1) := by decide +kernel
theorem dX12_readTest_84 : decode cX12_readTest 84 = .ok (.aload_n 0, 1) := by decide +kernel
theorem dX12_readTest_85 : decode cX12_readTest 85 = .ok (.aload_n 0, 1) := by decide +kernel
theorem dX12_readTest_86 : decode cX12_readTest 86 = .ok (.bipush 60, 2) := by decide +kernel
theorem dX12_readTest_88 : decode cX12_readTest 88 = .ok (.invokevirtual 255, 3) := by decide +kernel
theorem dX12_readTest_91 : decode cX12_readTest 91 = .ok (.ifCond .ne 21, 3) := by decide +kernel
theorem dX12_readTest_94 : decode cX12_readTest 94 = .ok (.aload_n 0, 1) := by decide +kernel
theorem dX12_readTest_95 : decode cX12_readTest 95 = .ok (.bipush 62, 2) := by decide +kernel
theorem dX12_readTest_97 : decode cX12_readTest 97 = .ok (.invokevirtual 255, 3) := by decide +kernel
theorem dX12_readTest_100 : decode cX12_readTest 100 = .ok (.ifCond .ne 12, 3) := by decide +kernel
theorem dX12_readTest_103 : decode cX12_readTest 103 = .ok (.aload_n 0, 1) := by decide +kernel
theorem dX12_readTest_104 : decode cX12_readTest 104 = .ok (.bipush 61, 2) := by decide +kernel
theorem dX12_readTest_106 : decode cX12_readTest 106 = .ok (.invokevirtual 255, 3) := by decide +kernel
theorem dX12_readTest_109 : decode cX12_readTest 109 = .ok (.ifCond .eq 7, 3) := by decide +kernel
theorem dX12_readTest_112 : decode cX12_readTest 112 = .ok (.iconst 1, 1) := by decide +kernel
theorem dX12_readTest_113 : decode cX12_readTest 113 = .ok (.goto 4, 3) := by decide +kernel
theorem dX12_readTest_116 : decode cX12_readTest 116 = .ok (.iconst 0, 1) := by decide +kernel
theorem dX12_readTest_117 : decode cX12_readTest 117 = .ok (.invokevirtual 244, 3) := by decide +kernel
theorem dX12_readTest_120 : decode cX12_readTest 120 = .ok (.aload_n 0, 1) := by decide +kernel
theorem dX12_readTest_121 : decode cX12_readTest 121 = .ok (.getfield 35, 3) := by decide +kernel
theorem dX12_readTest_124 : decode cX12_readTest 124 = .ok (.iload_n 1, 1) := by decide +kernel
theorem dX12_readTest_125 : decode cX12_readTest 125 = .ok (.iconst 2, 1) := by decide +kernel
theorem dX12_readTest_126 : decode cX12_readTest 126 = .ok (.iadd, 1) := by decide +kernel
theorem dX12_readTest_127 : decode cX12_readTest 127 = .ok (.aload_n 0, 1) := by decide +kernel
theorem dX12_readTest_128 : decode cX12_readTest 128 = .ok (.iconst 0, 1) := by decide +kernel
theorem dX12_readTest_129 : decode cX12_readTest 129 = .ok (.iload_n 2, 1) := by decide +kernel
theorem dX12_readTest_130 : decode cX12_readTest 130 = .ok (.iconst 1, 1) := by decide +kernel
theorem dX12_readTest_131 : decode cX12_readTest 131 = .ok (.if_icmp .ne 8, 3) := by decide +kernel
theorem dX12_readTest_134 : decode cX12_readTest 134 = .ok (.bipush 99, 2) := by decide +kernel
theorem dX12_readTest_136 : decode cX12_readTest 136 = .ok (.goto 6, 3) := by decide +kernel
theorem dX12_readTest_139 : decode cX12_readTest 139 = .ok (.sipush 999, 3) := by decide +kernel
theorem dX12_readTest_142 : decode cX12_readTest 142 = .ok (.invokevirtual 248, 3) := by decide +kernel
theorem dX12_readTest_145 : decode cX12_readTest 145 = .ok (.iastore, 1) := by decide +kernel
theorem dX12_readTest_146 : decode cX12_readTest 146 = .ok (.return_, 1) := by decide +kernel
theorem dX12_readSteal_0 : decode cX12_readSteal 0 = .ok (.aload_n 0, 1) := by decide +kernel
theorem dX12_readSteal_1 : decode cX12_readSteal 1 = .ok (.getfield 35, 3) := by decide +kernel
theorem dX12_readSteal_4 : decode cX12_readSteal 4 = .ok (.iload_n 1, 1) := by decide +kernel
theorem dX12_readSteal_5 : decode cX12_readSteal 5 = .ok (.iconst 1, 1) := by decide +kernel
theorem dX12_readSteal_6 : decode cX12_readSteal 6 = .ok (.iadd, 1) := by decide +kernel
theorem dX12_readSteal_7 : decode cX12_readSteal 7 = .ok (.aload_n 0, 1) := by decide +kernel
theorem dX12_readSteal_8 : decode cX12_readSteal 8 = .ok (.iconst 1, 1) := by decide +kernel
theorem dX12_readSteal_9 : decode cX12_readSteal 9 = .ok (.invokevirtual 273, 3) := by decide +kernel
theorem dX12_readSteal_12 : decode cX12_readSteal 12 = .ok (.iastore, 1) := by decide +kernel
theorem dX12_readSteal_13 : decode cX12_readSteal 13 = .ok (.aload_n 0, 1) := by decide +kernel
theorem dX12_readSteal_14 : decode cX12_readSteal 14 = .ok (.aload_n 0, 1) := by decide +kernel
theorem dX12_readSteal_15 : decode cX12_readSteal 15 = .ok (.invokevirtual 205, 3) := by decide +kernel
theorem dX12_readSteal_18 : decode cX12_readSteal 18 = .ok (.invokevirtual 244, 3) := by decide +kernel
theorem dX12_readSteal_21 : decode cX12_readSteal 21 = .ok (.aload_n 0, 1) := by decide +kernel
theorem dX12_readSteal_22 : decode cX12_readSteal 22 = .ok (.iconst 0, 1) := by decide +kernel
theorem dX12_readSteal_23 : decode cX12_readSteal 23 = .ok (.aload_n 0, 1) := by decide +kernel
theorem dX12_readSteal_24 : decode cX12_readSteal 24 = .ok (.getfield 35, 3) := by decide +kernel
theorem dX12_readSteal_27 : decode cX12_readSteal 27 = .ok (.iconst 0, 1) := by decide +kernel
theorem dX12_readSteal_28 : decode cX12_readSteal 28 = .ok (.iaload, 1) := by decide +kernel
theorem dX12_readSteal_29 : decode cX12_readSteal 29 = .ok (.iconst 1, 1) := by decide +kernel
theorem dX12_readSteal_30 : decode cX12_readSteal 30 = .ok (.isub, 1) := by decide +kernel
theorem dX12_readSteal_31 : decode cX12_readSteal 31 = .ok (.invokevirtual 248, 3) := by decide +kernel
theorem dX12_readSteal_34 : decode cX12_readSteal 34 = .ok (.istore_n 2, 1) := by decide +kernel
theorem dX12_readSteal_35 : decode cX12_readSteal 35 = .ok (.aload_n 0, 1) := by decide +kernel
theorem dX12_readSteal_36 : decode cX12_readSteal 36 = .ok (.getfield 114, 3) := by decide +kernel
theorem dX12_readSteal_39 : decode cX12_readSteal 39 = .ok (.istore_n 3, 1) := by decide +kernel
theorem dX12_readSteal_40 : decode cX12_readSteal 40 = .ok (.aload_n 0, 1) := by decide +kernel
theorem dX12_readSteal_41 : decode cX12_readSteal 41 = .ok (.iconst 0, 1) := by decide +kernel
theorem dX12_readSteal_42 : decode cX12_readSteal 42 = .ok (.aload_n 0, 1) := by decide +kernel
theorem dX12_readSteal_43 : decode cX12_readSteal 43 = .ok (.getfield 35, 3) := by decide +kernel
theorem dX12_readSteal_46 : decode cX12_readSteal 46 = .ok (.iconst 1, 1) := by decide +kernel
theorem dX12_readSteal_47 : decode cX12_readSteal 47 = .ok (.iaload, 1) := by decide +kernel
theorem dX12_readSteal_48 : decode cX12_readSteal 48 = .ok (.iconst 1, 1) := by decide +kernel
theorem dX12_readSteal_49 : decode cX12_readSteal 49 = .ok (.isub, 1) := by decide +kernel
theorem dX12_readSteal_50 : decode cX12_readSteal 50 = .ok (.invokevirtual 248, 3) := by decide +kernel
theorem dX12_readSteal_53 : decode cX12_readSteal 53 = .ok (.istore 4, 2) := by decide +kernel
theorem dX12_readSteal_55 : decode cX12_readSteal 55 = .ok (.aload_n 0, 1) := by decide +kernel
theorem dX12_readSteal_56 : decode cX12_readSteal 56 = .ok (.getfield 218, 3) := by decide +kernel
theorem dX12_readSteal_59 : decode cX12_readSteal 59 = .ok (.ifCond .ne 32, 3) := by decide +kernel
theorem dX12_readSteal_62 : decode cX12_readSteal 62 = .ok (.aload_n 0, 1) := by decide +kernel
theorem dX12_readSteal_63 : decode cX12_readSteal 63 = .ok (.iload_n 2, 1) := by decide +kernel
theorem dX12_readSteal_64 : decode cX12_readSteal 64 = .ok (.invokevirtual 270, 3) := by decide +kernel
theorem dX12_readSteal_67 : decode cX12_readSteal 67 = .ok (.aload_n 0, 1) := by decide +kernel
theorem dX12_readSteal_68 : decode cX12_readSteal 68 = .ok (.aload_n 0, 1) := by decide +kernel
theorem dX12_readSteal_69 : decode cX12_readSteal 69 = .ok (.getfield 35, 3) := by decide +kernel
theorem dX12_readSteal_72 : decode cX12_readSteal 72 = .ok (.iload_n 1, 1) := by decide +kernel
theorem dX12_readSteal_73 : decode cX12_readSteal 73 = .ok (.iconst 1, 1) := by decide +kernel
theorem dX12_readSteal_74 : decode cX12_readSteal 74 = .ok (.iadd, 1) := by decide +kernel
theorem dX12_readSteal_75 : decode cX12_readSteal 75 = .ok (.iaload, 1) := by decide +kernel
theorem dX12_readSteal_76 : decode cX12_readSteal 76 = .ok (.bipush 6, 2) := by decide +kernel
theorem dX12_readSteal_78 : decode cX12_readSteal 78 = .ok (.irem, 1) := by decide +kernel
theorem dX12_readSteal_79 : decode cX12_readSteal 79 = .ok (.invokevirtual 270, 3) := by decide +kernel
theorem dX12_readSteal_82 : decode cX12_readSteal 82 = .ok (.if_icmp .ne 9, 3) := by decide +kernel
theorem dX12_readSteal_85 : decode cX12_readSteal 85 = .ok (.aload_n 0, 1) := by decide +kernel
theorem dX12_readSteal_86 : decode cX12_readSteal 86 = .ok (.iconst 4, 1) := by decide +kernel
theorem dX12_readSteal_87 : decode cX12_readSteal 87 = .ok (.iload_n 3, 1) := by decide +kernel
theorem dX12_readSteal_88 : decode cX12_readSteal 88 = .ok (.invokevirtual 224, 3) := by decide +kernel
theorem dX12_readSteal_91 : decode cX12_readSteal 91 = .ok (.aload_n 0, 1) := by decide +kernel
theorem dX12_readSteal_92 : decode cX12_readSteal 92 = .ok (.getfield 35, 3) := by decide +kernel
theorem dX12_readSteal_95 : decode cX12_readSteal 95 = .ok (.iload_n 1, 1) := by decide +kernel
theorem dX12_readSteal_96 : decode cX12_readSteal 96 = .ok (.iconst 2, 1) := by decide +kernel
theorem dX12_readSteal_97 : decode cX12_readSteal 97 = .ok (.iadd, 1) := by decide +kernel
theorem dX12_readSteal_98 : decode cX12_readSteal 98 = .ok (.bipush 6, 2) := by decide +kernel
theorem dX12_readSteal_100 : decode cX12_readSteal 100 = .ok (.iload 4, 2) := by decide +kernel
theorem dX12_readSteal_102 : decode cX12_readSteal 102 = .ok (.imul, 1) := by decide +kernel
theorem dX12_readSteal_103 : decode cX12_readSteal 103 = .ok (.iload_n 2, 1) := by decide +kernel
theorem dX12_readSteal_104 : decode cX12_readSteal 104 = .ok (.iadd, 1) := by decide +kernel
theorem dX12_readSteal_105 : decode cX12_readSteal 105 = .ok (.iastore, 1) := by decide +kernel
theorem dX12_readSteal_106 : decode cX12_readSteal 106 = .ok (.aload_n 0, 1) := by decide +kernel
theorem dX12_readSteal_107 : decode cX12_readSteal 107 = .ok (.aload_n 0, 1) := by decide +kernel
theorem dX12_readSteal_108 : decode cX12_readSteal 108 = .ok (.invokevirtual 190, 3) := by decide +kernel
theorem dX12_readSteal_111 : decode cX12_readSteal 111 = .ok (.invokevirtual 244, 3) := by decide +kernel
theorem dX12_readSteal_114 : decode cX12_readSteal 114 = .ok (.aload_n 0, 1) := by decide +kernel
theorem dX12_readSteal_115 : decode cX12_readSteal 115 = .ok (.getfield 35, 3) := by decide +kernel
theorem dX12_readSteal_118 : decode cX12_readSteal 118 = .ok (.iload_n 1, 1) := by decide +kernel
theorem dX12_readSteal_119 : decode cX12_readSteal 119 = .ok (.iconst 3, 1) := by decide +kernel
theorem dX12_readSteal_120 : decode cX12_readSteal 120 = .ok (.iadd, 1) := by decide +kernel
theorem dX12_readSteal_121 : decode cX12_readSteal 121 = .ok (.aload_n 0, 1) := by decide +kernel
theorem dX12_readSteal_122 : decode cX12_readSteal 122 = .ok (.iconst 1, 1) := by decide +kernel
theorem dX12_readSteal_123 : decode cX12_readSteal 123 = .ok (.bipush 40, 2) := by decide +kernel
theorem dX12_readSteal_125 : decode cX12_readSteal 125 = .ok (.invokevirtual 248, 3) := by decide +kernel
theorem dX12_readSteal_128 : decode cX12_readSteal 128 = .ok (.iastore, 1) := by decide +kernel
theorem dX12_readSteal_129 : decode cX12_readSteal 129 = .ok (.return_, 1) := by decide +kernel
theorem dX12_readRest_0 : decode cX12_readRest 0 = .ok (.aload_n 0, 1) := by decide +kernel
theorem dX12_readRest_1 : decode cX12_readRest 1 = .ok (.getfield 35, 3) := by decide +kernel
theorem dX12_readRest_4 : decode cX12_readRest 4 = .ok (.iload_n 1, 1) := by decide +kernel
theorem dX12_readRest_5 : decode cX12_readRest 5 = .ok (.iaload, 1) := by decide +kernel
theorem dX12_readRest_6 : decode cX12_readRest 6 = .ok (.istore_n 2, 1) := by decide +kernel
theorem dX12_readRest_7 : decode cX12_readRest 7 = .ok (.iload_n 2, 1) := by decide +kernel
theorem dX12_readRest_8 : decode cX12_readRest 8 = .ok (.iconst 2, 1) := by decide +kernel
theorem dX12_readRest_9 : decode cX12_readRest 9 = .ok (.if_icmp .ge 21, 3) := by decide +kernel
theorem dX12_readRest_12 : decode cX12_readRest 12 = .ok (.aload_n 0, 1) := by decide +kernel
theorem dX12_readRest_13 : decode cX12_readRest 13 = .ok (.getfield 35, 3) := by decide +kernel
theorem dX12_readRest_16 : decode cX12_readRest 16 = .ok (.iload_n 1, 1) := by decide +kernel
theorem dX12_readRest_17 : decode cX12_readRest 17 = .ok (.iconst 1, 1) := by decide +kernel
theorem dX12_readRest_18 : decode cX12_readRest 18 = .ok (.iadd, 1) := by decide +kernel
theorem dX12_readRest_19 : decode cX12_readRest 19 = .ok (.aload_n 0, 1) := by decide +kernel
theorem dX12_readRest_20 : decode cX12_readRest 20 = .ok (.iconst 0, 1) := by decide +kernel
theorem dX12_readRest_21 : decode cX12_readRest 21 = .ok (.bipush 40, 2) := by decide +kernel
theorem dX12_readRest_23 : decode cX12_readRest 23 = .ok (.invokevirtual 248, 3) := by decide +kernel
theorem dX12_readRest_26 : decode cX12_readRest 26 = .ok (.iastore, 1) := by decide +kernel
theorem dX12_readRest_27 : decode cX12_readRest 27 = .ok (.goto 169, 3) := by decide +kernel
theorem dX12_readRest_30 : decode cX12_readRest 30 = .ok (.iload_n 2, 1) := by decide +kernel
theorem dX12_readRest_31 : decode cX12_readRest 31 = .ok (.iconst 2, 1) := by decide +kernel
theorem dX12_readRest_32 : decode cX12_readRest 32 = .ok (.if_icmp .ne 51, 3) := by decide +kernel
theorem dX12_readRest_35 : decode cX12_readRest 35 = .ok (.aload_n 0, 1) := by decide +kernel
theorem dX12_readRest_36 : decode cX12_readRest 36 = .ok (.getfield 35, 3) := by decide +kernel
theorem dX12_readRest_39 : decode cX12_readRest 39 = .ok (.iload_n 1, 1) := by decide +kernel
theorem dX12_readRest_40 : decode cX12_readRest 40 = .ok (.iconst 1, 1) := by decide +kernel
theorem dX12_readRest_41 : decode cX12_readRest 41 = .ok (.iadd, 1) := by decide +kernel
theorem dX12_readRest_42 : decode cX12_readRest 42 = .ok (.aload_n 0, 1) := by decide +kernel
theorem dX12_readRest_43 : decode cX12_readRest 43 = .ok (.iconst 0, 1) := by decide +kernel
theorem dX12_readRest_44 : decode cX12_readRest 44 = .ok (.bipush 40, 2) := by decide +kernel
theorem dX12_readRest_46 : decode cX12_readRest 46 = .ok (.invokevirtual 248, 3) := by decide +kernel
theorem dX12_readRest_49 : decode cX12_readRest 49 = .ok (.iastore, 1) := by decide +kernel
theorem dX12_readRest_50 : decode cX12_readRest 50 = .ok (.aload_n 0, 1) := by decide +kernel
theorem dX12_readRest_51 : decode cX12_readRest 51 = .ok (.aload_n 0, 1) := by decide +kernel
theorem dX12_readRest_52 : decode cX12_readRest 52 = .ok (.invokevirtual 202, 3) := by decide +kernel
theorem dX12_readRest_55 : decode cX12_readRest 55 = .ok (.invokevirtual 244, 3) := by decide +kernel
theorem dX12_readRest_58 : decode cX12_readRest 58 = .ok (.aload_n 0, 1) := by decide +kernel
theorem dX12_readRest_59 : decode cX12_readRest 59 = .ok (.getfield 35, 3) := by decide +kernel
theorem dX12_readRest_62 : decode cX12_readRest 62 = .ok (.iload_n 1, 1) := by decide +kernel
theorem dX12_readRest_63 : decode cX12_readRest 63 = .ok (.iconst 2, 1) := by decide +kernel
theorem dX12_readRest_64 : decode cX12_readRest 64 = .ok (.iadd, 1) := by decide +kernel
theorem dX12_readRest_65 : decode cX12_readRest 65 = .ok (.aload_n 0, 1) := by decide +kernel
theorem dX12_readRest_66 : decode cX12_readRest 66 = .ok (.aload_n 0, 1) := by decide +kernel
theorem dX12_readRest_67 : decode cX12_readRest 67 = .ok (.getfield 35, 3) := by decide +kernel
theorem dX12_readRest_70 : decode cX12_readRest 70 = .ok (.iload_n 1, 1) := by decide +kernel
theorem dX12_readRest_71 : decode cX12_readRest 71 = .ok (.iconst 1, 1) := by decide +kernel
theorem dX12_readRest_72 : decode cX12_readRest 72 = .ok (.iadd, 1) := by decide +kernel
theorem dX12_readRest_73 : decode cX12_readRest 73 = .ok (.iaload, 1) := by decide +kernel
theorem dX12_readRest_74 : decode cX12_readRest 74 = .ok (.bipush 40, 2) := by decide +kernel
theorem dX12_readRest_76 : decode cX12_readRest 76 = .ok (.invokevirtual 248, 3) := by decide +kernel
theorem dX12_readRest_79 : decode cX12_readRest 79 = .ok (.iastore, 1) := by decide +kernel
theorem dX12_readRest_80 : decode cX12_readRest 80 = .ok (.goto 116, 3) := by decide +kernel
theorem dX12_readRest_83 : decode cX12_readRest 83 = .ok (.iload_n 2, 1) := by decide +kernel
theorem dX12_readRest_84 : decode cX12_readRest 84 = .ok (.iconst 3, 1) := by decide +kernel
theorem dX12_readRest_85 : decode cX12_readRest 85 = .ok (.if_icmp .ne 42, 3) := by decide +kernel
theorem dX12_readRest_88 : decode cX12_readRest 88 = .ok (.aload_n 0, 1) := by decide +kernel
theorem dX12_readRest_89 : decode cX12_readRest 89 = .ok (.getfield 35, 3) := by decide +kernel
theorem dX12_readRest_92 : decode cX12_readRest 92 = .ok (.iload_n 1, 1) := by decide +kernel
theorem dX12_readRest_93 : decode cX12_readRest 93 = .ok (.iconst 1, 1) := by decide +kernel
theorem dX12_readRest_94 : decode cX12_readRest 94 = .ok (.iadd, 1) := by decide +kernel
theorem dX12_readRest_95 : decode cX12_readRest 95 = .ok (.aload_n 0, 1) := by decide +kernel
theorem dX12_readRest_96 : decode cX12_readRest 96 = .ok (.iconst 1, 1) := by decide +kernel
theorem dX12_readRest_97 : decode cX12_readRest 97 = .ok (.invokevirtual 273, 3) := by decide +kernel
theorem dX12_readRest_100 : decode cX12_readRest 100 = .ok (.iastore, 1) := by decide +kernel
theorem dX12_readRest_101 : decode cX12_readRest 101 = .ok (.aload_n 0, 1) := by decide +kernel
theorem dX12_readRest_102 : decode cX12_readRest 102 = .ok (.aload_n 0, 1) := by decide +kernel
theorem dX12_readRest_103 : decode cX12_readRest 103 = .ok (.invokevirtual 190, 3) := by decide +kernel
theorem dX12_readRest_106 : decode cX12_readRest 106 = .ok (.invokevirtual 244, 3) := by decide +kernel
theorem dX12_readRest_109 : decode cX12_readRest 109 = .ok (.aload_n 0, 1) := by decide +kernel
theorem dX12_readRest_110 : decode cX12_readRest 110 = .ok (.getfield 35, 3) := by decide +kernel
theorem dX12_readRest_113 : decode cX12_readRest 113 = .ok (.iload_n 1, 1) := by decide +kernel
theorem dX12_readRest_114 : decode cX12_readRest 114 = .ok (.iconst 2, 1) := by decide +kernel
theorem dX12_readRest_115 : decode cX12_readRest 115 = .ok (.iadd, 1) := by decide +kernel
theorem dX12_readRest_116 : decode cX12_readRest 116 = .ok (.aload_n 0, 1) := by decide +kernel
theorem dX12_readRest_117 : decode cX12_readRest 117 = .ok (.iconst 1, 1) := by decide +kernel
theorem dX12_readRest_118 : decode cX12_readRest 118 = .ok (.bipush 40, 2) := by decide +kernel
theorem dX12_readRest_120 : decode cX12_readRest 120 = .ok (.invokevirtual 248, 3) := by decide +kernel
theorem dX12_readRest_123 : decode cX12_readRest 123 = .ok (.iastore, 1) := by decide +kernel
theorem dX12_readRest_124 : decode cX12_readRest 124 = .ok (.goto 72, 3) := by decide +kernel
theorem dX12_readRest_127 : decode cX12_readRest 127 = .ok (.iload_n 2, 1) := by decide +kernel
theorem dX12_readRest_128 : decode cX12_readRest 128 = .ok (.iconst 4, 1) := by decide +kernel
theorem dX12_readRest_129 : decode cX12_readRest 129 = .ok (.if_icmp .ne 19, 3) := by decide +kernel
theorem dX12_readRest_132 : decode cX12_readRest 132 = .ok (.aload_n 0, 1) := by decide +kernel
theorem dX12_readRest_133 : decode cX12_readRest 133 = .ok (.getfield 35, 3) := by decide +kernel
theorem dX12_readRest_136 : decode cX12_readRest 136 = .ok (.iload_n 1, 1) := by decide +kernel
theorem dX12_readRest_137 : decode cX12_readRest 137 = .ok (.iconst 1, 1) := by decide +kernel
theorem dX12_readRest_138 : decode cX12_readRest 138 = .ok (.iadd, 1) := by decide +kernel
theorem dX12_readRest_139 : decode cX12_readRest 139 = .ok (.aload_n 0, 1) := by decide +kernel
theorem dX12_readRest_140 : decode cX12_readRest 140 = .ok (.iconst 1, 1) := by decide +kernel
theorem dX12_readRest_141 : decode cX12_readRest 141 = .ok (.invokevirtual 273, 3) := by decide +kernel
theorem dX12_readRest_144 : decode cX12_readRest 144 = .ok (.iastore, 1) := by decide +kernel
theorem dX12_readRest_145 : decode cX12_readRest 145 = .ok (.goto 51, 3) := by decide +kernel
theorem dX12_readRest_148 : decode cX12_readRest 148 = .ok (.iload_n 2, 1) := by decide +kernel
theorem dX12_readRest_149 : decode cX12_readRest 149 = .ok (.iconst 5, 1) := by decide +kernel
theorem dX12_readRest_150 : decode cX12_readRest 150 = .ok (.if_icmp .ne 11, 3) := by decide +kernel
theorem dX12_readRest_153 : decode cX12_readRest 153 = .ok (.aload_n 0, 1) := by decide +kernel
theorem dX12_readRest_154 : decode cX12_readRest 154 = .ok (.iload_n 1, 1) := by decide +kernel
theorem dX12_readRest_155 : decode cX12_readRest 155 = .ok (.invokevirtual 277, 3) := by decide +kernel
theorem dX12_readRest_158 : decode cX12_readRest 158 = .ok (.goto 38, 3) := by decide +kernel
theorem dX12_readRest_161 : decode cX12_readRest 161 = .ok (.iload_n 2, 1) := by decide +kernel
theorem dX12_readRest_162 : decode cX12_readRest 162 = .ok (.bipush 7, 2) := by decide +kernel
theorem dX12_readRest_164 : decode cX12_readRest 164 = .ok (.if_icmp .ne 11, 3) := by decide +kernel
theorem dX12_readRest_167 : decode cX12_readRest 167 = .ok (.aload_n 0, 1) := by decide +kernel
theorem dX12_readRest_168 : decode cX12_readRest 168 = .ok (.iload_n 1, 1) := by decide +kernel
theorem dX12_readRest_169 : decode cX12_readRest 169 = .ok (.invokevirtual 280, 3) := by decide +kernel
theorem dX12_readRest_172 : decode cX12_readRest 172 = .ok (.goto 24, 3) := by decide +kernel
theorem dX12_readRest_175 : decode cX12_readRest 175 = .ok (.iload_n 2, 1) := by decide +kernel
theorem dX12_readRest_176 : decode cX12_readRest 176 = .ok (.bipush 8, 2) := by decide +kernel
theorem dX12_readRest_178 : decode cX12_readRest 178 = .ok (.if_icmp .ne 18, 3) := by decide +kernel
theorem dX12_readRest_181 : decode cX12_readRest 181 = .ok (.aload_n 0, 1) := by decide +kernel
theorem dX12_readRest_182 : decode cX12_readRest 182 = .ok (.getfield 35, 3) := by decide +kernel
theorem dX12_readRest_185 : decode cX12_readRest 185 = .ok (.iload_n 1, 1) := by decide +kernel
theorem dX12_readRest_186 : decode cX12_readRest 186 = .ok (.iconst 1, 1) := by decide +kernel
theorem dX12_readRest_187 : decode cX12_readRest 187 = .ok (.iadd, 1) := by decide +kernel
theorem dX12_readRest_188 : decode cX12_readRest 188 = .ok (.aload_n 0, 1) := by decide +kernel
theorem dX12_readRest_189 : decode cX12_readRest 189 = .ok (.iconst 1, 1) := by decide +kernel
theorem dX12_readRest_190 : decode cX12_readRest 190 = .ok (.bipush 99, 2) := by decide +kernel
theorem dX12_readRest_192 : decode cX12_readRest 192 = .ok (.invokevirtual 248, 3) := by decide +kernel
theorem dX12_readRest_195 : decode cX12_readRest 195 = .ok (.iastore, 1) := by decide +kernel
theorem dX12_readRest_196 : decode cX12_readRest 196 = .ok (.return_, 1) := by decide +kernel
theorem dX12_readStep_0 : decode cX12_readStep 0 = .ok (.aload_n 0, 1) := by decide +kernel
theorem dX12_readStep_1 : decode cX12_readStep 1 = .ok (.invokevirtual 208, 3) := by decide +kernel
theorem dX12_readStep_4 : decode cX12_readStep 4 = .ok (.istore_n 2, 1) := by decide +kernel
theorem dX12_readStep_5 : decode cX12_readStep 5 = .ok (.iload_n 2, 1) := by decide +kernel
theorem dX12_readStep_6 : decode cX12_readStep 6 = .ok (.bipush 7, 2) := by decide +kernel
theorem dX12_readStep_8 : decode cX12_readStep 8 = .ok (.if_icmp .eq 9, 3) := by decide +kernel
theorem dX12_readStep_11 : decode cX12_readStep 11 = .ok (.iload_n 2, 1) := by decide +kernel
theorem dX12_readStep_12 : decode cX12_readStep 12 = .ok (.bipush 8, 2) := by decide +kernel
theorem dX12_readStep_14 : decode cX12_readStep 14 = .ok (.if_icmp .ne 7, 3) := by decide +kernel
theorem dX12_readStep_17 : decode cX12_readStep 17 = .ok (.iconst 1, 1) := by decide +kernel
theorem dX12_readStep_18 : decode cX12_readStep 18 = .ok (.goto 4, 3) := by decide +kernel
theorem dX12_readStep_21 : decode cX12_readStep 21 = .ok (.iconst 0, 1) := by decide +kernel
theorem dX12_readStep_22 : decode cX12_readStep 22 = .ok (.istore_n 3, 1) := by decide +kernel
theorem dX12_readStep_23 : decode cX12_readStep 23 = .ok (.iload_n 2, 1) := by decide +kernel
theorem dX12_readStep_24 : decode cX12_readStep 24 = .ok (.ifCond .ge 7, 3) := by decide +kernel
theorem dX12_readStep_27 : decode cX12_readStep 27 = .ok (.aload_n 0, 1) := by decide +kernel
theorem dX12_readStep_28 : decode cX12_readStep 28 = .ok (.invokevirtual 231, 3) := by decide +kernel
theorem dX12_readStep_31 : decode cX12_readStep 31 = .ok (.aload_n 0, 1) := by decide +kernel
theorem dX12_readStep_32 : decode cX12_readStep 32 = .ok (.getfield 218, 3) := by decide +kernel
theorem dX12_readStep_35 : decode cX12_readStep 35 = .ok (.ifCond .ne 22, 3) := by decide +kernel
theorem dX12_readStep_38 : decode cX12_readStep 38 = .ok (.aload_n 0, 1) := by decide +kernel
theorem dX12_readStep_39 : decode cX12_readStep 39 = .ok (.getfield 283, 3) := by decide +kernel
theorem dX12_readStep_42 : decode cX12_readStep 42 = .ok (.bipush 30, 2) := by decide +kernel
theorem dX12_readStep_44 : decode cX12_readStep 44 = .ok (.if_icmp .ne 13, 3) := by decide +kernel
theorem dX12_readStep_47 : decode cX12_readStep 47 = .ok (.aload_n 0, 1) := by decide +kernel
theorem dX12_readStep_48 : decode cX12_readStep 48 = .ok (.bipush 6, 2) := by decide +kernel
theorem dX12_readStep_50 : decode cX12_readStep 50 = .ok (.aload_n 0, 1) := by decide +kernel
theorem dX12_readStep_51 : decode cX12_readStep 51 = .ok (.getfield 114, 3) := by decide +kernel
theorem dX12_readStep_54 : decode cX12_readStep 54 = .ok (.invokevirtual 224, 3) := by decide +kernel
theorem dX12_readStep_57 : decode cX12_readStep 57 = .ok (.aload_n 0, 1) := by decide +kernel
theorem dX12_readStep_58 : decode cX12_readStep 58 = .ok (.getfield 218, 3) := by decide +kernel
theorem dX12_readStep_61 : decode cX12_readStep 61 = .ok (.ifCond .ne 22, 3) := by decide +kernel
theorem dX12_readStep_64 : decode cX12_readStep 64 = .ok (.iload_n 3, 1) := by decide +kernel
theorem dX12_readStep_65 : decode cX12_readStep 65 = .ok (.ifCond .eq 18, 3) := by decide +kernel
theorem dX12_readStep_68 : decode cX12_readStep 68 = .ok (.iload_n 1, 1) := by decide +kernel
theorem dX12_readStep_69 : decode cX12_readStep 69 = .ok (.iconst 3, 1) := by decide +kernel
theorem dX12_readStep_70 : decode cX12_readStep 70 = .ok (.if_icmp .ne 13, 3) := by decide +kernel
theorem dX12_readStep_73 : decode cX12_readStep 73 = .ok (.aload_n 0, 1) := by decide +kernel
theorem dX12_readStep_74 : decode cX12_readStep 74 = .ok (.bipush 7, 2) := by decide +kernel
theorem dX12_readStep_76 : decode cX12_readStep 76 = .ok (.aload_n 0, 1) := by decide +kernel
theorem dX12_readStep_77 : decode cX12_readStep 77 = .ok (.getfield 114, 3) := by decide +kernel
theorem dX12_readStep_80 : decode cX12_readStep 80 = .ok (.invokevirtual 224, 3) := by decide +kernel
theorem dX12_readStep_83 : decode cX12_readStep 83 = .ok (.aload_n 0, 1) := by decide +kernel
theorem dX12_readStep_84 : decode cX12_readStep 84 = .ok (.getfield 218, 3) := by decide +kernel
theorem dX12_readStep_87 : decode cX12_readStep 87 = .ok (.ifCond .le 4, 3) := by decide +kernel
theorem dX12_readStep_90 : decode cX12_readStep 90 = .ok (.return_, 1) := by decide +kernel
theorem dX12_readStep_91 : decode cX12_readStep 91 = .ok (.sipush 2324, 3) := by decide +kernel
theorem dX12_readStep_94 : decode cX12_readStep 94 = .ok (.bipush 9, 2) := by decide +kernel
theorem dX12_readStep_96 : decode cX12_readStep 96 = .ok (.aload_n 0, 1) := by decide +kernel
theorem dX12_readStep_97 : decode cX12_readStep 97 = .ok (.getfield 283, 3) := by decide +kernel
theorem dX12_readStep_100 : decode cX12_readStep 100 = .ok (.imul, 1) := by decide +kernel
theorem dX12_readStep_101 : decode cX12_readStep 101 = .ok (.iadd, 1) := by decide +kernel
theorem dX12_readStep_102 : decode cX12_readStep 102 = .ok (.istore 4, 2) := by decide +kernel
theorem dX12_readStep_104 : decode cX12_readStep 104 = .ok (.aload_n 0, 1) := by decide +kernel
theorem dX12_readStep_105 : decode cX12_readStep 105 = .ok (.dup, 1) := by decide +kernel
theorem dX12_readStep_106 : decode cX12_readStep 106 = .ok (.getfield 283, 3) := by decide +kernel
theorem dX12_readStep_109 : decode cX12_readStep 109 = .ok (.iconst 1, 1) := by decide +kernel
theorem dX12_readStep_110 : decode cX12_readStep 110 = .ok (.iadd, 1) := by decide +kernel
theorem dX12_readStep_111 : decode cX12_readStep 111 = .ok (.putfield 283, 3) := by decide +kernel
theorem dX12_readStep_114 : decode cX12_readStep 114 = .ok (.aload_n 0, 1) := by decide +kernel
theorem dX12_readStep_115 : decode cX12_readStep 115 = .ok (.invokevirtual 228, 3) := by decide +kernel
theorem dX12_readStep_118 : decode cX12_readStep 118 = .ok (.aload_n 0, 1) := by decide +kernel
theorem dX12_readStep_119 : decode cX12_readStep 119 = .ok (.getfield 35, 3) := by decide +kernel
theorem dX12_readStep_122 : decode cX12_readStep 122 = .ok (.iload 4, 2) := by decide +kernel
theorem dX12_readStep_124 : decode cX12_readStep 124 = .ok (.iload_n 2, 1) := by decide +kernel
theorem dX12_readStep_125 : decode cX12_readStep 125 = .ok (.iastore, 1) := by decide +kernel
theorem dX12_readStep_126 : decode cX12_readStep 126 = .ok (.aload_n 0, 1) := by decide +kernel
theorem dX12_readStep_127 : decode cX12_readStep 127 = .ok (.iload 4, 2) := by decide +kernel
theorem dX12_readStep_129 : decode cX12_readStep 129 = .ok (.invokevirtual 286, 3) := by decide +kernel
theorem dX12_readStep_132 : decode cX12_readStep 132 = .ok (.aload_n 0, 1) := by decide +kernel
theorem dX12_readStep_133 : decode cX12_readStep 133 = .ok (.aload_n 0, 1) := by decide +kernel
theorem dX12_readStep_134 : decode cX12_readStep 134 = .ok (.bipush 59, 2) := by decide +kernel
theorem dX12_readStep_136 : decode cX12_readStep 136 = .ok (.invokevirtual 255, 3) := by decide +kernel
theorem dX12_readStep_139 : decode cX12_readStep 139 = .ok (.invokevirtual 244, 3) := by decide +kernel
theorem dX12_readStep_142 : decode cX12_readStep 142 = .ok (.iload_n 3, 1) := by decide +kernel
theorem dX12_readStep_143 : decode cX12_readStep 143 = .ok (.ifCond .eq 27, 3) := by decide +kernel
theorem dX12_readStep_146 : decode cX12_readStep 146 = .ok (.aload_n 0, 1) := by decide +kernel
theorem dX12_readStep_147 : decode cX12_readStep 147 = .ok (.getfield 218, 3) := by decide +kernel
theorem dX12_readStep_150 : decode cX12_readStep 150 = .ok (.ifCond .ne 20, 3) := by decide +kernel
theorem dX12_readStep_153 : decode cX12_readStep 153 = .ok (.aload_n 0, 1) := by decide +kernel
theorem dX12_readStep_154 : decode cX12_readStep 154 = .ok (.invokevirtual 215, 3) := by decide +kernel
theorem dX12_readStep_157 : decode cX12_readStep 157 = .ok (.ifCond .ne 13, 3) := by decide +kernel
theorem dX12_readStep_160 : decode cX12_readStep 160 = .ok (.aload_n 0, 1) := by decide +kernel
theorem dX12_readStep_161 : decode cX12_readStep 161 = .ok (.iload_n 1, 1) := by decide +kernel
theorem dX12_readStep_162 : decode cX12_readStep 162 = .ok (.iconst 1, 1) := by decide +kernel
theorem dX12_readStep_163 : decode cX12_readStep 163 = .ok (.iadd, 1) := by decide +kernel
theorem dX12_readStep_164 : decode cX12_readStep 164 = .ok (.invokevirtual 289, 3) := by decide +kernel
theorem dX12_readStep_167 : decode cX12_readStep 167 = .ok (.goto (-25), 3) := by decide +kernel
theorem dX12_readStep_170 : decode cX12_readStep 170 = .ok (.iload_n 3, 1) := by decide +kernel
theorem dX12_readStep_171 : decode cX12_readStep 171 = .ok (.ifCond .eq 21, 3) := by decide +kernel
theorem dX12_readStep_174 : decode cX12_readStep 174 = .ok (.aload_n 0, 1) := by decide +kernel
theorem dX12_readStep_175 : decode cX12_readStep 175 = .ok (.aload_n 0, 1) := by decide +kernel
theorem dX12_readStep_176 : decode cX12_readStep 176 = .ok (.invokevirtual 215, 3) := by decide +kernel
theorem dX12_readStep_179 : decode cX12_readStep 179 = .ok (.invokevirtual 244, 3) := by decide +kernel
theorem dX12_readStep_182 : decode cX12_readStep 182 = .ok (.aload_n 0, 1) := by decide +kernel
theorem dX12_readStep_183 : decode cX12_readStep 183 = .ok (.aload_n 0, 1) := by decide +kernel
theorem dX12_readStep_184 : decode cX12_readStep 184 = .ok (.bipush 59, 2) := by decide +kernel
theorem dX12_readStep_186 : decode cX12_readStep 186 = .ok (.invokevirtual 255, 3) := by decide +kernel
theorem dX12_readStep_189 : decode cX12_readStep 189 = .ok (.invokevirtual 244, 3) := by decide +kernel
theorem dX12_readStep_192 : decode cX12_readStep 192 = .ok (.aload_n 0, 1) := by decide +kernel
theorem dX12_readStep_193 : decode cX12_readStep 193 = .ok (.getfield 35, 3) := by decide +kernel
theorem dX12_readStep_196 : decode cX12_readStep 196 = .ok (.iload 4, 2) := by decide +kernel
theorem dX12_readStep_198 : decode cX12_readStep 198 = .ok (.bipush 8, 2) := by decide +kernel
theorem dX12_readStep_200 : decode cX12_readStep 200 = .ok (.iadd, 1) := by decide +kernel
theorem dX12_readStep_201 : decode cX12_readStep 201 = .ok (.aload_n 0, 1) := by decide +kernel
theorem dX12_readStep_202 : decode cX12_readStep 202 = .ok (.getfield 283, 3) := by decide +kernel
theorem dX12_readStep_205 : decode cX12_readStep 205 = .ok (.iastore, 1) := by decide +kernel
theorem dX12_readStep_206 : decode cX12_readStep 206 = .ok (.return_, 1) := by decide +kernel
theorem dX12_orders_0 : decode cX12_orders 0 = .ok (.aload_n 0, 1) := by decide +kernel
theorem dX12_orders_1 : decode cX12_orders 1 = .ok (.iconst 0, 1) := by decide +kernel
theorem dX12_orders_2 : decode cX12_orders 2 = .ok (.putfield 69, 3) := by decide +kernel
theorem dX12_orders_5 : decode cX12_orders 5 = .ok (.aload_n 0, 1) := by decide +kernel
theorem dX12_orders_6 : decode cX12_orders 6 = .ok (.iconst 0, 1) := by decide +kernel
theorem dX12_orders_7 : decode cX12_orders 7 = .ok (.putfield 72, 3) := by decide +kernel
theorem dX12_orders_10 : decode cX12_orders 10 = .ok (.aload_n 0, 1) := by decide +kernel
theorem dX12_orders_11 : decode cX12_orders 11 = .ok (.iload_n 1, 1) := by decide +kernel
theorem dX12_orders_12 : decode cX12_orders 12 = .ok (.sipush 300, 3) := by decide +kernel
theorem dX12_orders_15 : decode cX12_orders 15 = .ok (.invokevirtual 251, 3) := by decide +kernel
theorem dX12_orders_18 : decode cX12_orders 18 = .ok (.ifCond .ne 5, 3) := by decide +kernel
theorem dX12_orders_21 : decode cX12_orders 21 = .ok (.iconst (-1), 1) := by decide +kernel
theorem dX12_orders_22 : decode cX12_orders 22 = .ok (.ireturn, 1) := by decide +kernel
theorem dX12_orders_23 : decode cX12_orders 23 = .ok (.aload_n 0, 1) := by decide +kernel
theorem dX12_orders_24 : decode cX12_orders 24 = .ok (.iconst 0, 1) := by decide +kernel
theorem dX12_orders_25 : decode cX12_orders 25 = .ok (.putfield 283, 3) := by decide +kernel
theorem dX12_orders_28 : decode cX12_orders 28 = .ok (.aload_n 0, 1) := by decide +kernel
theorem dX12_orders_29 : decode cX12_orders 29 = .ok (.getfield 218, 3) := by decide +kernel
theorem dX12_orders_32 : decode cX12_orders 32 = .ok (.ifCond .ne 18, 3) := by decide +kernel
theorem dX12_orders_35 : decode cX12_orders 35 = .ok (.aload_n 0, 1) := by decide +kernel
theorem dX12_orders_36 : decode cX12_orders 36 = .ok (.getfield 120, 3) := by decide +kernel
theorem dX12_orders_39 : decode cX12_orders 39 = .ok (.ifCond .eq 11, 3) := by decide +kernel
theorem dX12_orders_42 : decode cX12_orders 42 = .ok (.aload_n 0, 1) := by decide +kernel
theorem dX12_orders_43 : decode cX12_orders 43 = .ok (.iconst 0, 1) := by decide +kernel
theorem dX12_orders_44 : decode cX12_orders 44 = .ok (.invokevirtual 289, 3) := by decide +kernel
theorem dX12_orders_47 : decode cX12_orders 47 = .ok (.goto (-19), 3) := by decide +kernel
theorem dX12_orders_50 : decode cX12_orders 50 = .ok (.aload_n 0, 1) := by decide +kernel
theorem dX12_orders_51 : decode cX12_orders 51 = .ok (.invokevirtual 267, 3) := by decide +kernel
theorem dX12_orders_54 : decode cX12_orders 54 = .ok (.ifCond .ne 5, 3) := by decide +kernel
theorem dX12_orders_57 : decode cX12_orders 57 = .ok (.iconst (-1), 1) := by decide +kernel
theorem dX12_orders_58 : decode cX12_orders 58 = .ok (.ireturn, 1) := by decide +kernel
theorem dX12_orders_59 : decode cX12_orders 59 = .ok (.aload_n 0, 1) := by decide +kernel
theorem dX12_orders_60 : decode cX12_orders 60 = .ok (.getfield 35, 3) := by decide +kernel
theorem dX12_orders_63 : decode cX12_orders 63 = .ok (.sipush 242, 3) := by decide +kernel
theorem dX12_orders_66 : decode cX12_orders 66 = .ok (.iconst 1, 1) := by decide +kernel
theorem dX12_orders_67 : decode cX12_orders 67 = .ok (.iastore, 1) := by decide +kernel
theorem dX12_orders_68 : decode cX12_orders 68 = .ok (.aload_n 0, 1) := by decide +kernel
theorem dX12_orders_69 : decode cX12_orders 69 = .ok (.getfield 35, 3) := by decide +kernel
theorem dX12_orders_72 : decode cX12_orders 72 = .ok (.sipush 243, 3) := by decide +kernel
theorem dX12_orders_75 : decode cX12_orders 75 = .ok (.aload_n 0, 1) := by decide +kernel
theorem dX12_orders_76 : decode cX12_orders 76 = .ok (.getfield 283, 3) := by decide +kernel
theorem dX12_orders_79 : decode cX12_orders 79 = .ok (.iastore, 1) := by decide +kernel
theorem dX12_orders_80 : decode cX12_orders 80 = .ok (.iconst 0, 1) := by decide +kernel
theorem dX12_orders_81 : decode cX12_orders 81 = .ok (.istore_n 2, 1) := by decide +kernel
theorem dX12_orders_82 : decode cX12_orders 82 = .ok (.iload_n 2, 1) := by decide +kernel
theorem dX12_orders_83 : decode cX12_orders 83 = .ok (.bipush 9, 2) := by decide +kernel
theorem dX12_orders_85 : decode cX12_orders 85 = .ok (.aload_n 0, 1) := by decide +kernel
theorem dX12_orders_86 : decode cX12_orders 86 = .ok (.getfield 283, 3) := by decide +kernel
theorem dX12_orders_89 : decode cX12_orders 89 = .ok (.imul, 1) := by decide +kernel
theorem dX12_orders_90 : decode cX12_orders 90 = .ok (.if_icmp .ge 29, 3) := by decide +kernel
theorem dX12_orders_93 : decode cX12_orders 93 = .ok (.aload_n 0, 1) := by decide +kernel
theorem dX12_orders_94 : decode cX12_orders 94 = .ok (.getfield 35, 3) := by decide +kernel
theorem dX12_orders_97 : decode cX12_orders 97 = .ok (.sipush 244, 3) := by decide +kernel
theorem dX12_orders_100 : decode cX12_orders 100 = .ok (.iload_n 2, 1) := by decide +kernel
theorem dX12_orders_101 : decode cX12_orders 101 = .ok (.iadd, 1) := by decide +kernel
theorem dX12_orders_102 : decode cX12_orders 102 = .ok (.aload_n 0, 1) := by decide +kernel
theorem dX12_orders_103 : decode cX12_orders 103 = .ok (.getfield 35, 3) := by decide +kernel
theorem dX12_orders_106 : decode cX12_orders 106 = .ok (.sipush 2324, 3) := by decide +kernel
theorem dX12_orders_109 : decode cX12_orders 109 = .ok (.iload_n 2, 1) := by decide +kernel
theorem dX12_orders_110 : decode cX12_orders 110 = .ok (.iadd, 1) := by decide +kernel
theorem dX12_orders_111 : decode cX12_orders 111 = .ok (.iaload, 1) := by decide +kernel
theorem dX12_orders_112 : decode cX12_orders 112 = .ok (.iastore, 1) := by decide +kernel
theorem dX12_orders_113 : decode cX12_orders 113 = .ok (.iinc 2 1, 3) := by decide +kernel
theorem dX12_orders_116 : decode cX12_orders 116 = .ok (.goto (-34), 3) := by decide +kernel
theorem dX12_orders_119 : decode cX12_orders 119 = .ok (.aload_n 0, 1) := by decide +kernel
theorem dX12_orders_120 : decode cX12_orders 120 = .ok (.getfield 283, 3) := by decide +kernel
theorem dX12_orders_123 : decode cX12_orders 123 = .ok (.ireturn, 1) := by decide +kernel
theorem dX12_isCell_0 : decode cX12_isCell 0 = .ok (.iload_n 1, 1) := by decide +kernel
theorem dX12_isCell_1 : decode cX12_isCell 1 = .ok (.i2l, 1) := by decide +kernel
theorem dX12_isCell_2 : decode cX12_isCell 2 = .ok (.lconst 0, 1) := by decide +kernel
theorem dX12_isCell_3 : decode cX12_isCell 3 = .ok (.aload_n 0, 1) := by decide +kernel
theorem dX12_isCell_4 : decode cX12_isCell 4 = .ok (.getfield 35, 3) := by decide +kernel
theorem dX12_isCell_7 : decode cX12_isCell 7 = .ok (.iconst 0, 1) := by decide +kernel
theorem dX12_isCell_8 : decode cX12_isCell 8 = .ok (.iaload, 1) := by decide +kernel
theorem dX12_isCell_9 : decode cX12_isCell 9 = .ok (.iconst 1, 1) := by decide +kernel
theorem dX12_isCell_10 : decode cX12_isCell 10 = .ok (.isub, 1) := by decide +kernel
theorem dX12_isCell_11 : decode cX12_isCell 11 = .ok (.i2l, 1) := by decide +kernel
theorem dX12_isCell_12 : decode cX12_isCell 12 = .ok (.invokestatic 104, 3) := by decide +kernel
theorem dX12_isCell_15 : decode cX12_isCell 15 = .ok (.ifCond .eq 25, 3) := by decide +kernel
theorem dX12_isCell_18 : decode cX12_isCell 18 = .ok (.iload_n 2, 1) := by decide +kernel
theorem dX12_isCell_19 : decode cX12_isCell 19 = .ok (.i2l, 1) := by decide +kernel
theorem dX12_isCell_20 : decode cX12_isCell 20 = .ok (.lconst 0, 1) := by decide +kernel
theorem dX12_isCell_21 : decode cX12_isCell 21 = .ok (.aload_n 0, 1) := by decide +kernel
theorem dX12_isCell_22 : decode cX12_isCell 22 = .ok (.getfield 35, 3) := by decide +kernel
theorem dX12_isCell_25 : decode cX12_isCell 25 = .ok (.iconst 1, 1) := by decide +kernel
theorem dX12_isCell_26 : decode cX12_isCell 26 = .ok (.iaload, 1) := by decide +kernel
theorem dX12_isCell_27 : decode cX12_isCell 27 = .ok (.iconst 1, 1) := by decide +kernel
theorem dX12_isCell_28 : decode cX12_isCell 28 = .ok (.isub, 1) := by decide +kernel
theorem dX12_isCell_29 : decode cX12_isCell 29 = .ok (.i2l, 1) := by decide +kernel
theorem dX12_isCell_30 : decode cX12_isCell 30 = .ok (.invokestatic 104, 3) := by decide +kernel
theorem dX12_isCell_33 : decode cX12_isCell 33 = .ok (.ifCond .eq 7, 3) := by decide +kernel
theorem dX12_isCell_36 : decode cX12_isCell 36 = .ok (.iconst 1, 1) := by decide +kernel
theorem dX12_isCell_37 : decode cX12_isCell 37 = .ok (.goto 4, 3) := by decide +kernel
theorem dX12_isCell_40 : decode cX12_isCell 40 = .ok (.iconst 0, 1) := by decide +kernel
theorem dX12_isCell_41 : decode cX12_isCell 41 = .ok (.ireturn, 1) := by decide +kernel
theorem dX12_at2_0 : decode cX12_at2 0 = .ok (.bipush 6, 2) := by decide +kernel
theorem dX12_at2_2 : decode cX12_at2 2 = .ok (.iload_n 1, 1) := by decide +kernel
theorem dX12_at2_3 : decode cX12_at2 3 = .ok (.imul, 1) := by decide +kernel
theorem dX12_at2_4 : decode cX12_at2 4 = .ok (.iload_n 0, 1) := by decide +kernel
theorem dX12_at2_5 : decode cX12_at2 5 = .ok (.iadd, 1) := by decide +kernel
theorem dX12_at2_6 : decode cX12_at2 6 = .ok (.ireturn, 1) := by decide +kernel
theorem dX12_halfOf_0 : decode cX12_halfOf 0 = .ok (.iconst 2, 1) := by decide +kernel
theorem dX12_halfOf_1 : decode cX12_halfOf 1 = .ok (.iload_n 1, 1) := by decide +kernel
theorem dX12_halfOf_2 : decode cX12_halfOf 2 = .ok (.imul, 1) := by decide +kernel
theorem dX12_halfOf_3 : decode cX12_halfOf 3 = .ok (.aload_n 0, 1) := by decide +kernel
theorem dX12_halfOf_4 : decode cX12_halfOf 4 = .ok (.getfield 35, 3) := by decide +kernel
theorem dX12_halfOf_7 : decode cX12_halfOf 7 = .ok (.iconst 0, 1) := by decide +kernel
theorem dX12_halfOf_8 : decode cX12_halfOf 8 = .ok (.iaload, 1) := by decide +kernel
theorem dX12_halfOf_9 : decode cX12_halfOf 9 = .ok (.if_icmp .ge 7, 3) := by decide +kernel
theorem dX12_halfOf_12 : decode cX12_halfOf 12 = .ok (.iconst 0, 1) := by decide +kernel
theorem dX12_halfOf_13 : decode cX12_halfOf 13 = .ok (.goto 4, 3) := by decide +kernel
theorem dX12_halfOf_16 : decode cX12_halfOf 16 = .ok (.iconst 1, 1) := by decide +kernel
theorem dX12_halfOf_17 : decode cX12_halfOf 17 = .ok (.ireturn, 1) := by decide +kernel
theorem dX12_isSchoolAt_0 : decode cX12_isSchoolAt 0 = .ok (.iload_n 1, 1) := by decide +kernel
theorem dX12_isSchoolAt_1 : decode cX12_isSchoolAt 1 = .ok (.i2l, 1) := by decide +kernel
theorem dX12_isSchoolAt_2 : decode cX12_isSchoolAt 2 = .ok (.lconst 0, 1) := by decide +kernel
theorem dX12_isSchoolAt_3 : decode cX12_isSchoolAt 3 = .ok (.aload_n 0, 1) := by decide +kernel
theorem dX12_isSchoolAt_4 : decode cX12_isSchoolAt 4 = .ok (.getfield 35, 3) := by decide +kernel
theorem dX12_isSchoolAt_7 : decode cX12_isSchoolAt 7 = .ok (.iconst 2, 1) := by decide +kernel
theorem dX12_isSchoolAt_8 : decode cX12_isSchoolAt 8 = .ok (.iaload, 1) := by decide +kernel
theorem dX12_isSchoolAt_9 : decode cX12_isSchoolAt 9 = .ok (.iconst 1, 1) := by decide +kernel
theorem dX12_isSchoolAt_10 : decode cX12_isSchoolAt 10 = .ok (.isub, 1) := by decide +kernel
theorem dX12_isSchoolAt_11 : decode cX12_isSchoolAt 11 = .ok (.i2l, 1) := by decide +kernel
theorem dX12_isSchoolAt_12 : decode cX12_isSchoolAt 12 = .ok (.invokestatic 104, 3) := by decide +kernel
theorem dX12_isSchoolAt_15 : decode cX12_isSchoolAt 15 = .ok (.ireturn, 1) := by decide +kernel
theorem dX12_acrossOf_0 : decode cX12_acrossOf 0 = .ok (.bipush 6, 2) := by decide +kernel
theorem dX12_acrossOf_2 : decode cX12_acrossOf 2 = .ok (.iload_n 1, 1) := by decide +kernel
theorem dX12_acrossOf_3 : decode cX12_acrossOf 3 = .ok (.bipush 6, 2) := by decide +kernel
theorem dX12_acrossOf_5 : decode cX12_acrossOf 5 = .ok (.idiv, 1) := by decide +kernel
theorem dX12_acrossOf_6 : decode cX12_acrossOf 6 = .ok (.imul, 1) := by decide +kernel
theorem dX12_acrossOf_7 : decode cX12_acrossOf 7 = .ok (.aload_n 0, 1) := by decide +kernel
theorem dX12_acrossOf_8 : decode cX12_acrossOf 8 = .ok (.getfield 35, 3) := by decide +kernel
theorem dX12_acrossOf_11 : decode cX12_acrossOf 11 = .ok (.iconst 0, 1) := by decide +kernel
theorem dX12_acrossOf_12 : decode cX12_acrossOf 12 = .ok (.iaload, 1) := by decide +kernel
theorem dX12_acrossOf_13 : decode cX12_acrossOf 13 = .ok (.iadd, 1) := by decide +kernel
theorem dX12_acrossOf_14 : decode cX12_acrossOf 14 = .ok (.iconst 1, 1) := by decide +kernel
theorem dX12_acrossOf_15 : decode cX12_acrossOf 15 = .ok (.isub, 1) := by decide +kernel
theorem dX12_acrossOf_16 : decode cX12_acrossOf 16 = .ok (.iload_n 1, 1) := by decide +kernel
theorem dX12_acrossOf_17 : decode cX12_acrossOf 17 = .ok (.bipush 6, 2) := by decide +kernel
theorem dX12_acrossOf_19 : decode cX12_acrossOf 19 = .ok (.irem, 1) := by decide +kernel
theorem dX12_acrossOf_20 : decode cX12_acrossOf 20 = .ok (.isub, 1) := by decide +kernel
theorem dX12_acrossOf_21 : decode cX12_acrossOf 21 = .ok (.ireturn, 1) := by decide +kernel
theorem dX12_allOf_0 : decode cX12_allOf 0 = .ok (.iconst 0, 1) := by decide +kernel
theorem dX12_allOf_1 : decode cX12_allOf 1 = .ok (.istore_n 2, 1) := by decide +kernel
theorem dX12_allOf_2 : decode cX12_allOf 2 = .ok (.iconst 0, 1) := by decide +kernel
theorem dX12_allOf_3 : decode cX12_allOf 3 = .ok (.istore_n 3, 1) := by decide +kernel
theorem dX12_allOf_4 : decode cX12_allOf 4 = .ok (.iload_n 3, 1) := by decide +kernel
theorem dX12_allOf_5 : decode cX12_allOf 5 = .ok (.bipush 36, 2) := by decide +kernel
theorem dX12_allOf_7 : decode cX12_allOf 7 = .ok (.if_icmp .ge 20, 3) := by decide +kernel
theorem dX12_allOf_10 : decode cX12_allOf 10 = .ok (.iload_n 2, 1) := by decide +kernel
theorem dX12_allOf_11 : decode cX12_allOf 11 = .ok (.aload_n 0, 1) := by decide +kernel
theorem dX12_allOf_12 : decode cX12_allOf 12 = .ok (.getfield 35, 3) := by decide +kernel
theorem dX12_allOf_15 : decode cX12_allOf 15 = .ok (.iload_n 1, 1) := by decide +kernel
theorem dX12_allOf_16 : decode cX12_allOf 16 = .ok (.iload_n 3, 1) := by decide +kernel
theorem dX12_allOf_17 : decode cX12_allOf 17 = .ok (.iadd, 1) := by decide +kernel
theorem dX12_allOf_18 : decode cX12_allOf 18 = .ok (.iaload, 1) := by decide +kernel
theorem dX12_allOf_19 : decode cX12_allOf 19 = .ok (.iadd, 1) := by decide +kernel
theorem dX12_allOf_20 : decode cX12_allOf 20 = .ok (.istore_n 2, 1) := by decide +kernel
theorem dX12_allOf_21 : decode cX12_allOf 21 = .ok (.iinc 3 1, 3) := by decide +kernel
theorem dX12_allOf_24 : decode cX12_allOf 24 = .ok (.goto (-20), 3) := by decide +kernel
theorem dX12_allOf_27 : decode cX12_allOf 27 = .ok (.iload_n 2, 1) := by decide +kernel
theorem dX12_allOf_28 : decode cX12_allOf 28 = .ok (.ireturn, 1) := by decide +kernel
theorem dX12_allOfHalf_0 : decode cX12_allOfHalf 0 = .ok (.iconst 0, 1) := by decide +kernel
theorem dX12_allOfHalf_1 : decode cX12_allOfHalf 1 = .ok (.istore_n 3, 1) := by decide +kernel
theorem dX12_allOfHalf_2 : decode cX12_allOfHalf 2 = .ok (.iconst 0, 1) := by decide +kernel
theorem dX12_allOfHalf_3 : decode cX12_allOfHalf 3 = .ok (.istore 4, 2) := by decide +kernel
theorem dX12_allOfHalf_5 : decode cX12_allOfHalf 5 = .ok (.iload 4, 2) := by decide +kernel
theorem dX12_allOfHalf_7 : decode cX12_allOfHalf 7 = .ok (.aload_n 0, 1) := by decide +kernel
theorem dX12_allOfHalf_8 : decode cX12_allOfHalf 8 = .ok (.getfield 35, 3) := by decide +kernel
theorem dX12_allOfHalf_11 : decode cX12_allOfHalf 11 = .ok (.iconst 1, 1) := by decide +kernel
theorem dX12_allOfHalf_12 : decode cX12_allOfHalf 12 = .ok (.iaload, 1) := by decide +kernel
theorem dX12_allOfHalf_13 : decode cX12_allOfHalf 13 = .ok (.if_icmp .ge 60, 3) := by decide +kernel
theorem dX12_allOfHalf_16 : decode cX12_allOfHalf 16 = .ok (.iconst 0, 1) := by decide +kernel
theorem dX12_allOfHalf_17 : decode cX12_allOfHalf 17 = .ok (.istore 5, 2) := by decide +kernel
theorem dX12_allOfHalf_19 : decode cX12_allOfHalf 19 = .ok (.iload 5, 2) := by decide +kernel
theorem dX12_allOfHalf_21 : decode cX12_allOfHalf 21 = .ok (.aload_n 0, 1) := by decide +kernel
theorem dX12_allOfHalf_22 : decode cX12_allOfHalf 22 = .ok (.getfield 35, 3) := by decide +kernel
theorem dX12_allOfHalf_25 : decode cX12_allOfHalf 25 = .ok (.iconst 0, 1) := by decide +kernel
theorem dX12_allOfHalf_26 : decode cX12_allOfHalf 26 = .ok (.iaload, 1) := by decide +kernel
theorem dX12_allOfHalf_27 : decode cX12_allOfHalf 27 = .ok (.if_icmp .ge 40, 3) := by decide +kernel
theorem dX12_allOfHalf_30 : decode cX12_allOfHalf 30 = .ok (.iload_n 3, 1) := by decide +kernel
theorem dX12_allOfHalf_31 : decode cX12_allOfHalf 31 = .ok (.aload_n 0, 1) := by decide +kernel
theorem dX12_allOfHalf_32 : decode cX12_allOfHalf 32 = .ok (.iload 5, 2) := by decide +kernel
theorem dX12_allOfHalf_34 : decode cX12_allOfHalf 34 = .ok (.invokevirtual 270, 3) := by decide +kernel
theorem dX12_allOfHalf_37 : decode cX12_allOfHalf 37 = .ok (.iload_n 2, 1) := by decide +kernel
theorem dX12_allOfHalf_38 : decode cX12_allOfHalf 38 = .ok (.if_icmp .ne 20, 3) := by decide +kernel
theorem dX12_allOfHalf_41 : decode cX12_allOfHalf 41 = .ok (.aload_n 0, 1) := by decide +kernel
theorem dX12_allOfHalf_42 : decode cX12_allOfHalf 42 = .ok (.getfield 35, 3) := by decide +kernel
theorem dX12_allOfHalf_45 : decode cX12_allOfHalf 45 = .ok (.iload_n 1, 1) := by decide +kernel
theorem dX12_allOfHalf_46 : decode cX12_allOfHalf 46 = .ok (.iload 5, 2) := by decide +kernel
theorem dX12_allOfHalf_48 : decode cX12_allOfHalf 48 = .ok (.iload 4, 2) := by decide +kernel
theorem dX12_allOfHalf_50 : decode cX12_allOfHalf 50 = .ok (.invokestatic 292, 3) := by decide +kernel
theorem dX12_allOfHalf_53 : decode cX12_allOfHalf 53 = .ok (.iadd, 1) := by decide +kernel
theorem dX12_allOfHalf_54 : decode cX12_allOfHalf 54 = .ok (.iaload, 1) := by decide +kernel
theorem dX12_allOfHalf_55 : decode cX12_allOfHalf 55 = .ok (.goto 4, 3) := by decide +kernel
theorem dX12_allOfHalf_58 : decode cX12_allOfHalf 58 = .ok (.iconst 0, 1) := by decide +kernel
theorem dX12_allOfHalf_59 : decode cX12_allOfHalf 59 = .ok (.iadd, 1) := by decide +kernel
theorem dX12_allOfHalf_60 : decode cX12_allOfHalf 60 = .ok (.istore_n 3, 1) := by decide +kernel
theorem dX12_allOfHalf_61 : decode cX12_allOfHalf 61 = .ok (.iinc 5 1, 3) := by decide +kernel
theorem dX12_allOfHalf_64 : decode cX12_allOfHalf 64 = .ok (.goto (-45), 3) := by decide +kernel
theorem dX12_allOfHalf_67 : decode cX12_allOfHalf 67 = .ok (.iinc 4 1, 3) := by decide +kernel
theorem dX12_allOfHalf_70 : decode cX12_allOfHalf 70 = .ok (.goto (-65), 3) := by decide +kernel
theorem dX12_allOfHalf_73 : decode cX12_allOfHalf 73 = .ok (.iload_n 3, 1) := by decide +kernel
theorem dX12_allOfHalf_74 : decode cX12_allOfHalf 74 = .ok (.ireturn, 1) := by decide +kernel
theorem dX12_many_0 : decode cX12_many 0 = .ok (.aload_n 0, 1) := by decide +kernel
theorem dX12_many_1 : decode cX12_many 1 = .ok (.iconst 0, 1) := by decide +kernel
theorem dX12_many_2 : decode cX12_many 2 = .ok (.putfield 69, 3) := by decide +kernel
theorem dX12_many_5 : decode cX12_many 5 = .ok (.aload_n 0, 1) := by decide +kernel
theorem dX12_many_6 : decode cX12_many 6 = .ok (.iconst 0, 1) := by decide +kernel
theorem dX12_many_7 : decode cX12_many 7 = .ok (.putfield 72, 3) := by decide +kernel
theorem dX12_many_10 : decode cX12_many 10 = .ok (.iload_n 1, 1) := by decide +kernel
theorem dX12_many_11 : decode cX12_many 11 = .ok (.tableswitch 125 0 9 #[53, 60, 67, 74, 81, 88, 95, 102, 109, 117], 53) := by decide +kernel
theorem dX12_many_64 : decode cX12_many 64 = .ok (.aload_n 0, 1) := by decide +kernel
theorem dX12_many_65 : decode cX12_many 65 = .ok (.getfield 35, 3) := by decide +kernel
theorem dX12_many_68 : decode cX12_many 68 = .ok (.iconst 0, 1) := by decide +kernel
theorem dX12_many_69 : decode cX12_many 69 = .ok (.iaload, 1) := by decide +kernel
theorem dX12_many_70 : decode cX12_many 70 = .ok (.ireturn, 1) := by decide +kernel
theorem dX12_many_71 : decode cX12_many 71 = .ok (.aload_n 0, 1) := by decide +kernel
theorem dX12_many_72 : decode cX12_many 72 = .ok (.getfield 35, 3) := by decide +kernel
theorem dX12_many_75 : decode cX12_many 75 = .ok (.iconst 1, 1) := by decide +kernel
theorem dX12_many_76 : decode cX12_many 76 = .ok (.iaload, 1) := by decide +kernel
theorem dX12_many_77 : decode cX12_many 77 = .ok (.ireturn, 1) := by decide +kernel
theorem dX12_many_78 : decode cX12_many 78 = .ok (.aload_n 0, 1) := by decide +kernel
theorem dX12_many_79 : decode cX12_many 79 = .ok (.getfield 35, 3) := by decide +kernel
theorem dX12_many_82 : decode cX12_many 82 = .ok (.iconst 2, 1) := by decide +kernel
theorem dX12_many_83 : decode cX12_many 83 = .ok (.iaload, 1) := by decide +kernel
theorem dX12_many_84 : decode cX12_many 84 = .ok (.ireturn, 1) := by decide +kernel
theorem dX12_many_85 : decode cX12_many 85 = .ok (.aload_n 0, 1) := by decide +kernel
theorem dX12_many_86 : decode cX12_many 86 = .ok (.getfield 35, 3) := by decide +kernel
theorem dX12_many_89 : decode cX12_many 89 = .ok (.iconst 3, 1) := by decide +kernel
theorem dX12_many_90 : decode cX12_many 90 = .ok (.iaload, 1) := by decide +kernel
theorem dX12_many_91 : decode cX12_many 91 = .ok (.ireturn, 1) := by decide +kernel
theorem dX12_many_92 : decode cX12_many 92 = .ok (.aload_n 0, 1) := by decide +kernel
theorem dX12_many_93 : decode cX12_many 93 = .ok (.getfield 35, 3) := by decide +kernel
theorem dX12_many_96 : decode cX12_many 96 = .ok (.iconst 4, 1) := by decide +kernel
theorem dX12_many_97 : decode cX12_many 97 = .ok (.iaload, 1) := by decide +kernel
theorem dX12_many_98 : decode cX12_many 98 = .ok (.ireturn, 1) := by decide +kernel
theorem dX12_many_99 : decode cX12_many 99 = .ok (.aload_n 0, 1) := by decide +kernel
theorem dX12_many_100 : decode cX12_many 100 = .ok (.bipush 26, 2) := by decide +kernel
theorem dX12_many_102 : decode cX12_many 102 = .ok (.invokevirtual 295, 3) := by decide +kernel
theorem dX12_many_105 : decode cX12_many 105 = .ok (.ireturn, 1) := by decide +kernel
theorem dX12_many_106 : decode cX12_many 106 = .ok (.aload_n 0, 1) := by decide +kernel
theorem dX12_many_107 : decode cX12_many 107 = .ok (.bipush 62, 2) := by decide +kernel
theorem dX12_many_109 : decode cX12_many 109 = .ok (.invokevirtual 295, 3) := by decide +kernel
theorem dX12_many_112 : decode cX12_many 112 = .ok (.ireturn, 1) := by decide +kernel
theorem dX12_many_113 : decode cX12_many 113 = .ok (.aload_n 0, 1) := by decide +kernel
theorem dX12_many_114 : decode cX12_many 114 = .ok (.getfield 35, 3) := by decide +kernel
theorem dX12_many_117 : decode cX12_many 117 = .ok (.iconst 5, 1) := by decide +kernel
theorem dX12_many_118 : decode cX12_many 118 = .ok (.iaload, 1) := by decide +kernel
theorem dX12_many_119 : decode cX12_many 119 = .ok (.ireturn, 1) := by decide +kernel
theorem dX12_many_120 : decode cX12_many 120 = .ok (.aload_n 0, 1) := by decide +kernel
theorem dX12_many_121 : decode cX12_many 121 = .ok (.getfield 35, 3) := by decide +kernel
theorem dX12_many_124 : decode cX12_many 124 = .ok (.bipush 6, 2) := by decide +kernel
theorem dX12_many_126 : decode cX12_many 126 = .ok (.iaload, 1) := by decide +kernel
theorem dX12_many_127 : decode cX12_many 127 = .ok (.ireturn, 1) := by decide +kernel
theorem dX12_many_128 : decode cX12_many 128 = .ok (.aload_n 0, 1) := by decide +kernel
theorem dX12_many_129 : decode cX12_many 129 = .ok (.getfield 35, 3) := by decide +kernel
theorem dX12_many_132 : decode cX12_many 132 = .ok (.bipush 7, 2) := by decide +kernel
theorem dX12_many_134 : decode cX12_many 134 = .ok (.iaload, 1) := by decide +kernel
theorem dX12_many_135 : decode cX12_many 135 = .ok (.ireturn, 1) := by decide +kernel
theorem dX12_many_136 : decode cX12_many 136 = .ok (.aload_n 0, 1) := by decide +kernel
theorem dX12_many_137 : decode cX12_many 137 = .ok (.iconst 5, 1) := by decide +kernel
theorem dX12_many_138 : decode cX12_many 138 = .ok (.invokevirtual 298, 3) := by decide +kernel
theorem dX12_many_141 : decode cX12_many 141 = .ok (.ireturn, 1) := by decide +kernel
theorem dX12_cell_0 : decode cX12_cell 0 = .ok (.aload_n 0, 1) := by decide +kernel
theorem dX12_cell_1 : decode cX12_cell 1 = .ok (.iconst 0, 1) := by decide +kernel
theorem dX12_cell_2 : decode cX12_cell 2 = .ok (.putfield 69, 3) := by decide +kernel
theorem dX12_cell_5 : decode cX12_cell 5 = .ok (.aload_n 0, 1) := by decide +kernel
theorem dX12_cell_6 : decode cX12_cell 6 = .ok (.iconst 0, 1) := by decide +kernel
theorem dX12_cell_7 : decode cX12_cell 7 = .ok (.putfield 72, 3) := by decide +kernel
theorem dX12_cell_10 : decode cX12_cell 10 = .ok (.aload_n 0, 1) := by decide +kernel
theorem dX12_cell_11 : decode cX12_cell 11 = .ok (.iload_n 1, 1) := by decide +kernel
theorem dX12_cell_12 : decode cX12_cell 12 = .ok (.iload_n 2, 1) := by decide +kernel
theorem dX12_cell_13 : decode cX12_cell 13 = .ok (.invokevirtual 301, 3) := by decide +kernel
theorem dX12_cell_16 : decode cX12_cell 16 = .ok (.ifCond .ne 9, 3) := by decide +kernel
theorem dX12_cell_19 : decode cX12_cell 19 = .ok (.aload_n 0, 1) := by decide +kernel
theorem dX12_cell_20 : decode cX12_cell 20 = .ok (.iconst 2, 1) := by decide +kernel
theorem dX12_cell_21 : decode cX12_cell 21 = .ok (.invokevirtual 298, 3) := by decide +kernel
theorem dX12_cell_24 : decode cX12_cell 24 = .ok (.ireturn, 1) := by decide +kernel
theorem dX12_cell_25 : decode cX12_cell 25 = .ok (.iload_n 1, 1) := by decide +kernel
theorem dX12_cell_26 : decode cX12_cell 26 = .ok (.iload_n 2, 1) := by decide +kernel
theorem dX12_cell_27 : decode cX12_cell 27 = .ok (.invokestatic 292, 3) := by decide +kernel
theorem dX12_cell_30 : decode cX12_cell 30 = .ok (.istore 4, 2) := by decide +kernel
theorem dX12_cell_32 : decode cX12_cell 32 = .ok (.iload_n 3, 1) := by decide +kernel
theorem dX12_cell_33 : decode cX12_cell 33 = .ok (.tableswitch 102 0 5 #[39, 50, 61, 72, 84, 90], 39) := by decide +kernel
theorem dX12_cell_72 : decode cX12_cell 72 = .ok (.aload_n 0, 1) := by decide +kernel
theorem dX12_cell_73 : decode cX12_cell 73 = .ok (.getfield 35, 3) := by decide +kernel
theorem dX12_cell_76 : decode cX12_cell 76 = .ok (.bipush 26, 2) := by decide +kernel
theorem dX12_cell_78 : decode cX12_cell 78 = .ok (.iload 4, 2) := by decide +kernel
theorem dX12_cell_80 : decode cX12_cell 80 = .ok (.iadd, 1) := by decide +kernel
theorem dX12_cell_81 : decode cX12_cell 81 = .ok (.iaload, 1) := by decide +kernel
theorem dX12_cell_82 : decode cX12_cell 82 = .ok (.ireturn, 1) := by decide +kernel
theorem dX12_cell_83 : decode cX12_cell 83 = .ok (.aload_n 0, 1) := by decide +kernel
theorem dX12_cell_84 : decode cX12_cell 84 = .ok (.getfield 35, 3) := by decide +kernel
theorem dX12_cell_87 : decode cX12_cell 87 = .ok (.bipush 62, 2) := by decide +kernel
theorem dX12_cell_89 : decode cX12_cell 89 = .ok (.iload 4, 2) := by decide +kernel
theorem dX12_cell_91 : decode cX12_cell 91 = .ok (.iadd, 1) := by decide +kernel
theorem dX12_cell_92 : decode cX12_cell 92 = .ok (.iaload, 1) := by decide +kernel
theorem dX12_cell_93 : decode cX12_cell 93 = .ok (.ireturn, 1) := by decide +kernel
theorem dX12_cell_94 : decode cX12_cell 94 = .ok (.aload_n 0, 1) := by decide +kernel
theorem dX12_cell_95 : decode cX12_cell 95 = .ok (.getfield 35, 3) := by decide +kernel
theorem dX12_cell_98 : decode cX12_cell 98 = .ok (.bipush 98, 2) := by decide +kernel
theorem dX12_cell_100 : decode cX12_cell 100 = .ok (.iload 4, 2) := by decide +kernel
theorem dX12_cell_102 : decode cX12_cell 102 = .ok (.iadd, 1) := by decide +kernel
theorem dX12_cell_103 : decode cX12_cell 103 = .ok (.iaload, 1) := by decide +kernel
theorem dX12_cell_104 : decode cX12_cell 104 = .ok (.ireturn, 1) := by decide +kernel
theorem dX12_cell_105 : decode cX12_cell 105 = .ok (.aload_n 0, 1) := by decide +kernel
theorem dX12_cell_106 : decode cX12_cell 106 = .ok (.getfield 35, 3) := by decide +kernel
theorem dX12_cell_109 : decode cX12_cell 109 = .ok (.sipush 134, 3) := by decide +kernel
theorem dX12_cell_112 : decode cX12_cell 112 = .ok (.iload 4, 2) := by decide +kernel
theorem dX12_cell_114 : decode cX12_cell 114 = .ok (.iadd, 1) := by decide +kernel
theorem dX12_cell_115 : decode cX12_cell 115 = .ok (.iaload, 1) := by decide +kernel
theorem dX12_cell_116 : decode cX12_cell 116 = .ok (.ireturn, 1) := by decide +kernel
theorem dX12_cell_117 : decode cX12_cell 117 = .ok (.aload_n 0, 1) := by decide +kernel
theorem dX12_cell_118 : decode cX12_cell 118 = .ok (.iload_n 1, 1) := by decide +kernel
theorem dX12_cell_119 : decode cX12_cell 119 = .ok (.invokevirtual 270, 3) := by decide +kernel
theorem dX12_cell_122 : decode cX12_cell 122 = .ok (.ireturn, 1) := by decide +kernel
theorem dX12_cell_123 : decode cX12_cell 123 = .ok (.aload_n 0, 1) := by decide +kernel
theorem dX12_cell_124 : decode cX12_cell 124 = .ok (.getfield 35, 3) := by decide +kernel
theorem dX12_cell_127 : decode cX12_cell 127 = .ok (.sipush 170, 3) := by decide +kernel
theorem dX12_cell_130 : decode cX12_cell 130 = .ok (.iload 4, 2) := by decide +kernel
theorem dX12_cell_132 : decode cX12_cell 132 = .ok (.iadd, 1) := by decide +kernel
theorem dX12_cell_133 : decode cX12_cell 133 = .ok (.iaload, 1) := by decide +kernel
theorem dX12_cell_134 : decode cX12_cell 134 = .ok (.ireturn, 1) := by decide +kernel
theorem dX12_cell_135 : decode cX12_cell 135 = .ok (.aload_n 0, 1) := by decide +kernel
theorem dX12_cell_136 : decode cX12_cell 136 = .ok (.iconst 5, 1) := by decide +kernel
theorem dX12_cell_137 : decode cX12_cell 137 = .ok (.invokevirtual 298, 3) := by decide +kernel
theorem dX12_cell_140 : decode cX12_cell 140 = .ok (.ireturn, 1) := by decide +kernel
theorem dX12_school_0 : decode cX12_school 0 = .ok (.aload_n 0, 1) := by decide +kernel
theorem dX12_school_1 : decode cX12_school 1 = .ok (.iconst 0, 1) := by decide +kernel
theorem dX12_school_2 : decode cX12_school 2 = .ok (.putfield 69, 3) := by decide +kernel
theorem dX12_school_5 : decode cX12_school 5 = .ok (.aload_n 0, 1) := by decide +kernel
theorem dX12_school_6 : decode cX12_school 6 = .ok (.iconst 0, 1) := by decide +kernel
theorem dX12_school_7 : decode cX12_school 7 = .ok (.putfield 72, 3) := by decide +kernel
theorem dX12_school_10 : decode cX12_school 10 = .ok (.aload_n 0, 1) := by decide +kernel
theorem dX12_school_11 : decode cX12_school 11 = .ok (.iload_n 1, 1) := by decide +kernel
theorem dX12_school_12 : decode cX12_school 12 = .ok (.invokevirtual 304, 3) := by decide +kernel
theorem dX12_school_15 : decode cX12_school 15 = .ok (.ifCond .ne 9, 3) := by decide +kernel
theorem dX12_school_18 : decode cX12_school 18 = .ok (.aload_n 0, 1) := by decide +kernel
theorem dX12_school_19 : decode cX12_school 19 = .ok (.iconst 2, 1) := by decide +kernel
theorem dX12_school_20 : decode cX12_school 20 = .ok (.invokevirtual 298, 3) := by decide +kernel
theorem dX12_school_23 : decode cX12_school 23 = .ok (.ireturn, 1) := by decide +kernel
theorem dX12_school_24 : decode cX12_school 24 = .ok (.iload_n 2, 1) := by decide +kernel
theorem dX12_school_25 : decode cX12_school 25 = .ok (.tableswitch 82 0 4 #[35, 45, 55, 65, 74], 35) := by decide +kernel
theorem dX12_school_60 : decode cX12_school 60 = .ok (.aload_n 0, 1) := by decide +kernel
theorem dX12_school_61 : decode cX12_school 61 = .ok (.getfield 35, 3) := by decide +kernel
theorem dX12_school_64 : decode cX12_school 64 = .ok (.bipush 12, 2) := by decide +kernel
theorem dX12_school_66 : decode cX12_school 66 = .ok (.iload_n 1, 1) := by decide +kernel
theorem dX12_school_67 : decode cX12_school 67 = .ok (.iadd, 1) := by decide +kernel
theorem dX12_school_68 : decode cX12_school 68 = .ok (.iaload, 1) := by decide +kernel
theorem dX12_school_69 : decode cX12_school 69 = .ok (.ireturn, 1) := by decide +kernel
theorem dX12_school_70 : decode cX12_school 70 = .ok (.aload_n 0, 1) := by decide +kernel
theorem dX12_school_71 : decode cX12_school 71 = .ok (.getfield 35, 3) := by decide +kernel
theorem dX12_school_74 : decode cX12_school 74 = .ok (.bipush 14, 2) := by decide +kernel
theorem dX12_school_76 : decode cX12_school 76 = .ok (.iload_n 1, 1) := by decide +kernel
theorem dX12_school_77 : decode cX12_school 77 = .ok (.iadd, 1) := by decide +kernel
theorem dX12_school_78 : decode cX12_school 78 = .ok (.iaload, 1) := by decide +kernel
theorem dX12_school_79 : decode cX12_school 79 = .ok (.ireturn, 1) := by decide +kernel
theorem dX12_school_80 : decode cX12_school 80 = .ok (.aload_n 0, 1) := by decide +kernel
theorem dX12_school_81 : decode cX12_school 81 = .ok (.getfield 35, 3) := by decide +kernel
theorem dX12_school_84 : decode cX12_school 84 = .ok (.bipush 16, 2) := by decide +kernel
theorem dX12_school_86 : decode cX12_school 86 = .ok (.iload_n 1, 1) := by decide +kernel
theorem dX12_school_87 : decode cX12_school 87 = .ok (.iadd, 1) := by decide +kernel
theorem dX12_school_88 : decode cX12_school 88 = .ok (.iaload, 1) := by decide +kernel
theorem dX12_school_89 : decode cX12_school 89 = .ok (.ireturn, 1) := by decide +kernel
theorem dX12_school_90 : decode cX12_school 90 = .ok (.aload_n 0, 1) := by decide +kernel
theorem dX12_school_91 : decode cX12_school 91 = .ok (.sipush 170, 3) := by decide +kernel
theorem dX12_school_94 : decode cX12_school 94 = .ok (.iload_n 1, 1) := by decide +kernel
theorem dX12_school_95 : decode cX12_school 95 = .ok (.invokevirtual 307, 3) := by decide +kernel
theorem dX12_school_98 : decode cX12_school 98 = .ok (.ireturn, 1) := by decide +kernel
theorem dX12_school_99 : decode cX12_school 99 = .ok (.aload_n 0, 1) := by decide +kernel
theorem dX12_school_100 : decode cX12_school 100 = .ok (.bipush 62, 2) := by decide +kernel
theorem dX12_school_102 : decode cX12_school 102 = .ok (.iload_n 1, 1) := by decide +kernel
theorem dX12_school_103 : decode cX12_school 103 = .ok (.invokevirtual 307, 3) := by decide +kernel
theorem dX12_school_106 : decode cX12_school 106 = .ok (.ireturn, 1) := by decide +kernel
theorem dX12_school_107 : decode cX12_school 107 = .ok (.aload_n 0, 1) := by decide +kernel
theorem dX12_school_108 : decode cX12_school 108 = .ok (.iconst 5, 1) := by decide +kernel
theorem dX12_school_109 : decode cX12_school 109 = .ok (.invokevirtual 298, 3) := by decide +kernel
theorem dX12_school_112 : decode cX12_school 112 = .ok (.ireturn, 1) := by decide +kernel
theorem dX12_article_0 : decode cX12_article 0 = .ok (.aload_n 0, 1) := by decide +kernel
theorem dX12_article_1 : decode cX12_article 1 = .ok (.iconst 0, 1) := by decide +kernel
theorem dX12_article_2 : decode cX12_article 2 = .ok (.putfield 69, 3) := by decide +kernel
theorem dX12_article_5 : decode cX12_article 5 = .ok (.aload_n 0, 1) := by decide +kernel
theorem dX12_article_6 : decode cX12_article 6 = .ok (.iconst 0, 1) := by decide +kernel
theorem dX12_article_7 : decode cX12_article 7 = .ok (.putfield 72, 3) := by decide +kernel
theorem dX12_article_10 : decode cX12_article 10 = .ok (.iload_n 1, 1) := by decide +kernel
theorem dX12_article_11 : decode cX12_article 11 = .ok (.i2l, 1) := by decide +kernel
theorem dX12_article_12 : decode cX12_article 12 = .ok (.lconst 0, 1) := by decide +kernel
theorem dX12_article_13 : decode cX12_article 13 = .ok (.ldc2_w 102, 3) := by decide +kernel
theorem dX12_article_16 : decode cX12_article 16 = .ok (.invokestatic 104, 3) := by decide +kernel
theorem dX12_article_19 : decode cX12_article 19 = .ok (.ifCond .ne 9, 3) := by decide +kernel
theorem dX12_article_22 : decode cX12_article 22 = .ok (.aload_n 0, 1) := by decide +kernel
theorem dX12_article_23 : decode cX12_article 23 = .ok (.iconst 5, 1) := by decide +kernel
theorem dX12_article_24 : decode cX12_article 24 = .ok (.invokevirtual 298, 3) := by decide +kernel
theorem dX12_article_27 : decode cX12_article 27 = .ok (.ireturn, 1) := by decide +kernel
theorem dX12_article_28 : decode cX12_article 28 = .ok (.aload_n 0, 1) := by decide +kernel
theorem dX12_article_29 : decode cX12_article 29 = .ok (.getfield 35, 3) := by decide +kernel
theorem dX12_article_32 : decode cX12_article 32 = .ok (.bipush 18, 2) := by decide +kernel
theorem dX12_article_34 : decode cX12_article 34 = .ok (.iload_n 1, 1) := by decide +kernel
theorem dX12_article_35 : decode cX12_article 35 = .ok (.iadd, 1) := by decide +kernel
theorem dX12_article_36 : decode cX12_article 36 = .ok (.iaload, 1) := by decide +kernel
theorem dX12_article_37 : decode cX12_article 37 = .ok (.ifCond .ne 12, 3) := by decide +kernel
theorem dX12_article_40 : decode cX12_article 40 = .ok (.aload_n 0, 1) := by decide +kernel
theorem dX12_article_41 : decode cX12_article 41 = .ok (.bipush 8, 2) := by decide +kernel
theorem dX12_article_43 : decode cX12_article 43 = .ok (.invokevirtual 298, 3) := by decide +kernel
theorem dX12_article_46 : decode cX12_article 46 = .ok (.goto 12, 3) := by decide +kernel
theorem dX12_article_49 : decode cX12_article 49 = .ok (.aload_n 0, 1) := by decide +kernel
theorem dX12_article_50 : decode cX12_article 50 = .ok (.getfield 35, 3) := by decide +kernel
theorem dX12_article_53 : decode cX12_article 53 = .ok (.bipush 22, 2) := by decide +kernel
theorem dX12_article_55 : decode cX12_article 55 = .ok (.iload_n 1, 1) := by decide +kernel
theorem dX12_article_56 : decode cX12_article 56 = .ok (.iadd, 1) := by decide +kernel
theorem dX12_article_57 : decode cX12_article 57 = .ok (.iaload, 1) := by decide +kernel
theorem dX12_article_58 : decode cX12_article 58 = .ok (.ireturn, 1) := by decide +kernel
theorem dX12_breach_0 : decode cX12_breach 0 = .ok (.aload_n 0, 1) := by decide +kernel
theorem dX12_breach_1 : decode cX12_breach 1 = .ok (.iconst 0, 1) := by decide +kernel
theorem dX12_breach_2 : decode cX12_breach 2 = .ok (.putfield 69, 3) := by decide +kernel
theorem dX12_breach_5 : decode cX12_breach 5 = .ok (.aload_n 0, 1) := by decide +kernel
theorem dX12_breach_6 : decode cX12_breach 6 = .ok (.iconst 0, 1) := by decide +kernel
theorem dX12_breach_7 : decode cX12_breach 7 = .ok (.putfield 72, 3) := by decide +kernel
theorem dX12_breach_10 : decode cX12_breach 10 = .ok (.iload_n 1, 1) := by decide +kernel
theorem dX12_breach_11 : decode cX12_breach 11 = .ok (.i2l, 1) := by decide +kernel
theorem dX12_breach_12 : decode cX12_breach 12 = .ok (.lconst 0, 1) := by decide +kernel
theorem dX12_breach_13 : decode cX12_breach 13 = .ok (.ldc2_w 310, 3) := by decide +kernel
theorem dX12_breach_16 : decode cX12_breach 16 = .ok (.invokestatic 104, 3) := by decide +kernel
theorem dX12_breach_19 : decode cX12_breach 19 = .ok (.ifCond .ne 9, 3) := by decide +kernel
theorem dX12_breach_22 : decode cX12_breach 22 = .ok (.aload_n 0, 1) := by decide +kernel
theorem dX12_breach_23 : decode cX12_breach 23 = .ok (.iconst 5, 1) := by decide +kernel
theorem dX12_breach_24 : decode cX12_breach 24 = .ok (.invokevirtual 298, 3) := by decide +kernel
theorem dX12_breach_27 : decode cX12_breach 27 = .ok (.ireturn, 1) := by decide +kernel
theorem dX12_breach_28 : decode cX12_breach 28 = .ok (.aload_n 0, 1) := by decide +kernel
theorem dX12_breach_29 : decode cX12_breach 29 = .ok (.getfield 35, 3) := by decide +kernel
theorem dX12_breach_32 : decode cX12_breach 32 = .ok (.iconst 4, 1) := by decide +kernel
theorem dX12_breach_33 : decode cX12_breach 33 = .ok (.iaload, 1) := by decide +kernel
theorem dX12_breach_34 : decode cX12_breach 34 = .ok (.ifCond .ne 10, 3) := by decide +kernel
theorem dX12_breach_37 : decode cX12_breach 37 = .ok (.aload_n 0, 1) := by decide +kernel
theorem dX12_breach_38 : decode cX12_breach 38 = .ok (.bipush 8, 2) := by decide +kernel
theorem dX12_breach_40 : decode cX12_breach 40 = .ok (.invokevirtual 298, 3) := by decide +kernel
theorem dX12_breach_43 : decode cX12_breach 43 = .ok (.ireturn, 1) := by decide +kernel
theorem dX12_breach_44 : decode cX12_breach 44 = .ok (.iload_n 1, 1) := by decide +kernel
theorem dX12_breach_45 : decode cX12_breach 45 = .ok (.iconst 3, 1) := by decide +kernel
theorem dX12_breach_46 : decode cX12_breach 46 = .ok (.if_icmp .ge 15, 3) := by decide +kernel
theorem dX12_breach_49 : decode cX12_breach 49 = .ok (.aload_n 0, 1) := by decide +kernel
theorem dX12_breach_50 : decode cX12_breach 50 = .ok (.getfield 35, 3) := by decide +kernel
theorem dX12_breach_53 : decode cX12_breach 53 = .ok (.bipush 8, 2) := by decide +kernel
theorem dX12_breach_55 : decode cX12_breach 55 = .ok (.iload_n 1, 1) := by decide +kernel
theorem dX12_breach_56 : decode cX12_breach 56 = .ok (.iadd, 1) := by decide +kernel
theorem dX12_breach_57 : decode cX12_breach 57 = .ok (.iaload, 1) := by decide +kernel
theorem dX12_breach_58 : decode cX12_breach 58 = .ok (.goto 31, 3) := by decide +kernel
theorem dX12_breach_61 : decode cX12_breach 61 = .ok (.iload_n 1, 1) := by decide +kernel
theorem dX12_breach_62 : decode cX12_breach 62 = .ok (.iconst 3, 1) := by decide +kernel
theorem dX12_breach_63 : decode cX12_breach 63 = .ok (.if_icmp .ne 16, 3) := by decide +kernel
theorem dX12_breach_66 : decode cX12_breach 66 = .ok (.aload_n 0, 1) := by decide +kernel
theorem dX12_breach_67 : decode cX12_breach 67 = .ok (.getfield 35, 3) := by decide +kernel
theorem dX12_breach_70 : decode cX12_breach 70 = .ok (.bipush 11, 2) := by decide +kernel
theorem dX12_breach_72 : decode cX12_breach 72 = .ok (.iaload, 1) := by decide +kernel
theorem dX12_breach_73 : decode cX12_breach 73 = .ok (.bipush 6, 2) := by decide +kernel
theorem dX12_breach_75 : decode cX12_breach 75 = .ok (.irem, 1) := by decide +kernel
theorem dX12_breach_76 : decode cX12_breach 76 = .ok (.goto 13, 3) := by decide +kernel
theorem dX12_breach_79 : decode cX12_breach 79 = .ok (.aload_n 0, 1) := by decide +kernel
theorem dX12_breach_80 : decode cX12_breach 80 = .ok (.getfield 35, 3) := by decide +kernel
theorem dX12_breach_83 : decode cX12_breach 83 = .ok (.bipush 11, 2) := by decide +kernel
theorem dX12_breach_85 : decode cX12_breach 85 = .ok (.iaload, 1) := by decide +kernel
theorem dX12_breach_86 : decode cX12_breach 86 = .ok (.bipush 6, 2) := by decide +kernel
theorem dX12_breach_88 : decode cX12_breach 88 = .ok (.idiv, 1) := by decide +kernel
theorem dX12_breach_89 : decode cX12_breach 89 = .ok (.ireturn, 1) := by decide +kernel
theorem dX12_breaks_0 : decode cX12_breaks 0 = .ok (.aload_n 0, 1) := by decide +kernel
theorem dX12_breaks_1 : decode cX12_breaks 1 = .ok (.getfield 35, 3) := by decide +kernel
theorem dX12_breaks_4 : decode cX12_breaks 4 = .ok (.iconst 4, 1) := by decide +kernel
theorem dX12_breaks_5 : decode cX12_breaks 5 = .ok (.iaload, 1) := by decide +kernel
theorem dX12_breaks_6 : decode cX12_breaks 6 = .ok (.ifCond .ne 40, 3) := by decide +kernel
theorem dX12_breaks_9 : decode cX12_breaks 9 = .ok (.aload_n 0, 1) := by decide +kernel
theorem dX12_breaks_10 : decode cX12_breaks 10 = .ok (.getfield 35, 3) := by decide +kernel
theorem dX12_breaks_13 : decode cX12_breaks 13 = .ok (.bipush 8, 2) := by decide +kernel
theorem dX12_breaks_15 : decode cX12_breaks 15 = .ok (.iload_n 1, 1) := by decide +kernel
theorem dX12_breaks_16 : decode cX12_breaks 16 = .ok (.iastore, 1) := by decide +kernel
theorem dX12_breaks_17 : decode cX12_breaks 17 = .ok (.aload_n 0, 1) := by decide +kernel
theorem dX12_breaks_18 : decode cX12_breaks 18 = .ok (.getfield 35, 3) := by decide +kernel
theorem dX12_breaks_21 : decode cX12_breaks 21 = .ok (.bipush 9, 2) := by decide +kernel
theorem dX12_breaks_23 : decode cX12_breaks 23 = .ok (.iload_n 2, 1) := by decide +kernel
theorem dX12_breaks_24 : decode cX12_breaks 24 = .ok (.iastore, 1) := by decide +kernel
theorem dX12_breaks_25 : decode cX12_breaks 25 = .ok (.aload_n 0, 1) := by decide +kernel
theorem dX12_breaks_26 : decode cX12_breaks 26 = .ok (.getfield 35, 3) := by decide +kernel
theorem dX12_breaks_29 : decode cX12_breaks 29 = .ok (.bipush 10, 2) := by decide +kernel
theorem dX12_breaks_31 : decode cX12_breaks 31 = .ok (.aload_n 0, 1) := by decide +kernel
theorem dX12_breaks_32 : decode cX12_breaks 32 = .ok (.getfield 35, 3) := by decide +kernel
theorem dX12_breaks_35 : decode cX12_breaks 35 = .ok (.iconst 3, 1) := by decide +kernel
theorem dX12_breaks_36 : decode cX12_breaks 36 = .ok (.iaload, 1) := by decide +kernel
theorem dX12_breaks_37 : decode cX12_breaks 37 = .ok (.iastore, 1) := by decide +kernel
theorem dX12_breaks_38 : decode cX12_breaks 38 = .ok (.aload_n 0, 1) := by decide +kernel
theorem dX12_breaks_39 : decode cX12_breaks 39 = .ok (.getfield 35, 3) := by decide +kernel
theorem dX12_breaks_42 : decode cX12_breaks 42 = .ok (.bipush 11, 2) := by decide +kernel
theorem dX12_breaks_44 : decode cX12_breaks 44 = .ok (.iload_n 3, 1) := by decide +kernel
theorem dX12_breaks_45 : decode cX12_breaks 45 = .ok (.iastore, 1) := by decide +kernel
theorem dX12_breaks_46 : decode cX12_breaks 46 = .ok (.aload_n 0, 1) := by decide +kernel
theorem dX12_breaks_47 : decode cX12_breaks 47 = .ok (.getfield 35, 3) := by decide +kernel
theorem dX12_breaks_50 : decode cX12_breaks 50 = .ok (.iconst 4, 1) := by decide +kernel
theorem dX12_breaks_51 : decode cX12_breaks 51 = .ok (.dup2, 1) := by decide +kernel
theorem dX12_breaks_52 : decode cX12_breaks 52 = .ok (.iaload, 1) := by decide +kernel
theorem dX12_breaks_53 : decode cX12_breaks 53 = .ok (.iconst 1, 1) := by decide +kernel
theorem dX12_breaks_54 : decode cX12_breaks 54 = .ok (.iadd, 1) := by decide +kernel
theorem dX12_breaks_55 : decode cX12_breaks 55 = .ok (.iastore, 1) := by decide +kernel
theorem dX12_breaks_56 : decode cX12_breaks 56 = .ok (.aload_n 0, 1) := by decide +kernel
theorem dX12_breaks_57 : decode cX12_breaks 57 = .ok (.getfield 35, 3) := by decide +kernel
theorem dX12_breaks_60 : decode cX12_breaks 60 = .ok (.bipush 16, 2) := by decide +kernel
theorem dX12_breaks_62 : decode cX12_breaks 62 = .ok (.iload_n 1, 1) := by decide +kernel
theorem dX12_breaks_63 : decode cX12_breaks 63 = .ok (.iadd, 1) := by decide +kernel
theorem dX12_breaks_64 : decode cX12_breaks 64 = .ok (.dup2, 1) := by decide +kernel
theorem dX12_breaks_65 : decode cX12_breaks 65 = .ok (.iaload, 1) := by decide +kernel
theorem dX12_breaks_66 : decode cX12_breaks 66 = .ok (.iconst 1, 1) := by decide +kernel
theorem dX12_breaks_67 : decode cX12_breaks 67 = .ok (.iadd, 1) := by decide +kernel
theorem dX12_breaks_68 : decode cX12_breaks 68 = .ok (.iastore, 1) := by decide +kernel
theorem dX12_breaks_69 : decode cX12_breaks 69 = .ok (.return_, 1) := by decide +kernel
theorem dX12_falls_0 : decode cX12_falls 0 = .ok (.iconst 0, 1) := by decide +kernel
theorem dX12_falls_1 : decode cX12_falls 1 = .ok (.istore_n 2, 1) := by decide +kernel
theorem dX12_falls_2 : decode cX12_falls 2 = .ok (.iconst 0, 1) := by decide +kernel
theorem dX12_falls_3 : decode cX12_falls 3 = .ok (.istore_n 3, 1) := by decide +kernel
theorem dX12_falls_4 : decode cX12_falls 4 = .ok (.iload_n 3, 1) := by decide +kernel
theorem dX12_falls_5 : decode cX12_falls 5 = .ok (.aload_n 0, 1) := by decide +kernel
theorem dX12_falls_6 : decode cX12_falls 6 = .ok (.getfield 35, 3) := by decide +kernel
theorem dX12_falls_9 : decode cX12_falls 9 = .ok (.iconst 1, 1) := by decide +kernel
theorem dX12_falls_10 : decode cX12_falls 10 = .ok (.iaload, 1) := by decide +kernel
theorem dX12_falls_11 : decode cX12_falls 11 = .ok (.if_icmp .ge 88, 3) := by decide +kernel
theorem dX12_falls_14 : decode cX12_falls 14 = .ok (.iconst 0, 1) := by decide +kernel
theorem dX12_falls_15 : decode cX12_falls 15 = .ok (.istore 4, 2) := by decide +kernel
theorem dX12_falls_17 : decode cX12_falls 17 = .ok (.iload 4, 2) := by decide +kernel
theorem dX12_falls_19 : decode cX12_falls 19 = .ok (.aload_n 0, 1) := by decide +kernel
theorem dX12_falls_20 : decode cX12_falls 20 = .ok (.getfield 35, 3) := by decide +kernel
theorem dX12_falls_23 : decode cX12_falls 23 = .ok (.iconst 0, 1) := by decide +kernel
theorem dX12_falls_24 : decode cX12_falls 24 = .ok (.iaload, 1) := by decide +kernel
theorem dX12_falls_25 : decode cX12_falls 25 = .ok (.if_icmp .ge 68, 3) := by decide +kernel
theorem dX12_falls_28 : decode cX12_falls 28 = .ok (.bipush 26, 2) := by decide +kernel
theorem dX12_falls_30 : decode cX12_falls 30 = .ok (.iload 4, 2) := by decide +kernel
theorem dX12_falls_32 : decode cX12_falls 32 = .ok (.iload_n 3, 1) := by decide +kernel
theorem dX12_falls_33 : decode cX12_falls 33 = .ok (.invokestatic 292, 3) := by decide +kernel
theorem dX12_falls_36 : decode cX12_falls 36 = .ok (.iadd, 1) := by decide +kernel
theorem dX12_falls_37 : decode cX12_falls 37 = .ok (.istore 5, 2) := by decide +kernel
theorem dX12_falls_39 : decode cX12_falls 39 = .ok (.iconst 0, 1) := by decide +kernel
theorem dX12_falls_40 : decode cX12_falls 40 = .ok (.aload_n 0, 1) := by decide +kernel
theorem dX12_falls_41 : decode cX12_falls 41 = .ok (.getfield 35, 3) := by decide +kernel
theorem dX12_falls_44 : decode cX12_falls 44 = .ok (.iload 5, 2) := by decide +kernel
theorem dX12_falls_46 : decode cX12_falls 46 = .ok (.iaload, 1) := by decide +kernel
theorem dX12_falls_47 : decode cX12_falls 47 = .ok (.iload_n 1, 1) := by decide +kernel
theorem dX12_falls_48 : decode cX12_falls 48 = .ok (.iadd, 1) := by decide +kernel
theorem dX12_falls_49 : decode cX12_falls 49 = .ok (.bipush 99, 2) := by decide +kernel
theorem dX12_falls_51 : decode cX12_falls 51 = .ok (.isub, 1) := by decide +kernel
theorem dX12_falls_52 : decode cX12_falls 52 = .ok (.invokestatic 312, 3) := by decide +kernel
theorem dX12_falls_55 : decode cX12_falls 55 = .ok (.istore 6, 2) := by decide +kernel
theorem dX12_falls_57 : decode cX12_falls 57 = .ok (.aload_n 0, 1) := by decide +kernel
theorem dX12_falls_58 : decode cX12_falls 58 = .ok (.getfield 35, 3) := by decide +kernel
theorem dX12_falls_61 : decode cX12_falls 61 = .ok (.iload 5, 2) := by decide +kernel
theorem dX12_falls_63 : decode cX12_falls 63 = .ok (.dup2, 1) := by decide +kernel
theorem dX12_falls_64 : decode cX12_falls 64 = .ok (.iaload, 1) := by decide +kernel
theorem dX12_falls_65 : decode cX12_falls 65 = .ok (.iload_n 1, 1) := by decide +kernel
theorem dX12_falls_66 : decode cX12_falls 66 = .ok (.iload 6, 2) := by decide +kernel
theorem dX12_falls_68 : decode cX12_falls 68 = .ok (.isub, 1) := by decide +kernel
theorem dX12_falls_69 : decode cX12_falls 69 = .ok (.iadd, 1) := by decide +kernel
theorem dX12_falls_70 : decode cX12_falls 70 = .ok (.iastore, 1) := by decide +kernel
theorem dX12_falls_71 : decode cX12_falls 71 = .ok (.iload_n 2, 1) := by decide +kernel
theorem dX12_falls_72 : decode cX12_falls 72 = .ok (.iload 6, 2) := by decide +kernel
theorem dX12_falls_74 : decode cX12_falls 74 = .ok (.iadd, 1) := by decide +kernel
theorem dX12_falls_75 : decode cX12_falls 75 = .ok (.istore_n 2, 1) := by decide +kernel
theorem dX12_falls_76 : decode cX12_falls 76 = .ok (.aload_n 0, 1) := by decide +kernel
theorem dX12_falls_77 : decode cX12_falls 77 = .ok (.getfield 35, 3) := by decide +kernel
theorem dX12_falls_80 : decode cX12_falls 80 = .ok (.bipush 7, 2) := by decide +kernel
theorem dX12_falls_82 : decode cX12_falls 82 = .ok (.dup2, 1) := by decide +kernel
theorem dX12_falls_83 : decode cX12_falls 83 = .ok (.iaload, 1) := by decide +kernel
theorem dX12_falls_84 : decode cX12_falls 84 = .ok (.iload_n 1, 1) := by decide +kernel
theorem dX12_falls_85 : decode cX12_falls 85 = .ok (.iadd, 1) := by decide +kernel
theorem dX12_falls_86 : decode cX12_falls 86 = .ok (.iastore, 1) := by decide +kernel
theorem dX12_falls_87 : decode cX12_falls 87 = .ok (.iinc 4 1, 3) := by decide +kernel
theorem dX12_falls_90 : decode cX12_falls 90 = .ok (.goto (-73), 3) := by decide +kernel
theorem dX12_falls_93 : decode cX12_falls 93 = .ok (.iinc 3 1, 3) := by decide +kernel
theorem dX12_falls_96 : decode cX12_falls 96 = .ok (.goto (-92), 3) := by decide +kernel
theorem dX12_falls_99 : decode cX12_falls 99 = .ok (.aload_n 0, 1) := by decide +kernel
theorem dX12_falls_100 : decode cX12_falls 100 = .ok (.getfield 35, 3) := by decide +kernel
theorem dX12_falls_103 : decode cX12_falls 103 = .ok (.bipush 6, 2) := by decide +kernel
theorem dX12_falls_105 : decode cX12_falls 105 = .ok (.dup2, 1) := by decide +kernel
theorem dX12_falls_106 : decode cX12_falls 106 = .ok (.iaload, 1) := by decide +kernel
theorem dX12_falls_107 : decode cX12_falls 107 = .ok (.iload_n 2, 1) := by decide +kernel
theorem dX12_falls_108 : decode cX12_falls 108 = .ok (.iadd, 1) := by decide +kernel
theorem dX12_falls_109 : decode cX12_falls 109 = .ok (.iastore, 1) := by decide +kernel
theorem dX12_falls_110 : decode cX12_falls 110 = .ok (.iload_n 2, 1) := by decide +kernel
theorem dX12_falls_111 : decode cX12_falls 111 = .ok (.ireturn, 1) := by decide +kernel
theorem dX12_fall_0 : decode cX12_fall 0 = .ok (.aload_n 0, 1) := by decide +kernel
theorem dX12_fall_1 : decode cX12_fall 1 = .ok (.iconst 0, 1) := by decide +kernel
theorem dX12_fall_2 : decode cX12_fall 2 = .ok (.putfield 69, 3) := by decide +kernel
theorem dX12_fall_5 : decode cX12_fall 5 = .ok (.aload_n 0, 1) := by decide +kernel
theorem dX12_fall_6 : decode cX12_fall 6 = .ok (.iconst 0, 1) := by decide +kernel
theorem dX12_fall_7 : decode cX12_fall 7 = .ok (.putfield 72, 3) := by decide +kernel
theorem dX12_fall_10 : decode cX12_fall 10 = .ok (.iload_n 1, 1) := by decide +kernel
theorem dX12_fall_11 : decode cX12_fall 11 = .ok (.i2l, 1) := by decide +kernel
theorem dX12_fall_12 : decode cX12_fall 12 = .ok (.lconst 0, 1) := by decide +kernel
theorem dX12_fall_13 : decode cX12_fall 13 = .ok (.ldc2_w 315, 3) := by decide +kernel
theorem dX12_fall_16 : decode cX12_fall 16 = .ok (.invokestatic 104, 3) := by decide +kernel
theorem dX12_fall_19 : decode cX12_fall 19 = .ok (.ifCond .eq 11, 3) := by decide +kernel
theorem dX12_fall_22 : decode cX12_fall 22 = .ok (.aload_n 0, 1) := by decide +kernel
theorem dX12_fall_23 : decode cX12_fall 23 = .ok (.iload_n 1, 1) := by decide +kernel
theorem dX12_fall_24 : decode cX12_fall 24 = .ok (.invokevirtual 317, 3) := by decide +kernel
theorem dX12_fall_27 : decode cX12_fall 27 = .ok (.goto 8, 3) := by decide +kernel
theorem dX12_fall_30 : decode cX12_fall 30 = .ok (.aload_n 0, 1) := by decide +kernel
theorem dX12_fall_31 : decode cX12_fall 31 = .ok (.iconst 5, 1) := by decide +kernel
theorem dX12_fall_32 : decode cX12_fall 32 = .ok (.invokevirtual 298, 3) := by decide +kernel
theorem dX12_fall_35 : decode cX12_fall 35 = .ok (.ireturn, 1) := by decide +kernel
theorem dX12_thaws_0 : decode cX12_thaws 0 = .ok (.iconst 0, 1) := by decide +kernel
theorem dX12_thaws_1 : decode cX12_thaws 1 = .ok (.istore_n 2, 1) := by decide +kernel
theorem dX12_thaws_2 : decode cX12_thaws 2 = .ok (.iconst 0, 1) := by decide +kernel
theorem dX12_thaws_3 : decode cX12_thaws 3 = .ok (.istore_n 3, 1) := by decide +kernel
theorem dX12_thaws_4 : decode cX12_thaws 4 = .ok (.iload_n 3, 1) := by decide +kernel
theorem dX12_thaws_5 : decode cX12_thaws 5 = .ok (.aload_n 0, 1) := by decide +kernel
theorem dX12_thaws_6 : decode cX12_thaws 6 = .ok (.getfield 35, 3) := by decide +kernel
theorem dX12_thaws_9 : decode cX12_thaws 9 = .ok (.iconst 1, 1) := by decide +kernel
theorem dX12_thaws_10 : decode cX12_thaws 10 = .ok (.iaload, 1) := by decide +kernel
theorem dX12_thaws_11 : decode cX12_thaws 11 = .ok (.if_icmp .ge 169, 3) := by decide +kernel
theorem dX12_thaws_14 : decode cX12_thaws 14 = .ok (.iconst 0, 1) := by decide +kernel
theorem dX12_thaws_15 : decode cX12_thaws 15 = .ok (.istore 4, 2) := by decide +kernel
theorem dX12_thaws_17 : decode cX12_thaws 17 = .ok (.iload 4, 2) := by decide +kernel
theorem dX12_thaws_19 : decode cX12_thaws 19 = .ok (.aload_n 0, 1) := by decide +kernel
theorem dX12_thaws_20 : decode cX12_thaws 20 = .ok (.getfield 35, 3) := by decide +kernel
theorem dX12_thaws_23 : decode cX12_thaws 23 = .ok (.iconst 0, 1) := by decide +kernel
theorem dX12_thaws_24 : decode cX12_thaws 24 = .ok (.iaload, 1) := by decide +kernel
theorem dX12_thaws_25 : decode cX12_thaws 25 = .ok (.if_icmp .ge 149, 3) := by decide +kernel
theorem dX12_thaws_28 : decode cX12_thaws 28 = .ok (.iload 4, 2) := by decide +kernel
theorem dX12_thaws_30 : decode cX12_thaws 30 = .ok (.iload_n 3, 1) := by decide +kernel
theorem dX12_thaws_31 : decode cX12_thaws 31 = .ok (.invokestatic 292, 3) := by decide +kernel
theorem dX12_thaws_34 : decode cX12_thaws 34 = .ok (.istore 5, 2) := by decide +kernel
theorem dX12_thaws_36 : decode cX12_thaws 36 = .ok (.iload_n 1, 1) := by decide +kernel
theorem dX12_thaws_37 : decode cX12_thaws 37 = .ok (.aload_n 0, 1) := by decide +kernel
theorem dX12_thaws_38 : decode cX12_thaws 38 = .ok (.getfield 35, 3) := by decide +kernel
theorem dX12_thaws_41 : decode cX12_thaws 41 = .ok (.bipush 98, 2) := by decide +kernel
theorem dX12_thaws_43 : decode cX12_thaws 43 = .ok (.iload 5, 2) := by decide +kernel
theorem dX12_thaws_45 : decode cX12_thaws 45 = .ok (.iadd, 1) := by decide +kernel
theorem dX12_thaws_46 : decode cX12_thaws 46 = .ok (.iaload, 1) := by decide +kernel
theorem dX12_thaws_47 : decode cX12_thaws 47 = .ok (.iadd, 1) := by decide +kernel
theorem dX12_thaws_48 : decode cX12_thaws 48 = .ok (.istore 6, 2) := by decide +kernel
theorem dX12_thaws_50 : decode cX12_thaws 50 = .ok (.iload 6, 2) := by decide +kernel
theorem dX12_thaws_52 : decode cX12_thaws 52 = .ok (.aload_n 0, 1) := by decide +kernel
theorem dX12_thaws_53 : decode cX12_thaws 53 = .ok (.getfield 35, 3) := by decide +kernel
theorem dX12_thaws_56 : decode cX12_thaws 56 = .ok (.bipush 26, 2) := by decide +kernel
theorem dX12_thaws_58 : decode cX12_thaws 58 = .ok (.iload 5, 2) := by decide +kernel
theorem dX12_thaws_60 : decode cX12_thaws 60 = .ok (.iadd, 1) := by decide +kernel
theorem dX12_thaws_61 : decode cX12_thaws 61 = .ok (.iaload, 1) := by decide +kernel
theorem dX12_thaws_62 : decode cX12_thaws 62 = .ok (.invokestatic 320, 3) := by decide +kernel
theorem dX12_thaws_65 : decode cX12_thaws 65 = .ok (.istore 7, 2) := by decide +kernel
theorem dX12_thaws_67 : decode cX12_thaws 67 = .ok (.aload_n 0, 1) := by decide +kernel
theorem dX12_thaws_68 : decode cX12_thaws 68 = .ok (.getfield 35, 3) := by decide +kernel
theorem dX12_thaws_71 : decode cX12_thaws 71 = .ok (.bipush 26, 2) := by decide +kernel
theorem dX12_thaws_73 : decode cX12_thaws 73 = .ok (.iload 5, 2) := by decide +kernel
theorem dX12_thaws_75 : decode cX12_thaws 75 = .ok (.iadd, 1) := by decide +kernel
theorem dX12_thaws_76 : decode cX12_thaws 76 = .ok (.dup2, 1) := by decide +kernel
theorem dX12_thaws_77 : decode cX12_thaws 77 = .ok (.iaload, 1) := by decide +kernel
theorem dX12_thaws_78 : decode cX12_thaws 78 = .ok (.iload 7, 2) := by decide +kernel
theorem dX12_thaws_80 : decode cX12_thaws 80 = .ok (.isub, 1) := by decide +kernel
theorem dX12_thaws_81 : decode cX12_thaws 81 = .ok (.iastore, 1) := by decide +kernel
theorem dX12_thaws_82 : decode cX12_thaws 82 = .ok (.aload_n 0, 1) := by decide +kernel
theorem dX12_thaws_83 : decode cX12_thaws 83 = .ok (.getfield 35, 3) := by decide +kernel
theorem dX12_thaws_86 : decode cX12_thaws 86 = .ok (.sipush 170, 3) := by decide +kernel
theorem dX12_thaws_89 : decode cX12_thaws 89 = .ok (.iload 5, 2) := by decide +kernel
theorem dX12_thaws_91 : decode cX12_thaws 91 = .ok (.iadd, 1) := by decide +kernel
theorem dX12_thaws_92 : decode cX12_thaws 92 = .ok (.iaload, 1) := by decide +kernel
theorem dX12_thaws_93 : decode cX12_thaws 93 = .ok (.iconst 1, 1) := by decide +kernel
theorem dX12_thaws_94 : decode cX12_thaws 94 = .ok (.if_icmp .ne 7, 3) := by decide +kernel
theorem dX12_thaws_97 : decode cX12_thaws 97 = .ok (.iconst 0, 1) := by decide +kernel
theorem dX12_thaws_98 : decode cX12_thaws 98 = .ok (.goto 21, 3) := by decide +kernel
theorem dX12_thaws_101 : decode cX12_thaws 101 = .ok (.iload 6, 2) := by decide +kernel
theorem dX12_thaws_103 : decode cX12_thaws 103 = .ok (.iload 7, 2) := by decide +kernel
theorem dX12_thaws_105 : decode cX12_thaws 105 = .ok (.isub, 1) := by decide +kernel
theorem dX12_thaws_106 : decode cX12_thaws 106 = .ok (.aload_n 0, 1) := by decide +kernel
theorem dX12_thaws_107 : decode cX12_thaws 107 = .ok (.getfield 35, 3) := by decide +kernel
theorem dX12_thaws_110 : decode cX12_thaws 110 = .ok (.bipush 62, 2) := by decide +kernel
theorem dX12_thaws_112 : decode cX12_thaws 112 = .ok (.iload 5, 2) := by decide +kernel
theorem dX12_thaws_114 : decode cX12_thaws 114 = .ok (.iadd, 1) := by decide +kernel
theorem dX12_thaws_115 : decode cX12_thaws 115 = .ok (.iaload, 1) := by decide +kernel
theorem dX12_thaws_116 : decode cX12_thaws 116 = .ok (.invokestatic 320, 3) := by decide +kernel
theorem dX12_thaws_119 : decode cX12_thaws 119 = .ok (.istore 8, 2) := by decide +kernel
theorem dX12_thaws_121 : decode cX12_thaws 121 = .ok (.aload_n 0, 1) := by decide +kernel
theorem dX12_thaws_122 : decode cX12_thaws 122 = .ok (.getfield 35, 3) := by decide +kernel
theorem dX12_thaws_125 : decode cX12_thaws 125 = .ok (.bipush 62, 2) := by decide +kernel
theorem dX12_thaws_127 : decode cX12_thaws 127 = .ok (.iload 5, 2) := by decide +kernel
theorem dX12_thaws_129 : decode cX12_thaws 129 = .ok (.iadd, 1) := by decide +kernel
theorem dX12_thaws_130 : decode cX12_thaws 130 = .ok (.dup2, 1) := by decide +kernel
theorem dX12_thaws_131 : decode cX12_thaws 131 = .ok (.iaload, 1) := by decide +kernel
theorem dX12_thaws_132 : decode cX12_thaws 132 = .ok (.iload 8, 2) := by decide +kernel
theorem dX12_thaws_134 : decode cX12_thaws 134 = .ok (.isub, 1) := by decide +kernel
theorem dX12_thaws_135 : decode cX12_thaws 135 = .ok (.iastore, 1) := by decide +kernel
theorem dX12_thaws_136 : decode cX12_thaws 136 = .ok (.aload_n 0, 1) := by decide +kernel
theorem dX12_thaws_137 : decode cX12_thaws 137 = .ok (.getfield 35, 3) := by decide +kernel
theorem dX12_thaws_140 : decode cX12_thaws 140 = .ok (.sipush 170, 3) := by decide +kernel
theorem dX12_thaws_143 : decode cX12_thaws 143 = .ok (.iload 5, 2) := by decide +kernel
theorem dX12_thaws_145 : decode cX12_thaws 145 = .ok (.iadd, 1) := by decide +kernel
theorem dX12_thaws_146 : decode cX12_thaws 146 = .ok (.iconst 0, 1) := by decide +kernel
theorem dX12_thaws_147 : decode cX12_thaws 147 = .ok (.iastore, 1) := by decide +kernel
theorem dX12_thaws_148 : decode cX12_thaws 148 = .ok (.aload_n 0, 1) := by decide +kernel
theorem dX12_thaws_149 : decode cX12_thaws 149 = .ok (.getfield 35, 3) := by decide +kernel
theorem dX12_thaws_152 : decode cX12_thaws 152 = .ok (.sipush 206, 3) := by decide +kernel
theorem dX12_thaws_155 : decode cX12_thaws 155 = .ok (.iload 5, 2) := by decide +kernel
theorem dX12_thaws_157 : decode cX12_thaws 157 = .ok (.iadd, 1) := by decide +kernel
theorem dX12_thaws_158 : decode cX12_thaws 158 = .ok (.iconst 0, 1) := by decide +kernel
theorem dX12_thaws_159 : decode cX12_thaws 159 = .ok (.iastore, 1) := by decide +kernel
theorem dX12_thaws_160 : decode cX12_thaws 160 = .ok (.iload_n 2, 1) := by decide +kernel
theorem dX12_thaws_161 : decode cX12_thaws 161 = .ok (.iload 7, 2) := by decide +kernel
theorem dX12_thaws_163 : decode cX12_thaws 163 = .ok (.iload 8, 2) := by decide +kernel
theorem dX12_thaws_165 : decode cX12_thaws 165 = .ok (.iadd, 1) := by decide +kernel
theorem dX12_thaws_166 : decode cX12_thaws 166 = .ok (.iadd, 1) := by decide +kernel
theorem dX12_thaws_167 : decode cX12_thaws 167 = .ok (.istore_n 2, 1) := by decide +kernel
theorem dX12_thaws_168 : decode cX12_thaws 168 = .ok (.iinc 4 1, 3) := by decide +kernel
theorem dX12_thaws_171 : decode cX12_thaws 171 = .ok (.goto (-154), 3) := by decide +kernel
theorem dX12_thaws_174 : decode cX12_thaws 174 = .ok (.iinc 3 1, 3) := by decide +kernel
theorem dX12_thaws_177 : decode cX12_thaws 177 = .ok (.goto (-173), 3) := by decide +kernel
theorem dX12_thaws_180 : decode cX12_thaws 180 = .ok (.aload_n 0, 1) := by decide +kernel
theorem dX12_thaws_181 : decode cX12_thaws 181 = .ok (.getfield 35, 3) := by decide +kernel
theorem dX12_thaws_184 : decode cX12_thaws 184 = .ok (.iconst 5, 1) := by decide +kernel
theorem dX12_thaws_185 : decode cX12_thaws 185 = .ok (.dup2, 1) := by decide +kernel
theorem dX12_thaws_186 : decode cX12_thaws 186 = .ok (.iaload, 1) := by decide +kernel
theorem dX12_thaws_187 : decode cX12_thaws 187 = .ok (.iload_n 2, 1) := by decide +kernel
theorem dX12_thaws_188 : decode cX12_thaws 188 = .ok (.iadd, 1) := by decide +kernel
theorem dX12_thaws_189 : decode cX12_thaws 189 = .ok (.iastore, 1) := by decide +kernel
theorem dX12_thaws_190 : decode cX12_thaws 190 = .ok (.iload_n 2, 1) := by decide +kernel
theorem dX12_thaws_191 : decode cX12_thaws 191 = .ok (.ireturn, 1) := by decide +kernel
theorem dX12_thaw_0 : decode cX12_thaw 0 = .ok (.aload_n 0, 1) := by decide +kernel
theorem dX12_thaw_1 : decode cX12_thaw 1 = .ok (.iconst 0, 1) := by decide +kernel
theorem dX12_thaw_2 : decode cX12_thaw 2 = .ok (.putfield 69, 3) := by decide +kernel
theorem dX12_thaw_5 : decode cX12_thaw 5 = .ok (.aload_n 0, 1) := by decide +kernel
theorem dX12_thaw_6 : decode cX12_thaw 6 = .ok (.iconst 0, 1) := by decide +kernel
theorem dX12_thaw_7 : decode cX12_thaw 7 = .ok (.putfield 72, 3) := by decide +kernel
theorem dX12_thaw_10 : decode cX12_thaw 10 = .ok (.iload_n 1, 1) := by decide +kernel
theorem dX12_thaw_11 : decode cX12_thaw 11 = .ok (.i2l, 1) := by decide +kernel
theorem dX12_thaw_12 : decode cX12_thaw 12 = .ok (.lconst 0, 1) := by decide +kernel
theorem dX12_thaw_13 : decode cX12_thaw 13 = .ok (.ldc2_w 315, 3) := by decide +kernel
theorem dX12_thaw_16 : decode cX12_thaw 16 = .ok (.invokestatic 104, 3) := by decide +kernel
theorem dX12_thaw_19 : decode cX12_thaw 19 = .ok (.ifCond .eq 11, 3) := by decide +kernel
theorem dX12_thaw_22 : decode cX12_thaw 22 = .ok (.aload_n 0, 1) := by decide +kernel
theorem dX12_thaw_23 : decode cX12_thaw 23 = .ok (.iload_n 1, 1) := by decide +kernel
theorem dX12_thaw_24 : decode cX12_thaw 24 = .ok (.invokevirtual 323, 3) := by decide +kernel
theorem dX12_thaw_27 : decode cX12_thaw 27 = .ok (.goto 8, 3) := by decide +kernel
theorem dX12_thaw_30 : decode cX12_thaw 30 = .ok (.aload_n 0, 1) := by decide +kernel
theorem dX12_thaw_31 : decode cX12_thaw 31 = .ok (.iconst 5, 1) := by decide +kernel
theorem dX12_thaw_32 : decode cX12_thaw 32 = .ok (.invokevirtual 298, 3) := by decide +kernel
theorem dX12_thaw_35 : decode cX12_thaw 35 = .ok (.ireturn, 1) := by decide +kernel
theorem dX12_isHand_0 : decode cX12_isHand 0 = .ok (.aload_n 0, 1) := by decide +kernel
theorem dX12_isHand_1 : decode cX12_isHand 1 = .ok (.getfield 35, 3) := by decide +kernel
theorem dX12_isHand_4 : decode cX12_isHand 4 = .ok (.bipush 12, 2) := by decide +kernel
theorem dX12_isHand_6 : decode cX12_isHand 6 = .ok (.iload_n 1, 1) := by decide +kernel
theorem dX12_isHand_7 : decode cX12_isHand 7 = .ok (.iadd, 1) := by decide +kernel
theorem dX12_isHand_8 : decode cX12_isHand 8 = .ok (.iaload, 1) := by decide +kernel
theorem dX12_isHand_9 : decode cX12_isHand 9 = .ok (.aload_n 0, 1) := by decide +kernel
theorem dX12_isHand_10 : decode cX12_isHand 10 = .ok (.getfield 35, 3) := by decide +kernel
theorem dX12_isHand_13 : decode cX12_isHand 13 = .ok (.bipush 14, 2) := by decide +kernel
theorem dX12_isHand_15 : decode cX12_isHand 15 = .ok (.iload_n 1, 1) := by decide +kernel
theorem dX12_isHand_16 : decode cX12_isHand 16 = .ok (.iadd, 1) := by decide +kernel
theorem dX12_isHand_17 : decode cX12_isHand 17 = .ok (.iaload, 1) := by decide +kernel
theorem dX12_isHand_18 : decode cX12_isHand 18 = .ok (.isub, 1) := by decide +kernel
theorem dX12_isHand_19 : decode cX12_isHand 19 = .ok (.iload_n 2, 1) := by decide +kernel
theorem dX12_isHand_20 : decode cX12_isHand 20 = .ok (.if_icmp .lt 7, 3) := by decide +kernel
theorem dX12_isHand_23 : decode cX12_isHand 23 = .ok (.iconst 1, 1) := by decide +kernel
theorem dX12_isHand_24 : decode cX12_isHand 24 = .ok (.goto 4, 3) := by decide +kernel
theorem dX12_isHand_27 : decode cX12_isHand 27 = .ok (.iconst 0, 1) := by decide +kernel
theorem dX12_isHand_28 : decode cX12_isHand 28 = .ok (.ireturn, 1) := by decide +kernel
theorem dX12_builds_0 : decode cX12_builds 0 = .ok (.aload_n 0, 1) := by decide +kernel
theorem dX12_builds_1 : decode cX12_builds 1 = .ok (.iload_n 1, 1) := by decide +kernel
theorem dX12_builds_2 : decode cX12_builds 2 = .ok (.bipush 6, 2) := by decide +kernel
theorem dX12_builds_4 : decode cX12_builds 4 = .ok (.irem, 1) := by decide +kernel
theorem dX12_builds_5 : decode cX12_builds 5 = .ok (.invokevirtual 270, 3) := by decide +kernel
theorem dX12_builds_8 : decode cX12_builds 8 = .ok (.istore_n 3, 1) := by decide +kernel
theorem dX12_builds_9 : decode cX12_builds 9 = .ok (.iconst 0, 1) := by decide +kernel
theorem dX12_builds_10 : decode cX12_builds 10 = .ok (.istore 4, 2) := by decide +kernel
theorem dX12_builds_12 : decode cX12_builds 12 = .ok (.iload 4, 2) := by decide +kernel
theorem dX12_builds_14 : decode cX12_builds 14 = .ok (.iload_n 2, 1) := by decide +kernel
theorem dX12_builds_15 : decode cX12_builds 15 = .ok (.if_icmp .ge 184, 3) := by decide +kernel
theorem dX12_builds_18 : decode cX12_builds 18 = .ok (.aload_n 0, 1) := by decide +kernel
theorem dX12_builds_19 : decode cX12_builds 19 = .ok (.iload_n 3, 1) := by decide +kernel
theorem dX12_builds_20 : decode cX12_builds 20 = .ok (.iconst 1, 1) := by decide +kernel
theorem dX12_builds_21 : decode cX12_builds 21 = .ok (.invokevirtual 326, 3) := by decide +kernel
theorem dX12_builds_24 : decode cX12_builds 24 = .ok (.ifCond .eq 175, 3) := by decide +kernel
theorem dX12_builds_27 : decode cX12_builds 27 = .ok (.aload_n 0, 1) := by decide +kernel
theorem dX12_builds_28 : decode cX12_builds 28 = .ok (.getfield 35, 3) := by decide +kernel
theorem dX12_builds_31 : decode cX12_builds 31 = .ok (.bipush 26, 2) := by decide +kernel
theorem dX12_builds_33 : decode cX12_builds 33 = .ok (.iload_n 1, 1) := by decide +kernel
theorem dX12_builds_34 : decode cX12_builds 34 = .ok (.iadd, 1) := by decide +kernel
theorem dX12_builds_35 : decode cX12_builds 35 = .ok (.iaload, 1) := by decide +kernel
theorem dX12_builds_36 : decode cX12_builds 36 = .ok (.ifCond .le 163, 3) := by decide +kernel
theorem dX12_builds_39 : decode cX12_builds 39 = .ok (.aload_n 0, 1) := by decide +kernel
theorem dX12_builds_40 : decode cX12_builds 40 = .ok (.getfield 35, 3) := by decide +kernel
theorem dX12_builds_43 : decode cX12_builds 43 = .ok (.bipush 62, 2) := by decide +kernel
theorem dX12_builds_45 : decode cX12_builds 45 = .ok (.iload_n 1, 1) := by decide +kernel
theorem dX12_builds_46 : decode cX12_builds 46 = .ok (.iadd, 1) := by decide +kernel
theorem dX12_builds_47 : decode cX12_builds 47 = .ok (.iaload, 1) := by decide +kernel
theorem dX12_builds_48 : decode cX12_builds 48 = .ok (.bipush 99, 2) := by decide +kernel
theorem dX12_builds_50 : decode cX12_builds 50 = .ok (.if_icmp .ge 149, 3) := by decide +kernel
theorem dX12_builds_53 : decode cX12_builds 53 = .ok (.aload_n 0, 1) := by decide +kernel
theorem dX12_builds_54 : decode cX12_builds 54 = .ok (.getfield 35, 3) := by decide +kernel
theorem dX12_builds_57 : decode cX12_builds 57 = .ok (.bipush 19, 2) := by decide +kernel
theorem dX12_builds_59 : decode cX12_builds 59 = .ok (.iaload, 1) := by decide +kernel
theorem dX12_builds_60 : decode cX12_builds 60 = .ok (.iconst 1, 1) := by decide +kernel
theorem dX12_builds_61 : decode cX12_builds 61 = .ok (.if_icmp .ne 26, 3) := by decide +kernel
theorem dX12_builds_64 : decode cX12_builds 64 = .ok (.aload_n 0, 1) := by decide +kernel
theorem dX12_builds_65 : decode cX12_builds 65 = .ok (.getfield 35, 3) := by decide +kernel
theorem dX12_builds_68 : decode cX12_builds 68 = .ok (.bipush 14, 2) := by decide +kernel
theorem dX12_builds_70 : decode cX12_builds 70 = .ok (.iload_n 3, 1) := by decide +kernel
theorem dX12_builds_71 : decode cX12_builds 71 = .ok (.iadd, 1) := by decide +kernel
theorem dX12_builds_72 : decode cX12_builds 72 = .ok (.iaload, 1) := by decide +kernel
theorem dX12_builds_73 : decode cX12_builds 73 = .ok (.aload_n 0, 1) := by decide +kernel
theorem dX12_builds_74 : decode cX12_builds 74 = .ok (.getfield 35, 3) := by decide +kernel
theorem dX12_builds_77 : decode cX12_builds 77 = .ok (.bipush 23, 2) := by decide +kernel
theorem dX12_builds_79 : decode cX12_builds 79 = .ok (.iaload, 1) := by decide +kernel
theorem dX12_builds_80 : decode cX12_builds 80 = .ok (.if_icmp .lt 7, 3) := by decide +kernel
theorem dX12_builds_83 : decode cX12_builds 83 = .ok (.iconst 1, 1) := by decide +kernel
theorem dX12_builds_84 : decode cX12_builds 84 = .ok (.goto 4, 3) := by decide +kernel
theorem dX12_builds_87 : decode cX12_builds 87 = .ok (.iconst 0, 1) := by decide +kernel
theorem dX12_builds_88 : decode cX12_builds 88 = .ok (.istore 5, 2) := by decide +kernel
theorem dX12_builds_90 : decode cX12_builds 90 = .ok (.aload_n 0, 1) := by decide +kernel
theorem dX12_builds_91 : decode cX12_builds 91 = .ok (.getfield 35, 3) := by decide +kernel
theorem dX12_builds_94 : decode cX12_builds 94 = .ok (.bipush 26, 2) := by decide +kernel
theorem dX12_builds_96 : decode cX12_builds 96 = .ok (.iload_n 1, 1) := by decide +kernel
theorem dX12_builds_97 : decode cX12_builds 97 = .ok (.iadd, 1) := by decide +kernel
theorem dX12_builds_98 : decode cX12_builds 98 = .ok (.dup2, 1) := by decide +kernel
theorem dX12_builds_99 : decode cX12_builds 99 = .ok (.iaload, 1) := by decide +kernel
theorem dX12_builds_100 : decode cX12_builds 100 = .ok (.iconst 1, 1) := by decide +kernel
theorem dX12_builds_101 : decode cX12_builds 101 = .ok (.isub, 1) := by decide +kernel
theorem dX12_builds_102 : decode cX12_builds 102 = .ok (.iastore, 1) := by decide +kernel
theorem dX12_builds_103 : decode cX12_builds 103 = .ok (.aload_n 0, 1) := by decide +kernel
theorem dX12_builds_104 : decode cX12_builds 104 = .ok (.getfield 35, 3) := by decide +kernel
theorem dX12_builds_107 : decode cX12_builds 107 = .ok (.bipush 62, 2) := by decide +kernel
theorem dX12_builds_109 : decode cX12_builds 109 = .ok (.iload_n 1, 1) := by decide +kernel
theorem dX12_builds_110 : decode cX12_builds 110 = .ok (.iadd, 1) := by decide +kernel
theorem dX12_builds_111 : decode cX12_builds 111 = .ok (.dup2, 1) := by decide +kernel
theorem dX12_builds_112 : decode cX12_builds 112 = .ok (.iaload, 1) := by decide +kernel
theorem dX12_builds_113 : decode cX12_builds 113 = .ok (.iconst 1, 1) := by decide +kernel
theorem dX12_builds_114 : decode cX12_builds 114 = .ok (.iadd, 1) := by decide +kernel
theorem dX12_builds_115 : decode cX12_builds 115 = .ok (.iastore, 1) := by decide +kernel
theorem dX12_builds_116 : decode cX12_builds 116 = .ok (.aload_n 0, 1) := by decide +kernel
theorem dX12_builds_117 : decode cX12_builds 117 = .ok (.getfield 35, 3) := by decide +kernel
theorem dX12_builds_120 : decode cX12_builds 120 = .ok (.bipush 14, 2) := by decide +kernel
theorem dX12_builds_122 : decode cX12_builds 122 = .ok (.iload_n 3, 1) := by decide +kernel
theorem dX12_builds_123 : decode cX12_builds 123 = .ok (.iadd, 1) := by decide +kernel
theorem dX12_builds_124 : decode cX12_builds 124 = .ok (.dup2, 1) := by decide +kernel
theorem dX12_builds_125 : decode cX12_builds 125 = .ok (.iaload, 1) := by decide +kernel
theorem dX12_builds_126 : decode cX12_builds 126 = .ok (.iconst 1, 1) := by decide +kernel
theorem dX12_builds_127 : decode cX12_builds 127 = .ok (.iadd, 1) := by decide +kernel
theorem dX12_builds_128 : decode cX12_builds 128 = .ok (.iastore, 1) := by decide +kernel
theorem dX12_builds_129 : decode cX12_builds 129 = .ok (.iinc 4 1, 3) := by decide +kernel
theorem dX12_builds_132 : decode cX12_builds 132 = .ok (.aload_n 0, 1) := by decide +kernel
theorem dX12_builds_133 : decode cX12_builds 133 = .ok (.getfield 35, 3) := by decide +kernel
theorem dX12_builds_136 : decode cX12_builds 136 = .ok (.bipush 18, 2) := by decide +kernel
theorem dX12_builds_138 : decode cX12_builds 138 = .ok (.iaload, 1) := by decide +kernel
theorem dX12_builds_139 : decode cX12_builds 139 = .ok (.iconst 1, 1) := by decide +kernel
theorem dX12_builds_140 : decode cX12_builds 140 = .ok (.if_icmp .ne 44, 3) := by decide +kernel
theorem dX12_builds_143 : decode cX12_builds 143 = .ok (.aload_n 0, 1) := by decide +kernel
theorem dX12_builds_144 : decode cX12_builds 144 = .ok (.getfield 35, 3) := by decide +kernel
theorem dX12_builds_147 : decode cX12_builds 147 = .ok (.bipush 62, 2) := by decide +kernel
theorem dX12_builds_149 : decode cX12_builds 149 = .ok (.iload_n 1, 1) := by decide +kernel
theorem dX12_builds_150 : decode cX12_builds 150 = .ok (.iadd, 1) := by decide +kernel
theorem dX12_builds_151 : decode cX12_builds 151 = .ok (.iaload, 1) := by decide +kernel
theorem dX12_builds_152 : decode cX12_builds 152 = .ok (.aload_n 0, 1) := by decide +kernel
theorem dX12_builds_153 : decode cX12_builds 153 = .ok (.getfield 35, 3) := by decide +kernel
theorem dX12_builds_156 : decode cX12_builds 156 = .ok (.sipush 134, 3) := by decide +kernel
theorem dX12_builds_159 : decode cX12_builds 159 = .ok (.aload_n 0, 1) := by decide +kernel
theorem dX12_builds_160 : decode cX12_builds 160 = .ok (.iload_n 1, 1) := by decide +kernel
theorem dX12_builds_161 : decode cX12_builds 161 = .ok (.invokevirtual 329, 3) := by decide +kernel
theorem dX12_builds_164 : decode cX12_builds 164 = .ok (.iadd, 1) := by decide +kernel
theorem dX12_builds_165 : decode cX12_builds 165 = .ok (.iaload, 1) := by decide +kernel
theorem dX12_builds_166 : decode cX12_builds 166 = .ok (.aload_n 0, 1) := by decide +kernel
theorem dX12_builds_167 : decode cX12_builds 167 = .ok (.getfield 35, 3) := by decide +kernel
theorem dX12_builds_170 : decode cX12_builds 170 = .ok (.bipush 22, 2) := by decide +kernel
theorem dX12_builds_172 : decode cX12_builds 172 = .ok (.iaload, 1) := by decide +kernel
theorem dX12_builds_173 : decode cX12_builds 173 = .ok (.iadd, 1) := by decide +kernel
theorem dX12_builds_174 : decode cX12_builds 174 = .ok (.if_icmp .le 10, 3) := by decide +kernel
theorem dX12_builds_177 : decode cX12_builds 177 = .ok (.aload_n 0, 1) := by decide +kernel
theorem dX12_builds_178 : decode cX12_builds 178 = .ok (.iload_n 3, 1) := by decide +kernel
theorem dX12_builds_179 : decode cX12_builds 179 = .ok (.iconst 0, 1) := by decide +kernel
theorem dX12_builds_180 : decode cX12_builds 180 = .ok (.iload_n 1, 1) := by decide +kernel
theorem dX12_builds_181 : decode cX12_builds 181 = .ok (.invokevirtual 332, 3) := by decide +kernel
theorem dX12_builds_184 : decode cX12_builds 184 = .ok (.iload 5, 2) := by decide +kernel
theorem dX12_builds_186 : decode cX12_builds 186 = .ok (.ifCond .eq 10, 3) := by decide +kernel
theorem dX12_builds_189 : decode cX12_builds 189 = .ok (.aload_n 0, 1) := by decide +kernel
theorem dX12_builds_190 : decode cX12_builds 190 = .ok (.iload_n 3, 1) := by decide +kernel
theorem dX12_builds_191 : decode cX12_builds 191 = .ok (.iconst 1, 1) := by decide +kernel
theorem dX12_builds_192 : decode cX12_builds 192 = .ok (.iload_n 1, 1) := by decide +kernel
theorem dX12_builds_193 : decode cX12_builds 193 = .ok (.invokevirtual 332, 3) := by decide +kernel
theorem dX12_builds_196 : decode cX12_builds 196 = .ok (.goto (-184), 3) := by decide +kernel
theorem dX12_builds_199 : decode cX12_builds 199 = .ok (.iload 4, 2) := by decide +kernel
theorem dX12_builds_201 : decode cX12_builds 201 = .ok (.ifCond .le 14, 3) := by decide +kernel
theorem dX12_builds_204 : decode cX12_builds 204 = .ok (.aload_n 0, 1) := by decide +kernel
theorem dX12_builds_205 : decode cX12_builds 205 = .ok (.getfield 35, 3) := by decide +kernel
theorem dX12_builds_208 : decode cX12_builds 208 = .ok (.sipush 206, 3) := by decide +kernel
theorem dX12_builds_211 : decode cX12_builds 211 = .ok (.iload_n 1, 1) := by decide +kernel
theorem dX12_builds_212 : decode cX12_builds 212 = .ok (.iadd, 1) := by decide +kernel
theorem dX12_builds_213 : decode cX12_builds 213 = .ok (.iconst 0, 1) := by decide +kernel
theorem dX12_builds_214 : decode cX12_builds 214 = .ok (.iastore, 1) := by decide +kernel
theorem dX12_builds_215 : decode cX12_builds 215 = .ok (.iload 4, 2) := by decide +kernel
theorem dX12_builds_217 : decode cX12_builds 217 = .ok (.ireturn, 1) := by decide +kernel
theorem dX12_isOwned_0 : decode cX12_isOwned 0 = .ok (.aload_n 0, 1) := by decide +kernel
theorem dX12_isOwned_1 : decode cX12_isOwned 1 = .ok (.iload_n 1, 1) := by decide +kernel
theorem dX12_isOwned_2 : decode cX12_isOwned 2 = .ok (.iload_n 2, 1) := by decide +kernel
theorem dX12_isOwned_3 : decode cX12_isOwned 3 = .ok (.invokevirtual 301, 3) := by decide +kernel
theorem dX12_isOwned_6 : decode cX12_isOwned 6 = .ok (.ifCond .eq 21, 3) := by decide +kernel
theorem dX12_isOwned_9 : decode cX12_isOwned 9 = .ok (.aload_n 0, 1) := by decide +kernel
theorem dX12_isOwned_10 : decode cX12_isOwned 10 = .ok (.iload_n 1, 1) := by decide +kernel
theorem dX12_isOwned_11 : decode cX12_isOwned 11 = .ok (.invokevirtual 270, 3) := by decide +kernel
theorem dX12_isOwned_14 : decode cX12_isOwned 14 = .ok (.aload_n 0, 1) := by decide +kernel
theorem dX12_isOwned_15 : decode cX12_isOwned 15 = .ok (.getfield 35, 3) := by decide +kernel
theorem dX12_isOwned_18 : decode cX12_isOwned 18 = .ok (.iconst 2, 1) := by decide +kernel
theorem dX12_isOwned_19 : decode cX12_isOwned 19 = .ok (.iaload, 1) := by decide +kernel
theorem dX12_isOwned_20 : decode cX12_isOwned 20 = .ok (.if_icmp .ge 7, 3) := by decide +kernel
theorem dX12_isOwned_23 : decode cX12_isOwned 23 = .ok (.iconst 1, 1) := by decide +kernel
theorem dX12_isOwned_24 : decode cX12_isOwned 24 = .ok (.goto 4, 3) := by decide +kernel
theorem dX12_isOwned_27 : decode cX12_isOwned 27 = .ok (.iconst 0, 1) := by decide +kernel
theorem dX12_isOwned_28 : decode cX12_isOwned 28 = .ok (.ireturn, 1) := by decide +kernel
theorem dX12_build_0 : decode cX12_build 0 = .ok (.aload_n 0, 1) := by decide +kernel
theorem dX12_build_1 : decode cX12_build 1 = .ok (.iconst 0, 1) := by decide +kernel
theorem dX12_build_2 : decode cX12_build 2 = .ok (.putfield 69, 3) := by decide +kernel
theorem dX12_build_5 : decode cX12_build 5 = .ok (.aload_n 0, 1) := by decide +kernel
theorem dX12_build_6 : decode cX12_build 6 = .ok (.iconst 0, 1) := by decide +kernel
theorem dX12_build_7 : decode cX12_build 7 = .ok (.putfield 72, 3) := by decide +kernel
theorem dX12_build_10 : decode cX12_build 10 = .ok (.aload_n 0, 1) := by decide +kernel
theorem dX12_build_11 : decode cX12_build 11 = .ok (.iload_n 1, 1) := by decide +kernel
theorem dX12_build_12 : decode cX12_build 12 = .ok (.iload_n 2, 1) := by decide +kernel
theorem dX12_build_13 : decode cX12_build 13 = .ok (.invokevirtual 336, 3) := by decide +kernel
theorem dX12_build_16 : decode cX12_build 16 = .ok (.ifCond .ne 9, 3) := by decide +kernel
theorem dX12_build_19 : decode cX12_build 19 = .ok (.aload_n 0, 1) := by decide +kernel
theorem dX12_build_20 : decode cX12_build 20 = .ok (.iconst 2, 1) := by decide +kernel
theorem dX12_build_21 : decode cX12_build 21 = .ok (.invokevirtual 298, 3) := by decide +kernel
theorem dX12_build_24 : decode cX12_build 24 = .ok (.ireturn, 1) := by decide +kernel
theorem dX12_build_25 : decode cX12_build 25 = .ok (.iload_n 3, 1) := by decide +kernel
theorem dX12_build_26 : decode cX12_build 26 = .ok (.i2l, 1) := by decide +kernel
theorem dX12_build_27 : decode cX12_build 27 = .ok (.lconst 1, 1) := by decide +kernel
theorem dX12_build_28 : decode cX12_build 28 = .ok (.ldc2_w 315, 3) := by decide +kernel
theorem dX12_build_31 : decode cX12_build 31 = .ok (.invokestatic 104, 3) := by decide +kernel
theorem dX12_build_34 : decode cX12_build 34 = .ok (.ifCond .ne 9, 3) := by decide +kernel
theorem dX12_build_37 : decode cX12_build 37 = .ok (.aload_n 0, 1) := by decide +kernel
theorem dX12_build_38 : decode cX12_build 38 = .ok (.iconst 5, 1) := by decide +kernel
theorem dX12_build_39 : decode cX12_build 39 = .ok (.invokevirtual 298, 3) := by decide +kernel
theorem dX12_build_42 : decode cX12_build 42 = .ok (.ireturn, 1) := by decide +kernel
theorem dX12_build_43 : decode cX12_build 43 = .ok (.aload_n 0, 1) := by decide +kernel
theorem dX12_build_44 : decode cX12_build 44 = .ok (.iload_n 1, 1) := by decide +kernel
theorem dX12_build_45 : decode cX12_build 45 = .ok (.iload_n 2, 1) := by decide +kernel
theorem dX12_build_46 : decode cX12_build 46 = .ok (.invokestatic 292, 3) := by decide +kernel
theorem dX12_build_49 : decode cX12_build 49 = .ok (.iload_n 3, 1) := by decide +kernel
theorem dX12_build_50 : decode cX12_build 50 = .ok (.invokevirtual 339, 3) := by decide +kernel
theorem dX12_build_53 : decode cX12_build 53 = .ok (.istore 4, 2) := by decide +kernel
theorem dX12_build_55 : decode cX12_build 55 = .ok (.iload 4, 2) := by decide +kernel
theorem dX12_build_57 : decode cX12_build 57 = .ok (.ifCond .ne 12, 3) := by decide +kernel
theorem dX12_build_60 : decode cX12_build 60 = .ok (.aload_n 0, 1) := by decide +kernel
theorem dX12_build_61 : decode cX12_build 61 = .ok (.bipush 9, 2) := by decide +kernel
theorem dX12_build_63 : decode cX12_build 63 = .ok (.invokevirtual 298, 3) := by decide +kernel
theorem dX12_build_66 : decode cX12_build 66 = .ok (.goto 5, 3) := by decide +kernel
theorem dX12_build_69 : decode cX12_build 69 = .ok (.iload 4, 2) := by decide +kernel
theorem dX12_build_71 : decode cX12_build 71 = .ok (.ireturn, 1) := by decide +kernel
theorem dX12_ices_0 : decode cX12_ices 0 = .ok (.aload_n 0, 1) := by decide +kernel
theorem dX12_ices_1 : decode cX12_ices 1 = .ok (.iload_n 1, 1) := by decide +kernel
theorem dX12_ices_2 : decode cX12_ices 2 = .ok (.bipush 6, 2) := by decide +kernel
theorem dX12_ices_4 : decode cX12_ices 4 = .ok (.irem, 1) := by decide +kernel
theorem dX12_ices_5 : decode cX12_ices 5 = .ok (.invokevirtual 270, 3) := by decide +kernel
theorem dX12_ices_8 : decode cX12_ices 8 = .ok (.istore_n 2, 1) := by decide +kernel
theorem dX12_ices_9 : decode cX12_ices 9 = .ok (.aload_n 0, 1) := by decide +kernel
theorem dX12_ices_10 : decode cX12_ices 10 = .ok (.getfield 35, 3) := by decide +kernel
theorem dX12_ices_13 : decode cX12_ices 13 = .ok (.bipush 62, 2) := by decide +kernel
theorem dX12_ices_15 : decode cX12_ices 15 = .ok (.iload_n 1, 1) := by decide +kernel
theorem dX12_ices_16 : decode cX12_ices 16 = .ok (.iadd, 1) := by decide +kernel
theorem dX12_ices_17 : decode cX12_ices 17 = .ok (.iaload, 1) := by decide +kernel
theorem dX12_ices_18 : decode cX12_ices 18 = .ok (.ifCond .eq 26, 3) := by decide +kernel
theorem dX12_ices_21 : decode cX12_ices 21 = .ok (.aload_n 0, 1) := by decide +kernel
theorem dX12_ices_22 : decode cX12_ices 22 = .ok (.getfield 35, 3) := by decide +kernel
theorem dX12_ices_25 : decode cX12_ices 25 = .ok (.sipush 170, 3) := by decide +kernel
theorem dX12_ices_28 : decode cX12_ices 28 = .ok (.iload_n 1, 1) := by decide +kernel
theorem dX12_ices_29 : decode cX12_ices 29 = .ok (.iadd, 1) := by decide +kernel
theorem dX12_ices_30 : decode cX12_ices 30 = .ok (.iaload, 1) := by decide +kernel
theorem dX12_ices_31 : decode cX12_ices 31 = .ok (.iconst 1, 1) := by decide +kernel
theorem dX12_ices_32 : decode cX12_ices 32 = .ok (.if_icmp .eq 12, 3) := by decide +kernel
theorem dX12_ices_35 : decode cX12_ices 35 = .ok (.aload_n 0, 1) := by decide +kernel
theorem dX12_ices_36 : decode cX12_ices 36 = .ok (.iload_n 2, 1) := by decide +kernel
theorem dX12_ices_37 : decode cX12_ices 37 = .ok (.iconst 2, 1) := by decide +kernel
theorem dX12_ices_38 : decode cX12_ices 38 = .ok (.invokevirtual 326, 3) := by decide +kernel
theorem dX12_ices_41 : decode cX12_ices 41 = .ok (.ifCond .ne 5, 3) := by decide +kernel
theorem dX12_ices_44 : decode cX12_ices 44 = .ok (.iconst 0, 1) := by decide +kernel
theorem dX12_ices_45 : decode cX12_ices 45 = .ok (.ireturn, 1) := by decide +kernel
theorem dX12_ices_46 : decode cX12_ices 46 = .ok (.aload_n 0, 1) := by decide +kernel
theorem dX12_ices_47 : decode cX12_ices 47 = .ok (.getfield 35, 3) := by decide +kernel
theorem dX12_ices_50 : decode cX12_ices 50 = .ok (.sipush 170, 3) := by decide +kernel
theorem dX12_ices_53 : decode cX12_ices 53 = .ok (.iload_n 1, 1) := by decide +kernel
theorem dX12_ices_54 : decode cX12_ices 54 = .ok (.iadd, 1) := by decide +kernel
theorem dX12_ices_55 : decode cX12_ices 55 = .ok (.iconst 1, 1) := by decide +kernel
theorem dX12_ices_56 : decode cX12_ices 56 = .ok (.iastore, 1) := by decide +kernel
theorem dX12_ices_57 : decode cX12_ices 57 = .ok (.aload_n 0, 1) := by decide +kernel
theorem dX12_ices_58 : decode cX12_ices 58 = .ok (.getfield 35, 3) := by decide +kernel
theorem dX12_ices_61 : decode cX12_ices 61 = .ok (.sipush 206, 3) := by decide +kernel
theorem dX12_ices_64 : decode cX12_ices 64 = .ok (.iload_n 1, 1) := by decide +kernel
theorem dX12_ices_65 : decode cX12_ices 65 = .ok (.iadd, 1) := by decide +kernel
theorem dX12_ices_66 : decode cX12_ices 66 = .ok (.iconst 0, 1) := by decide +kernel
theorem dX12_ices_67 : decode cX12_ices 67 = .ok (.iastore, 1) := by decide +kernel
theorem dX12_ices_68 : decode cX12_ices 68 = .ok (.aload_n 0, 1) := by decide +kernel
theorem dX12_ices_69 : decode cX12_ices 69 = .ok (.getfield 35, 3) := by decide +kernel
theorem dX12_ices_72 : decode cX12_ices 72 = .ok (.bipush 14, 2) := by decide +kernel
theorem dX12_ices_74 : decode cX12_ices 74 = .ok (.iload_n 2, 1) := by decide +kernel
theorem dX12_ices_75 : decode cX12_ices 75 = .ok (.iadd, 1) := by decide +kernel
theorem dX12_ices_76 : decode cX12_ices 76 = .ok (.dup2, 1) := by decide +kernel
theorem dX12_ices_77 : decode cX12_ices 77 = .ok (.iaload, 1) := by decide +kernel
theorem dX12_ices_78 : decode cX12_ices 78 = .ok (.iconst 2, 1) := by decide +kernel
theorem dX12_ices_79 : decode cX12_ices 79 = .ok (.iadd, 1) := by decide +kernel
theorem dX12_ices_80 : decode cX12_ices 80 = .ok (.iastore, 1) := by decide +kernel
theorem dX12_ices_81 : decode cX12_ices 81 = .ok (.aload_n 0, 1) := by decide +kernel
theorem dX12_ices_82 : decode cX12_ices 82 = .ok (.getfield 35, 3) := by decide +kernel
theorem dX12_ices_85 : decode cX12_ices 85 = .ok (.bipush 21, 2) := by decide +kernel
theorem dX12_ices_87 : decode cX12_ices 87 = .ok (.iaload, 1) := by decide +kernel
theorem dX12_ices_88 : decode cX12_ices 88 = .ok (.iconst 1, 1) := by decide +kernel
theorem dX12_ices_89 : decode cX12_ices 89 = .ok (.if_icmp .ne 28, 3) := by decide +kernel
theorem dX12_ices_92 : decode cX12_ices 92 = .ok (.aload_n 0, 1) := by decide +kernel
theorem dX12_ices_93 : decode cX12_ices 93 = .ok (.sipush 170, 3) := by decide +kernel
theorem dX12_ices_96 : decode cX12_ices 96 = .ok (.iload_n 2, 1) := by decide +kernel
theorem dX12_ices_97 : decode cX12_ices 97 = .ok (.invokevirtual 307, 3) := by decide +kernel
theorem dX12_ices_100 : decode cX12_ices 100 = .ok (.aload_n 0, 1) := by decide +kernel
theorem dX12_ices_101 : decode cX12_ices 101 = .ok (.getfield 35, 3) := by decide +kernel
theorem dX12_ices_104 : decode cX12_ices 104 = .ok (.bipush 25, 2) := by decide +kernel
theorem dX12_ices_106 : decode cX12_ices 106 = .ok (.iaload, 1) := by decide +kernel
theorem dX12_ices_107 : decode cX12_ices 107 = .ok (.if_icmp .le 10, 3) := by decide +kernel
theorem dX12_ices_110 : decode cX12_ices 110 = .ok (.aload_n 0, 1) := by decide +kernel
theorem dX12_ices_111 : decode cX12_ices 111 = .ok (.iload_n 2, 1) := by decide +kernel
theorem dX12_ices_112 : decode cX12_ices 112 = .ok (.iconst 3, 1) := by decide +kernel
theorem dX12_ices_113 : decode cX12_ices 113 = .ok (.iload_n 1, 1) := by decide +kernel
theorem dX12_ices_114 : decode cX12_ices 114 = .ok (.invokevirtual 332, 3) := by decide +kernel
theorem dX12_ices_117 : decode cX12_ices 117 = .ok (.iconst 1, 1) := by decide +kernel
theorem dX12_ices_118 : decode cX12_ices 118 = .ok (.ireturn, 1) := by decide +kernel
theorem dX12_ice_0 : decode cX12_ice 0 = .ok (.aload_n 0, 1) := by decide +kernel
theorem dX12_ice_1 : decode cX12_ice 1 = .ok (.iconst 0, 1) := by decide +kernel
theorem dX12_ice_2 : decode cX12_ice 2 = .ok (.putfield 69, 3) := by decide +kernel
theorem dX12_ice_5 : decode cX12_ice 5 = .ok (.aload_n 0, 1) := by decide +kernel
theorem dX12_ice_6 : decode cX12_ice 6 = .ok (.iconst 0, 1) := by decide +kernel
theorem dX12_ice_7 : decode cX12_ice 7 = .ok (.putfield 72, 3) := by decide +kernel
theorem dX12_ice_10 : decode cX12_ice 10 = .ok (.aload_n 0, 1) := by decide +kernel
theorem dX12_ice_11 : decode cX12_ice 11 = .ok (.iload_n 1, 1) := by decide +kernel
theorem dX12_ice_12 : decode cX12_ice 12 = .ok (.iload_n 2, 1) := by decide +kernel
theorem dX12_ice_13 : decode cX12_ice 13 = .ok (.invokevirtual 336, 3) := by decide +kernel
theorem dX12_ice_16 : decode cX12_ice 16 = .ok (.ifCond .ne 9, 3) := by decide +kernel
theorem dX12_ice_19 : decode cX12_ice 19 = .ok (.aload_n 0, 1) := by decide +kernel
theorem dX12_ice_20 : decode cX12_ice 20 = .ok (.iconst 2, 1) := by decide +kernel
theorem dX12_ice_21 : decode cX12_ice 21 = .ok (.invokevirtual 84, 3) := by decide +kernel
theorem dX12_ice_24 : decode cX12_ice 24 = .ok (.ireturn, 1) := by decide +kernel
theorem dX12_ice_25 : decode cX12_ice 25 = .ok (.aload_n 0, 1) := by decide +kernel
theorem dX12_ice_26 : decode cX12_ice 26 = .ok (.iload_n 1, 1) := by decide +kernel
theorem dX12_ice_27 : decode cX12_ice 27 = .ok (.iload_n 2, 1) := by decide +kernel
theorem dX12_ice_28 : decode cX12_ice 28 = .ok (.invokestatic 292, 3) := by decide +kernel
theorem dX12_ice_31 : decode cX12_ice 31 = .ok (.invokevirtual 342, 3) := by decide +kernel
theorem dX12_ice_34 : decode cX12_ice 34 = .ok (.ifCond .ne 12, 3) := by decide +kernel
theorem dX12_ice_37 : decode cX12_ice 37 = .ok (.aload_n 0, 1) := by decide +kernel
theorem dX12_ice_38 : decode cX12_ice 38 = .ok (.bipush 9, 2) := by decide +kernel
theorem dX12_ice_40 : decode cX12_ice 40 = .ok (.invokevirtual 84, 3) := by decide +kernel
theorem dX12_ice_43 : decode cX12_ice 43 = .ok (.ifCond .eq 7, 3) := by decide +kernel
theorem dX12_ice_46 : decode cX12_ice 46 = .ok (.iconst 1, 1) := by decide +kernel
theorem dX12_ice_47 : decode cX12_ice 47 = .ok (.goto 4, 3) := by decide +kernel
theorem dX12_ice_50 : decode cX12_ice 50 = .ok (.iconst 0, 1) := by decide +kernel
theorem dX12_ice_51 : decode cX12_ice 51 = .ok (.ireturn, 1) := by decide +kernel
theorem dX12_steals_0 : decode cX12_steals 0 = .ok (.aload_n 0, 1) := by decide +kernel
theorem dX12_steals_1 : decode cX12_steals 1 = .ok (.iload_n 1, 1) := by decide +kernel
theorem dX12_steals_2 : decode cX12_steals 2 = .ok (.bipush 6, 2) := by decide +kernel
theorem dX12_steals_4 : decode cX12_steals 4 = .ok (.irem, 1) := by decide +kernel
theorem dX12_steals_5 : decode cX12_steals 5 = .ok (.invokevirtual 270, 3) := by decide +kernel
theorem dX12_steals_8 : decode cX12_steals 8 = .ok (.istore 4, 2) := by decide +kernel
theorem dX12_steals_10 : decode cX12_steals 10 = .ok (.iload_n 3, 1) := by decide +kernel
theorem dX12_steals_11 : decode cX12_steals 11 = .ok (.aload_n 0, 1) := by decide +kernel
theorem dX12_steals_12 : decode cX12_steals 12 = .ok (.getfield 35, 3) := by decide +kernel
theorem dX12_steals_15 : decode cX12_steals 15 = .ok (.bipush 26, 2) := by decide +kernel
theorem dX12_steals_17 : decode cX12_steals 17 = .ok (.iload_n 2, 1) := by decide +kernel
theorem dX12_steals_18 : decode cX12_steals 18 = .ok (.iadd, 1) := by decide +kernel
theorem dX12_steals_19 : decode cX12_steals 19 = .ok (.iaload, 1) := by decide +kernel
theorem dX12_steals_20 : decode cX12_steals 20 = .ok (.iconst 2, 1) := by decide +kernel
theorem dX12_steals_21 : decode cX12_steals 21 = .ok (.aload_n 0, 1) := by decide +kernel
theorem dX12_steals_22 : decode cX12_steals 22 = .ok (.getfield 35, 3) := by decide +kernel
theorem dX12_steals_25 : decode cX12_steals 25 = .ok (.bipush 12, 2) := by decide +kernel
theorem dX12_steals_27 : decode cX12_steals 27 = .ok (.iload 4, 2) := by decide +kernel
theorem dX12_steals_29 : decode cX12_steals 29 = .ok (.iadd, 1) := by decide +kernel
theorem dX12_steals_30 : decode cX12_steals 30 = .ok (.iaload, 1) := by decide +kernel
theorem dX12_steals_31 : decode cX12_steals 31 = .ok (.aload_n 0, 1) := by decide +kernel
theorem dX12_steals_32 : decode cX12_steals 32 = .ok (.getfield 35, 3) := by decide +kernel
theorem dX12_steals_35 : decode cX12_steals 35 = .ok (.bipush 14, 2) := by decide +kernel
theorem dX12_steals_37 : decode cX12_steals 37 = .ok (.iload 4, 2) := by decide +kernel
theorem dX12_steals_39 : decode cX12_steals 39 = .ok (.iadd, 1) := by decide +kernel
theorem dX12_steals_40 : decode cX12_steals 40 = .ok (.iaload, 1) := by decide +kernel
theorem dX12_steals_41 : decode cX12_steals 41 = .ok (.isub, 1) := by decide +kernel
theorem dX12_steals_42 : decode cX12_steals 42 = .ok (.imul, 1) := by decide +kernel
theorem dX12_steals_43 : decode cX12_steals 43 = .ok (.invokestatic 320, 3) := by decide +kernel
theorem dX12_steals_46 : decode cX12_steals 46 = .ok (.invokestatic 320, 3) := by decide +kernel
theorem dX12_steals_49 : decode cX12_steals 49 = .ok (.istore 5, 2) := by decide +kernel
theorem dX12_steals_51 : decode cX12_steals 51 = .ok (.iload 5, 2) := by decide +kernel
theorem dX12_steals_53 : decode cX12_steals 53 = .ok (.ifCond .ne 5, 3) := by decide +kernel
theorem dX12_steals_56 : decode cX12_steals 56 = .ok (.iconst 0, 1) := by decide +kernel
theorem dX12_steals_57 : decode cX12_steals 57 = .ok (.ireturn, 1) := by decide +kernel
theorem dX12_steals_58 : decode cX12_steals 58 = .ok (.iload 5, 2) := by decide +kernel
theorem dX12_steals_60 : decode cX12_steals 60 = .ok (.iconst 1, 1) := by decide +kernel
theorem dX12_steals_61 : decode cX12_steals 61 = .ok (.iadd, 1) := by decide +kernel
theorem dX12_steals_62 : decode cX12_steals 62 = .ok (.iconst 2, 1) := by decide +kernel
theorem dX12_steals_63 : decode cX12_steals 63 = .ok (.idiv, 1) := by decide +kernel
theorem dX12_steals_64 : decode cX12_steals 64 = .ok (.istore 6, 2) := by decide +kernel
theorem dX12_steals_66 : decode cX12_steals 66 = .ok (.aload_n 0, 1) := by decide +kernel
theorem dX12_steals_67 : decode cX12_steals 67 = .ok (.getfield 35, 3) := by decide +kernel
theorem dX12_steals_70 : decode cX12_steals 70 = .ok (.bipush 26, 2) := by decide +kernel
theorem dX12_steals_72 : decode cX12_steals 72 = .ok (.iload_n 2, 1) := by decide +kernel
theorem dX12_steals_73 : decode cX12_steals 73 = .ok (.iadd, 1) := by decide +kernel
theorem dX12_steals_74 : decode cX12_steals 74 = .ok (.dup2, 1) := by decide +kernel
theorem dX12_steals_75 : decode cX12_steals 75 = .ok (.iaload, 1) := by decide +kernel
theorem dX12_steals_76 : decode cX12_steals 76 = .ok (.iload 5, 2) := by decide +kernel
theorem dX12_steals_78 : decode cX12_steals 78 = .ok (.isub, 1) := by decide +kernel
theorem dX12_steals_79 : decode cX12_steals 79 = .ok (.iastore, 1) := by decide +kernel
theorem dX12_steals_80 : decode cX12_steals 80 = .ok (.iconst 0, 1) := by decide +kernel
theorem dX12_steals_81 : decode cX12_steals 81 = .ok (.aload_n 0, 1) := by decide +kernel
theorem dX12_steals_82 : decode cX12_steals 82 = .ok (.getfield 35, 3) := by decide +kernel
theorem dX12_steals_85 : decode cX12_steals 85 = .ok (.bipush 26, 2) := by decide +kernel
theorem dX12_steals_87 : decode cX12_steals 87 = .ok (.iload_n 1, 1) := by decide +kernel
theorem dX12_steals_88 : decode cX12_steals 88 = .ok (.iadd, 1) := by decide +kernel
theorem dX12_steals_89 : decode cX12_steals 89 = .ok (.iaload, 1) := by decide +kernel
theorem dX12_steals_90 : decode cX12_steals 90 = .ok (.iload 5, 2) := by decide +kernel
theorem dX12_steals_92 : decode cX12_steals 92 = .ok (.iadd, 1) := by decide +kernel
theorem dX12_steals_93 : decode cX12_steals 93 = .ok (.bipush 99, 2) := by decide +kernel
theorem dX12_steals_95 : decode cX12_steals 95 = .ok (.isub, 1) := by decide +kernel
theorem dX12_steals_96 : decode cX12_steals 96 = .ok (.invokestatic 312, 3) := by decide +kernel
theorem dX12_steals_99 : decode cX12_steals 99 = .ok (.istore 7, 2) := by decide +kernel
theorem dX12_steals_101 : decode cX12_steals 101 = .ok (.aload_n 0, 1) := by decide +kernel
theorem dX12_steals_102 : decode cX12_steals 102 = .ok (.getfield 35, 3) := by decide +kernel
theorem dX12_steals_105 : decode cX12_steals 105 = .ok (.bipush 26, 2) := by decide +kernel
theorem dX12_steals_107 : decode cX12_steals 107 = .ok (.iload_n 1, 1) := by decide +kernel
theorem dX12_steals_108 : decode cX12_steals 108 = .ok (.iadd, 1) := by decide +kernel
theorem dX12_steals_109 : decode cX12_steals 109 = .ok (.dup2, 1) := by decide +kernel
theorem dX12_steals_110 : decode cX12_steals 110 = .ok (.iaload, 1) := by decide +kernel
theorem dX12_steals_111 : decode cX12_steals 111 = .ok (.iload 5, 2) := by decide +kernel
theorem dX12_steals_113 : decode cX12_steals 113 = .ok (.iload 7, 2) := by decide +kernel
theorem dX12_steals_115 : decode cX12_steals 115 = .ok (.isub, 1) := by decide +kernel
theorem dX12_steals_116 : decode cX12_steals 116 = .ok (.iadd, 1) := by decide +kernel
theorem dX12_steals_117 : decode cX12_steals 117 = .ok (.iastore, 1) := by decide +kernel
theorem dX12_steals_118 : decode cX12_steals 118 = .ok (.aload_n 0, 1) := by decide +kernel
theorem dX12_steals_119 : decode cX12_steals 119 = .ok (.getfield 35, 3) := by decide +kernel
theorem dX12_steals_122 : decode cX12_steals 122 = .ok (.bipush 6, 2) := by decide +kernel
theorem dX12_steals_124 : decode cX12_steals 124 = .ok (.dup2, 1) := by decide +kernel
theorem dX12_steals_125 : decode cX12_steals 125 = .ok (.iaload, 1) := by decide +kernel
theorem dX12_steals_126 : decode cX12_steals 126 = .ok (.iload 7, 2) := by decide +kernel
theorem dX12_steals_128 : decode cX12_steals 128 = .ok (.iadd, 1) := by decide +kernel
theorem dX12_steals_129 : decode cX12_steals 129 = .ok (.iastore, 1) := by decide +kernel
theorem dX12_steals_130 : decode cX12_steals 130 = .ok (.aload_n 0, 1) := by decide +kernel
theorem dX12_steals_131 : decode cX12_steals 131 = .ok (.getfield 35, 3) := by decide +kernel
theorem dX12_steals_134 : decode cX12_steals 134 = .ok (.bipush 14, 2) := by decide +kernel
theorem dX12_steals_136 : decode cX12_steals 136 = .ok (.iload 4, 2) := by decide +kernel
theorem dX12_steals_138 : decode cX12_steals 138 = .ok (.iadd, 1) := by decide +kernel
theorem dX12_steals_139 : decode cX12_steals 139 = .ok (.dup2, 1) := by decide +kernel
theorem dX12_steals_140 : decode cX12_steals 140 = .ok (.iaload, 1) := by decide +kernel
theorem dX12_steals_141 : decode cX12_steals 141 = .ok (.iload 6, 2) := by decide +kernel
theorem dX12_steals_143 : decode cX12_steals 143 = .ok (.iadd, 1) := by decide +kernel
theorem dX12_steals_144 : decode cX12_steals 144 = .ok (.iastore, 1) := by decide +kernel
theorem dX12_steals_145 : decode cX12_steals 145 = .ok (.aload_n 0, 1) := by decide +kernel
theorem dX12_steals_146 : decode cX12_steals 146 = .ok (.getfield 35, 3) := by decide +kernel
theorem dX12_steals_149 : decode cX12_steals 149 = .ok (.sipush 206, 3) := by decide +kernel
theorem dX12_steals_152 : decode cX12_steals 152 = .ok (.iload_n 1, 1) := by decide +kernel
theorem dX12_steals_153 : decode cX12_steals 153 = .ok (.iadd, 1) := by decide +kernel
theorem dX12_steals_154 : decode cX12_steals 154 = .ok (.iconst 0, 1) := by decide +kernel
theorem dX12_steals_155 : decode cX12_steals 155 = .ok (.iastore, 1) := by decide +kernel
theorem dX12_steals_156 : decode cX12_steals 156 = .ok (.aload_n 0, 1) := by decide +kernel
theorem dX12_steals_157 : decode cX12_steals 157 = .ok (.getfield 35, 3) := by decide +kernel
theorem dX12_steals_160 : decode cX12_steals 160 = .ok (.sipush 206, 3) := by decide +kernel
theorem dX12_steals_163 : decode cX12_steals 163 = .ok (.iload_n 2, 1) := by decide +kernel
theorem dX12_steals_164 : decode cX12_steals 164 = .ok (.iadd, 1) := by decide +kernel
theorem dX12_steals_165 : decode cX12_steals 165 = .ok (.iconst 0, 1) := by decide +kernel
theorem dX12_steals_166 : decode cX12_steals 166 = .ok (.iastore, 1) := by decide +kernel
theorem dX12_steals_167 : decode cX12_steals 167 = .ok (.iconst 0, 1) := by decide +kernel
theorem dX12_steals_168 : decode cX12_steals 168 = .ok (.istore 8, 2) := by decide +kernel
theorem dX12_steals_170 : decode cX12_steals 170 = .ok (.iload 8, 2) := by decide +kernel
theorem dX12_steals_172 : decode cX12_steals 172 = .ok (.iload 6, 2) := by decide +kernel
theorem dX12_steals_174 : decode cX12_steals 174 = .ok (.if_icmp .ge 28, 3) := by decide +kernel
theorem dX12_steals_177 : decode cX12_steals 177 = .ok (.aload_n 0, 1) := by decide +kernel
theorem dX12_steals_178 : decode cX12_steals 178 = .ok (.getfield 35, 3) := by decide +kernel
theorem dX12_steals_181 : decode cX12_steals 181 = .ok (.bipush 20, 2) := by decide +kernel
theorem dX12_steals_183 : decode cX12_steals 183 = .ok (.iaload, 1) := by decide +kernel
theorem dX12_steals_184 : decode cX12_steals 184 = .ok (.iconst 1, 1) := by decide +kernel
theorem dX12_steals_185 : decode cX12_steals 185 = .ok (.if_icmp .ne 17, 3) := by decide +kernel
theorem dX12_steals_188 : decode cX12_steals 188 = .ok (.aload_n 0, 1) := by decide +kernel
theorem dX12_steals_189 : decode cX12_steals 189 = .ok (.iload 4, 2) := by decide +kernel
theorem dX12_steals_191 : decode cX12_steals 191 = .ok (.iconst 2, 1) := by decide +kernel
theorem dX12_steals_192 : decode cX12_steals 192 = .ok (.iload_n 2, 1) := by decide +kernel
theorem dX12_steals_193 : decode cX12_steals 193 = .ok (.invokevirtual 332, 3) := by decide +kernel
theorem dX12_steals_196 : decode cX12_steals 196 = .ok (.iinc 8 1, 3) := by decide +kernel
theorem dX12_steals_199 : decode cX12_steals 199 = .ok (.goto (-29), 3) := by decide +kernel
theorem dX12_steals_202 : decode cX12_steals 202 = .ok (.iload 5, 2) := by decide +kernel
theorem dX12_steals_204 : decode cX12_steals 204 = .ok (.ireturn, 1) := by decide +kernel
theorem dX12_steal_0 : decode cX12_steal 0 = .ok (.aload_n 0, 1) := by decide +kernel
theorem dX12_steal_1 : decode cX12_steal 1 = .ok (.iconst 0, 1) := by decide +kernel
theorem dX12_steal_2 : decode cX12_steal 2 = .ok (.putfield 69, 3) := by decide +kernel
theorem dX12_steal_5 : decode cX12_steal 5 = .ok (.aload_n 0, 1) := by decide +kernel
theorem dX12_steal_6 : decode cX12_steal 6 = .ok (.iconst 0, 1) := by decide +kernel
theorem dX12_steal_7 : decode cX12_steal 7 = .ok (.putfield 72, 3) := by decide +kernel
theorem dX12_steal_10 : decode cX12_steal 10 = .ok (.aload_n 0, 1) := by decide +kernel
theorem dX12_steal_11 : decode cX12_steal 11 = .ok (.iload_n 1, 1) := by decide +kernel
theorem dX12_steal_12 : decode cX12_steal 12 = .ok (.iload_n 2, 1) := by decide +kernel
theorem dX12_steal_13 : decode cX12_steal 13 = .ok (.invokevirtual 336, 3) := by decide +kernel
theorem dX12_steal_16 : decode cX12_steal 16 = .ok (.ifCond .eq 13, 3) := by decide +kernel
theorem dX12_steal_19 : decode cX12_steal 19 = .ok (.aload_n 0, 1) := by decide +kernel
theorem dX12_steal_20 : decode cX12_steal 20 = .ok (.iload_n 3, 1) := by decide +kernel
theorem dX12_steal_21 : decode cX12_steal 21 = .ok (.iload 4, 2) := by decide +kernel
theorem dX12_steal_23 : decode cX12_steal 23 = .ok (.invokevirtual 301, 3) := by decide +kernel
theorem dX12_steal_26 : decode cX12_steal 26 = .ok (.ifCond .ne 9, 3) := by decide +kernel
theorem dX12_steal_29 : decode cX12_steal 29 = .ok (.aload_n 0, 1) := by decide +kernel
theorem dX12_steal_30 : decode cX12_steal 30 = .ok (.iconst 2, 1) := by decide +kernel
theorem dX12_steal_31 : decode cX12_steal 31 = .ok (.invokevirtual 298, 3) := by decide +kernel
theorem dX12_steal_34 : decode cX12_steal 34 = .ok (.ireturn, 1) := by decide +kernel
theorem dX12_steal_35 : decode cX12_steal 35 = .ok (.iload 5, 2) := by decide +kernel
theorem dX12_steal_37 : decode cX12_steal 37 = .ok (.i2l, 1) := by decide +kernel
theorem dX12_steal_38 : decode cX12_steal 38 = .ok (.lconst 1, 1) := by decide +kernel
theorem dX12_steal_39 : decode cX12_steal 39 = .ok (.ldc2_w 315, 3) := by decide +kernel
theorem dX12_steal_42 : decode cX12_steal 42 = .ok (.invokestatic 104, 3) := by decide +kernel
theorem dX12_steal_45 : decode cX12_steal 45 = .ok (.ifCond .ne 9, 3) := by decide +kernel
theorem dX12_steal_48 : decode cX12_steal 48 = .ok (.aload_n 0, 1) := by decide +kernel
theorem dX12_steal_49 : decode cX12_steal 49 = .ok (.iconst 5, 1) := by decide +kernel
theorem dX12_steal_50 : decode cX12_steal 50 = .ok (.invokevirtual 298, 3) := by decide +kernel
theorem dX12_steal_53 : decode cX12_steal 53 = .ok (.ireturn, 1) := by decide +kernel
theorem dX12_steal_54 : decode cX12_steal 54 = .ok (.aload_n 0, 1) := by decide +kernel
theorem dX12_steal_55 : decode cX12_steal 55 = .ok (.iload_n 1, 1) := by decide +kernel
theorem dX12_steal_56 : decode cX12_steal 56 = .ok (.invokevirtual 270, 3) := by decide +kernel
theorem dX12_steal_59 : decode cX12_steal 59 = .ok (.aload_n 0, 1) := by decide +kernel
theorem dX12_steal_60 : decode cX12_steal 60 = .ok (.iload_n 3, 1) := by decide +kernel
theorem dX12_steal_61 : decode cX12_steal 61 = .ok (.invokevirtual 270, 3) := by decide +kernel
theorem dX12_steal_64 : decode cX12_steal 64 = .ok (.if_icmp .ne 10, 3) := by decide +kernel
theorem dX12_steal_67 : decode cX12_steal 67 = .ok (.aload_n 0, 1) := by decide +kernel
theorem dX12_steal_68 : decode cX12_steal 68 = .ok (.bipush 9, 2) := by decide +kernel
theorem dX12_steal_70 : decode cX12_steal 70 = .ok (.invokevirtual 298, 3) := by decide +kernel
theorem dX12_steal_73 : decode cX12_steal 73 = .ok (.ireturn, 1) := by decide +kernel
theorem dX12_steal_74 : decode cX12_steal 74 = .ok (.aload_n 0, 1) := by decide +kernel
theorem dX12_steal_75 : decode cX12_steal 75 = .ok (.iload_n 1, 1) := by decide +kernel
theorem dX12_steal_76 : decode cX12_steal 76 = .ok (.iload_n 2, 1) := by decide +kernel
theorem dX12_steal_77 : decode cX12_steal 77 = .ok (.invokestatic 292, 3) := by decide +kernel
theorem dX12_steal_80 : decode cX12_steal 80 = .ok (.iload_n 3, 1) := by decide +kernel
theorem dX12_steal_81 : decode cX12_steal 81 = .ok (.iload 4, 2) := by decide +kernel
theorem dX12_steal_83 : decode cX12_steal 83 = .ok (.invokestatic 292, 3) := by decide +kernel
theorem dX12_steal_86 : decode cX12_steal 86 = .ok (.iload 5, 2) := by decide +kernel
theorem dX12_steal_88 : decode cX12_steal 88 = .ok (.invokevirtual 345, 3) := by decide +kernel
theorem dX12_steal_91 : decode cX12_steal 91 = .ok (.istore 6, 2) := by decide +kernel
theorem dX12_steal_93 : decode cX12_steal 93 = .ok (.iload 6, 2) := by decide +kernel
theorem dX12_steal_95 : decode cX12_steal 95 = .ok (.ifCond .ne 12, 3) := by decide +kernel
theorem dX12_steal_98 : decode cX12_steal 98 = .ok (.aload_n 0, 1) := by decide +kernel
theorem dX12_steal_99 : decode cX12_steal 99 = .ok (.bipush 9, 2) := by decide +kernel
theorem dX12_steal_101 : decode cX12_steal 101 = .ok (.invokevirtual 298, 3) := by decide +kernel
theorem dX12_steal_104 : decode cX12_steal 104 = .ok (.goto 5, 3) := by decide +kernel
theorem dX12_steal_107 : decode cX12_steal 107 = .ok (.iload 6, 2) := by decide +kernel
theorem dX12_steal_109 : decode cX12_steal 109 = .ok (.ireturn, 1) := by decide +kernel
theorem dX12_nights_0 : decode cX12_nights 0 = .ok (.aload_n 0, 1) := by decide +kernel
theorem dX12_nights_1 : decode cX12_nights 1 = .ok (.getfield 35, 3) := by decide +kernel
theorem dX12_nights_4 : decode cX12_nights 4 = .ok (.iconst 3, 1) := by decide +kernel
theorem dX12_nights_5 : decode cX12_nights 5 = .ok (.iaload, 1) := by decide +kernel
theorem dX12_nights_6 : decode cX12_nights 6 = .ok (.sipush 999, 3) := by decide +kernel
theorem dX12_nights_9 : decode cX12_nights 9 = .ok (.if_icmp .ne 5, 3) := by decide +kernel
theorem dX12_nights_12 : decode cX12_nights 12 = .ok (.iconst 0, 1) := by decide +kernel
theorem dX12_nights_13 : decode cX12_nights 13 = .ok (.ireturn, 1) := by decide +kernel
theorem dX12_nights_14 : decode cX12_nights 14 = .ok (.iconst 0, 1) := by decide +kernel
theorem dX12_nights_15 : decode cX12_nights 15 = .ok (.istore_n 1, 1) := by decide +kernel
theorem dX12_nights_16 : decode cX12_nights 16 = .ok (.iload_n 1, 1) := by decide +kernel
theorem dX12_nights_17 : decode cX12_nights 17 = .ok (.bipush 36, 2) := by decide +kernel
theorem dX12_nights_19 : decode cX12_nights 19 = .ok (.if_icmp .ge 28, 3) := by decide +kernel
theorem dX12_nights_22 : decode cX12_nights 22 = .ok (.aload_n 0, 1) := by decide +kernel
theorem dX12_nights_23 : decode cX12_nights 23 = .ok (.getfield 35, 3) := by decide +kernel
theorem dX12_nights_26 : decode cX12_nights 26 = .ok (.sipush 134, 3) := by decide +kernel
theorem dX12_nights_29 : decode cX12_nights 29 = .ok (.iload_n 1, 1) := by decide +kernel
theorem dX12_nights_30 : decode cX12_nights 30 = .ok (.iadd, 1) := by decide +kernel
theorem dX12_nights_31 : decode cX12_nights 31 = .ok (.aload_n 0, 1) := by decide +kernel
theorem dX12_nights_32 : decode cX12_nights 32 = .ok (.getfield 35, 3) := by decide +kernel
theorem dX12_nights_35 : decode cX12_nights 35 = .ok (.bipush 62, 2) := by decide +kernel
theorem dX12_nights_37 : decode cX12_nights 37 = .ok (.iload_n 1, 1) := by decide +kernel
theorem dX12_nights_38 : decode cX12_nights 38 = .ok (.iadd, 1) := by decide +kernel
theorem dX12_nights_39 : decode cX12_nights 39 = .ok (.iaload, 1) := by decide +kernel
theorem dX12_nights_40 : decode cX12_nights 40 = .ok (.iastore, 1) := by decide +kernel
theorem dX12_nights_41 : decode cX12_nights 41 = .ok (.iinc 1 1, 3) := by decide +kernel
theorem dX12_nights_44 : decode cX12_nights 44 = .ok (.goto (-28), 3) := by decide +kernel
theorem dX12_nights_47 : decode cX12_nights 47 = .ok (.aload_n 0, 1) := by decide +kernel
theorem dX12_nights_48 : decode cX12_nights 48 = .ok (.getfield 35, 3) := by decide +kernel
theorem dX12_nights_51 : decode cX12_nights 51 = .ok (.bipush 14, 2) := by decide +kernel
theorem dX12_nights_53 : decode cX12_nights 53 = .ok (.iconst 0, 1) := by decide +kernel
theorem dX12_nights_54 : decode cX12_nights 54 = .ok (.iastore, 1) := by decide +kernel
theorem dX12_nights_55 : decode cX12_nights 55 = .ok (.aload_n 0, 1) := by decide +kernel
theorem dX12_nights_56 : decode cX12_nights 56 = .ok (.getfield 35, 3) := by decide +kernel
theorem dX12_nights_59 : decode cX12_nights 59 = .ok (.bipush 15, 2) := by decide +kernel
theorem dX12_nights_61 : decode cX12_nights 61 = .ok (.iconst 0, 1) := by decide +kernel
theorem dX12_nights_62 : decode cX12_nights 62 = .ok (.iastore, 1) := by decide +kernel
theorem dX12_nights_63 : decode cX12_nights 63 = .ok (.aload_n 0, 1) := by decide +kernel
theorem dX12_nights_64 : decode cX12_nights 64 = .ok (.getfield 35, 3) := by decide +kernel
theorem dX12_nights_67 : decode cX12_nights 67 = .ok (.iconst 3, 1) := by decide +kernel
theorem dX12_nights_68 : decode cX12_nights 68 = .ok (.dup2, 1) := by decide +kernel
theorem dX12_nights_69 : decode cX12_nights 69 = .ok (.iaload, 1) := by decide +kernel
theorem dX12_nights_70 : decode cX12_nights 70 = .ok (.iconst 1, 1) := by decide +kernel
theorem dX12_nights_71 : decode cX12_nights 71 = .ok (.iadd, 1) := by decide +kernel
theorem dX12_nights_72 : decode cX12_nights 72 = .ok (.iastore, 1) := by decide +kernel
theorem dX12_nights_73 : decode cX12_nights 73 = .ok (.iconst 1, 1) := by decide +kernel
theorem dX12_nights_74 : decode cX12_nights 74 = .ok (.ireturn, 1) := by decide +kernel
theorem dX12_night_0 : decode cX12_night 0 = .ok (.aload_n 0, 1) := by decide +kernel
theorem dX12_night_1 : decode cX12_night 1 = .ok (.iconst 0, 1) := by decide +kernel
theorem dX12_night_2 : decode cX12_night 2 = .ok (.putfield 69, 3) := by decide +kernel
theorem dX12_night_5 : decode cX12_night 5 = .ok (.aload_n 0, 1) := by decide +kernel
theorem dX12_night_6 : decode cX12_night 6 = .ok (.iconst 0, 1) := by decide +kernel
theorem dX12_night_7 : decode cX12_night 7 = .ok (.putfield 72, 3) := by decide +kernel
theorem dX12_night_10 : decode cX12_night 10 = .ok (.aload_n 0, 1) := by decide +kernel
theorem dX12_night_11 : decode cX12_night 11 = .ok (.invokevirtual 349, 3) := by decide +kernel
theorem dX12_night_14 : decode cX12_night 14 = .ok (.ifCond .eq 12, 3) := by decide +kernel
theorem dX12_night_17 : decode cX12_night 17 = .ok (.aload_n 0, 1) := by decide +kernel
theorem dX12_night_18 : decode cX12_night 18 = .ok (.getfield 35, 3) := by decide +kernel
theorem dX12_night_21 : decode cX12_night 21 = .ok (.iconst 3, 1) := by decide +kernel
theorem dX12_night_22 : decode cX12_night 22 = .ok (.iaload, 1) := by decide +kernel
theorem dX12_night_23 : decode cX12_night 23 = .ok (.goto 9, 3) := by decide +kernel
theorem dX12_night_26 : decode cX12_night 26 = .ok (.aload_n 0, 1) := by decide +kernel
theorem dX12_night_27 : decode cX12_night 27 = .ok (.bipush 7, 2) := by decide +kernel
theorem dX12_night_29 : decode cX12_night 29 = .ok (.invokevirtual 298, 3) := by decide +kernel
theorem dX12_night_32 : decode cX12_night 32 = .ok (.ireturn, 1) := by decide +kernel
theorem dX12_lateRest_0 : decode cX12_lateRest 0 = .ok (.aload_n 0, 1) := by decide +kernel
theorem dX12_lateRest_1 : decode cX12_lateRest 1 = .ok (.getfield 35, 3) := by decide +kernel
theorem dX12_lateRest_4 : decode cX12_lateRest 4 = .ok (.bipush 19, 2) := by decide +kernel
theorem dX12_lateRest_6 : decode cX12_lateRest 6 = .ok (.iaload, 1) := by decide +kernel
theorem dX12_lateRest_7 : decode cX12_lateRest 7 = .ok (.ifCond .ne 9, 3) := by decide +kernel
theorem dX12_lateRest_10 : decode cX12_lateRest 10 = .ok (.ldc_w 352, 3) := by decide +kernel
theorem dX12_lateRest_13 : decode cX12_lateRest 13 = .ok (.goto 24, 3) := by decide +kernel
theorem dX12_lateRest_16 : decode cX12_lateRest 16 = .ok (.iconst 0, 1) := by decide +kernel
theorem dX12_lateRest_17 : decode cX12_lateRest 17 = .ok (.aload_n 0, 1) := by decide +kernel
theorem dX12_lateRest_18 : decode cX12_lateRest 18 = .ok (.getfield 35, 3) := by decide +kernel
theorem dX12_lateRest_21 : decode cX12_lateRest 21 = .ok (.bipush 23, 2) := by decide +kernel
theorem dX12_lateRest_23 : decode cX12_lateRest 23 = .ok (.iaload, 1) := by decide +kernel
theorem dX12_lateRest_24 : decode cX12_lateRest 24 = .ok (.aload_n 0, 1) := by decide +kernel
theorem dX12_lateRest_25 : decode cX12_lateRest 25 = .ok (.getfield 35, 3) := by decide +kernel
theorem dX12_lateRest_28 : decode cX12_lateRest 28 = .ok (.bipush 14, 2) := by decide +kernel
theorem dX12_lateRest_30 : decode cX12_lateRest 30 = .ok (.iload_n 1, 1) := by decide +kernel
theorem dX12_lateRest_31 : decode cX12_lateRest 31 = .ok (.iadd, 1) := by decide +kernel
theorem dX12_lateRest_32 : decode cX12_lateRest 32 = .ok (.iaload, 1) := by decide +kernel
theorem dX12_lateRest_33 : decode cX12_lateRest 33 = .ok (.isub, 1) := by decide +kernel
theorem dX12_lateRest_34 : decode cX12_lateRest 34 = .ok (.invokestatic 312, 3) := by decide +kernel
theorem dX12_lateRest_37 : decode cX12_lateRest 37 = .ok (.ireturn, 1) := by decide +kernel
theorem dX12_freeOf_0 : decode cX12_freeOf 0 = .ok (.aload_n 0, 1) := by decide +kernel
theorem dX12_freeOf_1 : decode cX12_freeOf 1 = .ok (.getfield 35, 3) := by decide +kernel
theorem dX12_freeOf_4 : decode cX12_freeOf 4 = .ok (.bipush 26, 2) := by decide +kernel
theorem dX12_freeOf_6 : decode cX12_freeOf 6 = .ok (.iload_n 1, 1) := by decide +kernel
theorem dX12_freeOf_7 : decode cX12_freeOf 7 = .ok (.iadd, 1) := by decide +kernel
theorem dX12_freeOf_8 : decode cX12_freeOf 8 = .ok (.iaload, 1) := by decide +kernel
theorem dX12_freeOf_9 : decode cX12_freeOf 9 = .ok (.bipush 99, 2) := by decide +kernel
theorem dX12_freeOf_11 : decode cX12_freeOf 11 = .ok (.aload_n 0, 1) := by decide +kernel
theorem dX12_freeOf_12 : decode cX12_freeOf 12 = .ok (.getfield 35, 3) := by decide +kernel
theorem dX12_freeOf_15 : decode cX12_freeOf 15 = .ok (.bipush 62, 2) := by decide +kernel
theorem dX12_freeOf_17 : decode cX12_freeOf 17 = .ok (.iload_n 1, 1) := by decide +kernel
theorem dX12_freeOf_18 : decode cX12_freeOf 18 = .ok (.iadd, 1) := by decide +kernel
theorem dX12_freeOf_19 : decode cX12_freeOf 19 = .ok (.iaload, 1) := by decide +kernel
theorem dX12_freeOf_20 : decode cX12_freeOf 20 = .ok (.isub, 1) := by decide +kernel
theorem dX12_freeOf_21 : decode cX12_freeOf 21 = .ok (.invokestatic 320, 3) := by decide +kernel
theorem dX12_freeOf_24 : decode cX12_freeOf 24 = .ok (.istore_n 2, 1) := by decide +kernel
theorem dX12_freeOf_25 : decode cX12_freeOf 25 = .ok (.aload_n 0, 1) := by decide +kernel
theorem dX12_freeOf_26 : decode cX12_freeOf 26 = .ok (.getfield 35, 3) := by decide +kernel
theorem dX12_freeOf_29 : decode cX12_freeOf 29 = .ok (.bipush 18, 2) := by decide +kernel
theorem dX12_freeOf_31 : decode cX12_freeOf 31 = .ok (.iaload, 1) := by decide +kernel
theorem dX12_freeOf_32 : decode cX12_freeOf 32 = .ok (.ifCond .ne 7, 3) := by decide +kernel
theorem dX12_freeOf_35 : decode cX12_freeOf 35 = .ok (.iload_n 2, 1) := by decide +kernel
theorem dX12_freeOf_36 : decode cX12_freeOf 36 = .ok (.goto 43, 3) := by decide +kernel
theorem dX12_freeOf_39 : decode cX12_freeOf 39 = .ok (.iconst 0, 1) := by decide +kernel
theorem dX12_freeOf_40 : decode cX12_freeOf 40 = .ok (.iload_n 2, 1) := by decide +kernel
theorem dX12_freeOf_41 : decode cX12_freeOf 41 = .ok (.aload_n 0, 1) := by decide +kernel
theorem dX12_freeOf_42 : decode cX12_freeOf 42 = .ok (.getfield 35, 3) := by decide +kernel
theorem dX12_freeOf_45 : decode cX12_freeOf 45 = .ok (.sipush 134, 3) := by decide +kernel
theorem dX12_freeOf_48 : decode cX12_freeOf 48 = .ok (.aload_n 0, 1) := by decide +kernel
theorem dX12_freeOf_49 : decode cX12_freeOf 49 = .ok (.iload_n 1, 1) := by decide +kernel
theorem dX12_freeOf_50 : decode cX12_freeOf 50 = .ok (.invokevirtual 329, 3) := by decide +kernel
theorem dX12_freeOf_53 : decode cX12_freeOf 53 = .ok (.iadd, 1) := by decide +kernel
theorem dX12_freeOf_54 : decode cX12_freeOf 54 = .ok (.iaload, 1) := by decide +kernel
theorem dX12_freeOf_55 : decode cX12_freeOf 55 = .ok (.aload_n 0, 1) := by decide +kernel
theorem dX12_freeOf_56 : decode cX12_freeOf 56 = .ok (.getfield 35, 3) := by decide +kernel
theorem dX12_freeOf_59 : decode cX12_freeOf 59 = .ok (.bipush 22, 2) := by decide +kernel
theorem dX12_freeOf_61 : decode cX12_freeOf 61 = .ok (.iaload, 1) := by decide +kernel
theorem dX12_freeOf_62 : decode cX12_freeOf 62 = .ok (.iadd, 1) := by decide +kernel
theorem dX12_freeOf_63 : decode cX12_freeOf 63 = .ok (.aload_n 0, 1) := by decide +kernel
theorem dX12_freeOf_64 : decode cX12_freeOf 64 = .ok (.getfield 35, 3) := by decide +kernel
theorem dX12_freeOf_67 : decode cX12_freeOf 67 = .ok (.bipush 62, 2) := by decide +kernel
theorem dX12_freeOf_69 : decode cX12_freeOf 69 = .ok (.iload_n 1, 1) := by decide +kernel
theorem dX12_freeOf_70 : decode cX12_freeOf 70 = .ok (.iadd, 1) := by decide +kernel
theorem dX12_freeOf_71 : decode cX12_freeOf 71 = .ok (.iaload, 1) := by decide +kernel
theorem dX12_freeOf_72 : decode cX12_freeOf 72 = .ok (.isub, 1) := by decide +kernel
theorem dX12_freeOf_73 : decode cX12_freeOf 73 = .ok (.invokestatic 320, 3) := by decide +kernel
theorem dX12_freeOf_76 : decode cX12_freeOf 76 = .ok (.invokestatic 312, 3) := by decide +kernel
theorem dX12_freeOf_79 : decode cX12_freeOf 79 = .ok (.ireturn, 1) := by decide +kernel
theorem dX12_room_0 : decode cX12_room 0 = .ok (.aload_n 0, 1) := by decide +kernel
theorem dX12_room_1 : decode cX12_room 1 = .ok (.iconst 0, 1) := by decide +kernel
theorem dX12_room_2 : decode cX12_room 2 = .ok (.putfield 69, 3) := by decide +kernel
theorem dX12_room_5 : decode cX12_room 5 = .ok (.aload_n 0, 1) := by decide +kernel
theorem dX12_room_6 : decode cX12_room 6 = .ok (.iconst 0, 1) := by decide +kernel
theorem dX12_room_7 : decode cX12_room 7 = .ok (.putfield 72, 3) := by decide +kernel
theorem dX12_room_10 : decode cX12_room 10 = .ok (.aload_n 0, 1) := by decide +kernel
theorem dX12_room_11 : decode cX12_room 11 = .ok (.iload_n 1, 1) := by decide +kernel
theorem dX12_room_12 : decode cX12_room 12 = .ok (.iload_n 2, 1) := by decide +kernel
theorem dX12_room_13 : decode cX12_room 13 = .ok (.invokevirtual 336, 3) := by decide +kernel
theorem dX12_room_16 : decode cX12_room 16 = .ok (.ifCond .eq 27, 3) := by decide +kernel
theorem dX12_room_19 : decode cX12_room 19 = .ok (.aload_n 0, 1) := by decide +kernel
theorem dX12_room_20 : decode cX12_room 20 = .ok (.iload_n 1, 1) := by decide +kernel
theorem dX12_room_21 : decode cX12_room 21 = .ok (.iload_n 2, 1) := by decide +kernel
theorem dX12_room_22 : decode cX12_room 22 = .ok (.invokestatic 292, 3) := by decide +kernel
theorem dX12_room_25 : decode cX12_room 25 = .ok (.invokevirtual 353, 3) := by decide +kernel
theorem dX12_room_28 : decode cX12_room 28 = .ok (.aload_n 0, 1) := by decide +kernel
theorem dX12_room_29 : decode cX12_room 29 = .ok (.aload_n 0, 1) := by decide +kernel
theorem dX12_room_30 : decode cX12_room 30 = .ok (.iload_n 1, 1) := by decide +kernel
theorem dX12_room_31 : decode cX12_room 31 = .ok (.invokevirtual 270, 3) := by decide +kernel
theorem dX12_room_34 : decode cX12_room 34 = .ok (.invokevirtual 356, 3) := by decide +kernel
theorem dX12_room_37 : decode cX12_room 37 = .ok (.invokestatic 320, 3) := by decide +kernel
theorem dX12_room_40 : decode cX12_room 40 = .ok (.goto 8, 3) := by decide +kernel
theorem dX12_room_43 : decode cX12_room 43 = .ok (.aload_n 0, 1) := by decide +kernel
theorem dX12_room_44 : decode cX12_room 44 = .ok (.iconst 2, 1) := by decide +kernel
theorem dX12_room_45 : decode cX12_room 45 = .ok (.invokevirtual 298, 3) := by decide +kernel
theorem dX12_room_48 : decode cX12_room 48 = .ok (.ireturn, 1) := by decide +kernel
theorem dX12_most_0 : decode cX12_most 0 = .ok (.aload_n 0, 1) := by decide +kernel
theorem dX12_most_1 : decode cX12_most 1 = .ok (.iconst 0, 1) := by decide +kernel
theorem dX12_most_2 : decode cX12_most 2 = .ok (.putfield 69, 3) := by decide +kernel
theorem dX12_most_5 : decode cX12_most 5 = .ok (.aload_n 0, 1) := by decide +kernel
theorem dX12_most_6 : decode cX12_most 6 = .ok (.iconst 0, 1) := by decide +kernel
theorem dX12_most_7 : decode cX12_most 7 = .ok (.putfield 72, 3) := by decide +kernel
theorem dX12_most_10 : decode cX12_most 10 = .ok (.aload_n 0, 1) := by decide +kernel
theorem dX12_most_11 : decode cX12_most 11 = .ok (.iload_n 1, 1) := by decide +kernel
theorem dX12_most_12 : decode cX12_most 12 = .ok (.invokevirtual 304, 3) := by decide +kernel
theorem dX12_most_15 : decode cX12_most 15 = .ok (.ifCond .ne 9, 3) := by decide +kernel
theorem dX12_most_18 : decode cX12_most 18 = .ok (.aload_n 0, 1) := by decide +kernel
theorem dX12_most_19 : decode cX12_most 19 = .ok (.iconst 2, 1) := by decide +kernel
theorem dX12_most_20 : decode cX12_most 20 = .ok (.invokevirtual 298, 3) := by decide +kernel
theorem dX12_most_23 : decode cX12_most 23 = .ok (.ireturn, 1) := by decide +kernel
theorem dX12_most_24 : decode cX12_most 24 = .ok (.iconst 0, 1) := by decide +kernel
theorem dX12_most_25 : decode cX12_most 25 = .ok (.istore_n 2, 1) := by decide +kernel
theorem dX12_most_26 : decode cX12_most 26 = .ok (.iconst 0, 1) := by decide +kernel
theorem dX12_most_27 : decode cX12_most 27 = .ok (.istore_n 3, 1) := by decide +kernel
theorem dX12_most_28 : decode cX12_most 28 = .ok (.iload_n 3, 1) := by decide +kernel
theorem dX12_most_29 : decode cX12_most 29 = .ok (.aload_n 0, 1) := by decide +kernel
theorem dX12_most_30 : decode cX12_most 30 = .ok (.getfield 35, 3) := by decide +kernel
theorem dX12_most_33 : decode cX12_most 33 = .ok (.iconst 1, 1) := by decide +kernel
theorem dX12_most_34 : decode cX12_most 34 = .ok (.iaload, 1) := by decide +kernel
theorem dX12_most_35 : decode cX12_most 35 = .ok (.if_icmp .ge 56, 3) := by decide +kernel
theorem dX12_most_38 : decode cX12_most 38 = .ok (.iconst 0, 1) := by decide +kernel
theorem dX12_most_39 : decode cX12_most 39 = .ok (.istore 4, 2) := by decide +kernel
theorem dX12_most_41 : decode cX12_most 41 = .ok (.iload 4, 2) := by decide +kernel
theorem dX12_most_43 : decode cX12_most 43 = .ok (.aload_n 0, 1) := by decide +kernel
theorem dX12_most_44 : decode cX12_most 44 = .ok (.getfield 35, 3) := by decide +kernel
theorem dX12_most_47 : decode cX12_most 47 = .ok (.iconst 0, 1) := by decide +kernel
theorem dX12_most_48 : decode cX12_most 48 = .ok (.iaload, 1) := by decide +kernel
theorem dX12_most_49 : decode cX12_most 49 = .ok (.if_icmp .ge 36, 3) := by decide +kernel
theorem dX12_most_52 : decode cX12_most 52 = .ok (.iload_n 2, 1) := by decide +kernel
theorem dX12_most_53 : decode cX12_most 53 = .ok (.aload_n 0, 1) := by decide +kernel
theorem dX12_most_54 : decode cX12_most 54 = .ok (.iload 4, 2) := by decide +kernel
theorem dX12_most_56 : decode cX12_most 56 = .ok (.invokevirtual 270, 3) := by decide +kernel
theorem dX12_most_59 : decode cX12_most 59 = .ok (.iload_n 1, 1) := by decide +kernel
theorem dX12_most_60 : decode cX12_most 60 = .ok (.if_icmp .ne 16, 3) := by decide +kernel
theorem dX12_most_63 : decode cX12_most 63 = .ok (.aload_n 0, 1) := by decide +kernel
theorem dX12_most_64 : decode cX12_most 64 = .ok (.iload 4, 2) := by decide +kernel
theorem dX12_most_66 : decode cX12_most 66 = .ok (.iload_n 3, 1) := by decide +kernel
theorem dX12_most_67 : decode cX12_most 67 = .ok (.invokestatic 292, 3) := by decide +kernel
theorem dX12_most_70 : decode cX12_most 70 = .ok (.invokevirtual 353, 3) := by decide +kernel
theorem dX12_most_73 : decode cX12_most 73 = .ok (.goto 4, 3) := by decide +kernel
theorem dX12_most_76 : decode cX12_most 76 = .ok (.iconst 0, 1) := by decide +kernel
theorem dX12_most_77 : decode cX12_most 77 = .ok (.iadd, 1) := by decide +kernel
theorem dX12_most_78 : decode cX12_most 78 = .ok (.istore_n 2, 1) := by decide +kernel
theorem dX12_most_79 : decode cX12_most 79 = .ok (.iinc 4 1, 3) := by decide +kernel
theorem dX12_most_82 : decode cX12_most 82 = .ok (.goto (-41), 3) := by decide +kernel
theorem dX12_most_85 : decode cX12_most 85 = .ok (.iinc 3 1, 3) := by decide +kernel
theorem dX12_most_88 : decode cX12_most 88 = .ok (.goto (-60), 3) := by decide +kernel
theorem dX12_most_91 : decode cX12_most 91 = .ok (.iload_n 2, 1) := by decide +kernel
theorem dX12_most_92 : decode cX12_most 92 = .ok (.aload_n 0, 1) := by decide +kernel
theorem dX12_most_93 : decode cX12_most 93 = .ok (.iload_n 1, 1) := by decide +kernel
theorem dX12_most_94 : decode cX12_most 94 = .ok (.invokevirtual 356, 3) := by decide +kernel
theorem dX12_most_97 : decode cX12_most 97 = .ok (.aload_n 0, 1) := by decide +kernel
theorem dX12_most_98 : decode cX12_most 98 = .ok (.getfield 35, 3) := by decide +kernel
theorem dX12_most_101 : decode cX12_most 101 = .ok (.bipush 12, 2) := by decide +kernel
theorem dX12_most_103 : decode cX12_most 103 = .ok (.iload_n 1, 1) := by decide +kernel
theorem dX12_most_104 : decode cX12_most 104 = .ok (.iadd, 1) := by decide +kernel
theorem dX12_most_105 : decode cX12_most 105 = .ok (.iaload, 1) := by decide +kernel
theorem dX12_most_106 : decode cX12_most 106 = .ok (.aload_n 0, 1) := by decide +kernel
theorem dX12_most_107 : decode cX12_most 107 = .ok (.getfield 35, 3) := by decide +kernel
theorem dX12_most_110 : decode cX12_most 110 = .ok (.bipush 14, 2) := by decide +kernel
theorem dX12_most_112 : decode cX12_most 112 = .ok (.iload_n 1, 1) := by decide +kernel
theorem dX12_most_113 : decode cX12_most 113 = .ok (.iadd, 1) := by decide +kernel
theorem dX12_most_114 : decode cX12_most 114 = .ok (.iaload, 1) := by decide +kernel
theorem dX12_most_115 : decode cX12_most 115 = .ok (.isub, 1) := by decide +kernel
theorem dX12_most_116 : decode cX12_most 116 = .ok (.invokestatic 320, 3) := by decide +kernel
theorem dX12_most_119 : decode cX12_most 119 = .ok (.invokestatic 320, 3) := by decide +kernel
theorem dX12_most_122 : decode cX12_most 122 = .ok (.ireturn, 1) := by decide +kernel
theorem dX12_topOf_0 : decode cX12_topOf 0 = .ok (.aload_n 0, 1) := by decide +kernel
theorem dX12_topOf_1 : decode cX12_topOf 1 = .ok (.getfield 35, 3) := by decide +kernel
theorem dX12_topOf_4 : decode cX12_topOf 4 = .ok (.bipush 26, 2) := by decide +kernel
theorem dX12_topOf_6 : decode cX12_topOf 6 = .ok (.iload_n 1, 1) := by decide +kernel
theorem dX12_topOf_7 : decode cX12_topOf 7 = .ok (.iadd, 1) := by decide +kernel
theorem dX12_topOf_8 : decode cX12_topOf 8 = .ok (.iaload, 1) := by decide +kernel
theorem dX12_topOf_9 : decode cX12_topOf 9 = .ok (.aload_n 0, 1) := by decide +kernel
theorem dX12_topOf_10 : decode cX12_topOf 10 = .ok (.getfield 35, 3) := by decide +kernel
theorem dX12_topOf_13 : decode cX12_topOf 13 = .ok (.bipush 62, 2) := by decide +kernel
theorem dX12_topOf_15 : decode cX12_topOf 15 = .ok (.iload_n 1, 1) := by decide +kernel
theorem dX12_topOf_16 : decode cX12_topOf 16 = .ok (.iadd, 1) := by decide +kernel
theorem dX12_topOf_17 : decode cX12_topOf 17 = .ok (.iaload, 1) := by decide +kernel
theorem dX12_topOf_18 : decode cX12_topOf 18 = .ok (.iadd, 1) := by decide +kernel
theorem dX12_topOf_19 : decode cX12_topOf 19 = .ok (.ireturn, 1) := by decide +kernel
theorem dX12_lowest_0 : decode cX12_lowest 0 = .ok (.aload_n 0, 1) := by decide +kernel
theorem dX12_lowest_1 : decode cX12_lowest 1 = .ok (.iconst 0, 1) := by decide +kernel
theorem dX12_lowest_2 : decode cX12_lowest 2 = .ok (.putfield 69, 3) := by decide +kernel
theorem dX12_lowest_5 : decode cX12_lowest 5 = .ok (.aload_n 0, 1) := by decide +kernel
theorem dX12_lowest_6 : decode cX12_lowest 6 = .ok (.iconst 0, 1) := by decide +kernel
theorem dX12_lowest_7 : decode cX12_lowest 7 = .ok (.putfield 72, 3) := by decide +kernel
theorem dX12_lowest_10 : decode cX12_lowest 10 = .ok (.iload_n 1, 1) := by decide +kernel
theorem dX12_lowest_11 : decode cX12_lowest 11 = .ok (.i2l, 1) := by decide +kernel
theorem dX12_lowest_12 : decode cX12_lowest 12 = .ok (.lconst 0, 1) := by decide +kernel
theorem dX12_lowest_13 : decode cX12_lowest 13 = .ok (.lconst 1, 1) := by decide +kernel
theorem dX12_lowest_14 : decode cX12_lowest 14 = .ok (.invokestatic 104, 3) := by decide +kernel
theorem dX12_lowest_17 : decode cX12_lowest 17 = .ok (.ifCond .ne 9, 3) := by decide +kernel
theorem dX12_lowest_20 : decode cX12_lowest 20 = .ok (.aload_n 0, 1) := by decide +kernel
theorem dX12_lowest_21 : decode cX12_lowest 21 = .ok (.iconst 5, 1) := by decide +kernel
theorem dX12_lowest_22 : decode cX12_lowest 22 = .ok (.invokevirtual 298, 3) := by decide +kernel
theorem dX12_lowest_25 : decode cX12_lowest 25 = .ok (.ireturn, 1) := by decide +kernel
theorem dX12_lowest_26 : decode cX12_lowest 26 = .ok (.ldc_w 352, 3) := by decide +kernel
theorem dX12_lowest_29 : decode cX12_lowest 29 = .ok (.istore_n 2, 1) := by decide +kernel
theorem dX12_lowest_30 : decode cX12_lowest 30 = .ok (.iconst 0, 1) := by decide +kernel
theorem dX12_lowest_31 : decode cX12_lowest 31 = .ok (.istore_n 3, 1) := by decide +kernel
theorem dX12_lowest_32 : decode cX12_lowest 32 = .ok (.iload_n 3, 1) := by decide +kernel
theorem dX12_lowest_33 : decode cX12_lowest 33 = .ok (.aload_n 0, 1) := by decide +kernel
theorem dX12_lowest_34 : decode cX12_lowest 34 = .ok (.getfield 35, 3) := by decide +kernel
theorem dX12_lowest_37 : decode cX12_lowest 37 = .ok (.iconst 1, 1) := by decide +kernel
theorem dX12_lowest_38 : decode cX12_lowest 38 = .ok (.iaload, 1) := by decide +kernel
theorem dX12_lowest_39 : decode cX12_lowest 39 = .ok (.if_icmp .ge 58, 3) := by decide +kernel
theorem dX12_lowest_42 : decode cX12_lowest 42 = .ok (.iconst 0, 1) := by decide +kernel
theorem dX12_lowest_43 : decode cX12_lowest 43 = .ok (.istore 4, 2) := by decide +kernel
theorem dX12_lowest_45 : decode cX12_lowest 45 = .ok (.iload 4, 2) := by decide +kernel
theorem dX12_lowest_47 : decode cX12_lowest 47 = .ok (.aload_n 0, 1) := by decide +kernel
theorem dX12_lowest_48 : decode cX12_lowest 48 = .ok (.getfield 35, 3) := by decide +kernel
theorem dX12_lowest_51 : decode cX12_lowest 51 = .ok (.iconst 0, 1) := by decide +kernel
theorem dX12_lowest_52 : decode cX12_lowest 52 = .ok (.iaload, 1) := by decide +kernel
theorem dX12_lowest_53 : decode cX12_lowest 53 = .ok (.if_icmp .ge 38, 3) := by decide +kernel
theorem dX12_lowest_56 : decode cX12_lowest 56 = .ok (.aload_n 0, 1) := by decide +kernel
theorem dX12_lowest_57 : decode cX12_lowest 57 = .ok (.iload 4, 2) := by decide +kernel
theorem dX12_lowest_59 : decode cX12_lowest 59 = .ok (.invokevirtual 270, 3) := by decide +kernel
theorem dX12_lowest_62 : decode cX12_lowest 62 = .ok (.iload_n 1, 1) := by decide +kernel
theorem dX12_lowest_63 : decode cX12_lowest 63 = .ok (.if_icmp .ne 20, 3) := by decide +kernel
theorem dX12_lowest_66 : decode cX12_lowest 66 = .ok (.iload_n 2, 1) := by decide +kernel
theorem dX12_lowest_67 : decode cX12_lowest 67 = .ok (.aload_n 0, 1) := by decide +kernel
theorem dX12_lowest_68 : decode cX12_lowest 68 = .ok (.iload 4, 2) := by decide +kernel
theorem dX12_lowest_70 : decode cX12_lowest 70 = .ok (.iload_n 3, 1) := by decide +kernel
theorem dX12_lowest_71 : decode cX12_lowest 71 = .ok (.invokestatic 292, 3) := by decide +kernel
theorem dX12_lowest_74 : decode cX12_lowest 74 = .ok (.invokevirtual 359, 3) := by decide +kernel
theorem dX12_lowest_77 : decode cX12_lowest 77 = .ok (.invokestatic 320, 3) := by decide +kernel
theorem dX12_lowest_80 : decode cX12_lowest 80 = .ok (.goto 4, 3) := by decide +kernel
theorem dX12_lowest_83 : decode cX12_lowest 83 = .ok (.iload_n 2, 1) := by decide +kernel
theorem dX12_lowest_84 : decode cX12_lowest 84 = .ok (.istore_n 2, 1) := by decide +kernel
theorem dX12_lowest_85 : decode cX12_lowest 85 = .ok (.iinc 4 1, 3) := by decide +kernel
theorem dX12_lowest_88 : decode cX12_lowest 88 = .ok (.goto (-43), 3) := by decide +kernel
theorem dX12_lowest_91 : decode cX12_lowest 91 = .ok (.iinc 3 1, 3) := by decide +kernel
theorem dX12_lowest_94 : decode cX12_lowest 94 = .ok (.goto (-62), 3) := by decide +kernel
theorem dX12_lowest_97 : decode cX12_lowest 97 = .ok (.iload_n 2, 1) := by decide +kernel
theorem dX12_lowest_98 : decode cX12_lowest 98 = .ok (.ireturn, 1) := by decide +kernel
theorem dX12_highest_0 : decode cX12_highest 0 = .ok (.aload_n 0, 1) := by decide +kernel
theorem dX12_highest_1 : decode cX12_highest 1 = .ok (.iconst 0, 1) := by decide +kernel
theorem dX12_highest_2 : decode cX12_highest 2 = .ok (.putfield 69, 3) := by decide +kernel
theorem dX12_highest_5 : decode cX12_highest 5 = .ok (.aload_n 0, 1) := by decide +kernel
theorem dX12_highest_6 : decode cX12_highest 6 = .ok (.iconst 0, 1) := by decide +kernel
theorem dX12_highest_7 : decode cX12_highest 7 = .ok (.putfield 72, 3) := by decide +kernel
theorem dX12_highest_10 : decode cX12_highest 10 = .ok (.iload_n 1, 1) := by decide +kernel
theorem dX12_highest_11 : decode cX12_highest 11 = .ok (.i2l, 1) := by decide +kernel
theorem dX12_highest_12 : decode cX12_highest 12 = .ok (.lconst 0, 1) := by decide +kernel
theorem dX12_highest_13 : decode cX12_highest 13 = .ok (.lconst 1, 1) := by decide +kernel
theorem dX12_highest_14 : decode cX12_highest 14 = .ok (.invokestatic 104, 3) := by decide +kernel
theorem dX12_highest_17 : decode cX12_highest 17 = .ok (.ifCond .ne 9, 3) := by decide +kernel
theorem dX12_highest_20 : decode cX12_highest 20 = .ok (.aload_n 0, 1) := by decide +kernel
theorem dX12_highest_21 : decode cX12_highest 21 = .ok (.iconst 5, 1) := by decide +kernel
theorem dX12_highest_22 : decode cX12_highest 22 = .ok (.invokevirtual 298, 3) := by decide +kernel
theorem dX12_highest_25 : decode cX12_highest 25 = .ok (.ireturn, 1) := by decide +kernel
theorem dX12_highest_26 : decode cX12_highest 26 = .ok (.iconst 0, 1) := by decide +kernel
theorem dX12_highest_27 : decode cX12_highest 27 = .ok (.istore_n 2, 1) := by decide +kernel
theorem dX12_highest_28 : decode cX12_highest 28 = .ok (.iconst 0, 1) := by decide +kernel
theorem dX12_highest_29 : decode cX12_highest 29 = .ok (.istore_n 3, 1) := by decide +kernel
theorem dX12_highest_30 : decode cX12_highest 30 = .ok (.iload_n 3, 1) := by decide +kernel
theorem dX12_highest_31 : decode cX12_highest 31 = .ok (.aload_n 0, 1) := by decide +kernel
theorem dX12_highest_32 : decode cX12_highest 32 = .ok (.getfield 35, 3) := by decide +kernel
theorem dX12_highest_35 : decode cX12_highest 35 = .ok (.iconst 1, 1) := by decide +kernel
theorem dX12_highest_36 : decode cX12_highest 36 = .ok (.iaload, 1) := by decide +kernel
theorem dX12_highest_37 : decode cX12_highest 37 = .ok (.if_icmp .ge 58, 3) := by decide +kernel
theorem dX12_highest_40 : decode cX12_highest 40 = .ok (.iconst 0, 1) := by decide +kernel
theorem dX12_highest_41 : decode cX12_highest 41 = .ok (.istore 4, 2) := by decide +kernel
theorem dX12_highest_43 : decode cX12_highest 43 = .ok (.iload 4, 2) := by decide +kernel
theorem dX12_highest_45 : decode cX12_highest 45 = .ok (.aload_n 0, 1) := by decide +kernel
theorem dX12_highest_46 : decode cX12_highest 46 = .ok (.getfield 35, 3) := by decide +kernel
theorem dX12_highest_49 : decode cX12_highest 49 = .ok (.iconst 0, 1) := by decide +kernel
theorem dX12_highest_50 : decode cX12_highest 50 = .ok (.iaload, 1) := by decide +kernel
theorem dX12_highest_51 : decode cX12_highest 51 = .ok (.if_icmp .ge 38, 3) := by decide +kernel
theorem dX12_highest_54 : decode cX12_highest 54 = .ok (.aload_n 0, 1) := by decide +kernel
theorem dX12_highest_55 : decode cX12_highest 55 = .ok (.iload 4, 2) := by decide +kernel
theorem dX12_highest_57 : decode cX12_highest 57 = .ok (.invokevirtual 270, 3) := by decide +kernel
theorem dX12_highest_60 : decode cX12_highest 60 = .ok (.iload_n 1, 1) := by decide +kernel
theorem dX12_highest_61 : decode cX12_highest 61 = .ok (.if_icmp .ne 20, 3) := by decide +kernel
theorem dX12_highest_64 : decode cX12_highest 64 = .ok (.iload_n 2, 1) := by decide +kernel
theorem dX12_highest_65 : decode cX12_highest 65 = .ok (.aload_n 0, 1) := by decide +kernel
theorem dX12_highest_66 : decode cX12_highest 66 = .ok (.iload 4, 2) := by decide +kernel
theorem dX12_highest_68 : decode cX12_highest 68 = .ok (.iload_n 3, 1) := by decide +kernel
theorem dX12_highest_69 : decode cX12_highest 69 = .ok (.invokestatic 292, 3) := by decide +kernel
theorem dX12_highest_72 : decode cX12_highest 72 = .ok (.invokevirtual 359, 3) := by decide +kernel
theorem dX12_highest_75 : decode cX12_highest 75 = .ok (.invokestatic 312, 3) := by decide +kernel
theorem dX12_highest_78 : decode cX12_highest 78 = .ok (.goto 4, 3) := by decide +kernel
theorem dX12_highest_81 : decode cX12_highest 81 = .ok (.iload_n 2, 1) := by decide +kernel
theorem dX12_highest_82 : decode cX12_highest 82 = .ok (.istore_n 2, 1) := by decide +kernel
theorem dX12_highest_83 : decode cX12_highest 83 = .ok (.iinc 4 1, 3) := by decide +kernel
theorem dX12_highest_86 : decode cX12_highest 86 = .ok (.goto (-43), 3) := by decide +kernel
theorem dX12_highest_89 : decode cX12_highest 89 = .ok (.iinc 3 1, 3) := by decide +kernel
theorem dX12_highest_92 : decode cX12_highest 92 = .ok (.goto (-62), 3) := by decide +kernel
theorem dX12_highest_95 : decode cX12_highest 95 = .ok (.iload_n 2, 1) := by decide +kernel
theorem dX12_highest_96 : decode cX12_highest 96 = .ok (.ireturn, 1) := by decide +kernel
theorem dX12_steepest_0 : decode cX12_steepest 0 = .ok (.aload_n 0, 1) := by decide +kernel
theorem dX12_steepest_1 : decode cX12_steepest 1 = .ok (.iconst 0, 1) := by decide +kernel
theorem dX12_steepest_2 : decode cX12_steepest 2 = .ok (.putfield 69, 3) := by decide +kernel
theorem dX12_steepest_5 : decode cX12_steepest 5 = .ok (.aload_n 0, 1) := by decide +kernel
theorem dX12_steepest_6 : decode cX12_steepest 6 = .ok (.iconst 0, 1) := by decide +kernel
theorem dX12_steepest_7 : decode cX12_steepest 7 = .ok (.putfield 72, 3) := by decide +kernel
theorem dX12_steepest_10 : decode cX12_steepest 10 = .ok (.iconst 0, 1) := by decide +kernel
theorem dX12_steepest_11 : decode cX12_steepest 11 = .ok (.istore_n 1, 1) := by decide +kernel
theorem dX12_steepest_12 : decode cX12_steepest 12 = .ok (.iconst 0, 1) := by decide +kernel
theorem dX12_steepest_13 : decode cX12_steepest 13 = .ok (.istore_n 2, 1) := by decide +kernel
theorem dX12_steepest_14 : decode cX12_steepest 14 = .ok (.iload_n 2, 1) := by decide +kernel
theorem dX12_steepest_15 : decode cX12_steepest 15 = .ok (.aload_n 0, 1) := by decide +kernel
theorem dX12_steepest_16 : decode cX12_steepest 16 = .ok (.getfield 35, 3) := by decide +kernel
theorem dX12_steepest_19 : decode cX12_steepest 19 = .ok (.iconst 1, 1) := by decide +kernel
theorem dX12_steepest_20 : decode cX12_steepest 20 = .ok (.iaload, 1) := by decide +kernel
theorem dX12_steepest_21 : decode cX12_steepest 21 = .ok (.if_icmp .ge 93, 3) := by decide +kernel
theorem dX12_steepest_24 : decode cX12_steepest 24 = .ok (.iconst 0, 1) := by decide +kernel
theorem dX12_steepest_25 : decode cX12_steepest 25 = .ok (.istore_n 3, 1) := by decide +kernel
theorem dX12_steepest_26 : decode cX12_steepest 26 = .ok (.iload_n 3, 1) := by decide +kernel
theorem dX12_steepest_27 : decode cX12_steepest 27 = .ok (.aload_n 0, 1) := by decide +kernel
theorem dX12_steepest_28 : decode cX12_steepest 28 = .ok (.getfield 35, 3) := by decide +kernel
theorem dX12_steepest_31 : decode cX12_steepest 31 = .ok (.iconst 0, 1) := by decide +kernel
theorem dX12_steepest_32 : decode cX12_steepest 32 = .ok (.iaload, 1) := by decide +kernel
theorem dX12_steepest_33 : decode cX12_steepest 33 = .ok (.if_icmp .ge 75, 3) := by decide +kernel
theorem dX12_steepest_36 : decode cX12_steepest 36 = .ok (.iload_n 3, 1) := by decide +kernel
theorem dX12_steepest_37 : decode cX12_steepest 37 = .ok (.ifCond .le 32, 3) := by decide +kernel
theorem dX12_steepest_40 : decode cX12_steepest 40 = .ok (.iload_n 1, 1) := by decide +kernel
theorem dX12_steepest_41 : decode cX12_steepest 41 = .ok (.aload_n 0, 1) := by decide +kernel
theorem dX12_steepest_42 : decode cX12_steepest 42 = .ok (.iload_n 3, 1) := by decide +kernel
theorem dX12_steepest_43 : decode cX12_steepest 43 = .ok (.iload_n 2, 1) := by decide +kernel
theorem dX12_steepest_44 : decode cX12_steepest 44 = .ok (.invokestatic 292, 3) := by decide +kernel
theorem dX12_steepest_47 : decode cX12_steepest 47 = .ok (.invokevirtual 359, 3) := by decide +kernel
theorem dX12_steepest_50 : decode cX12_steepest 50 = .ok (.aload_n 0, 1) := by decide +kernel
theorem dX12_steepest_51 : decode cX12_steepest 51 = .ok (.iload_n 3, 1) := by decide +kernel
theorem dX12_steepest_52 : decode cX12_steepest 52 = .ok (.iconst 1, 1) := by decide +kernel
theorem dX12_steepest_53 : decode cX12_steepest 53 = .ok (.isub, 1) := by decide +kernel
theorem dX12_steepest_54 : decode cX12_steepest 54 = .ok (.iload_n 2, 1) := by decide +kernel
theorem dX12_steepest_55 : decode cX12_steepest 55 = .ok (.invokestatic 292, 3) := by decide +kernel
theorem dX12_steepest_58 : decode cX12_steepest 58 = .ok (.invokevirtual 359, 3) := by decide +kernel
theorem dX12_steepest_61 : decode cX12_steepest 61 = .ok (.isub, 1) := by decide +kernel
theorem dX12_steepest_62 : decode cX12_steepest 62 = .ok (.invokestatic 362, 3) := by decide +kernel
theorem dX12_steepest_65 : decode cX12_steepest 65 = .ok (.invokestatic 312, 3) := by decide +kernel
theorem dX12_steepest_68 : decode cX12_steepest 68 = .ok (.istore_n 1, 1) := by decide +kernel
theorem dX12_steepest_69 : decode cX12_steepest 69 = .ok (.iload_n 2, 1) := by decide +kernel
theorem dX12_steepest_70 : decode cX12_steepest 70 = .ok (.ifCond .le 32, 3) := by decide +kernel
theorem dX12_steepest_73 : decode cX12_steepest 73 = .ok (.iload_n 1, 1) := by decide +kernel
theorem dX12_steepest_74 : decode cX12_steepest 74 = .ok (.aload_n 0, 1) := by decide +kernel
theorem dX12_steepest_75 : decode cX12_steepest 75 = .ok (.iload_n 3, 1) := by decide +kernel
theorem dX12_steepest_76 : decode cX12_steepest 76 = .ok (.iload_n 2, 1) := by decide +kernel
theorem dX12_steepest_77 : decode cX12_steepest 77 = .ok (.invokestatic 292, 3) := by decide +kernel
theorem dX12_steepest_80 : decode cX12_steepest 80 = .ok (.invokevirtual 359, 3) := by decide +kernel
theorem dX12_steepest_83 : decode cX12_steepest 83 = .ok (.aload_n 0, 1) := by decide +kernel
theorem dX12_steepest_84 : decode cX12_steepest 84 = .ok (.iload_n 3, 1) := by decide +kernel
theorem dX12_steepest_85 : decode cX12_steepest 85 = .ok (.iload_n 2, 1) := by decide +kernel
theorem dX12_steepest_86 : decode cX12_steepest 86 = .ok (.iconst 1, 1) := by decide +kernel
theorem dX12_steepest_87 : decode cX12_steepest 87 = .ok (.isub, 1) := by decide +kernel
theorem dX12_steepest_88 : decode cX12_steepest 88 = .ok (.invokestatic 292, 3) := by decide +kernel
theorem dX12_steepest_91 : decode cX12_steepest 91 = .ok (.invokevirtual 359, 3) := by decide +kernel
theorem dX12_steepest_94 : decode cX12_steepest 94 = .ok (.isub, 1) := by decide +kernel
theorem dX12_steepest_95 : decode cX12_steepest 95 = .ok (.invokestatic 362, 3) := by decide +kernel
theorem dX12_steepest_98 : decode cX12_steepest 98 = .ok (.invokestatic 312, 3) := by decide +kernel
theorem dX12_steepest_101 : decode cX12_steepest 101 = .ok (.istore_n 1, 1) := by decide +kernel
theorem dX12_steepest_102 : decode cX12_steepest 102 = .ok (.iinc 3 1, 3) := by decide +kernel
theorem dX12_steepest_105 : decode cX12_steepest 105 = .ok (.goto (-79), 3) := by decide +kernel
theorem dX12_steepest_108 : decode cX12_steepest 108 = .ok (.iinc 2 1, 3) := by decide +kernel
theorem dX12_steepest_111 : decode cX12_steepest 111 = .ok (.goto (-97), 3) := by decide +kernel
theorem dX12_steepest_114 : decode cX12_steepest 114 = .ok (.iload_n 1, 1) := by decide +kernel
theorem dX12_steepest_115 : decode cX12_steepest 115 = .ok (.ireturn, 1) := by decide +kernel
theorem dX12_unlike_0 : decode cX12_unlike 0 = .ok (.aload_n 0, 1) := by decide +kernel
theorem dX12_unlike_1 : decode cX12_unlike 1 = .ok (.iconst 0, 1) := by decide +kernel
theorem dX12_unlike_2 : decode cX12_unlike 2 = .ok (.putfield 69, 3) := by decide +kernel
theorem dX12_unlike_5 : decode cX12_unlike 5 = .ok (.aload_n 0, 1) := by decide +kernel
theorem dX12_unlike_6 : decode cX12_unlike 6 = .ok (.iconst 0, 1) := by decide +kernel
theorem dX12_unlike_7 : decode cX12_unlike 7 = .ok (.putfield 72, 3) := by decide +kernel
theorem dX12_unlike_10 : decode cX12_unlike 10 = .ok (.iconst 0, 1) := by decide +kernel
theorem dX12_unlike_11 : decode cX12_unlike 11 = .ok (.istore_n 1, 1) := by decide +kernel
theorem dX12_unlike_12 : decode cX12_unlike 12 = .ok (.iconst 0, 1) := by decide +kernel
theorem dX12_unlike_13 : decode cX12_unlike 13 = .ok (.istore_n 2, 1) := by decide +kernel
theorem dX12_unlike_14 : decode cX12_unlike 14 = .ok (.iload_n 2, 1) := by decide +kernel
theorem dX12_unlike_15 : decode cX12_unlike 15 = .ok (.aload_n 0, 1) := by decide +kernel
theorem dX12_unlike_16 : decode cX12_unlike 16 = .ok (.getfield 35, 3) := by decide +kernel
theorem dX12_unlike_19 : decode cX12_unlike 19 = .ok (.iconst 1, 1) := by decide +kernel
theorem dX12_unlike_20 : decode cX12_unlike 20 = .ok (.iaload, 1) := by decide +kernel
theorem dX12_unlike_21 : decode cX12_unlike 21 = .ok (.if_icmp .ge 62, 3) := by decide +kernel
theorem dX12_unlike_24 : decode cX12_unlike 24 = .ok (.iconst 0, 1) := by decide +kernel
theorem dX12_unlike_25 : decode cX12_unlike 25 = .ok (.istore_n 3, 1) := by decide +kernel
theorem dX12_unlike_26 : decode cX12_unlike 26 = .ok (.iconst 2, 1) := by decide +kernel
theorem dX12_unlike_27 : decode cX12_unlike 27 = .ok (.iload_n 3, 1) := by decide +kernel
theorem dX12_unlike_28 : decode cX12_unlike 28 = .ok (.imul, 1) := by decide +kernel
theorem dX12_unlike_29 : decode cX12_unlike 29 = .ok (.aload_n 0, 1) := by decide +kernel
theorem dX12_unlike_30 : decode cX12_unlike 30 = .ok (.getfield 35, 3) := by decide +kernel
theorem dX12_unlike_33 : decode cX12_unlike 33 = .ok (.iconst 0, 1) := by decide +kernel
theorem dX12_unlike_34 : decode cX12_unlike 34 = .ok (.iaload, 1) := by decide +kernel
theorem dX12_unlike_35 : decode cX12_unlike 35 = .ok (.if_icmp .ge 42, 3) := by decide +kernel
theorem dX12_unlike_38 : decode cX12_unlike 38 = .ok (.iload_n 1, 1) := by decide +kernel
theorem dX12_unlike_39 : decode cX12_unlike 39 = .ok (.aload_n 0, 1) := by decide +kernel
theorem dX12_unlike_40 : decode cX12_unlike 40 = .ok (.iload_n 3, 1) := by decide +kernel
theorem dX12_unlike_41 : decode cX12_unlike 41 = .ok (.iload_n 2, 1) := by decide +kernel
theorem dX12_unlike_42 : decode cX12_unlike 42 = .ok (.invokestatic 292, 3) := by decide +kernel
theorem dX12_unlike_45 : decode cX12_unlike 45 = .ok (.invokevirtual 359, 3) := by decide +kernel
theorem dX12_unlike_48 : decode cX12_unlike 48 = .ok (.aload_n 0, 1) := by decide +kernel
theorem dX12_unlike_49 : decode cX12_unlike 49 = .ok (.aload_n 0, 1) := by decide +kernel
theorem dX12_unlike_50 : decode cX12_unlike 50 = .ok (.iload_n 3, 1) := by decide +kernel
theorem dX12_unlike_51 : decode cX12_unlike 51 = .ok (.iload_n 2, 1) := by decide +kernel
theorem dX12_unlike_52 : decode cX12_unlike 52 = .ok (.invokestatic 292, 3) := by decide +kernel
theorem dX12_unlike_55 : decode cX12_unlike 55 = .ok (.invokevirtual 329, 3) := by decide +kernel
theorem dX12_unlike_58 : decode cX12_unlike 58 = .ok (.invokevirtual 359, 3) := by decide +kernel
theorem dX12_unlike_61 : decode cX12_unlike 61 = .ok (.if_icmp .eq 7, 3) := by decide +kernel
theorem dX12_unlike_64 : decode cX12_unlike 64 = .ok (.iconst 1, 1) := by decide +kernel
theorem dX12_unlike_65 : decode cX12_unlike 65 = .ok (.goto 4, 3) := by decide +kernel
theorem dX12_unlike_68 : decode cX12_unlike 68 = .ok (.iconst 0, 1) := by decide +kernel
theorem dX12_unlike_69 : decode cX12_unlike 69 = .ok (.iadd, 1) := by decide +kernel
theorem dX12_unlike_70 : decode cX12_unlike 70 = .ok (.istore_n 1, 1) := by decide +kernel
theorem dX12_unlike_71 : decode cX12_unlike 71 = .ok (.iinc 3 1, 3) := by decide +kernel
theorem dX12_unlike_74 : decode cX12_unlike 74 = .ok (.goto (-48), 3) := by decide +kernel
theorem dX12_unlike_77 : decode cX12_unlike 77 = .ok (.iinc 2 1, 3) := by decide +kernel
theorem dX12_unlike_80 : decode cX12_unlike 80 = .ok (.goto (-66), 3) := by decide +kernel
theorem dX12_unlike_83 : decode cX12_unlike 83 = .ok (.iload_n 1, 1) := by decide +kernel
theorem dX12_unlike_84 : decode cX12_unlike 84 = .ok (.ireturn, 1) := by decide +kernel
theorem dX12_mayBe_0 : decode cX12_mayBe 0 = .ok (.iload_n 2, 1) := by decide +kernel
theorem dX12_mayBe_1 : decode cX12_mayBe 1 = .ok (.aload_n 0, 1) := by decide +kernel
theorem dX12_mayBe_2 : decode cX12_mayBe 2 = .ok (.getfield 35, 3) := by decide +kernel
theorem dX12_mayBe_5 : decode cX12_mayBe 5 = .ok (.bipush 62, 2) := by decide +kernel
theorem dX12_mayBe_7 : decode cX12_mayBe 7 = .ok (.iload_n 1, 1) := by decide +kernel
theorem dX12_mayBe_8 : decode cX12_mayBe 8 = .ok (.iadd, 1) := by decide +kernel
theorem dX12_mayBe_9 : decode cX12_mayBe 9 = .ok (.iaload, 1) := by decide +kernel
theorem dX12_mayBe_10 : decode cX12_mayBe 10 = .ok (.isub, 1) := by decide +kernel
theorem dX12_mayBe_11 : decode cX12_mayBe 11 = .ok (.i2l, 1) := by decide +kernel
theorem dX12_mayBe_12 : decode cX12_mayBe 12 = .ok (.lconst 0, 1) := by decide +kernel
theorem dX12_mayBe_13 : decode cX12_mayBe 13 = .ok (.ldc2_w 364, 3) := by decide +kernel
theorem dX12_mayBe_16 : decode cX12_mayBe 16 = .ok (.invokestatic 104, 3) := by decide +kernel
theorem dX12_mayBe_19 : decode cX12_mayBe 19 = .ok (.ireturn, 1) := by decide +kernel
theorem dX12_level_0 : decode cX12_level 0 = .ok (.aload_n 0, 1) := by decide +kernel
theorem dX12_level_1 : decode cX12_level 1 = .ok (.iconst 0, 1) := by decide +kernel
theorem dX12_level_2 : decode cX12_level 2 = .ok (.putfield 69, 3) := by decide +kernel
theorem dX12_level_5 : decode cX12_level 5 = .ok (.aload_n 0, 1) := by decide +kernel
theorem dX12_level_6 : decode cX12_level 6 = .ok (.iconst 0, 1) := by decide +kernel
theorem dX12_level_7 : decode cX12_level 7 = .ok (.putfield 72, 3) := by decide +kernel
theorem dX12_level_10 : decode cX12_level 10 = .ok (.iload_n 1, 1) := by decide +kernel
theorem dX12_level_11 : decode cX12_level 11 = .ok (.i2l, 1) := by decide +kernel
theorem dX12_level_12 : decode cX12_level 12 = .ok (.lconst 0, 1) := by decide +kernel
theorem dX12_level_13 : decode cX12_level 13 = .ok (.lconst 1, 1) := by decide +kernel
theorem dX12_level_14 : decode cX12_level 14 = .ok (.invokestatic 104, 3) := by decide +kernel
theorem dX12_level_17 : decode cX12_level 17 = .ok (.ifCond .ne 9, 3) := by decide +kernel
theorem dX12_level_20 : decode cX12_level 20 = .ok (.aload_n 0, 1) := by decide +kernel
theorem dX12_level_21 : decode cX12_level 21 = .ok (.iconst 5, 1) := by decide +kernel
theorem dX12_level_22 : decode cX12_level 22 = .ok (.invokevirtual 298, 3) := by decide +kernel
theorem dX12_level_25 : decode cX12_level 25 = .ok (.ireturn, 1) := by decide +kernel
theorem dX12_level_26 : decode cX12_level 26 = .ok (.aload_n 0, 1) := by decide +kernel
theorem dX12_level_27 : decode cX12_level 27 = .ok (.getfield 35, 3) := by decide +kernel
theorem dX12_level_30 : decode cX12_level 30 = .ok (.iconst 0, 1) := by decide +kernel
theorem dX12_level_31 : decode cX12_level 31 = .ok (.iaload, 1) := by decide +kernel
theorem dX12_level_32 : decode cX12_level 32 = .ok (.iconst 2, 1) := by decide +kernel
theorem dX12_level_33 : decode cX12_level 33 = .ok (.idiv, 1) := by decide +kernel
theorem dX12_level_34 : decode cX12_level 34 = .ok (.aload_n 0, 1) := by decide +kernel
theorem dX12_level_35 : decode cX12_level 35 = .ok (.getfield 35, 3) := by decide +kernel
theorem dX12_level_38 : decode cX12_level 38 = .ok (.iconst 1, 1) := by decide +kernel
theorem dX12_level_39 : decode cX12_level 39 = .ok (.iaload, 1) := by decide +kernel
theorem dX12_level_40 : decode cX12_level 40 = .ok (.imul, 1) := by decide +kernel
theorem dX12_level_41 : decode cX12_level 41 = .ok (.istore_n 2, 1) := by decide +kernel
theorem dX12_level_42 : decode cX12_level 42 = .ok (.aload_n 0, 1) := by decide +kernel
theorem dX12_level_43 : decode cX12_level 43 = .ok (.bipush 26, 2) := by decide +kernel
theorem dX12_level_45 : decode cX12_level 45 = .ok (.iload_n 1, 1) := by decide +kernel
theorem dX12_level_46 : decode cX12_level 46 = .ok (.invokevirtual 307, 3) := by decide +kernel
theorem dX12_level_49 : decode cX12_level 49 = .ok (.aload_n 0, 1) := by decide +kernel
theorem dX12_level_50 : decode cX12_level 50 = .ok (.bipush 62, 2) := by decide +kernel
theorem dX12_level_52 : decode cX12_level 52 = .ok (.iload_n 1, 1) := by decide +kernel
theorem dX12_level_53 : decode cX12_level 53 = .ok (.invokevirtual 307, 3) := by decide +kernel
theorem dX12_level_56 : decode cX12_level 56 = .ok (.iadd, 1) := by decide +kernel
theorem dX12_level_57 : decode cX12_level 57 = .ok (.istore_n 3, 1) := by decide +kernel
theorem dX12_level_58 : decode cX12_level 58 = .ok (.iload_n 3, 1) := by decide +kernel
theorem dX12_level_59 : decode cX12_level 59 = .ok (.iload_n 2, 1) := by decide +kernel
theorem dX12_level_60 : decode cX12_level 60 = .ok (.idiv, 1) := by decide +kernel
theorem dX12_level_61 : decode cX12_level 61 = .ok (.istore 4, 2) := by decide +kernel
theorem dX12_level_63 : decode cX12_level 63 = .ok (.iload_n 3, 1) := by decide +kernel
theorem dX12_level_64 : decode cX12_level 64 = .ok (.iload_n 2, 1) := by decide +kernel
theorem dX12_level_65 : decode cX12_level 65 = .ok (.irem, 1) := by decide +kernel
theorem dX12_level_66 : decode cX12_level 66 = .ok (.istore 5, 2) := by decide +kernel
theorem dX12_level_68 : decode cX12_level 68 = .ok (.iconst 0, 1) := by decide +kernel
theorem dX12_level_69 : decode cX12_level 69 = .ok (.istore 6, 2) := by decide +kernel
theorem dX12_level_71 : decode cX12_level 71 = .ok (.iconst 0, 1) := by decide +kernel
theorem dX12_level_72 : decode cX12_level 72 = .ok (.istore 7, 2) := by decide +kernel
theorem dX12_level_74 : decode cX12_level 74 = .ok (.iconst 0, 1) := by decide +kernel
theorem dX12_level_75 : decode cX12_level 75 = .ok (.istore 8, 2) := by decide +kernel
theorem dX12_level_77 : decode cX12_level 77 = .ok (.iconst 0, 1) := by decide +kernel
theorem dX12_level_78 : decode cX12_level 78 = .ok (.istore 9, 2) := by decide +kernel
theorem dX12_level_80 : decode cX12_level 80 = .ok (.iconst 0, 1) := by decide +kernel
theorem dX12_level_81 : decode cX12_level 81 = .ok (.istore 10, 2) := by decide +kernel
theorem dX12_level_83 : decode cX12_level 83 = .ok (.iload 10, 2) := by decide +kernel
theorem dX12_level_85 : decode cX12_level 85 = .ok (.aload_n 0, 1) := by decide +kernel
theorem dX12_level_86 : decode cX12_level 86 = .ok (.getfield 35, 3) := by decide +kernel
theorem dX12_level_89 : decode cX12_level 89 = .ok (.iconst 1, 1) := by decide +kernel
theorem dX12_level_90 : decode cX12_level 90 = .ok (.iaload, 1) := by decide +kernel
theorem dX12_level_91 : decode cX12_level 91 = .ok (.if_icmp .ge 186, 3) := by decide +kernel
theorem dX12_level_94 : decode cX12_level 94 = .ok (.iconst 0, 1) := by decide +kernel
theorem dX12_level_95 : decode cX12_level 95 = .ok (.istore 11, 2) := by decide +kernel
theorem dX12_level_97 : decode cX12_level 97 = .ok (.iload 11, 2) := by decide +kernel
theorem dX12_level_99 : decode cX12_level 99 = .ok (.aload_n 0, 1) := by decide +kernel
theorem dX12_level_100 : decode cX12_level 100 = .ok (.getfield 35, 3) := by decide +kernel
theorem dX12_level_103 : decode cX12_level 103 = .ok (.iconst 0, 1) := by decide +kernel
theorem dX12_level_104 : decode cX12_level 104 = .ok (.iaload, 1) := by decide +kernel
theorem dX12_level_105 : decode cX12_level 105 = .ok (.if_icmp .ge 166, 3) := by decide +kernel
theorem dX12_level_108 : decode cX12_level 108 = .ok (.iload 11, 2) := by decide +kernel
theorem dX12_level_110 : decode cX12_level 110 = .ok (.iload 10, 2) := by decide +kernel
theorem dX12_level_112 : decode cX12_level 112 = .ok (.invokestatic 292, 3) := by decide +kernel
theorem dX12_level_115 : decode cX12_level 115 = .ok (.istore 12, 2) := by decide +kernel
theorem dX12_level_117 : decode cX12_level 117 = .ok (.aload_n 0, 1) := by decide +kernel
theorem dX12_level_118 : decode cX12_level 118 = .ok (.iload 11, 2) := by decide +kernel
theorem dX12_level_120 : decode cX12_level 120 = .ok (.invokevirtual 270, 3) := by decide +kernel
theorem dX12_level_123 : decode cX12_level 123 = .ok (.iload_n 1, 1) := by decide +kernel
theorem dX12_level_124 : decode cX12_level 124 = .ok (.if_icmp .eq 6, 3) := by decide +kernel
theorem dX12_level_127 : decode cX12_level 127 = .ok (.goto 138, 3) := by decide +kernel
theorem dX12_level_130 : decode cX12_level 130 = .ok (.aload_n 0, 1) := by decide +kernel
theorem dX12_level_131 : decode cX12_level 131 = .ok (.iload 12, 2) := by decide +kernel
theorem dX12_level_133 : decode cX12_level 133 = .ok (.iload 4, 2) := by decide +kernel
theorem dX12_level_135 : decode cX12_level 135 = .ok (.invokevirtual 366, 3) := by decide +kernel
theorem dX12_level_138 : decode cX12_level 138 = .ok (.istore 13, 2) := by decide +kernel
theorem dX12_level_140 : decode cX12_level 140 = .ok (.aload_n 0, 1) := by decide +kernel
theorem dX12_level_141 : decode cX12_level 141 = .ok (.iload 12, 2) := by decide +kernel
theorem dX12_level_143 : decode cX12_level 143 = .ok (.iload 4, 2) := by decide +kernel
theorem dX12_level_145 : decode cX12_level 145 = .ok (.iconst 1, 1) := by decide +kernel
theorem dX12_level_146 : decode cX12_level 146 = .ok (.iadd, 1) := by decide +kernel
theorem dX12_level_147 : decode cX12_level 147 = .ok (.invokevirtual 366, 3) := by decide +kernel
theorem dX12_level_150 : decode cX12_level 150 = .ok (.istore 14, 2) := by decide +kernel
theorem dX12_level_152 : decode cX12_level 152 = .ok (.iload 13, 2) := by decide +kernel
theorem dX12_level_154 : decode cX12_level 154 = .ok (.ifCond .ne 15, 3) := by decide +kernel
theorem dX12_level_157 : decode cX12_level 157 = .ok (.iload 14, 2) := by decide +kernel
theorem dX12_level_159 : decode cX12_level 159 = .ok (.ifCond .ne 10, 3) := by decide +kernel
theorem dX12_level_162 : decode cX12_level 162 = .ok (.aload_n 0, 1) := by decide +kernel
theorem dX12_level_163 : decode cX12_level 163 = .ok (.bipush 9, 2) := by decide +kernel
theorem dX12_level_165 : decode cX12_level 165 = .ok (.invokevirtual 298, 3) := by decide +kernel
theorem dX12_level_168 : decode cX12_level 168 = .ok (.ireturn, 1) := by decide +kernel
theorem dX12_level_169 : decode cX12_level 169 = .ok (.iload 6, 2) := by decide +kernel
theorem dX12_level_171 : decode cX12_level 171 = .ok (.iconst 0, 1) := by decide +kernel
theorem dX12_level_172 : decode cX12_level 172 = .ok (.aload_n 0, 1) := by decide +kernel
theorem dX12_level_173 : decode cX12_level 173 = .ok (.iload 12, 2) := by decide +kernel
theorem dX12_level_175 : decode cX12_level 175 = .ok (.invokevirtual 359, 3) := by decide +kernel
theorem dX12_level_178 : decode cX12_level 178 = .ok (.iload 13, 2) := by decide +kernel
theorem dX12_level_180 : decode cX12_level 180 = .ok (.ifCond .eq 8, 3) := by decide +kernel
theorem dX12_level_183 : decode cX12_level 183 = .ok (.iload 4, 2) := by decide +kernel
theorem dX12_level_185 : decode cX12_level 185 = .ok (.goto 7, 3) := by decide +kernel
theorem dX12_level_188 : decode cX12_level 188 = .ok (.iload 4, 2) := by decide +kernel
theorem dX12_level_190 : decode cX12_level 190 = .ok (.iconst 1, 1) := by decide +kernel
theorem dX12_level_191 : decode cX12_level 191 = .ok (.iadd, 1) := by decide +kernel
theorem dX12_level_192 : decode cX12_level 192 = .ok (.isub, 1) := by decide +kernel
theorem dX12_level_193 : decode cX12_level 193 = .ok (.invokestatic 312, 3) := by decide +kernel
theorem dX12_level_196 : decode cX12_level 196 = .ok (.iadd, 1) := by decide +kernel
theorem dX12_level_197 : decode cX12_level 197 = .ok (.istore 6, 2) := by decide +kernel
theorem dX12_level_199 : decode cX12_level 199 = .ok (.iload 7, 2) := by decide +kernel
theorem dX12_level_201 : decode cX12_level 201 = .ok (.iload 13, 2) := by decide +kernel
theorem dX12_level_203 : decode cX12_level 203 = .ok (.ifCond .eq 7, 3) := by decide +kernel
theorem dX12_level_206 : decode cX12_level 206 = .ok (.iconst 0, 1) := by decide +kernel
theorem dX12_level_207 : decode cX12_level 207 = .ok (.goto 4, 3) := by decide +kernel
theorem dX12_level_210 : decode cX12_level 210 = .ok (.iconst 1, 1) := by decide +kernel
theorem dX12_level_211 : decode cX12_level 211 = .ok (.iadd, 1) := by decide +kernel
theorem dX12_level_212 : decode cX12_level 212 = .ok (.istore 7, 2) := by decide +kernel
theorem dX12_level_214 : decode cX12_level 214 = .ok (.iload 9, 2) := by decide +kernel
theorem dX12_level_216 : decode cX12_level 216 = .ok (.iload 13, 2) := by decide +kernel
theorem dX12_level_218 : decode cX12_level 218 = .ok (.ifCond .eq 12, 3) := by decide +kernel
theorem dX12_level_221 : decode cX12_level 221 = .ok (.iload 14, 2) := by decide +kernel
theorem dX12_level_223 : decode cX12_level 223 = .ok (.ifCond .eq 7, 3) := by decide +kernel
theorem dX12_level_226 : decode cX12_level 226 = .ok (.iconst 1, 1) := by decide +kernel
theorem dX12_level_227 : decode cX12_level 227 = .ok (.goto 4, 3) := by decide +kernel
theorem dX12_level_230 : decode cX12_level 230 = .ok (.iconst 0, 1) := by decide +kernel
theorem dX12_level_231 : decode cX12_level 231 = .ok (.iadd, 1) := by decide +kernel
theorem dX12_level_232 : decode cX12_level 232 = .ok (.istore 9, 2) := by decide +kernel
theorem dX12_level_234 : decode cX12_level 234 = .ok (.iload 8, 2) := by decide +kernel
theorem dX12_level_236 : decode cX12_level 236 = .ok (.iload 13, 2) := by decide +kernel
theorem dX12_level_238 : decode cX12_level 238 = .ok (.ifCond .eq 23, 3) := by decide +kernel
theorem dX12_level_241 : decode cX12_level 241 = .ok (.iload 14, 2) := by decide +kernel
theorem dX12_level_243 : decode cX12_level 243 = .ok (.ifCond .eq 18, 3) := by decide +kernel
theorem dX12_level_246 : decode cX12_level 246 = .ok (.aload_n 0, 1) := by decide +kernel
theorem dX12_level_247 : decode cX12_level 247 = .ok (.iload 12, 2) := by decide +kernel
theorem dX12_level_249 : decode cX12_level 249 = .ok (.invokevirtual 359, 3) := by decide +kernel
theorem dX12_level_252 : decode cX12_level 252 = .ok (.iload 4, 2) := by decide +kernel
theorem dX12_level_254 : decode cX12_level 254 = .ok (.if_icmp .le 7, 3) := by decide +kernel
theorem dX12_level_257 : decode cX12_level 257 = .ok (.iconst 1, 1) := by decide +kernel
theorem dX12_level_258 : decode cX12_level 258 = .ok (.goto 4, 3) := by decide +kernel
theorem dX12_level_261 : decode cX12_level 261 = .ok (.iconst 0, 1) := by decide +kernel
theorem dX12_level_262 : decode cX12_level 262 = .ok (.iadd, 1) := by decide +kernel
theorem dX12_level_263 : decode cX12_level 263 = .ok (.istore 8, 2) := by decide +kernel
theorem dX12_level_265 : decode cX12_level 265 = .ok (.iinc 11 1, 3) := by decide +kernel
theorem dX12_level_268 : decode cX12_level 268 = .ok (.goto (-171), 3) := by decide +kernel
theorem dX12_level_271 : decode cX12_level 271 = .ok (.iinc 10 1, 3) := by decide +kernel
theorem dX12_level_274 : decode cX12_level 274 = .ok (.goto (-191), 3) := by decide +kernel
theorem dX12_level_277 : decode cX12_level 277 = .ok (.iload 5, 2) := by decide +kernel
theorem dX12_level_279 : decode cX12_level 279 = .ok (.iload 7, 2) := by decide +kernel
theorem dX12_level_281 : decode cX12_level 281 = .ok (.isub, 1) := by decide +kernel
theorem dX12_level_282 : decode cX12_level 282 = .ok (.istore 10, 2) := by decide +kernel
theorem dX12_level_284 : decode cX12_level 284 = .ok (.iload 10, 2) := by decide +kernel
theorem dX12_level_286 : decode cX12_level 286 = .ok (.ifCond .lt 10, 3) := by decide +kernel
theorem dX12_level_289 : decode cX12_level 289 = .ok (.iload 10, 2) := by decide +kernel
theorem dX12_level_291 : decode cX12_level 291 = .ok (.iload 9, 2) := by decide +kernel
theorem dX12_level_293 : decode cX12_level 293 = .ok (.if_icmp .le 12, 3) := by decide +kernel
theorem dX12_level_296 : decode cX12_level 296 = .ok (.aload_n 0, 1) := by decide +kernel
theorem dX12_level_297 : decode cX12_level 297 = .ok (.bipush 9, 2) := by decide +kernel
theorem dX12_level_299 : decode cX12_level 299 = .ok (.invokevirtual 298, 3) := by decide +kernel
theorem dX12_level_302 : decode cX12_level 302 = .ok (.goto 13, 3) := by decide +kernel
theorem dX12_level_305 : decode cX12_level 305 = .ok (.iload 6, 2) := by decide +kernel
theorem dX12_level_307 : decode cX12_level 307 = .ok (.iload 10, 2) := by decide +kernel
theorem dX12_level_309 : decode cX12_level 309 = .ok (.iload 8, 2) := by decide +kernel
theorem dX12_level_311 : decode cX12_level 311 = .ok (.invokestatic 320, 3) := by decide +kernel
theorem dX12_level_314 : decode cX12_level 314 = .ok (.isub, 1) := by decide +kernel
theorem dX12_level_315 : decode cX12_level 315 = .ok (.ireturn, 1) := by decide +kernel
theorem dX12_lastingOf_0 : decode cX12_lastingOf 0 = .ok (.aload_n 0, 1) := by decide +kernel
theorem dX12_lastingOf_1 : decode cX12_lastingOf 1 = .ok (.getfield 35, 3) := by decide +kernel
theorem dX12_lastingOf_4 : decode cX12_lastingOf 4 = .ok (.bipush 26, 2) := by decide +kernel
theorem dX12_lastingOf_6 : decode cX12_lastingOf 6 = .ok (.iload_n 1, 1) := by decide +kernel
theorem dX12_lastingOf_7 : decode cX12_lastingOf 7 = .ok (.iadd, 1) := by decide +kernel
theorem dX12_lastingOf_8 : decode cX12_lastingOf 8 = .ok (.iaload, 1) := by decide +kernel
theorem dX12_lastingOf_9 : decode cX12_lastingOf 9 = .ok (.istore 4, 2) := by decide +kernel
theorem dX12_lastingOf_11 : decode cX12_lastingOf 11 = .ok (.aload_n 0, 1) := by decide +kernel
theorem dX12_lastingOf_12 : decode cX12_lastingOf 12 = .ok (.getfield 35, 3) := by decide +kernel
theorem dX12_lastingOf_15 : decode cX12_lastingOf 15 = .ok (.bipush 62, 2) := by decide +kernel
theorem dX12_lastingOf_17 : decode cX12_lastingOf 17 = .ok (.iload_n 1, 1) := by decide +kernel
theorem dX12_lastingOf_18 : decode cX12_lastingOf 18 = .ok (.iadd, 1) := by decide +kernel
theorem dX12_lastingOf_19 : decode cX12_lastingOf 19 = .ok (.iaload, 1) := by decide +kernel
theorem dX12_lastingOf_20 : decode cX12_lastingOf 20 = .ok (.istore 5, 2) := by decide +kernel
theorem dX12_lastingOf_22 : decode cX12_lastingOf 22 = .ok (.iconst 0, 1) := by decide +kernel
theorem dX12_lastingOf_23 : decode cX12_lastingOf 23 = .ok (.istore 6, 2) := by decide +kernel
theorem dX12_lastingOf_25 : decode cX12_lastingOf 25 = .ok (.iload 6, 2) := by decide +kernel
theorem dX12_lastingOf_27 : decode cX12_lastingOf 27 = .ok (.iload_n 2, 1) := by decide +kernel
theorem dX12_lastingOf_28 : decode cX12_lastingOf 28 = .ok (.if_icmp .ge 70, 3) := by decide +kernel
theorem dX12_lastingOf_31 : decode cX12_lastingOf 31 = .ok (.iload_n 3, 1) := by decide +kernel
theorem dX12_lastingOf_32 : decode cX12_lastingOf 32 = .ok (.aload_n 0, 1) := by decide +kernel
theorem dX12_lastingOf_33 : decode cX12_lastingOf 33 = .ok (.getfield 35, 3) := by decide +kernel
theorem dX12_lastingOf_36 : decode cX12_lastingOf 36 = .ok (.bipush 98, 2) := by decide +kernel
theorem dX12_lastingOf_38 : decode cX12_lastingOf 38 = .ok (.iload_n 1, 1) := by decide +kernel
theorem dX12_lastingOf_39 : decode cX12_lastingOf 39 = .ok (.iadd, 1) := by decide +kernel
theorem dX12_lastingOf_40 : decode cX12_lastingOf 40 = .ok (.iaload, 1) := by decide +kernel
theorem dX12_lastingOf_41 : decode cX12_lastingOf 41 = .ok (.iadd, 1) := by decide +kernel
theorem dX12_lastingOf_42 : decode cX12_lastingOf 42 = .ok (.istore 7, 2) := by decide +kernel
theorem dX12_lastingOf_44 : decode cX12_lastingOf 44 = .ok (.iload 7, 2) := by decide +kernel
theorem dX12_lastingOf_46 : decode cX12_lastingOf 46 = .ok (.iload 4, 2) := by decide +kernel
theorem dX12_lastingOf_48 : decode cX12_lastingOf 48 = .ok (.invokestatic 320, 3) := by decide +kernel
theorem dX12_lastingOf_51 : decode cX12_lastingOf 51 = .ok (.istore 8, 2) := by decide +kernel
theorem dX12_lastingOf_53 : decode cX12_lastingOf 53 = .ok (.iload 4, 2) := by decide +kernel
theorem dX12_lastingOf_55 : decode cX12_lastingOf 55 = .ok (.iload 8, 2) := by decide +kernel
theorem dX12_lastingOf_57 : decode cX12_lastingOf 57 = .ok (.isub, 1) := by decide +kernel
theorem dX12_lastingOf_58 : decode cX12_lastingOf 58 = .ok (.istore 4, 2) := by decide +kernel
theorem dX12_lastingOf_60 : decode cX12_lastingOf 60 = .ok (.iload 6, 2) := by decide +kernel
theorem dX12_lastingOf_62 : decode cX12_lastingOf 62 = .ok (.ifCond .gt 16, 3) := by decide +kernel
theorem dX12_lastingOf_65 : decode cX12_lastingOf 65 = .ok (.aload_n 0, 1) := by decide +kernel
theorem dX12_lastingOf_66 : decode cX12_lastingOf 66 = .ok (.getfield 35, 3) := by decide +kernel
theorem dX12_lastingOf_69 : decode cX12_lastingOf 69 = .ok (.sipush 170, 3) := by decide +kernel
theorem dX12_lastingOf_72 : decode cX12_lastingOf 72 = .ok (.iload_n 1, 1) := by decide +kernel
theorem dX12_lastingOf_73 : decode cX12_lastingOf 73 = .ok (.iadd, 1) := by decide +kernel
theorem dX12_lastingOf_74 : decode cX12_lastingOf 74 = .ok (.iaload, 1) := by decide +kernel
theorem dX12_lastingOf_75 : decode cX12_lastingOf 75 = .ok (.ifCond .ne 17, 3) := by decide +kernel
theorem dX12_lastingOf_78 : decode cX12_lastingOf 78 = .ok (.iconst 0, 1) := by decide +kernel
theorem dX12_lastingOf_79 : decode cX12_lastingOf 79 = .ok (.iload 5, 2) := by decide +kernel
theorem dX12_lastingOf_81 : decode cX12_lastingOf 81 = .ok (.iload 7, 2) := by decide +kernel
theorem dX12_lastingOf_83 : decode cX12_lastingOf 83 = .ok (.isub, 1) := by decide +kernel
theorem dX12_lastingOf_84 : decode cX12_lastingOf 84 = .ok (.iload 8, 2) := by decide +kernel
theorem dX12_lastingOf_86 : decode cX12_lastingOf 86 = .ok (.iadd, 1) := by decide +kernel
theorem dX12_lastingOf_87 : decode cX12_lastingOf 87 = .ok (.invokestatic 312, 3) := by decide +kernel
theorem dX12_lastingOf_90 : decode cX12_lastingOf 90 = .ok (.istore 5, 2) := by decide +kernel
theorem dX12_lastingOf_92 : decode cX12_lastingOf 92 = .ok (.iinc 6 1, 3) := by decide +kernel
theorem dX12_lastingOf_95 : decode cX12_lastingOf 95 = .ok (.goto (-70), 3) := by decide +kernel
theorem dX12_lastingOf_98 : decode cX12_lastingOf 98 = .ok (.iload 5, 2) := by decide +kernel
theorem dX12_lastingOf_100 : decode cX12_lastingOf 100 = .ok (.ireturn, 1) := by decide +kernel
theorem dX12_lasting_0 : decode cX12_lasting 0 = .ok (.aload_n 0, 1) := by decide +kernel
theorem dX12_lasting_1 : decode cX12_lasting 1 = .ok (.iconst 0, 1) := by decide +kernel
theorem dX12_lasting_2 : decode cX12_lasting 2 = .ok (.putfield 69, 3) := by decide +kernel
theorem dX12_lasting_5 : decode cX12_lasting 5 = .ok (.aload_n 0, 1) := by decide +kernel
theorem dX12_lasting_6 : decode cX12_lasting 6 = .ok (.iconst 0, 1) := by decide +kernel
theorem dX12_lasting_7 : decode cX12_lasting 7 = .ok (.putfield 72, 3) := by decide +kernel
theorem dX12_lasting_10 : decode cX12_lasting 10 = .ok (.aload_n 0, 1) := by decide +kernel
theorem dX12_lasting_11 : decode cX12_lasting 11 = .ok (.iload_n 1, 1) := by decide +kernel
theorem dX12_lasting_12 : decode cX12_lasting 12 = .ok (.invokevirtual 304, 3) := by decide +kernel
theorem dX12_lasting_15 : decode cX12_lasting 15 = .ok (.ifCond .ne 9, 3) := by decide +kernel
theorem dX12_lasting_18 : decode cX12_lasting 18 = .ok (.aload_n 0, 1) := by decide +kernel
theorem dX12_lasting_19 : decode cX12_lasting 19 = .ok (.iconst 2, 1) := by decide +kernel
theorem dX12_lasting_20 : decode cX12_lasting 20 = .ok (.invokevirtual 298, 3) := by decide +kernel
theorem dX12_lasting_23 : decode cX12_lasting 23 = .ok (.ireturn, 1) := by decide +kernel
theorem dX12_lasting_24 : decode cX12_lasting 24 = .ok (.iload_n 2, 1) := by decide +kernel
theorem dX12_lasting_25 : decode cX12_lasting 25 = .ok (.i2l, 1) := by decide +kernel
theorem dX12_lasting_26 : decode cX12_lasting 26 = .ok (.lconst 0, 1) := by decide +kernel
theorem dX12_lasting_27 : decode cX12_lasting 27 = .ok (.ldc2_w 369, 3) := by decide +kernel
theorem dX12_lasting_30 : decode cX12_lasting 30 = .ok (.invokestatic 104, 3) := by decide +kernel
theorem dX12_lasting_33 : decode cX12_lasting 33 = .ok (.ifCond .eq 15, 3) := by decide +kernel
theorem dX12_lasting_36 : decode cX12_lasting 36 = .ok (.iload_n 3, 1) := by decide +kernel
theorem dX12_lasting_37 : decode cX12_lasting 37 = .ok (.i2l, 1) := by decide +kernel
theorem dX12_lasting_38 : decode cX12_lasting 38 = .ok (.lconst 0, 1) := by decide +kernel
theorem dX12_lasting_39 : decode cX12_lasting 39 = .ok (.ldc2_w 315, 3) := by decide +kernel
theorem dX12_lasting_42 : decode cX12_lasting 42 = .ok (.invokestatic 104, 3) := by decide +kernel
theorem dX12_lasting_45 : decode cX12_lasting 45 = .ok (.ifCond .ne 9, 3) := by decide +kernel
theorem dX12_lasting_48 : decode cX12_lasting 48 = .ok (.aload_n 0, 1) := by decide +kernel
theorem dX12_lasting_49 : decode cX12_lasting 49 = .ok (.iconst 5, 1) := by decide +kernel
theorem dX12_lasting_50 : decode cX12_lasting 50 = .ok (.invokevirtual 298, 3) := by decide +kernel
theorem dX12_lasting_53 : decode cX12_lasting 53 = .ok (.ireturn, 1) := by decide +kernel
theorem dX12_lasting_54 : decode cX12_lasting 54 = .ok (.iconst 0, 1) := by decide +kernel
theorem dX12_lasting_55 : decode cX12_lasting 55 = .ok (.istore 4, 2) := by decide +kernel
theorem dX12_lasting_57 : decode cX12_lasting 57 = .ok (.iconst 0, 1) := by decide +kernel
theorem dX12_lasting_58 : decode cX12_lasting 58 = .ok (.istore 5, 2) := by decide +kernel
theorem dX12_lasting_60 : decode cX12_lasting 60 = .ok (.iload 5, 2) := by decide +kernel
theorem dX12_lasting_62 : decode cX12_lasting 62 = .ok (.aload_n 0, 1) := by decide +kernel
theorem dX12_lasting_63 : decode cX12_lasting 63 = .ok (.getfield 35, 3) := by decide +kernel
theorem dX12_lasting_66 : decode cX12_lasting 66 = .ok (.iconst 1, 1) := by decide +kernel
theorem dX12_lasting_67 : decode cX12_lasting 67 = .ok (.iaload, 1) := by decide +kernel
theorem dX12_lasting_68 : decode cX12_lasting 68 = .ok (.if_icmp .ge 61, 3) := by decide +kernel
theorem dX12_lasting_71 : decode cX12_lasting 71 = .ok (.iconst 0, 1) := by decide +kernel
theorem dX12_lasting_72 : decode cX12_lasting 72 = .ok (.istore 6, 2) := by decide +kernel
theorem dX12_lasting_74 : decode cX12_lasting 74 = .ok (.iload 6, 2) := by decide +kernel
theorem dX12_lasting_76 : decode cX12_lasting 76 = .ok (.aload_n 0, 1) := by decide +kernel
theorem dX12_lasting_77 : decode cX12_lasting 77 = .ok (.getfield 35, 3) := by decide +kernel
theorem dX12_lasting_80 : decode cX12_lasting 80 = .ok (.iconst 0, 1) := by decide +kernel
theorem dX12_lasting_81 : decode cX12_lasting 81 = .ok (.iaload, 1) := by decide +kernel
theorem dX12_lasting_82 : decode cX12_lasting 82 = .ok (.if_icmp .ge 41, 3) := by decide +kernel
theorem dX12_lasting_85 : decode cX12_lasting 85 = .ok (.iload 4, 2) := by decide +kernel
theorem dX12_lasting_87 : decode cX12_lasting 87 = .ok (.aload_n 0, 1) := by decide +kernel
theorem dX12_lasting_88 : decode cX12_lasting 88 = .ok (.iload 6, 2) := by decide +kernel
theorem dX12_lasting_90 : decode cX12_lasting 90 = .ok (.invokevirtual 270, 3) := by decide +kernel
theorem dX12_lasting_93 : decode cX12_lasting 93 = .ok (.iload_n 1, 1) := by decide +kernel
theorem dX12_lasting_94 : decode cX12_lasting 94 = .ok (.if_icmp .ne 19, 3) := by decide +kernel
theorem dX12_lasting_97 : decode cX12_lasting 97 = .ok (.aload_n 0, 1) := by decide +kernel
theorem dX12_lasting_98 : decode cX12_lasting 98 = .ok (.iload 6, 2) := by decide +kernel
theorem dX12_lasting_100 : decode cX12_lasting 100 = .ok (.iload 5, 2) := by decide +kernel
theorem dX12_lasting_102 : decode cX12_lasting 102 = .ok (.invokestatic 292, 3) := by decide +kernel
theorem dX12_lasting_105 : decode cX12_lasting 105 = .ok (.iload_n 2, 1) := by decide +kernel
theorem dX12_lasting_106 : decode cX12_lasting 106 = .ok (.iload_n 3, 1) := by decide +kernel
theorem dX12_lasting_107 : decode cX12_lasting 107 = .ok (.invokevirtual 371, 3) := by decide +kernel
theorem dX12_lasting_110 : decode cX12_lasting 110 = .ok (.goto 4, 3) := by decide +kernel
theorem dX12_lasting_113 : decode cX12_lasting 113 = .ok (.iconst 0, 1) := by decide +kernel
theorem dX12_lasting_114 : decode cX12_lasting 114 = .ok (.iadd, 1) := by decide +kernel
theorem dX12_lasting_115 : decode cX12_lasting 115 = .ok (.istore 4, 2) := by decide +kernel
theorem dX12_lasting_117 : decode cX12_lasting 117 = .ok (.iinc 6 1, 3) := by decide +kernel
theorem dX12_lasting_120 : decode cX12_lasting 120 = .ok (.goto (-46), 3) := by decide +kernel
theorem dX12_lasting_123 : decode cX12_lasting 123 = .ok (.iinc 5 1, 3) := by decide +kernel
theorem dX12_lasting_126 : decode cX12_lasting 126 = .ok (.goto (-66), 3) := by decide +kernel
theorem dX12_lasting_129 : decode cX12_lasting 129 = .ok (.iload 4, 2) := by decide +kernel
theorem dX12_lasting_131 : decode cX12_lasting 131 = .ok (.ireturn, 1) := by decide +kernel
theorem dX12_step_0 : decode cX12_step 0 = .ok (.iload_n 1, 1) := by decide +kernel
theorem dX12_step_1 : decode cX12_step 1 = .ok (.iload_n 0, 1) := by decide +kernel
theorem dX12_step_2 : decode cX12_step 2 = .ok (.if_icmp .le 9, 3) := by decide +kernel
theorem dX12_step_5 : decode cX12_step 5 = .ok (.iload_n 1, 1) := by decide +kernel
theorem dX12_step_6 : decode cX12_step 6 = .ok (.iload_n 0, 1) := by decide +kernel
theorem dX12_step_7 : decode cX12_step 7 = .ok (.isub, 1) := by decide +kernel
theorem dX12_step_8 : decode cX12_step 8 = .ok (.goto 15, 3) := by decide +kernel
theorem dX12_step_11 : decode cX12_step 11 = .ok (.iload_n 0, 1) := by decide +kernel
theorem dX12_step_12 : decode cX12_step 12 = .ok (.iload_n 1, 1) := by decide +kernel
theorem dX12_step_13 : decode cX12_step 13 = .ok (.isub, 1) := by decide +kernel
theorem dX12_step_14 : decode cX12_step 14 = .ok (.iconst 3, 1) := by decide +kernel
theorem dX12_step_15 : decode cX12_step 15 = .ok (.if_icmp .le 7, 3) := by decide +kernel
theorem dX12_step_18 : decode cX12_step 18 = .ok (.iconst 2, 1) := by decide +kernel
theorem dX12_step_19 : decode cX12_step 19 = .ok (.goto 4, 3) := by decide +kernel
theorem dX12_step_22 : decode cX12_step 22 = .ok (.iconst 0, 1) := by decide +kernel
theorem dX12_step_23 : decode cX12_step 23 = .ok (.ireturn, 1) := by decide +kernel
theorem dX12_beside_0 : decode cX12_beside 0 = .ok (.iload_n 1, 1) := by decide +kernel
theorem dX12_beside_1 : decode cX12_beside 1 = .ok (.bipush 6, 2) := by decide +kernel
theorem dX12_beside_3 : decode cX12_beside 3 = .ok (.irem, 1) := by decide +kernel
theorem dX12_beside_4 : decode cX12_beside 4 = .ok (.iload_n 2, 1) := by decide +kernel
theorem dX12_beside_5 : decode cX12_beside 5 = .ok (.ifCond .ne 7, 3) := by decide +kernel
theorem dX12_beside_8 : decode cX12_beside 8 = .ok (.iconst 1, 1) := by decide +kernel
theorem dX12_beside_9 : decode cX12_beside 9 = .ok (.goto 13, 3) := by decide +kernel
theorem dX12_beside_12 : decode cX12_beside 12 = .ok (.iload_n 2, 1) := by decide +kernel
theorem dX12_beside_13 : decode cX12_beside 13 = .ok (.iconst 3, 1) := by decide +kernel
theorem dX12_beside_14 : decode cX12_beside 14 = .ok (.if_icmp .ne 7, 3) := by decide +kernel
theorem dX12_beside_17 : decode cX12_beside 17 = .ok (.iconst (-1), 1) := by decide +kernel
theorem dX12_beside_18 : decode cX12_beside 18 = .ok (.goto 4, 3) := by decide +kernel
theorem dX12_beside_21 : decode cX12_beside 21 = .ok (.iconst 0, 1) := by decide +kernel
theorem dX12_beside_22 : decode cX12_beside 22 = .ok (.iadd, 1) := by decide +kernel
theorem dX12_beside_23 : decode cX12_beside 23 = .ok (.istore_n 3, 1) := by decide +kernel
theorem dX12_beside_24 : decode cX12_beside 24 = .ok (.iload_n 1, 1) := by decide +kernel
theorem dX12_beside_25 : decode cX12_beside 25 = .ok (.bipush 6, 2) := by decide +kernel
theorem dX12_beside_27 : decode cX12_beside 27 = .ok (.idiv, 1) := by decide +kernel
theorem dX12_beside_28 : decode cX12_beside 28 = .ok (.iload_n 2, 1) := by decide +kernel
theorem dX12_beside_29 : decode cX12_beside 29 = .ok (.iconst 1, 1) := by decide +kernel
theorem dX12_beside_30 : decode cX12_beside 30 = .ok (.if_icmp .ne 7, 3) := by decide +kernel
theorem dX12_beside_33 : decode cX12_beside 33 = .ok (.iconst 1, 1) := by decide +kernel
theorem dX12_beside_34 : decode cX12_beside 34 = .ok (.goto 13, 3) := by decide +kernel
theorem dX12_beside_37 : decode cX12_beside 37 = .ok (.iload_n 2, 1) := by decide +kernel
theorem dX12_beside_38 : decode cX12_beside 38 = .ok (.iconst 2, 1) := by decide +kernel
theorem dX12_beside_39 : decode cX12_beside 39 = .ok (.if_icmp .ne 7, 3) := by decide +kernel
theorem dX12_beside_42 : decode cX12_beside 42 = .ok (.iconst (-1), 1) := by decide +kernel
theorem dX12_beside_43 : decode cX12_beside 43 = .ok (.goto 4, 3) := by decide +kernel
theorem dX12_beside_46 : decode cX12_beside 46 = .ok (.iconst 0, 1) := by decide +kernel
theorem dX12_beside_47 : decode cX12_beside 47 = .ok (.iadd, 1) := by decide +kernel
theorem dX12_beside_48 : decode cX12_beside 48 = .ok (.istore 4, 2) := by decide +kernel
theorem dX12_beside_50 : decode cX12_beside 50 = .ok (.aload_n 0, 1) := by decide +kernel
theorem dX12_beside_51 : decode cX12_beside 51 = .ok (.iload_n 3, 1) := by decide +kernel
theorem dX12_beside_52 : decode cX12_beside 52 = .ok (.iload 4, 2) := by decide +kernel
theorem dX12_beside_54 : decode cX12_beside 54 = .ok (.invokevirtual 301, 3) := by decide +kernel
theorem dX12_beside_57 : decode cX12_beside 57 = .ok (.ifCond .eq 12, 3) := by decide +kernel
theorem dX12_beside_60 : decode cX12_beside 60 = .ok (.iload_n 3, 1) := by decide +kernel
theorem dX12_beside_61 : decode cX12_beside 61 = .ok (.iload 4, 2) := by decide +kernel
theorem dX12_beside_63 : decode cX12_beside 63 = .ok (.invokestatic 292, 3) := by decide +kernel
theorem dX12_beside_66 : decode cX12_beside 66 = .ok (.goto 4, 3) := by decide +kernel
theorem dX12_beside_69 : decode cX12_beside 69 = .ok (.iconst (-1), 1) := by decide +kernel
theorem dX12_beside_70 : decode cX12_beside 70 = .ok (.ireturn, 1) := by decide +kernel
theorem dX12_goesBy_0 : decode cX12_goesBy 0 = .ok (.aload_n 0, 1) := by decide +kernel
theorem dX12_goesBy_1 : decode cX12_goesBy 1 = .ok (.iload_n 1, 1) := by decide +kernel
theorem dX12_goesBy_2 : decode cX12_goesBy 2 = .ok (.iload_n 2, 1) := by decide +kernel
theorem dX12_goesBy_3 : decode cX12_goesBy 3 = .ok (.invokevirtual 374, 3) := by decide +kernel
theorem dX12_goesBy_6 : decode cX12_goesBy 6 = .ok (.istore_n 3, 1) := by decide +kernel
theorem dX12_goesBy_7 : decode cX12_goesBy 7 = .ok (.iload_n 3, 1) := by decide +kernel
theorem dX12_goesBy_8 : decode cX12_goesBy 8 = .ok (.ifCond .ge 29, 3) := by decide +kernel
theorem dX12_goesBy_11 : decode cX12_goesBy 11 = .ok (.iload_n 2, 1) := by decide +kernel
theorem dX12_goesBy_12 : decode cX12_goesBy 12 = .ok (.ifCond .ne 21, 3) := by decide +kernel
theorem dX12_goesBy_15 : decode cX12_goesBy 15 = .ok (.sipush 1000, 3) := by decide +kernel
theorem dX12_goesBy_18 : decode cX12_goesBy 18 = .ok (.aload_n 0, 1) := by decide +kernel
theorem dX12_goesBy_19 : decode cX12_goesBy 19 = .ok (.iload_n 1, 1) := by decide +kernel
theorem dX12_goesBy_20 : decode cX12_goesBy 20 = .ok (.invokevirtual 359, 3) := by decide +kernel
theorem dX12_goesBy_23 : decode cX12_goesBy 23 = .ok (.iconst 0, 1) := by decide +kernel
theorem dX12_goesBy_24 : decode cX12_goesBy 24 = .ok (.invokestatic 377, 3) := by decide +kernel
theorem dX12_goesBy_27 : decode cX12_goesBy 27 = .ok (.imul, 1) := by decide +kernel
theorem dX12_goesBy_28 : decode cX12_goesBy 28 = .ok (.iconst 1, 1) := by decide +kernel
theorem dX12_goesBy_29 : decode cX12_goesBy 29 = .ok (.iadd, 1) := by decide +kernel
theorem dX12_goesBy_30 : decode cX12_goesBy 30 = .ok (.goto 6, 3) := by decide +kernel
theorem dX12_goesBy_33 : decode cX12_goesBy 33 = .ok (.ldc_w 352, 3) := by decide +kernel
theorem dX12_goesBy_36 : decode cX12_goesBy 36 = .ok (.ireturn, 1) := by decide +kernel
theorem dX12_goesBy_37 : decode cX12_goesBy 37 = .ok (.sipush 1000, 3) := by decide +kernel
theorem dX12_goesBy_40 : decode cX12_goesBy 40 = .ok (.aload_n 0, 1) := by decide +kernel
theorem dX12_goesBy_41 : decode cX12_goesBy 41 = .ok (.iload_n 1, 1) := by decide +kernel
theorem dX12_goesBy_42 : decode cX12_goesBy 42 = .ok (.invokevirtual 359, 3) := by decide +kernel
theorem dX12_goesBy_45 : decode cX12_goesBy 45 = .ok (.aload_n 0, 1) := by decide +kernel
theorem dX12_goesBy_46 : decode cX12_goesBy 46 = .ok (.iload_n 3, 1) := by decide +kernel
theorem dX12_goesBy_47 : decode cX12_goesBy 47 = .ok (.invokevirtual 359, 3) := by decide +kernel
theorem dX12_goesBy_50 : decode cX12_goesBy 50 = .ok (.invokestatic 377, 3) := by decide +kernel
theorem dX12_goesBy_53 : decode cX12_goesBy 53 = .ok (.imul, 1) := by decide +kernel
theorem dX12_goesBy_54 : decode cX12_goesBy 54 = .ok (.iconst 1, 1) := by decide +kernel
theorem dX12_goesBy_55 : decode cX12_goesBy 55 = .ok (.iadd, 1) := by decide +kernel
theorem dX12_goesBy_56 : decode cX12_goesBy 56 = .ok (.aload_n 0, 1) := by decide +kernel
theorem dX12_goesBy_57 : decode cX12_goesBy 57 = .ok (.getfield 47, 3) := by decide +kernel
theorem dX12_goesBy_60 : decode cX12_goesBy 60 = .ok (.iload_n 3, 1) := by decide +kernel
theorem dX12_goesBy_61 : decode cX12_goesBy 61 = .ok (.iaload, 1) := by decide +kernel
theorem dX12_goesBy_62 : decode cX12_goesBy 62 = .ok (.iadd, 1) := by decide +kernel
theorem dX12_goesBy_63 : decode cX12_goesBy 63 = .ok (.ireturn, 1) := by decide +kernel
theorem dX12_ways_0 : decode cX12_ways 0 = .ok (.iconst 0, 1) := by decide +kernel
theorem dX12_ways_1 : decode cX12_ways 1 = .ok (.istore_n 1, 1) := by decide +kernel
theorem dX12_ways_2 : decode cX12_ways 2 = .ok (.iload_n 1, 1) := by decide +kernel
theorem dX12_ways_3 : decode cX12_ways 3 = .ok (.bipush 36, 2) := by decide +kernel
theorem dX12_ways_5 : decode cX12_ways 5 = .ok (.if_icmp .ge 18, 3) := by decide +kernel
theorem dX12_ways_8 : decode cX12_ways 8 = .ok (.aload_n 0, 1) := by decide +kernel
theorem dX12_ways_9 : decode cX12_ways 9 = .ok (.getfield 47, 3) := by decide +kernel
theorem dX12_ways_12 : decode cX12_ways 12 = .ok (.iload_n 1, 1) := by decide +kernel
theorem dX12_ways_13 : decode cX12_ways 13 = .ok (.ldc_w 352, 3) := by decide +kernel
theorem dX12_ways_16 : decode cX12_ways 16 = .ok (.iastore, 1) := by decide +kernel
theorem dX12_ways_17 : decode cX12_ways 17 = .ok (.iinc 1 1, 3) := by decide +kernel
theorem dX12_ways_20 : decode cX12_ways 20 = .ok (.goto (-18), 3) := by decide +kernel
theorem dX12_ways_23 : decode cX12_ways 23 = .ok (.iconst 1, 1) := by decide +kernel
theorem dX12_ways_24 : decode cX12_ways 24 = .ok (.istore_n 1, 1) := by decide +kernel
theorem dX12_ways_25 : decode cX12_ways 25 = .ok (.iload_n 1, 1) := by decide +kernel
theorem dX12_ways_26 : decode cX12_ways 26 = .ok (.ifCond .eq 104, 3) := by decide +kernel
theorem dX12_ways_29 : decode cX12_ways 29 = .ok (.iconst 0, 1) := by decide +kernel
theorem dX12_ways_30 : decode cX12_ways 30 = .ok (.istore_n 1, 1) := by decide +kernel
theorem dX12_ways_31 : decode cX12_ways 31 = .ok (.iconst 0, 1) := by decide +kernel
theorem dX12_ways_32 : decode cX12_ways 32 = .ok (.istore_n 2, 1) := by decide +kernel
theorem dX12_ways_33 : decode cX12_ways 33 = .ok (.iload_n 2, 1) := by decide +kernel
theorem dX12_ways_34 : decode cX12_ways 34 = .ok (.aload_n 0, 1) := by decide +kernel
theorem dX12_ways_35 : decode cX12_ways 35 = .ok (.getfield 35, 3) := by decide +kernel
theorem dX12_ways_38 : decode cX12_ways 38 = .ok (.iconst 1, 1) := by decide +kernel
theorem dX12_ways_39 : decode cX12_ways 39 = .ok (.iaload, 1) := by decide +kernel
theorem dX12_ways_40 : decode cX12_ways 40 = .ok (.if_icmp .ge 87, 3) := by decide +kernel
theorem dX12_ways_43 : decode cX12_ways 43 = .ok (.iconst 0, 1) := by decide +kernel
theorem dX12_ways_44 : decode cX12_ways 44 = .ok (.istore_n 3, 1) := by decide +kernel
theorem dX12_ways_45 : decode cX12_ways 45 = .ok (.iload_n 3, 1) := by decide +kernel
theorem dX12_ways_46 : decode cX12_ways 46 = .ok (.aload_n 0, 1) := by decide +kernel
theorem dX12_ways_47 : decode cX12_ways 47 = .ok (.getfield 35, 3) := by decide +kernel
theorem dX12_ways_50 : decode cX12_ways 50 = .ok (.iconst 0, 1) := by decide +kernel
theorem dX12_ways_51 : decode cX12_ways 51 = .ok (.iaload, 1) := by decide +kernel
theorem dX12_ways_52 : decode cX12_ways 52 = .ok (.if_icmp .ge 69, 3) := by decide +kernel
theorem dX12_ways_55 : decode cX12_ways 55 = .ok (.iload_n 3, 1) := by decide +kernel
theorem dX12_ways_56 : decode cX12_ways 56 = .ok (.iload_n 2, 1) := by decide +kernel
theorem dX12_ways_57 : decode cX12_ways 57 = .ok (.invokestatic 292, 3) := by decide +kernel
theorem dX12_ways_60 : decode cX12_ways 60 = .ok (.istore 4, 2) := by decide +kernel
theorem dX12_ways_62 : decode cX12_ways 62 = .ok (.iconst 0, 1) := by decide +kernel
theorem dX12_ways_63 : decode cX12_ways 63 = .ok (.istore 5, 2) := by decide +kernel
theorem dX12_ways_65 : decode cX12_ways 65 = .ok (.iload 5, 2) := by decide +kernel
theorem dX12_ways_67 : decode cX12_ways 67 = .ok (.iconst 4, 1) := by decide +kernel
theorem dX12_ways_68 : decode cX12_ways 68 = .ok (.if_icmp .ge 47, 3) := by decide +kernel
theorem dX12_ways_71 : decode cX12_ways 71 = .ok (.aload_n 0, 1) := by decide +kernel
theorem dX12_ways_72 : decode cX12_ways 72 = .ok (.iload 4, 2) := by decide +kernel
theorem dX12_ways_74 : decode cX12_ways 74 = .ok (.iload 5, 2) := by decide +kernel
theorem dX12_ways_76 : decode cX12_ways 76 = .ok (.invokevirtual 380, 3) := by decide +kernel
theorem dX12_ways_79 : decode cX12_ways 79 = .ok (.aload_n 0, 1) := by decide +kernel
theorem dX12_ways_80 : decode cX12_ways 80 = .ok (.getfield 47, 3) := by decide +kernel
theorem dX12_ways_83 : decode cX12_ways 83 = .ok (.iload 4, 2) := by decide +kernel
theorem dX12_ways_85 : decode cX12_ways 85 = .ok (.iaload, 1) := by decide +kernel
theorem dX12_ways_86 : decode cX12_ways 86 = .ok (.if_icmp .lt 6, 3) := by decide +kernel
theorem dX12_ways_89 : decode cX12_ways 89 = .ok (.goto 20, 3) := by decide +kernel
theorem dX12_ways_92 : decode cX12_ways 92 = .ok (.aload_n 0, 1) := by decide +kernel
theorem dX12_ways_93 : decode cX12_ways 93 = .ok (.getfield 47, 3) := by decide +kernel
theorem dX12_ways_96 : decode cX12_ways 96 = .ok (.iload 4, 2) := by decide +kernel
theorem dX12_ways_98 : decode cX12_ways 98 = .ok (.aload_n 0, 1) := by decide +kernel
theorem dX12_ways_99 : decode cX12_ways 99 = .ok (.iload 4, 2) := by decide +kernel
theorem dX12_ways_101 : decode cX12_ways 101 = .ok (.iload 5, 2) := by decide +kernel
theorem dX12_ways_103 : decode cX12_ways 103 = .ok (.invokevirtual 380, 3) := by decide +kernel
theorem dX12_ways_106 : decode cX12_ways 106 = .ok (.iastore, 1) := by decide +kernel
theorem dX12_ways_107 : decode cX12_ways 107 = .ok (.iconst 1, 1) := by decide +kernel
theorem dX12_ways_108 : decode cX12_ways 108 = .ok (.istore_n 1, 1) := by decide +kernel
theorem dX12_ways_109 : decode cX12_ways 109 = .ok (.iinc 5 1, 3) := by decide +kernel
theorem dX12_ways_112 : decode cX12_ways 112 = .ok (.goto (-47), 3) := by decide +kernel
theorem dX12_ways_115 : decode cX12_ways 115 = .ok (.iinc 3 1, 3) := by decide +kernel
theorem dX12_ways_118 : decode cX12_ways 118 = .ok (.goto (-73), 3) := by decide +kernel
theorem dX12_ways_121 : decode cX12_ways 121 = .ok (.iinc 2 1, 3) := by decide +kernel
theorem dX12_ways_124 : decode cX12_ways 124 = .ok (.goto (-91), 3) := by decide +kernel
theorem dX12_ways_127 : decode cX12_ways 127 = .ok (.goto (-102), 3) := by decide +kernel
theorem dX12_ways_130 : decode cX12_ways 130 = .ok (.ldc_w 352, 3) := by decide +kernel
theorem dX12_ways_133 : decode cX12_ways 133 = .ok (.istore_n 2, 1) := by decide +kernel
theorem dX12_ways_134 : decode cX12_ways 134 = .ok (.iconst 0, 1) := by decide +kernel
theorem dX12_ways_135 : decode cX12_ways 135 = .ok (.istore_n 3, 1) := by decide +kernel
theorem dX12_ways_136 : decode cX12_ways 136 = .ok (.iload_n 3, 1) := by decide +kernel
theorem dX12_ways_137 : decode cX12_ways 137 = .ok (.aload_n 0, 1) := by decide +kernel
theorem dX12_ways_138 : decode cX12_ways 138 = .ok (.getfield 35, 3) := by decide +kernel
theorem dX12_ways_141 : decode cX12_ways 141 = .ok (.iconst 1, 1) := by decide +kernel
theorem dX12_ways_142 : decode cX12_ways 142 = .ok (.iaload, 1) := by decide +kernel
theorem dX12_ways_143 : decode cX12_ways 143 = .ok (.if_icmp .ge 42, 3) := by decide +kernel
theorem dX12_ways_146 : decode cX12_ways 146 = .ok (.iload_n 2, 1) := by decide +kernel
theorem dX12_ways_147 : decode cX12_ways 147 = .ok (.sipush 1000, 3) := by decide +kernel
theorem dX12_ways_150 : decode cX12_ways 150 = .ok (.iconst 0, 1) := by decide +kernel
theorem dX12_ways_151 : decode cX12_ways 151 = .ok (.aload_n 0, 1) := by decide +kernel
theorem dX12_ways_152 : decode cX12_ways 152 = .ok (.iconst 0, 1) := by decide +kernel
theorem dX12_ways_153 : decode cX12_ways 153 = .ok (.iload_n 3, 1) := by decide +kernel
theorem dX12_ways_154 : decode cX12_ways 154 = .ok (.invokestatic 292, 3) := by decide +kernel
theorem dX12_ways_157 : decode cX12_ways 157 = .ok (.invokevirtual 359, 3) := by decide +kernel
theorem dX12_ways_160 : decode cX12_ways 160 = .ok (.invokestatic 377, 3) := by decide +kernel
theorem dX12_ways_163 : decode cX12_ways 163 = .ok (.imul, 1) := by decide +kernel
theorem dX12_ways_164 : decode cX12_ways 164 = .ok (.aload_n 0, 1) := by decide +kernel
theorem dX12_ways_165 : decode cX12_ways 165 = .ok (.getfield 47, 3) := by decide +kernel
theorem dX12_ways_168 : decode cX12_ways 168 = .ok (.iconst 0, 1) := by decide +kernel
theorem dX12_ways_169 : decode cX12_ways 169 = .ok (.iload_n 3, 1) := by decide +kernel
theorem dX12_ways_170 : decode cX12_ways 170 = .ok (.invokestatic 292, 3) := by decide +kernel
theorem dX12_ways_173 : decode cX12_ways 173 = .ok (.iaload, 1) := by decide +kernel
theorem dX12_ways_174 : decode cX12_ways 174 = .ok (.iadd, 1) := by decide +kernel
theorem dX12_ways_175 : decode cX12_ways 175 = .ok (.invokestatic 320, 3) := by decide +kernel
theorem dX12_ways_178 : decode cX12_ways 178 = .ok (.istore_n 2, 1) := by decide +kernel
theorem dX12_ways_179 : decode cX12_ways 179 = .ok (.iinc 3 1, 3) := by decide +kernel
theorem dX12_ways_182 : decode cX12_ways 182 = .ok (.goto (-46), 3) := by decide +kernel
theorem dX12_ways_185 : decode cX12_ways 185 = .ok (.iload_n 2, 1) := by decide +kernel
theorem dX12_ways_186 : decode cX12_ways 186 = .ok (.ireturn, 1) := by decide +kernel
theorem dX12_way_0 : decode cX12_way 0 = .ok (.aload_n 0, 1) := by decide +kernel
theorem dX12_way_1 : decode cX12_way 1 = .ok (.iconst 0, 1) := by decide +kernel
theorem dX12_way_2 : decode cX12_way 2 = .ok (.putfield 69, 3) := by decide +kernel
theorem dX12_way_5 : decode cX12_way 5 = .ok (.aload_n 0, 1) := by decide +kernel
theorem dX12_way_6 : decode cX12_way 6 = .ok (.iconst 0, 1) := by decide +kernel
theorem dX12_way_7 : decode cX12_way 7 = .ok (.putfield 72, 3) := by decide +kernel
theorem dX12_way_10 : decode cX12_way 10 = .ok (.aload_n 0, 1) := by decide +kernel
theorem dX12_way_11 : decode cX12_way 11 = .ok (.invokevirtual 383, 3) := by decide +kernel
theorem dX12_way_14 : decode cX12_way 14 = .ok (.istore_n 1, 1) := by decide +kernel
theorem dX12_way_15 : decode cX12_way 15 = .ok (.iconst 0, 1) := by decide +kernel
theorem dX12_way_16 : decode cX12_way 16 = .ok (.istore_n 2, 1) := by decide +kernel
theorem dX12_way_17 : decode cX12_way 17 = .ok (.sipush 1000, 3) := by decide +kernel
theorem dX12_way_20 : decode cX12_way 20 = .ok (.iconst 0, 1) := by decide +kernel
theorem dX12_way_21 : decode cX12_way 21 = .ok (.aload_n 0, 1) := by decide +kernel
theorem dX12_way_22 : decode cX12_way 22 = .ok (.iconst 0, 1) := by decide +kernel
theorem dX12_way_23 : decode cX12_way 23 = .ok (.iload_n 2, 1) := by decide +kernel
theorem dX12_way_24 : decode cX12_way 24 = .ok (.invokestatic 292, 3) := by decide +kernel
theorem dX12_way_27 : decode cX12_way 27 = .ok (.invokevirtual 359, 3) := by decide +kernel
theorem dX12_way_30 : decode cX12_way 30 = .ok (.invokestatic 377, 3) := by decide +kernel
theorem dX12_way_33 : decode cX12_way 33 = .ok (.imul, 1) := by decide +kernel
theorem dX12_way_34 : decode cX12_way 34 = .ok (.aload_n 0, 1) := by decide +kernel
theorem dX12_way_35 : decode cX12_way 35 = .ok (.getfield 47, 3) := by decide +kernel
theorem dX12_way_38 : decode cX12_way 38 = .ok (.iconst 0, 1) := by decide +kernel
theorem dX12_way_39 : decode cX12_way 39 = .ok (.iload_n 2, 1) := by decide +kernel
theorem dX12_way_40 : decode cX12_way 40 = .ok (.invokestatic 292, 3) := by decide +kernel
theorem dX12_way_43 : decode cX12_way 43 = .ok (.iaload, 1) := by decide +kernel
theorem dX12_way_44 : decode cX12_way 44 = .ok (.iadd, 1) := by decide +kernel
theorem dX12_way_45 : decode cX12_way 45 = .ok (.iload_n 1, 1) := by decide +kernel
theorem dX12_way_46 : decode cX12_way 46 = .ok (.if_icmp .eq 9, 3) := by decide +kernel
theorem dX12_way_49 : decode cX12_way 49 = .ok (.iinc 2 1, 3) := by decide +kernel
theorem dX12_way_52 : decode cX12_way 52 = .ok (.goto (-35), 3) := by decide +kernel
theorem dX12_way_55 : decode cX12_way 55 = .ok (.iconst 0, 1) := by decide +kernel
theorem dX12_way_56 : decode cX12_way 56 = .ok (.iload_n 2, 1) := by decide +kernel
theorem dX12_way_57 : decode cX12_way 57 = .ok (.invokestatic 292, 3) := by decide +kernel
theorem dX12_way_60 : decode cX12_way 60 = .ok (.istore_n 3, 1) := by decide +kernel
theorem dX12_way_61 : decode cX12_way 61 = .ok (.aload_n 0, 1) := by decide +kernel
theorem dX12_way_62 : decode cX12_way 62 = .ok (.iconst 0, 1) := by decide +kernel
theorem dX12_way_63 : decode cX12_way 63 = .ok (.putfield 386, 3) := by decide +kernel
theorem dX12_way_66 : decode cX12_way 66 = .ok (.iload_n 3, 1) := by decide +kernel
theorem dX12_way_67 : decode cX12_way 67 = .ok (.ifCond .lt 59, 3) := by decide +kernel
theorem dX12_way_70 : decode cX12_way 70 = .ok (.aload_n 0, 1) := by decide +kernel
theorem dX12_way_71 : decode cX12_way 71 = .ok (.getfield 50, 3) := by decide +kernel
theorem dX12_way_74 : decode cX12_way 74 = .ok (.aload_n 0, 1) := by decide +kernel
theorem dX12_way_75 : decode cX12_way 75 = .ok (.getfield 386, 3) := by decide +kernel
theorem dX12_way_78 : decode cX12_way 78 = .ok (.iload_n 3, 1) := by decide +kernel
theorem dX12_way_79 : decode cX12_way 79 = .ok (.iastore, 1) := by decide +kernel
theorem dX12_way_80 : decode cX12_way 80 = .ok (.aload_n 0, 1) := by decide +kernel
theorem dX12_way_81 : decode cX12_way 81 = .ok (.dup, 1) := by decide +kernel
theorem dX12_way_82 : decode cX12_way 82 = .ok (.getfield 386, 3) := by decide +kernel
theorem dX12_way_85 : decode cX12_way 85 = .ok (.iconst 1, 1) := by decide +kernel
theorem dX12_way_86 : decode cX12_way 86 = .ok (.iadd, 1) := by decide +kernel
theorem dX12_way_87 : decode cX12_way 87 = .ok (.putfield 386, 3) := by decide +kernel
theorem dX12_way_90 : decode cX12_way 90 = .ok (.iconst 0, 1) := by decide +kernel
theorem dX12_way_91 : decode cX12_way 91 = .ok (.istore 4, 2) := by decide +kernel
theorem dX12_way_93 : decode cX12_way 93 = .ok (.aload_n 0, 1) := by decide +kernel
theorem dX12_way_94 : decode cX12_way 94 = .ok (.iload_n 3, 1) := by decide +kernel
theorem dX12_way_95 : decode cX12_way 95 = .ok (.iload 4, 2) := by decide +kernel
theorem dX12_way_97 : decode cX12_way 97 = .ok (.invokevirtual 380, 3) := by decide +kernel
theorem dX12_way_100 : decode cX12_way 100 = .ok (.aload_n 0, 1) := by decide +kernel
theorem dX12_way_101 : decode cX12_way 101 = .ok (.getfield 47, 3) := by decide +kernel
theorem dX12_way_104 : decode cX12_way 104 = .ok (.iload_n 3, 1) := by decide +kernel
theorem dX12_way_105 : decode cX12_way 105 = .ok (.iaload, 1) := by decide +kernel
theorem dX12_way_106 : decode cX12_way 106 = .ok (.if_icmp .eq 9, 3) := by decide +kernel
theorem dX12_way_109 : decode cX12_way 109 = .ok (.iinc 4 1, 3) := by decide +kernel
theorem dX12_way_112 : decode cX12_way 112 = .ok (.goto (-19), 3) := by decide +kernel
theorem dX12_way_115 : decode cX12_way 115 = .ok (.aload_n 0, 1) := by decide +kernel
theorem dX12_way_116 : decode cX12_way 116 = .ok (.iload_n 3, 1) := by decide +kernel
theorem dX12_way_117 : decode cX12_way 117 = .ok (.iload 4, 2) := by decide +kernel
theorem dX12_way_119 : decode cX12_way 119 = .ok (.invokevirtual 374, 3) := by decide +kernel
theorem dX12_way_122 : decode cX12_way 122 = .ok (.istore_n 3, 1) := by decide +kernel
theorem dX12_way_123 : decode cX12_way 123 = .ok (.goto (-57), 3) := by decide +kernel
theorem dX12_way_126 : decode cX12_way 126 = .ok (.iload_n 1, 1) := by decide +kernel
theorem dX12_way_127 : decode cX12_way 127 = .ok (.sipush 1000, 3) := by decide +kernel
theorem dX12_way_130 : decode cX12_way 130 = .ok (.idiv, 1) := by decide +kernel
theorem dX12_way_131 : decode cX12_way 131 = .ok (.ireturn, 1) := by decide +kernel
theorem dX12_wayAt_0 : decode cX12_wayAt 0 = .ok (.aload_n 0, 1) := by decide +kernel
theorem dX12_wayAt_1 : decode cX12_wayAt 1 = .ok (.iconst 0, 1) := by decide +kernel
theorem dX12_wayAt_2 : decode cX12_wayAt 2 = .ok (.putfield 69, 3) := by decide +kernel
theorem dX12_wayAt_5 : decode cX12_wayAt 5 = .ok (.aload_n 0, 1) := by decide +kernel
theorem dX12_wayAt_6 : decode cX12_wayAt 6 = .ok (.iconst 0, 1) := by decide +kernel
theorem dX12_wayAt_7 : decode cX12_wayAt 7 = .ok (.putfield 72, 3) := by decide +kernel
theorem dX12_wayAt_10 : decode cX12_wayAt 10 = .ok (.iload_n 2, 1) := by decide +kernel
theorem dX12_wayAt_11 : decode cX12_wayAt 11 = .ok (.i2l, 1) := by decide +kernel
theorem dX12_wayAt_12 : decode cX12_wayAt 12 = .ok (.lconst 0, 1) := by decide +kernel
theorem dX12_wayAt_13 : decode cX12_wayAt 13 = .ok (.lconst 1, 1) := by decide +kernel
theorem dX12_wayAt_14 : decode cX12_wayAt 14 = .ok (.invokestatic 104, 3) := by decide +kernel
theorem dX12_wayAt_17 : decode cX12_wayAt 17 = .ok (.ifCond .ne 9, 3) := by decide +kernel
theorem dX12_wayAt_20 : decode cX12_wayAt 20 = .ok (.aload_n 0, 1) := by decide +kernel
theorem dX12_wayAt_21 : decode cX12_wayAt 21 = .ok (.iconst 5, 1) := by decide +kernel
theorem dX12_wayAt_22 : decode cX12_wayAt 22 = .ok (.invokevirtual 298, 3) := by decide +kernel
theorem dX12_wayAt_25 : decode cX12_wayAt 25 = .ok (.ireturn, 1) := by decide +kernel
theorem dX12_wayAt_26 : decode cX12_wayAt 26 = .ok (.iload_n 1, 1) := by decide +kernel
theorem dX12_wayAt_27 : decode cX12_wayAt 27 = .ok (.i2l, 1) := by decide +kernel
theorem dX12_wayAt_28 : decode cX12_wayAt 28 = .ok (.lconst 0, 1) := by decide +kernel
theorem dX12_wayAt_29 : decode cX12_wayAt 29 = .ok (.aload_n 0, 1) := by decide +kernel
theorem dX12_wayAt_30 : decode cX12_wayAt 30 = .ok (.getfield 386, 3) := by decide +kernel
theorem dX12_wayAt_33 : decode cX12_wayAt 33 = .ok (.iconst 1, 1) := by decide +kernel
theorem dX12_wayAt_34 : decode cX12_wayAt 34 = .ok (.isub, 1) := by decide +kernel
theorem dX12_wayAt_35 : decode cX12_wayAt 35 = .ok (.i2l, 1) := by decide +kernel
theorem dX12_wayAt_36 : decode cX12_wayAt 36 = .ok (.invokestatic 104, 3) := by decide +kernel
theorem dX12_wayAt_39 : decode cX12_wayAt 39 = .ok (.ifCond .ne 10, 3) := by decide +kernel
theorem dX12_wayAt_42 : decode cX12_wayAt 42 = .ok (.aload_n 0, 1) := by decide +kernel
theorem dX12_wayAt_43 : decode cX12_wayAt 43 = .ok (.bipush 8, 2) := by decide +kernel
theorem dX12_wayAt_45 : decode cX12_wayAt 45 = .ok (.invokevirtual 298, 3) := by decide +kernel
theorem dX12_wayAt_48 : decode cX12_wayAt 48 = .ok (.ireturn, 1) := by decide +kernel
theorem dX12_wayAt_49 : decode cX12_wayAt 49 = .ok (.iload_n 2, 1) := by decide +kernel
theorem dX12_wayAt_50 : decode cX12_wayAt 50 = .ok (.ifCond .ne 15, 3) := by decide +kernel
theorem dX12_wayAt_53 : decode cX12_wayAt 53 = .ok (.aload_n 0, 1) := by decide +kernel
theorem dX12_wayAt_54 : decode cX12_wayAt 54 = .ok (.getfield 50, 3) := by decide +kernel
theorem dX12_wayAt_57 : decode cX12_wayAt 57 = .ok (.iload_n 1, 1) := by decide +kernel
theorem dX12_wayAt_58 : decode cX12_wayAt 58 = .ok (.iaload, 1) := by decide +kernel
theorem dX12_wayAt_59 : decode cX12_wayAt 59 = .ok (.bipush 6, 2) := by decide +kernel
theorem dX12_wayAt_61 : decode cX12_wayAt 61 = .ok (.irem, 1) := by decide +kernel
theorem dX12_wayAt_62 : decode cX12_wayAt 62 = .ok (.goto 12, 3) := by decide +kernel
theorem dX12_wayAt_65 : decode cX12_wayAt 65 = .ok (.aload_n 0, 1) := by decide +kernel
theorem dX12_wayAt_66 : decode cX12_wayAt 66 = .ok (.getfield 50, 3) := by decide +kernel
theorem dX12_wayAt_69 : decode cX12_wayAt 69 = .ok (.iload_n 1, 1) := by decide +kernel
theorem dX12_wayAt_70 : decode cX12_wayAt 70 = .ok (.iaload, 1) := by decide +kernel
theorem dX12_wayAt_71 : decode cX12_wayAt 71 = .ok (.bipush 6, 2) := by decide +kernel
theorem dX12_wayAt_73 : decode cX12_wayAt 73 = .ok (.idiv, 1) := by decide +kernel
theorem dX12_wayAt_74 : decode cX12_wayAt 74 = .ok (.ireturn, 1) := by decide +kernel
theorem dX12_peace_0 : decode cX12_peace 0 = .ok (.aload_n 0, 1) := by decide +kernel
theorem dX12_peace_1 : decode cX12_peace 1 = .ok (.iconst 0, 1) := by decide +kernel
theorem dX12_peace_2 : decode cX12_peace 2 = .ok (.putfield 69, 3) := by decide +kernel
theorem dX12_peace_5 : decode cX12_peace 5 = .ok (.aload_n 0, 1) := by decide +kernel
theorem dX12_peace_6 : decode cX12_peace 6 = .ok (.iconst 0, 1) := by decide +kernel
theorem dX12_peace_7 : decode cX12_peace 7 = .ok (.putfield 72, 3) := by decide +kernel
theorem dX12_peace_10 : decode cX12_peace 10 = .ok (.aload_n 0, 1) := by decide +kernel
theorem dX12_peace_11 : decode cX12_peace 11 = .ok (.invokevirtual 383, 3) := by decide +kernel
theorem dX12_peace_14 : decode cX12_peace 14 = .ok (.sipush 1000, 3) := by decide +kernel
theorem dX12_peace_17 : decode cX12_peace 17 = .ok (.idiv, 1) := by decide +kernel
theorem dX12_peace_18 : decode cX12_peace 18 = .ok (.iconst 4, 1) := by decide +kernel
theorem dX12_peace_19 : decode cX12_peace 19 = .ok (.if_icmp .gt 7, 3) := by decide +kernel
theorem dX12_peace_22 : decode cX12_peace 22 = .ok (.iconst 1, 1) := by decide +kernel
theorem dX12_peace_23 : decode cX12_peace 23 = .ok (.goto 4, 3) := by decide +kernel
theorem dX12_peace_26 : decode cX12_peace 26 = .ok (.iconst 0, 1) := by decide +kernel
theorem dX12_peace_27 : decode cX12_peace 27 = .ok (.ireturn, 1) := by decide +kernel
theorem dX12_look_0 : decode cX12_look 0 = .ok (.aload_n 0, 1) := by decide +kernel
theorem dX12_look_1 : decode cX12_look 1 = .ok (.iconst 0, 1) := by decide +kernel
theorem dX12_look_2 : decode cX12_look 2 = .ok (.putfield 69, 3) := by decide +kernel
theorem dX12_look_5 : decode cX12_look 5 = .ok (.aload_n 0, 1) := by decide +kernel
theorem dX12_look_6 : decode cX12_look 6 = .ok (.iconst 0, 1) := by decide +kernel
theorem dX12_look_7 : decode cX12_look 7 = .ok (.putfield 72, 3) := by decide +kernel
theorem dX12_look_10 : decode cX12_look 10 = .ok (.aload_n 0, 1) := by decide +kernel
theorem dX12_look_11 : decode cX12_look 11 = .ok (.iload_n 1, 1) := by decide +kernel
theorem dX12_look_12 : decode cX12_look 12 = .ok (.iload_n 2, 1) := by decide +kernel
theorem dX12_look_13 : decode cX12_look 13 = .ok (.invokevirtual 301, 3) := by decide +kernel
theorem dX12_look_16 : decode cX12_look 16 = .ok (.ifCond .ne 9, 3) := by decide +kernel
theorem dX12_look_19 : decode cX12_look 19 = .ok (.aload_n 0, 1) := by decide +kernel
theorem dX12_look_20 : decode cX12_look 20 = .ok (.iconst 2, 1) := by decide +kernel
theorem dX12_look_21 : decode cX12_look 21 = .ok (.invokevirtual 298, 3) := by decide +kernel
theorem dX12_look_24 : decode cX12_look 24 = .ok (.ireturn, 1) := by decide +kernel
theorem dX12_look_25 : decode cX12_look 25 = .ok (.aload_n 0, 1) := by decide +kernel
theorem dX12_look_26 : decode cX12_look 26 = .ok (.getfield 35, 3) := by decide +kernel
theorem dX12_look_29 : decode cX12_look 29 = .ok (.sipush 206, 3) := by decide +kernel
theorem dX12_look_32 : decode cX12_look 32 = .ok (.iload_n 1, 1) := by decide +kernel
theorem dX12_look_33 : decode cX12_look 33 = .ok (.iload_n 2, 1) := by decide +kernel
theorem dX12_look_34 : decode cX12_look 34 = .ok (.invokestatic 292, 3) := by decide +kernel
theorem dX12_look_37 : decode cX12_look 37 = .ok (.iadd, 1) := by decide +kernel
theorem dX12_look_38 : decode cX12_look 38 = .ok (.iconst 1, 1) := by decide +kernel
theorem dX12_look_39 : decode cX12_look 39 = .ok (.iastore, 1) := by decide +kernel
theorem dX12_look_40 : decode cX12_look 40 = .ok (.aload_n 0, 1) := by decide +kernel
theorem dX12_look_41 : decode cX12_look 41 = .ok (.getfield 35, 3) := by decide +kernel
theorem dX12_look_44 : decode cX12_look 44 = .ok (.sipush 170, 3) := by decide +kernel
theorem dX12_look_47 : decode cX12_look 47 = .ok (.iload_n 1, 1) := by decide +kernel
theorem dX12_look_48 : decode cX12_look 48 = .ok (.iload_n 2, 1) := by decide +kernel
theorem dX12_look_49 : decode cX12_look 49 = .ok (.invokestatic 292, 3) := by decide +kernel
theorem dX12_look_52 : decode cX12_look 52 = .ok (.iadd, 1) := by decide +kernel
theorem dX12_look_53 : decode cX12_look 53 = .ok (.iaload, 1) := by decide +kernel
theorem dX12_look_54 : decode cX12_look 54 = .ok (.ireturn, 1) := by decide +kernel
theorem dX12_hidingOf_0 : decode cX12_hidingOf 0 = .ok (.iconst 0, 1) := by decide +kernel
theorem dX12_hidingOf_1 : decode cX12_hidingOf 1 = .ok (.istore_n 2, 1) := by decide +kernel
theorem dX12_hidingOf_2 : decode cX12_hidingOf 2 = .ok (.iconst 0, 1) := by decide +kernel
theorem dX12_hidingOf_3 : decode cX12_hidingOf 3 = .ok (.istore_n 3, 1) := by decide +kernel
theorem dX12_hidingOf_4 : decode cX12_hidingOf 4 = .ok (.iload_n 3, 1) := by decide +kernel
theorem dX12_hidingOf_5 : decode cX12_hidingOf 5 = .ok (.aload_n 0, 1) := by decide +kernel
theorem dX12_hidingOf_6 : decode cX12_hidingOf 6 = .ok (.getfield 35, 3) := by decide +kernel
theorem dX12_hidingOf_9 : decode cX12_hidingOf 9 = .ok (.iconst 1, 1) := by decide +kernel
theorem dX12_hidingOf_10 : decode cX12_hidingOf 10 = .ok (.iaload, 1) := by decide +kernel
theorem dX12_hidingOf_11 : decode cX12_hidingOf 11 = .ok (.if_icmp .ge 82, 3) := by decide +kernel
theorem dX12_hidingOf_14 : decode cX12_hidingOf 14 = .ok (.iconst 0, 1) := by decide +kernel
theorem dX12_hidingOf_15 : decode cX12_hidingOf 15 = .ok (.istore 4, 2) := by decide +kernel
theorem dX12_hidingOf_17 : decode cX12_hidingOf 17 = .ok (.iload 4, 2) := by decide +kernel
theorem dX12_hidingOf_19 : decode cX12_hidingOf 19 = .ok (.aload_n 0, 1) := by decide +kernel
theorem dX12_hidingOf_20 : decode cX12_hidingOf 20 = .ok (.getfield 35, 3) := by decide +kernel
theorem dX12_hidingOf_23 : decode cX12_hidingOf 23 = .ok (.iconst 0, 1) := by decide +kernel
theorem dX12_hidingOf_24 : decode cX12_hidingOf 24 = .ok (.iaload, 1) := by decide +kernel
theorem dX12_hidingOf_25 : decode cX12_hidingOf 25 = .ok (.if_icmp .ge 62, 3) := by decide +kernel
theorem dX12_hidingOf_28 : decode cX12_hidingOf 28 = .ok (.iload_n 2, 1) := by decide +kernel
theorem dX12_hidingOf_29 : decode cX12_hidingOf 29 = .ok (.aload_n 0, 1) := by decide +kernel
theorem dX12_hidingOf_30 : decode cX12_hidingOf 30 = .ok (.iload 4, 2) := by decide +kernel
theorem dX12_hidingOf_32 : decode cX12_hidingOf 32 = .ok (.invokevirtual 270, 3) := by decide +kernel
theorem dX12_hidingOf_35 : decode cX12_hidingOf 35 = .ok (.iload_n 1, 1) := by decide +kernel
theorem dX12_hidingOf_36 : decode cX12_hidingOf 36 = .ok (.if_icmp .ne 42, 3) := by decide +kernel
theorem dX12_hidingOf_39 : decode cX12_hidingOf 39 = .ok (.aload_n 0, 1) := by decide +kernel
theorem dX12_hidingOf_40 : decode cX12_hidingOf 40 = .ok (.getfield 35, 3) := by decide +kernel
theorem dX12_hidingOf_43 : decode cX12_hidingOf 43 = .ok (.bipush 62, 2) := by decide +kernel
theorem dX12_hidingOf_45 : decode cX12_hidingOf 45 = .ok (.iload 4, 2) := by decide +kernel
theorem dX12_hidingOf_47 : decode cX12_hidingOf 47 = .ok (.iload_n 3, 1) := by decide +kernel
theorem dX12_hidingOf_48 : decode cX12_hidingOf 48 = .ok (.invokestatic 292, 3) := by decide +kernel
theorem dX12_hidingOf_51 : decode cX12_hidingOf 51 = .ok (.iadd, 1) := by decide +kernel
theorem dX12_hidingOf_52 : decode cX12_hidingOf 52 = .ok (.iaload, 1) := by decide +kernel
theorem dX12_hidingOf_53 : decode cX12_hidingOf 53 = .ok (.ifCond .le 25, 3) := by decide +kernel
theorem dX12_hidingOf_56 : decode cX12_hidingOf 56 = .ok (.aload_n 0, 1) := by decide +kernel
theorem dX12_hidingOf_57 : decode cX12_hidingOf 57 = .ok (.getfield 35, 3) := by decide +kernel
theorem dX12_hidingOf_60 : decode cX12_hidingOf 60 = .ok (.sipush 206, 3) := by decide +kernel
theorem dX12_hidingOf_63 : decode cX12_hidingOf 63 = .ok (.iload 4, 2) := by decide +kernel
theorem dX12_hidingOf_65 : decode cX12_hidingOf 65 = .ok (.iload_n 3, 1) := by decide +kernel
theorem dX12_hidingOf_66 : decode cX12_hidingOf 66 = .ok (.invokestatic 292, 3) := by decide +kernel
theorem dX12_hidingOf_69 : decode cX12_hidingOf 69 = .ok (.iadd, 1) := by decide +kernel
theorem dX12_hidingOf_70 : decode cX12_hidingOf 70 = .ok (.iaload, 1) := by decide +kernel
theorem dX12_hidingOf_71 : decode cX12_hidingOf 71 = .ok (.ifCond .ne 7, 3) := by decide +kernel
theorem dX12_hidingOf_74 : decode cX12_hidingOf 74 = .ok (.iconst 1, 1) := by decide +kernel
theorem dX12_hidingOf_75 : decode cX12_hidingOf 75 = .ok (.goto 4, 3) := by decide +kernel
theorem dX12_hidingOf_78 : decode cX12_hidingOf 78 = .ok (.iconst 0, 1) := by decide +kernel
theorem dX12_hidingOf_79 : decode cX12_hidingOf 79 = .ok (.iadd, 1) := by decide +kernel
theorem dX12_hidingOf_80 : decode cX12_hidingOf 80 = .ok (.istore_n 2, 1) := by decide +kernel
theorem dX12_hidingOf_81 : decode cX12_hidingOf 81 = .ok (.iinc 4 1, 3) := by decide +kernel
theorem dX12_hidingOf_84 : decode cX12_hidingOf 84 = .ok (.goto (-67), 3) := by decide +kernel
theorem dX12_hidingOf_87 : decode cX12_hidingOf 87 = .ok (.iinc 3 1, 3) := by decide +kernel
theorem dX12_hidingOf_90 : decode cX12_hidingOf 90 = .ok (.goto (-86), 3) := by decide +kernel
theorem dX12_hidingOf_93 : decode cX12_hidingOf 93 = .ok (.iload_n 2, 1) := by decide +kernel
theorem dX12_hidingOf_94 : decode cX12_hidingOf 94 = .ok (.ireturn, 1) := by decide +kernel
theorem dX12_hiding_0 : decode cX12_hiding 0 = .ok (.aload_n 0, 1) := by decide +kernel
theorem dX12_hiding_1 : decode cX12_hiding 1 = .ok (.iconst 0, 1) := by decide +kernel
theorem dX12_hiding_2 : decode cX12_hiding 2 = .ok (.putfield 69, 3) := by decide +kernel
theorem dX12_hiding_5 : decode cX12_hiding 5 = .ok (.aload_n 0, 1) := by decide +kernel
theorem dX12_hiding_6 : decode cX12_hiding 6 = .ok (.iconst 0, 1) := by decide +kernel
theorem dX12_hiding_7 : decode cX12_hiding 7 = .ok (.putfield 72, 3) := by decide +kernel
theorem dX12_hiding_10 : decode cX12_hiding 10 = .ok (.iload_n 1, 1) := by decide +kernel
theorem dX12_hiding_11 : decode cX12_hiding 11 = .ok (.i2l, 1) := by decide +kernel
theorem dX12_hiding_12 : decode cX12_hiding 12 = .ok (.lconst 0, 1) := by decide +kernel
theorem dX12_hiding_13 : decode cX12_hiding 13 = .ok (.lconst 1, 1) := by decide +kernel
theorem dX12_hiding_14 : decode cX12_hiding 14 = .ok (.invokestatic 104, 3) := by decide +kernel
theorem dX12_hiding_17 : decode cX12_hiding 17 = .ok (.ifCond .eq 11, 3) := by decide +kernel
theorem dX12_hiding_20 : decode cX12_hiding 20 = .ok (.aload_n 0, 1) := by decide +kernel
theorem dX12_hiding_21 : decode cX12_hiding 21 = .ok (.iload_n 1, 1) := by decide +kernel
theorem dX12_hiding_22 : decode cX12_hiding 22 = .ok (.invokevirtual 389, 3) := by decide +kernel
theorem dX12_hiding_25 : decode cX12_hiding 25 = .ok (.goto 8, 3) := by decide +kernel
theorem dX12_hiding_28 : decode cX12_hiding 28 = .ok (.aload_n 0, 1) := by decide +kernel
theorem dX12_hiding_29 : decode cX12_hiding 29 = .ok (.iconst 5, 1) := by decide +kernel
theorem dX12_hiding_30 : decode cX12_hiding 30 = .ok (.invokevirtual 298, 3) := by decide +kernel
theorem dX12_hiding_33 : decode cX12_hiding 33 = .ok (.ireturn, 1) := by decide +kernel
theorem dX12_sure_0 : decode cX12_sure 0 = .ok (.aload_n 0, 1) := by decide +kernel
theorem dX12_sure_1 : decode cX12_sure 1 = .ok (.iconst 0, 1) := by decide +kernel
theorem dX12_sure_2 : decode cX12_sure 2 = .ok (.putfield 69, 3) := by decide +kernel
theorem dX12_sure_5 : decode cX12_sure 5 = .ok (.aload_n 0, 1) := by decide +kernel
theorem dX12_sure_6 : decode cX12_sure 6 = .ok (.iconst 0, 1) := by decide +kernel
theorem dX12_sure_7 : decode cX12_sure 7 = .ok (.putfield 72, 3) := by decide +kernel
theorem dX12_sure_10 : decode cX12_sure 10 = .ok (.iload_n 1, 1) := by decide +kernel
theorem dX12_sure_11 : decode cX12_sure 11 = .ok (.i2l, 1) := by decide +kernel
theorem dX12_sure_12 : decode cX12_sure 12 = .ok (.lconst 0, 1) := by decide +kernel
theorem dX12_sure_13 : decode cX12_sure 13 = .ok (.lconst 1, 1) := by decide +kernel
theorem dX12_sure_14 : decode cX12_sure 14 = .ok (.invokestatic 104, 3) := by decide +kernel
theorem dX12_sure_17 : decode cX12_sure 17 = .ok (.ifCond .eq 15, 3) := by decide +kernel
theorem dX12_sure_20 : decode cX12_sure 20 = .ok (.iload_n 2, 1) := by decide +kernel
theorem dX12_sure_21 : decode cX12_sure 21 = .ok (.i2l, 1) := by decide +kernel
theorem dX12_sure_22 : decode cX12_sure 22 = .ok (.lconst 1, 1) := by decide +kernel
theorem dX12_sure_23 : decode cX12_sure 23 = .ok (.ldc2_w 392, 3) := by decide +kernel
theorem dX12_sure_26 : decode cX12_sure 26 = .ok (.invokestatic 104, 3) := by decide +kernel
theorem dX12_sure_29 : decode cX12_sure 29 = .ok (.ifCond .ne 9, 3) := by decide +kernel
theorem dX12_sure_32 : decode cX12_sure 32 = .ok (.aload_n 0, 1) := by decide +kernel
theorem dX12_sure_33 : decode cX12_sure 33 = .ok (.iconst 5, 1) := by decide +kernel
theorem dX12_sure_34 : decode cX12_sure 34 = .ok (.invokevirtual 298, 3) := by decide +kernel
theorem dX12_sure_37 : decode cX12_sure 37 = .ok (.ireturn, 1) := by decide +kernel
theorem dX12_sure_38 : decode cX12_sure 38 = .ok (.aload_n 0, 1) := by decide +kernel
theorem dX12_sure_39 : decode cX12_sure 39 = .ok (.iload_n 1, 1) := by decide +kernel
theorem dX12_sure_40 : decode cX12_sure 40 = .ok (.invokevirtual 389, 3) := by decide +kernel
theorem dX12_sure_43 : decode cX12_sure 43 = .ok (.istore_n 3, 1) := by decide +kernel
theorem dX12_sure_44 : decode cX12_sure 44 = .ok (.iload_n 2, 1) := by decide +kernel
theorem dX12_sure_45 : decode cX12_sure 45 = .ok (.iload_n 3, 1) := by decide +kernel
theorem dX12_sure_46 : decode cX12_sure 46 = .ok (.if_icmp .le 12, 3) := by decide +kernel
theorem dX12_sure_49 : decode cX12_sure 49 = .ok (.aload_n 0, 1) := by decide +kernel
theorem dX12_sure_50 : decode cX12_sure 50 = .ok (.bipush 9, 2) := by decide +kernel
theorem dX12_sure_52 : decode cX12_sure 52 = .ok (.invokevirtual 298, 3) := by decide +kernel
theorem dX12_sure_55 : decode cX12_sure 55 = .ok (.goto 8, 3) := by decide +kernel
theorem dX12_sure_58 : decode cX12_sure 58 = .ok (.iload_n 3, 1) := by decide +kernel
theorem dX12_sure_59 : decode cX12_sure 59 = .ok (.iload_n 2, 1) := by decide +kernel
theorem dX12_sure_60 : decode cX12_sure 60 = .ok (.isub, 1) := by decide +kernel
theorem dX12_sure_61 : decode cX12_sure 61 = .ok (.iconst 1, 1) := by decide +kernel
theorem dX12_sure_62 : decode cX12_sure 62 = .ok (.iadd, 1) := by decide +kernel
theorem dX12_sure_63 : decode cX12_sure 63 = .ok (.ireturn, 1) := by decide +kernel
theorem dX12_works_0 : decode cX12_works 0 = .ok (.aload_n 0, 1) := by decide +kernel
theorem dX12_works_1 : decode cX12_works 1 = .ok (.iconst 0, 1) := by decide +kernel
theorem dX12_works_2 : decode cX12_works 2 = .ok (.putfield 69, 3) := by decide +kernel
theorem dX12_works_5 : decode cX12_works 5 = .ok (.aload_n 0, 1) := by decide +kernel
theorem dX12_works_6 : decode cX12_works 6 = .ok (.iconst 0, 1) := by decide +kernel
theorem dX12_works_7 : decode cX12_works 7 = .ok (.putfield 72, 3) := by decide +kernel
theorem dX12_works_10 : decode cX12_works 10 = .ok (.aload_n 0, 1) := by decide +kernel
theorem dX12_works_11 : decode cX12_works 11 = .ok (.iload_n 1, 1) := by decide +kernel
theorem dX12_works_12 : decode cX12_works 12 = .ok (.invokevirtual 394, 3) := by decide +kernel
theorem dX12_works_15 : decode cX12_works 15 = .ok (.ifCond .eq 11, 3) := by decide +kernel
theorem dX12_works_18 : decode cX12_works 18 = .ok (.aload_n 0, 1) := by decide +kernel
theorem dX12_works_19 : decode cX12_works 19 = .ok (.iload_n 2, 1) := by decide +kernel
theorem dX12_works_20 : decode cX12_works 20 = .ok (.invokevirtual 394, 3) := by decide +kernel
theorem dX12_works_23 : decode cX12_works 23 = .ok (.ifCond .ne 10, 3) := by decide +kernel
theorem dX12_works_26 : decode cX12_works 26 = .ok (.aload_n 0, 1) := by decide +kernel
theorem dX12_works_27 : decode cX12_works 27 = .ok (.iconst 1, 1) := by decide +kernel
theorem dX12_works_28 : decode cX12_works 28 = .ok (.invokevirtual 298, 3) := by decide +kernel
theorem dX12_works_31 : decode cX12_works 31 = .ok (.i2l, 1) := by decide +kernel
theorem dX12_works_32 : decode cX12_works 32 = .ok (.lreturn, 1) := by decide +kernel
theorem dX12_works_33 : decode cX12_works 33 = .ok (.aload_n 0, 1) := by decide +kernel
theorem dX12_works_34 : decode cX12_works 34 = .ok (.getfield 17, 3) := by decide +kernel
theorem dX12_works_37 : decode cX12_works 37 = .ok (.iload_n 1, 1) := by decide +kernel
theorem dX12_works_38 : decode cX12_works 38 = .ok (.iaload, 1) := by decide +kernel
theorem dX12_works_39 : decode cX12_works 39 = .ok (.ifCond .lt 12, 3) := by decide +kernel
theorem dX12_works_42 : decode cX12_works 42 = .ok (.aload_n 0, 1) := by decide +kernel
theorem dX12_works_43 : decode cX12_works 43 = .ok (.getfield 17, 3) := by decide +kernel
theorem dX12_works_46 : decode cX12_works 46 = .ok (.iload_n 2, 1) := by decide +kernel
theorem dX12_works_47 : decode cX12_works 47 = .ok (.iaload, 1) := by decide +kernel
theorem dX12_works_48 : decode cX12_works 48 = .ok (.ifCond .ge 10, 3) := by decide +kernel
theorem dX12_works_51 : decode cX12_works 51 = .ok (.aload_n 0, 1) := by decide +kernel
theorem dX12_works_52 : decode cX12_works 52 = .ok (.iconst 3, 1) := by decide +kernel
theorem dX12_works_53 : decode cX12_works 53 = .ok (.invokevirtual 298, 3) := by decide +kernel
theorem dX12_works_56 : decode cX12_works 56 = .ok (.i2l, 1) := by decide +kernel
theorem dX12_works_57 : decode cX12_works 57 = .ok (.lreturn, 1) := by decide +kernel
theorem dX12_works_58 : decode cX12_works 58 = .ok (.aload_n 0, 1) := by decide +kernel
theorem dX12_works_59 : decode cX12_works 59 = .ok (.getfield 17, 3) := by decide +kernel
theorem dX12_works_62 : decode cX12_works 62 = .ok (.iload_n 1, 1) := by decide +kernel
theorem dX12_works_63 : decode cX12_works 63 = .ok (.iaload, 1) := by decide +kernel
theorem dX12_works_64 : decode cX12_works 64 = .ok (.iload_n 3, 1) := by decide +kernel
theorem dX12_works_65 : decode cX12_works 65 = .ok (.if_icmp .lt 18, 3) := by decide +kernel
theorem dX12_works_68 : decode cX12_works 68 = .ok (.aload_n 0, 1) := by decide +kernel
theorem dX12_works_69 : decode cX12_works 69 = .ok (.getfield 17, 3) := by decide +kernel
theorem dX12_works_72 : decode cX12_works 72 = .ok (.iload_n 2, 1) := by decide +kernel
theorem dX12_works_73 : decode cX12_works 73 = .ok (.iaload, 1) := by decide +kernel
theorem dX12_works_74 : decode cX12_works 74 = .ok (.i2l, 1) := by decide +kernel
theorem dX12_works_75 : decode cX12_works 75 = .ok (.iload_n 3, 1) := by decide +kernel
theorem dX12_works_76 : decode cX12_works 76 = .ok (.i2l, 1) := by decide +kernel
theorem dX12_works_77 : decode cX12_works 77 = .ok (.lconst 1, 1) := by decide +kernel
theorem dX12_works_78 : decode cX12_works 78 = .ok (.lsub, 1) := by decide +kernel
theorem dX12_works_79 : decode cX12_works 79 = .ok (.lcmp, 1) := by decide +kernel
theorem dX12_works_80 : decode cX12_works 80 = .ok (.ifCond .ge 10, 3) := by decide +kernel
theorem dX12_works_83 : decode cX12_works 83 = .ok (.aload_n 0, 1) := by decide +kernel
theorem dX12_works_84 : decode cX12_works 84 = .ok (.iconst 4, 1) := by decide +kernel
theorem dX12_works_85 : decode cX12_works 85 = .ok (.invokevirtual 298, 3) := by decide +kernel
theorem dX12_works_88 : decode cX12_works 88 = .ok (.i2l, 1) := by decide +kernel
theorem dX12_works_89 : decode cX12_works 89 = .ok (.lreturn, 1) := by decide +kernel
theorem dX12_works_90 : decode cX12_works 90 = .ok (.iload_n 3, 1) := by decide +kernel
theorem dX12_works_91 : decode cX12_works 91 = .ok (.i2l, 1) := by decide +kernel
theorem dX12_works_92 : decode cX12_works 92 = .ok (.ldc2_w 397, 3) := by decide +kernel
theorem dX12_works_95 : decode cX12_works 95 = .ok (.ldc2_w 399, 3) := by decide +kernel
theorem dX12_works_98 : decode cX12_works 98 = .ok (.invokestatic 104, 3) := by decide +kernel
theorem dX12_works_101 : decode cX12_works 101 = .ok (.ifCond .ne 10, 3) := by decide +kernel
theorem dX12_works_104 : decode cX12_works 104 = .ok (.aload_n 0, 1) := by decide +kernel
theorem dX12_works_105 : decode cX12_works 105 = .ok (.iconst 5, 1) := by decide +kernel
theorem dX12_works_106 : decode cX12_works 106 = .ok (.invokevirtual 298, 3) := by decide +kernel
theorem dX12_works_109 : decode cX12_works 109 = .ok (.i2l, 1) := by decide +kernel
theorem dX12_works_110 : decode cX12_works 110 = .ok (.lreturn, 1) := by decide +kernel
theorem dX12_works_111 : decode cX12_works 111 = .ok (.iconst 0, 1) := by decide +kernel
theorem dX12_works_112 : decode cX12_works 112 = .ok (.istore 4, 2) := by decide +kernel
theorem dX12_works_114 : decode cX12_works 114 = .ok (.iload 4, 2) := by decide +kernel
theorem dX12_works_116 : decode cX12_works 116 = .ok (.iload_n 3, 1) := by decide +kernel
theorem dX12_works_117 : decode cX12_works 117 = .ok (.if_icmp .ge 58, 3) := by decide +kernel
theorem dX12_works_120 : decode cX12_works 120 = .ok (.aload_n 0, 1) := by decide +kernel
theorem dX12_works_121 : decode cX12_works 121 = .ok (.iload_n 1, 1) := by decide +kernel
theorem dX12_works_122 : decode cX12_works 122 = .ok (.iload 4, 2) := by decide +kernel
theorem dX12_works_124 : decode cX12_works 124 = .ok (.invokevirtual 401, 3) := by decide +kernel
theorem dX12_works_127 : decode cX12_works 127 = .ok (.lconst 0, 1) := by decide +kernel
theorem dX12_works_128 : decode cX12_works 128 = .ok (.ldc2_w 364, 3) := by decide +kernel
theorem dX12_works_131 : decode cX12_works 131 = .ok (.invokestatic 104, 3) := by decide +kernel
theorem dX12_works_134 : decode cX12_works 134 = .ok (.ifCond .eq 28, 3) := by decide +kernel
theorem dX12_works_137 : decode cX12_works 137 = .ok (.iload 4, 2) := by decide +kernel
theorem dX12_works_139 : decode cX12_works 139 = .ok (.iconst 1, 1) := by decide +kernel
theorem dX12_works_140 : decode cX12_works 140 = .ok (.iadd, 1) := by decide +kernel
theorem dX12_works_141 : decode cX12_works 141 = .ok (.iload_n 3, 1) := by decide +kernel
theorem dX12_works_142 : decode cX12_works 142 = .ok (.if_icmp .ge 27, 3) := by decide +kernel
theorem dX12_works_145 : decode cX12_works 145 = .ok (.aload_n 0, 1) := by decide +kernel
theorem dX12_works_146 : decode cX12_works 146 = .ok (.iload_n 2, 1) := by decide +kernel
theorem dX12_works_147 : decode cX12_works 147 = .ok (.iload 4, 2) := by decide +kernel
theorem dX12_works_149 : decode cX12_works 149 = .ok (.invokevirtual 401, 3) := by decide +kernel
theorem dX12_works_152 : decode cX12_works 152 = .ok (.lconst 0, 1) := by decide +kernel
theorem dX12_works_153 : decode cX12_works 153 = .ok (.ldc2_w 405, 3) := by decide +kernel
theorem dX12_works_156 : decode cX12_works 156 = .ok (.invokestatic 104, 3) := by decide +kernel
theorem dX12_works_159 : decode cX12_works 159 = .ok (.ifCond .ne 10, 3) := by decide +kernel
theorem dX12_works_162 : decode cX12_works 162 = .ok (.aload_n 0, 1) := by decide +kernel
theorem dX12_works_163 : decode cX12_works 163 = .ok (.iconst 5, 1) := by decide +kernel
theorem dX12_works_164 : decode cX12_works 164 = .ok (.invokevirtual 298, 3) := by decide +kernel
theorem dX12_works_167 : decode cX12_works 167 = .ok (.i2l, 1) := by decide +kernel
theorem dX12_works_168 : decode cX12_works 168 = .ok (.lreturn, 1) := by decide +kernel
theorem dX12_works_169 : decode cX12_works 169 = .ok (.iinc 4 1, 3) := by decide +kernel
theorem dX12_works_172 : decode cX12_works 172 = .ok (.goto (-58), 3) := by decide +kernel
theorem dX12_works_175 : decode cX12_works 175 = .ok (.lconst 1, 1) := by decide +kernel
theorem dX12_works_176 : decode cX12_works 176 = .ok (.lstore 4, 2) := by decide +kernel
theorem dX12_works_178 : decode cX12_works 178 = .ok (.iconst 0, 1) := by decide +kernel
theorem dX12_works_179 : decode cX12_works 179 = .ok (.istore 6, 2) := by decide +kernel
theorem dX12_works_181 : decode cX12_works 181 = .ok (.iconst 0, 1) := by decide +kernel
theorem dX12_works_182 : decode cX12_works 182 = .ok (.istore 7, 2) := by decide +kernel
theorem dX12_works_184 : decode cX12_works 184 = .ok (.iconst 0, 1) := by decide +kernel
theorem dX12_works_185 : decode cX12_works 185 = .ok (.istore 8, 2) := by decide +kernel
theorem dX12_works_187 : decode cX12_works 187 = .ok (.iconst (-1), 1) := by decide +kernel
theorem dX12_works_188 : decode cX12_works 188 = .ok (.istore 9, 2) := by decide +kernel
theorem dX12_works_190 : decode cX12_works 190 = .ok (.iconst 0, 1) := by decide +kernel
theorem dX12_works_191 : decode cX12_works 191 = .ok (.istore 10, 2) := by decide +kernel
theorem dX12_works_193 : decode cX12_works 193 = .ok (.iload 10, 2) := by decide +kernel
theorem dX12_works_195 : decode cX12_works 195 = .ok (.iconst 1, 1) := by decide +kernel
theorem dX12_works_196 : decode cX12_works 196 = .ok (.iadd, 1) := by decide +kernel
theorem dX12_works_197 : decode cX12_works 197 = .ok (.iload_n 3, 1) := by decide +kernel
theorem dX12_works_198 : decode cX12_works 198 = .ok (.if_icmp .ge 134, 3) := by decide +kernel
theorem dX12_works_201 : decode cX12_works 201 = .ok (.iconst 0, 1) := by decide +kernel
theorem dX12_works_202 : decode cX12_works 202 = .ok (.istore 11, 2) := by decide +kernel
theorem dX12_works_204 : decode cX12_works 204 = .ok (.iconst 0, 1) := by decide +kernel
theorem dX12_works_205 : decode cX12_works 205 = .ok (.istore 12, 2) := by decide +kernel
theorem dX12_works_207 : decode cX12_works 207 = .ok (.iconst 0, 1) := by decide +kernel
theorem dX12_works_208 : decode cX12_works 208 = .ok (.istore 13, 2) := by decide +kernel
theorem dX12_works_210 : decode cX12_works 210 = .ok (.bipush 9, 2) := by decide +kernel
theorem dX12_works_212 : decode cX12_works 212 = .ok (.istore 14, 2) := by decide +kernel
theorem dX12_works_214 : decode cX12_works 214 = .ok (.iload 14, 2) := by decide +kernel
theorem dX12_works_216 : decode cX12_works 216 = .ok (.ifCond .lt 73, 3) := by decide +kernel
theorem dX12_works_219 : decode cX12_works 219 = .ok (.lconst 0, 1) := by decide +kernel
theorem dX12_works_220 : decode cX12_works 220 = .ok (.aload_n 0, 1) := by decide +kernel
theorem dX12_works_221 : decode cX12_works 221 = .ok (.iload_n 1, 1) := by decide +kernel
theorem dX12_works_222 : decode cX12_works 222 = .ok (.iload 10, 2) := by decide +kernel
theorem dX12_works_224 : decode cX12_works 224 = .ok (.invokevirtual 401, 3) := by decide +kernel
theorem dX12_works_227 : decode cX12_works 227 = .ok (.iload 14, 2) := by decide +kernel
theorem dX12_works_229 : decode cX12_works 229 = .ok (.i2l, 1) := by decide +kernel
theorem dX12_works_230 : decode cX12_works 230 = .ok (.ladd, 1) := by decide +kernel
theorem dX12_works_231 : decode cX12_works 231 = .ok (.aload_n 0, 1) := by decide +kernel
theorem dX12_works_232 : decode cX12_works 232 = .ok (.iload_n 2, 1) := by decide +kernel
theorem dX12_works_233 : decode cX12_works 233 = .ok (.iload 10, 2) := by decide +kernel
theorem dX12_works_235 : decode cX12_works 235 = .ok (.invokevirtual 401, 3) := by decide +kernel
theorem dX12_works_238 : decode cX12_works 238 = .ok (.lsub, 1) := by decide +kernel
theorem dX12_works_239 : decode cX12_works 239 = .ok (.invokestatic 407, 3) := by decide +kernel
theorem dX12_works_242 : decode cX12_works 242 = .ok (.lstore 15, 2) := by decide +kernel
theorem dX12_works_244 : decode cX12_works 244 = .ok (.lload 15, 2) := by decide +kernel
theorem dX12_works_246 : decode cX12_works 246 = .ok (.aload_n 0, 1) := by decide +kernel
theorem dX12_works_247 : decode cX12_works 247 = .ok (.iload_n 1, 1) := by decide +kernel
theorem dX12_works_248 : decode cX12_works 248 = .ok (.iload 10, 2) := by decide +kernel
theorem dX12_works_250 : decode cX12_works 250 = .ok (.iconst 1, 1) := by decide +kernel
theorem dX12_works_251 : decode cX12_works 251 = .ok (.iadd, 1) := by decide +kernel
theorem dX12_works_252 : decode cX12_works 252 = .ok (.invokevirtual 401, 3) := by decide +kernel
theorem dX12_works_255 : decode cX12_works 255 = .ok (.lcmp, 1) := by decide +kernel
theorem dX12_works_256 : decode cX12_works 256 = .ok (.ifCond .eq 6, 3) := by decide +kernel
theorem dX12_works_259 : decode cX12_works 259 = .ok (.goto 24, 3) := by decide +kernel
theorem dX12_works_262 : decode cX12_works 262 = .ok (.iload 11, 2) := by decide +kernel
theorem dX12_works_264 : decode cX12_works 264 = .ok (.ifCond .ne 8, 3) := by decide +kernel
theorem dX12_works_267 : decode cX12_works 267 = .ok (.iload 14, 2) := by decide +kernel
theorem dX12_works_269 : decode cX12_works 269 = .ok (.goto 5, 3) := by decide +kernel
theorem dX12_works_272 : decode cX12_works 272 = .ok (.iload 13, 2) := by decide +kernel
theorem dX12_works_274 : decode cX12_works 274 = .ok (.istore 13, 2) := by decide +kernel
theorem dX12_works_276 : decode cX12_works 276 = .ok (.iload 14, 2) := by decide +kernel
theorem dX12_works_278 : decode cX12_works 278 = .ok (.istore 12, 2) := by decide +kernel
theorem dX12_works_280 : decode cX12_works 280 = .ok (.iinc 11 1, 3) := by decide +kernel
theorem dX12_works_283 : decode cX12_works 283 = .ok (.iinc 14 (-1), 3) := by decide +kernel
theorem dX12_works_286 : decode cX12_works 286 = .ok (.goto (-72), 3) := by decide +kernel
theorem dX12_works_289 : decode cX12_works 289 = .ok (.lload 4, 2) := by decide +kernel
theorem dX12_works_291 : decode cX12_works 291 = .ok (.iload 11, 2) := by decide +kernel
theorem dX12_works_293 : decode cX12_works 293 = .ok (.i2l, 1) := by decide +kernel
theorem dX12_works_294 : decode cX12_works 294 = .ok (.lmul, 1) := by decide +kernel
theorem dX12_works_295 : decode cX12_works 295 = .ok (.lstore 4, 2) := by decide +kernel
theorem dX12_works_297 : decode cX12_works 297 = .ok (.iload 6, 2) := by decide +kernel
theorem dX12_works_299 : decode cX12_works 299 = .ok (.iload 12, 2) := by decide +kernel
theorem dX12_works_301 : decode cX12_works 301 = .ok (.iadd, 1) := by decide +kernel
theorem dX12_works_302 : decode cX12_works 302 = .ok (.istore 6, 2) := by decide +kernel
theorem dX12_works_304 : decode cX12_works 304 = .ok (.iload 7, 2) := by decide +kernel
theorem dX12_works_306 : decode cX12_works 306 = .ok (.iload 13, 2) := by decide +kernel
theorem dX12_works_308 : decode cX12_works 308 = .ok (.iadd, 1) := by decide +kernel
theorem dX12_works_309 : decode cX12_works 309 = .ok (.istore 7, 2) := by decide +kernel
theorem dX12_works_311 : decode cX12_works 311 = .ok (.iload 12, 2) := by decide +kernel
theorem dX12_works_313 : decode cX12_works 313 = .ok (.iload 9, 2) := by decide +kernel
theorem dX12_works_315 : decode cX12_works 315 = .ok (.if_icmp .le 11, 3) := by decide +kernel
theorem dX12_works_318 : decode cX12_works 318 = .ok (.iload 12, 2) := by decide +kernel
theorem dX12_works_320 : decode cX12_works 320 = .ok (.istore 9, 2) := by decide +kernel
theorem dX12_works_322 : decode cX12_works 322 = .ok (.iload 10, 2) := by decide +kernel
theorem dX12_works_324 : decode cX12_works 324 = .ok (.istore 8, 2) := by decide +kernel
theorem dX12_works_326 : decode cX12_works 326 = .ok (.iinc 10 1, 3) := by decide +kernel
theorem dX12_works_329 : decode cX12_works 329 = .ok (.goto (-136), 3) := by decide +kernel
theorem dX12_works_332 : decode cX12_works 332 = .ok (.aload_n 0, 1) := by decide +kernel
theorem dX12_works_333 : decode cX12_works 333 = .ok (.lload 4, 2) := by decide +kernel
theorem dX12_works_335 : decode cX12_works 335 = .ok (.lconst 0, 1) := by decide +kernel
theorem dX12_works_336 : decode cX12_works 336 = .ok (.lcmp, 1) := by decide +kernel
theorem dX12_works_337 : decode cX12_works 337 = .ok (.ifCond .le 7, 3) := by decide +kernel
theorem dX12_works_340 : decode cX12_works 340 = .ok (.iconst 1, 1) := by decide +kernel
theorem dX12_works_341 : decode cX12_works 341 = .ok (.goto 4, 3) := by decide +kernel
theorem dX12_works_344 : decode cX12_works 344 = .ok (.iconst 0, 1) := by decide +kernel
theorem dX12_works_345 : decode cX12_works 345 = .ok (.putfield 410, 3) := by decide +kernel
theorem dX12_works_348 : decode cX12_works 348 = .ok (.aload_n 0, 1) := by decide +kernel
theorem dX12_works_349 : decode cX12_works 349 = .ok (.getfield 53, 3) := by decide +kernel
theorem dX12_works_352 : decode cX12_works 352 = .ok (.iconst 0, 1) := by decide +kernel
theorem dX12_works_353 : decode cX12_works 353 = .ok (.iload 6, 2) := by decide +kernel
theorem dX12_works_355 : decode cX12_works 355 = .ok (.iastore, 1) := by decide +kernel
theorem dX12_works_356 : decode cX12_works 356 = .ok (.aload_n 0, 1) := by decide +kernel
theorem dX12_works_357 : decode cX12_works 357 = .ok (.getfield 53, 3) := by decide +kernel
theorem dX12_works_360 : decode cX12_works 360 = .ok (.iconst 1, 1) := by decide +kernel
theorem dX12_works_361 : decode cX12_works 361 = .ok (.iload 7, 2) := by decide +kernel
theorem dX12_works_363 : decode cX12_works 363 = .ok (.iastore, 1) := by decide +kernel
theorem dX12_works_364 : decode cX12_works 364 = .ok (.aload_n 0, 1) := by decide +kernel
theorem dX12_works_365 : decode cX12_works 365 = .ok (.getfield 53, 3) := by decide +kernel
theorem dX12_works_368 : decode cX12_works 368 = .ok (.iconst 2, 1) := by decide +kernel
theorem dX12_works_369 : decode cX12_works 369 = .ok (.iload 8, 2) := by decide +kernel
theorem dX12_works_371 : decode cX12_works 371 = .ok (.iastore, 1) := by decide +kernel
theorem dX12_works_372 : decode cX12_works 372 = .ok (.lload 4, 2) := by decide +kernel
theorem dX12_works_374 : decode cX12_works 374 = .ok (.lreturn, 1) := by decide +kernel
theorem dX12_worked_0 : decode cX12_worked 0 = .ok (.aload_n 0, 1) := by decide +kernel
theorem dX12_worked_1 : decode cX12_worked 1 = .ok (.iconst 0, 1) := by decide +kernel
theorem dX12_worked_2 : decode cX12_worked 2 = .ok (.putfield 69, 3) := by decide +kernel
theorem dX12_worked_5 : decode cX12_worked 5 = .ok (.aload_n 0, 1) := by decide +kernel
theorem dX12_worked_6 : decode cX12_worked 6 = .ok (.iconst 0, 1) := by decide +kernel
theorem dX12_worked_7 : decode cX12_worked 7 = .ok (.putfield 72, 3) := by decide +kernel
theorem dX12_worked_10 : decode cX12_worked 10 = .ok (.iload_n 1, 1) := by decide +kernel
theorem dX12_worked_11 : decode cX12_worked 11 = .ok (.i2l, 1) := by decide +kernel
theorem dX12_worked_12 : decode cX12_worked 12 = .ok (.lconst 0, 1) := by decide +kernel
theorem dX12_worked_13 : decode cX12_worked 13 = .ok (.ldc2_w 397, 3) := by decide +kernel
theorem dX12_worked_16 : decode cX12_worked 16 = .ok (.invokestatic 104, 3) := by decide +kernel
theorem dX12_worked_19 : decode cX12_worked 19 = .ok (.ifCond .ne 9, 3) := by decide +kernel
theorem dX12_worked_22 : decode cX12_worked 22 = .ok (.aload_n 0, 1) := by decide +kernel
theorem dX12_worked_23 : decode cX12_worked 23 = .ok (.iconst 5, 1) := by decide +kernel
theorem dX12_worked_24 : decode cX12_worked 24 = .ok (.invokevirtual 298, 3) := by decide +kernel
theorem dX12_worked_27 : decode cX12_worked 27 = .ok (.ireturn, 1) := by decide +kernel
theorem dX12_worked_28 : decode cX12_worked 28 = .ok (.aload_n 0, 1) := by decide +kernel
theorem dX12_worked_29 : decode cX12_worked 29 = .ok (.getfield 410, 3) := by decide +kernel
theorem dX12_worked_32 : decode cX12_worked 32 = .ok (.ifCond .eq 12, 3) := by decide +kernel
theorem dX12_worked_35 : decode cX12_worked 35 = .ok (.aload_n 0, 1) := by decide +kernel
theorem dX12_worked_36 : decode cX12_worked 36 = .ok (.getfield 53, 3) := by decide +kernel
theorem dX12_worked_39 : decode cX12_worked 39 = .ok (.iload_n 1, 1) := by decide +kernel
theorem dX12_worked_40 : decode cX12_worked 40 = .ok (.iaload, 1) := by decide +kernel
theorem dX12_worked_41 : decode cX12_worked 41 = .ok (.goto 9, 3) := by decide +kernel
theorem dX12_worked_44 : decode cX12_worked 44 = .ok (.aload_n 0, 1) := by decide +kernel
theorem dX12_worked_45 : decode cX12_worked 45 = .ok (.bipush 8, 2) := by decide +kernel
theorem dX12_worked_47 : decode cX12_worked 47 = .ok (.invokevirtual 298, 3) := by decide +kernel
theorem dX12_worked_50 : decode cX12_worked 50 = .ok (.ireturn, 1) := by decide +kernel
theorem dX12_isGame_0 : decode cX12_isGame 0 = .ok (.iload_n 1, 1) := by decide +kernel
theorem dX12_isGame_1 : decode cX12_isGame 1 = .ok (.i2l, 1) := by decide +kernel
theorem dX12_isGame_2 : decode cX12_isGame 2 = .ok (.lconst 0, 1) := by decide +kernel
theorem dX12_isGame_3 : decode cX12_isGame 3 = .ok (.ldc2_w 399, 3) := by decide +kernel
theorem dX12_isGame_6 : decode cX12_isGame 6 = .ok (.invokestatic 104, 3) := by decide +kernel
theorem dX12_isGame_9 : decode cX12_isGame 9 = .ok (.ifCond .eq 44, 3) := by decide +kernel
theorem dX12_isGame_12 : decode cX12_isGame 12 = .ok (.iload_n 2, 1) := by decide +kernel
theorem dX12_isGame_13 : decode cX12_isGame 13 = .ok (.i2l, 1) := by decide +kernel
theorem dX12_isGame_14 : decode cX12_isGame 14 = .ok (.lconst 0, 1) := by decide +kernel
theorem dX12_isGame_15 : decode cX12_isGame 15 = .ok (.ldc2_w 399, 3) := by decide +kernel
theorem dX12_isGame_18 : decode cX12_isGame 18 = .ok (.invokestatic 104, 3) := by decide +kernel
theorem dX12_isGame_21 : decode cX12_isGame 21 = .ok (.ifCond .eq 32, 3) := by decide +kernel
theorem dX12_isGame_24 : decode cX12_isGame 24 = .ok (.iload_n 3, 1) := by decide +kernel
theorem dX12_isGame_25 : decode cX12_isGame 25 = .ok (.i2l, 1) := by decide +kernel
theorem dX12_isGame_26 : decode cX12_isGame 26 = .ok (.lconst 1, 1) := by decide +kernel
theorem dX12_isGame_27 : decode cX12_isGame 27 = .ok (.ldc2_w 310, 3) := by decide +kernel
theorem dX12_isGame_30 : decode cX12_isGame 30 = .ok (.invokestatic 104, 3) := by decide +kernel
theorem dX12_isGame_33 : decode cX12_isGame 33 = .ok (.ifCond .eq 20, 3) := by decide +kernel
theorem dX12_isGame_36 : decode cX12_isGame 36 = .ok (.iload 4, 2) := by decide +kernel
theorem dX12_isGame_38 : decode cX12_isGame 38 = .ok (.i2l, 1) := by decide +kernel
theorem dX12_isGame_39 : decode cX12_isGame 39 = .ok (.lconst 0, 1) := by decide +kernel
theorem dX12_isGame_40 : decode cX12_isGame 40 = .ok (.ldc2_w 310, 3) := by decide +kernel
theorem dX12_isGame_43 : decode cX12_isGame 43 = .ok (.invokestatic 104, 3) := by decide +kernel
theorem dX12_isGame_46 : decode cX12_isGame 46 = .ok (.ifCond .eq 7, 3) := by decide +kernel
theorem dX12_isGame_49 : decode cX12_isGame 49 = .ok (.iconst 1, 1) := by decide +kernel
theorem dX12_isGame_50 : decode cX12_isGame 50 = .ok (.goto 4, 3) := by decide +kernel
theorem dX12_isGame_53 : decode cX12_isGame 53 = .ok (.iconst 0, 1) := by decide +kernel
theorem dX12_isGame_54 : decode cX12_isGame 54 = .ok (.ireturn, 1) := by decide +kernel
theorem dX12_mostRaise_0 : decode cX12_mostRaise 0 = .ok (.iload_n 2, 1) := by decide +kernel
theorem dX12_mostRaise_1 : decode cX12_mostRaise 1 = .ok (.bipush 12, 2) := by decide +kernel
theorem dX12_mostRaise_3 : decode cX12_mostRaise 3 = .ok (.iload_n 1, 1) := by decide +kernel
theorem dX12_mostRaise_4 : decode cX12_mostRaise 4 = .ok (.iload_n 3, 1) := by decide +kernel
theorem dX12_mostRaise_5 : decode cX12_mostRaise 5 = .ok (.iadd, 1) := by decide +kernel
theorem dX12_mostRaise_6 : decode cX12_mostRaise 6 = .ok (.invokestatic 320, 3) := by decide +kernel
theorem dX12_mostRaise_9 : decode cX12_mostRaise 9 = .ok (.iload_n 0, 1) := by decide +kernel
theorem dX12_mostRaise_10 : decode cX12_mostRaise 10 = .ok (.isub, 1) := by decide +kernel
theorem dX12_mostRaise_11 : decode cX12_mostRaise 11 = .ok (.invokestatic 320, 3) := by decide +kernel
theorem dX12_mostRaise_14 : decode cX12_mostRaise 14 = .ok (.ireturn, 1) := by decide +kernel
theorem dX12_wins_0 : decode cX12_wins 0 = .ok (.aload_n 0, 1) := by decide +kernel
theorem dX12_wins_1 : decode cX12_wins 1 = .ok (.iconst 0, 1) := by decide +kernel
theorem dX12_wins_2 : decode cX12_wins 2 = .ok (.putfield 69, 3) := by decide +kernel
theorem dX12_wins_5 : decode cX12_wins 5 = .ok (.aload_n 0, 1) := by decide +kernel
theorem dX12_wins_6 : decode cX12_wins 6 = .ok (.iconst 0, 1) := by decide +kernel
theorem dX12_wins_7 : decode cX12_wins 7 = .ok (.putfield 72, 3) := by decide +kernel
theorem dX12_wins_10 : decode cX12_wins 10 = .ok (.aload_n 0, 1) := by decide +kernel
theorem dX12_wins_11 : decode cX12_wins 11 = .ok (.iload_n 1, 1) := by decide +kernel
theorem dX12_wins_12 : decode cX12_wins 12 = .ok (.iload_n 2, 1) := by decide +kernel
theorem dX12_wins_13 : decode cX12_wins 13 = .ok (.iload_n 3, 1) := by decide +kernel
theorem dX12_wins_14 : decode cX12_wins 14 = .ok (.iload 4, 2) := by decide +kernel
theorem dX12_wins_16 : decode cX12_wins 16 = .ok (.invokevirtual 414, 3) := by decide +kernel
theorem dX12_wins_19 : decode cX12_wins 19 = .ok (.ifCond .ne 9, 3) := by decide +kernel
theorem dX12_wins_22 : decode cX12_wins 22 = .ok (.aload_n 0, 1) := by decide +kernel
theorem dX12_wins_23 : decode cX12_wins 23 = .ok (.iconst 5, 1) := by decide +kernel
theorem dX12_wins_24 : decode cX12_wins 24 = .ok (.invokevirtual 298, 3) := by decide +kernel
theorem dX12_wins_27 : decode cX12_wins 27 = .ok (.ireturn, 1) := by decide +kernel
theorem dX12_wins_28 : decode cX12_wins 28 = .ok (.bipush 24, 2) := by decide +kernel
theorem dX12_wins_30 : decode cX12_wins 30 = .ok (.istore 5, 2) := by decide +kernel
theorem dX12_wins_32 : decode cX12_wins 32 = .ok (.iload 5, 2) := by decide +kernel
theorem dX12_wins_34 : decode cX12_wins 34 = .ok (.iload_n 1, 1) := by decide +kernel
theorem dX12_wins_35 : decode cX12_wins 35 = .ok (.iload_n 2, 1) := by decide +kernel
theorem dX12_wins_36 : decode cX12_wins 36 = .ok (.iadd, 1) := by decide +kernel
theorem dX12_wins_37 : decode cX12_wins 37 = .ok (.if_icmp .lt 118, 3) := by decide +kernel
theorem dX12_wins_40 : decode cX12_wins 40 = .ok (.iconst 0, 1) := by decide +kernel
theorem dX12_wins_41 : decode cX12_wins 41 = .ok (.iload 5, 2) := by decide +kernel
theorem dX12_wins_43 : decode cX12_wins 43 = .ok (.bipush 12, 2) := by decide +kernel
theorem dX12_wins_45 : decode cX12_wins 45 = .ok (.isub, 1) := by decide +kernel
theorem dX12_wins_46 : decode cX12_wins 46 = .ok (.invokestatic 312, 3) := by decide +kernel
theorem dX12_wins_49 : decode cX12_wins 49 = .ok (.istore 6, 2) := by decide +kernel
theorem dX12_wins_51 : decode cX12_wins 51 = .ok (.iload 6, 2) := by decide +kernel
theorem dX12_wins_53 : decode cX12_wins 53 = .ok (.bipush 12, 2) := by decide +kernel
theorem dX12_wins_55 : decode cX12_wins 55 = .ok (.iload 5, 2) := by decide +kernel
theorem dX12_wins_57 : decode cX12_wins 57 = .ok (.invokestatic 320, 3) := by decide +kernel
theorem dX12_wins_60 : decode cX12_wins 60 = .ok (.if_icmp .gt 89, 3) := by decide +kernel
theorem dX12_wins_63 : decode cX12_wins 63 = .ok (.iload 5, 2) := by decide +kernel
theorem dX12_wins_65 : decode cX12_wins 65 = .ok (.iload 6, 2) := by decide +kernel
theorem dX12_wins_67 : decode cX12_wins 67 = .ok (.isub, 1) := by decide +kernel
theorem dX12_wins_68 : decode cX12_wins 68 = .ok (.istore 7, 2) := by decide +kernel
theorem dX12_wins_70 : decode cX12_wins 70 = .ok (.iconst 0, 1) := by decide +kernel
theorem dX12_wins_71 : decode cX12_wins 71 = .ok (.istore 8, 2) := by decide +kernel
theorem dX12_wins_73 : decode cX12_wins 73 = .ok (.iconst 1, 1) := by decide +kernel
theorem dX12_wins_74 : decode cX12_wins 74 = .ok (.istore 9, 2) := by decide +kernel
theorem dX12_wins_76 : decode cX12_wins 76 = .ok (.iload 9, 2) := by decide +kernel
theorem dX12_wins_78 : decode cX12_wins 78 = .ok (.iload 6, 2) := by decide +kernel
theorem dX12_wins_80 : decode cX12_wins 80 = .ok (.iload 7, 2) := by decide +kernel
theorem dX12_wins_82 : decode cX12_wins 82 = .ok (.iload_n 3, 1) := by decide +kernel
theorem dX12_wins_83 : decode cX12_wins 83 = .ok (.iload 4, 2) := by decide +kernel
theorem dX12_wins_85 : decode cX12_wins 85 = .ok (.invokestatic 418, 3) := by decide +kernel
theorem dX12_wins_88 : decode cX12_wins 88 = .ok (.if_icmp .gt 40, 3) := by decide +kernel
theorem dX12_wins_91 : decode cX12_wins 91 = .ok (.iload 8, 2) := by decide +kernel
theorem dX12_wins_93 : decode cX12_wins 93 = .ok (.ifCond .ne 22, 3) := by decide +kernel
theorem dX12_wins_96 : decode cX12_wins 96 = .ok (.aload_n 0, 1) := by decide +kernel
theorem dX12_wins_97 : decode cX12_wins 97 = .ok (.getfield 56, 3) := by decide +kernel
theorem dX12_wins_100 : decode cX12_wins 100 = .ok (.bipush 13, 2) := by decide +kernel
theorem dX12_wins_102 : decode cX12_wins 102 = .ok (.iload 7, 2) := by decide +kernel
theorem dX12_wins_104 : decode cX12_wins 104 = .ok (.imul, 1) := by decide +kernel
theorem dX12_wins_105 : decode cX12_wins 105 = .ok (.iload 6, 2) := by decide +kernel
theorem dX12_wins_107 : decode cX12_wins 107 = .ok (.iadd, 1) := by decide +kernel
theorem dX12_wins_108 : decode cX12_wins 108 = .ok (.iload 9, 2) := by decide +kernel
theorem dX12_wins_110 : decode cX12_wins 110 = .ok (.iadd, 1) := by decide +kernel
theorem dX12_wins_111 : decode cX12_wins 111 = .ok (.baload, 1) := by decide +kernel
theorem dX12_wins_112 : decode cX12_wins 112 = .ok (.ifCond .ne 7, 3) := by decide +kernel
theorem dX12_wins_115 : decode cX12_wins 115 = .ok (.iconst 1, 1) := by decide +kernel
theorem dX12_wins_116 : decode cX12_wins 116 = .ok (.goto 4, 3) := by decide +kernel
theorem dX12_wins_119 : decode cX12_wins 119 = .ok (.iconst 0, 1) := by decide +kernel
theorem dX12_wins_120 : decode cX12_wins 120 = .ok (.istore 8, 2) := by decide +kernel
theorem dX12_wins_122 : decode cX12_wins 122 = .ok (.iinc 9 1, 3) := by decide +kernel
theorem dX12_wins_125 : decode cX12_wins 125 = .ok (.goto (-49), 3) := by decide +kernel
theorem dX12_wins_128 : decode cX12_wins 128 = .ok (.aload_n 0, 1) := by decide +kernel
theorem dX12_wins_129 : decode cX12_wins 129 = .ok (.getfield 56, 3) := by decide +kernel
theorem dX12_wins_132 : decode cX12_wins 132 = .ok (.bipush 13, 2) := by decide +kernel
theorem dX12_wins_134 : decode cX12_wins 134 = .ok (.iload 6, 2) := by decide +kernel
theorem dX12_wins_136 : decode cX12_wins 136 = .ok (.imul, 1) := by decide +kernel
theorem dX12_wins_137 : decode cX12_wins 137 = .ok (.iload 7, 2) := by decide +kernel
theorem dX12_wins_139 : decode cX12_wins 139 = .ok (.iadd, 1) := by decide +kernel
theorem dX12_wins_140 : decode cX12_wins 140 = .ok (.iload 8, 2) := by decide +kernel
theorem dX12_wins_142 : decode cX12_wins 142 = .ok (.bastore, 1) := by decide +kernel
theorem dX12_wins_143 : decode cX12_wins 143 = .ok (.iinc 6 1, 3) := by decide +kernel
theorem dX12_wins_146 : decode cX12_wins 146 = .ok (.goto (-95), 3) := by decide +kernel
theorem dX12_wins_149 : decode cX12_wins 149 = .ok (.iinc 5 (-1), 3) := by decide +kernel
theorem dX12_wins_152 : decode cX12_wins 152 = .ok (.goto (-120), 3) := by decide +kernel
theorem dX12_wins_155 : decode cX12_wins 155 = .ok (.iconst 1, 1) := by decide +kernel
theorem dX12_wins_156 : decode cX12_wins 156 = .ok (.istore 5, 2) := by decide +kernel
theorem dX12_wins_158 : decode cX12_wins 158 = .ok (.iload 5, 2) := by decide +kernel
theorem dX12_wins_160 : decode cX12_wins 160 = .ok (.iload_n 1, 1) := by decide +kernel
theorem dX12_wins_161 : decode cX12_wins 161 = .ok (.iload_n 2, 1) := by decide +kernel
theorem dX12_wins_162 : decode cX12_wins 162 = .ok (.iload_n 3, 1) := by decide +kernel
theorem dX12_wins_163 : decode cX12_wins 163 = .ok (.iload 4, 2) := by decide +kernel
theorem dX12_wins_165 : decode cX12_wins 165 = .ok (.invokestatic 418, 3) := by decide +kernel
theorem dX12_wins_168 : decode cX12_wins 168 = .ok (.if_icmp .gt 29, 3) := by decide +kernel
theorem dX12_wins_171 : decode cX12_wins 171 = .ok (.aload_n 0, 1) := by decide +kernel
theorem dX12_wins_172 : decode cX12_wins 172 = .ok (.getfield 56, 3) := by decide +kernel
theorem dX12_wins_175 : decode cX12_wins 175 = .ok (.bipush 13, 2) := by decide +kernel
theorem dX12_wins_177 : decode cX12_wins 177 = .ok (.iload_n 2, 1) := by decide +kernel
theorem dX12_wins_178 : decode cX12_wins 178 = .ok (.imul, 1) := by decide +kernel
theorem dX12_wins_179 : decode cX12_wins 179 = .ok (.iload_n 1, 1) := by decide +kernel
theorem dX12_wins_180 : decode cX12_wins 180 = .ok (.iadd, 1) := by decide +kernel
theorem dX12_wins_181 : decode cX12_wins 181 = .ok (.iload 5, 2) := by decide +kernel
theorem dX12_wins_183 : decode cX12_wins 183 = .ok (.iadd, 1) := by decide +kernel
theorem dX12_wins_184 : decode cX12_wins 184 = .ok (.baload, 1) := by decide +kernel
theorem dX12_wins_185 : decode cX12_wins 185 = .ok (.ifCond .ne 6, 3) := by decide +kernel
theorem dX12_wins_188 : decode cX12_wins 188 = .ok (.iload 5, 2) := by decide +kernel
theorem dX12_wins_190 : decode cX12_wins 190 = .ok (.ireturn, 1) := by decide +kernel
theorem dX12_wins_191 : decode cX12_wins 191 = .ok (.iinc 5 1, 3) := by decide +kernel
theorem dX12_wins_194 : decode cX12_wins 194 = .ok (.goto (-36), 3) := by decide +kernel
theorem dX12_wins_197 : decode cX12_wins 197 = .ok (.iconst 0, 1) := by decide +kernel
theorem dX12_wins_198 : decode cX12_wins 198 = .ok (.ireturn, 1) := by decide +kernel
theorem dX12_turns_0 : decode cX12_turns 0 = .ok (.aload_n 0, 1) := by decide +kernel
theorem dX12_turns_1 : decode cX12_turns 1 = .ok (.iconst 0, 1) := by decide +kernel
theorem dX12_turns_2 : decode cX12_turns 2 = .ok (.putfield 69, 3) := by decide +kernel
theorem dX12_turns_5 : decode cX12_turns 5 = .ok (.aload_n 0, 1) := by decide +kernel
theorem dX12_turns_6 : decode cX12_turns 6 = .ok (.iconst 0, 1) := by decide +kernel
theorem dX12_turns_7 : decode cX12_turns 7 = .ok (.putfield 72, 3) := by decide +kernel
theorem dX12_turns_10 : decode cX12_turns 10 = .ok (.aload_n 0, 1) := by decide +kernel
theorem dX12_turns_11 : decode cX12_turns 11 = .ok (.iload_n 1, 1) := by decide +kernel
theorem dX12_turns_12 : decode cX12_turns 12 = .ok (.iload_n 2, 1) := by decide +kernel
theorem dX12_turns_13 : decode cX12_turns 13 = .ok (.iload_n 3, 1) := by decide +kernel
theorem dX12_turns_14 : decode cX12_turns 14 = .ok (.iload 4, 2) := by decide +kernel
theorem dX12_turns_16 : decode cX12_turns 16 = .ok (.invokevirtual 414, 3) := by decide +kernel
theorem dX12_turns_19 : decode cX12_turns 19 = .ok (.ifCond .ne 9, 3) := by decide +kernel
theorem dX12_turns_22 : decode cX12_turns 22 = .ok (.aload_n 0, 1) := by decide +kernel
theorem dX12_turns_23 : decode cX12_turns 23 = .ok (.iconst 5, 1) := by decide +kernel
theorem dX12_turns_24 : decode cX12_turns 24 = .ok (.invokevirtual 298, 3) := by decide +kernel
theorem dX12_turns_27 : decode cX12_turns 27 = .ok (.ireturn, 1) := by decide +kernel
theorem dX12_turns_28 : decode cX12_turns 28 = .ok (.iload_n 1, 1) := by decide +kernel
theorem dX12_turns_29 : decode cX12_turns 29 = .ok (.istore 5, 2) := by decide +kernel
theorem dX12_turns_31 : decode cX12_turns 31 = .ok (.iload_n 2, 1) := by decide +kernel
theorem dX12_turns_32 : decode cX12_turns 32 = .ok (.istore 6, 2) := by decide +kernel
theorem dX12_turns_34 : decode cX12_turns 34 = .ok (.iconst 0, 1) := by decide +kernel
theorem dX12_turns_35 : decode cX12_turns 35 = .ok (.istore 7, 2) := by decide +kernel
theorem dX12_turns_37 : decode cX12_turns 37 = .ok (.iload 5, 2) := by decide +kernel
theorem dX12_turns_39 : decode cX12_turns 39 = .ok (.iload 6, 2) := by decide +kernel
theorem dX12_turns_41 : decode cX12_turns 41 = .ok (.iload_n 3, 1) := by decide +kernel
theorem dX12_turns_42 : decode cX12_turns 42 = .ok (.iload 4, 2) := by decide +kernel
theorem dX12_turns_44 : decode cX12_turns 44 = .ok (.invokestatic 418, 3) := by decide +kernel
theorem dX12_turns_47 : decode cX12_turns 47 = .ok (.ifCond .le 32, 3) := by decide +kernel
theorem dX12_turns_50 : decode cX12_turns 50 = .ok (.iload 5, 2) := by decide +kernel
theorem dX12_turns_52 : decode cX12_turns 52 = .ok (.iload 5, 2) := by decide +kernel
theorem dX12_turns_54 : decode cX12_turns 54 = .ok (.iload 6, 2) := by decide +kernel
theorem dX12_turns_56 : decode cX12_turns 56 = .ok (.iload_n 3, 1) := by decide +kernel
theorem dX12_turns_57 : decode cX12_turns 57 = .ok (.iload 4, 2) := by decide +kernel
theorem dX12_turns_59 : decode cX12_turns 59 = .ok (.invokestatic 418, 3) := by decide +kernel
theorem dX12_turns_62 : decode cX12_turns 62 = .ok (.iadd, 1) := by decide +kernel
theorem dX12_turns_63 : decode cX12_turns 63 = .ok (.istore 8, 2) := by decide +kernel
theorem dX12_turns_65 : decode cX12_turns 65 = .ok (.iload 6, 2) := by decide +kernel
theorem dX12_turns_67 : decode cX12_turns 67 = .ok (.istore 5, 2) := by decide +kernel
theorem dX12_turns_69 : decode cX12_turns 69 = .ok (.iload 8, 2) := by decide +kernel
theorem dX12_turns_71 : decode cX12_turns 71 = .ok (.istore 6, 2) := by decide +kernel
theorem dX12_turns_73 : decode cX12_turns 73 = .ok (.iinc 7 1, 3) := by decide +kernel
theorem dX12_turns_76 : decode cX12_turns 76 = .ok (.goto (-39), 3) := by decide +kernel
theorem dX12_turns_79 : decode cX12_turns 79 = .ok (.iload 7, 2) := by decide +kernel
theorem dX12_turns_81 : decode cX12_turns 81 = .ok (.ireturn, 1) := by decide +kernel
theorem dX12_reckons_0 : decode cX12_reckons 0 = .ok (.aload_n 0, 1) := by decide +kernel
theorem dX12_reckons_1 : decode cX12_reckons 1 = .ok (.iload_n 3, 1) := by decide +kernel
theorem dX12_reckons_2 : decode cX12_reckons 2 = .ok (.invokevirtual 394, 3) := by decide +kernel
theorem dX12_reckons_5 : decode cX12_reckons 5 = .ok (.ifCond .ne 5, 3) := by decide +kernel
theorem dX12_reckons_8 : decode cX12_reckons 8 = .ok (.iconst 1, 1) := by decide +kernel
theorem dX12_reckons_9 : decode cX12_reckons 9 = .ok (.ireturn, 1) := by decide +kernel
theorem dX12_reckons_10 : decode cX12_reckons 10 = .ok (.aload_n 0, 1) := by decide +kernel
theorem dX12_reckons_11 : decode cX12_reckons 11 = .ok (.getfield 17, 3) := by decide +kernel
theorem dX12_reckons_14 : decode cX12_reckons 14 = .ok (.iload_n 3, 1) := by decide +kernel
theorem dX12_reckons_15 : decode cX12_reckons 15 = .ok (.iaload, 1) := by decide +kernel
theorem dX12_reckons_16 : decode cX12_reckons 16 = .ok (.ifCond .ge 5, 3) := by decide +kernel
theorem dX12_reckons_19 : decode cX12_reckons 19 = .ok (.iconst 3, 1) := by decide +kernel
theorem dX12_reckons_20 : decode cX12_reckons 20 = .ok (.ireturn, 1) := by decide +kernel
theorem dX12_reckons_21 : decode cX12_reckons 21 = .ok (.aload_n 0, 1) := by decide +kernel
theorem dX12_reckons_22 : decode cX12_reckons 22 = .ok (.getfield 17, 3) := by decide +kernel
theorem dX12_reckons_25 : decode cX12_reckons 25 = .ok (.iload_n 3, 1) := by decide +kernel
theorem dX12_reckons_26 : decode cX12_reckons 26 = .ok (.iaload, 1) := by decide +kernel
theorem dX12_reckons_27 : decode cX12_reckons 27 = .ok (.iconst 4, 1) := by decide +kernel
theorem dX12_reckons_28 : decode cX12_reckons 28 = .ok (.if_icmp .ge 5, 3) := by decide +kernel
theorem dX12_reckons_31 : decode cX12_reckons 31 = .ok (.iconst 4, 1) := by decide +kernel
theorem dX12_reckons_32 : decode cX12_reckons 32 = .ok (.ireturn, 1) := by decide +kernel
theorem dX12_reckons_33 : decode cX12_reckons 33 = .ok (.iload_n 1, 1) := by decide +kernel
theorem dX12_reckons_34 : decode cX12_reckons 34 = .ok (.i2l, 1) := by decide +kernel
theorem dX12_reckons_35 : decode cX12_reckons 35 = .ok (.lconst 1, 1) := by decide +kernel
theorem dX12_reckons_36 : decode cX12_reckons 36 = .ok (.ldc2_w 364, 3) := by decide +kernel
theorem dX12_reckons_39 : decode cX12_reckons 39 = .ok (.invokestatic 104, 3) := by decide +kernel
theorem dX12_reckons_42 : decode cX12_reckons 42 = .ok (.ifCond .eq 15, 3) := by decide +kernel
theorem dX12_reckons_45 : decode cX12_reckons 45 = .ok (.iload_n 2, 1) := by decide +kernel
theorem dX12_reckons_46 : decode cX12_reckons 46 = .ok (.i2l, 1) := by decide +kernel
theorem dX12_reckons_47 : decode cX12_reckons 47 = .ok (.lconst 1, 1) := by decide +kernel
theorem dX12_reckons_48 : decode cX12_reckons 48 = .ok (.ldc2_w 422, 3) := by decide +kernel
theorem dX12_reckons_51 : decode cX12_reckons 51 = .ok (.invokestatic 104, 3) := by decide +kernel
theorem dX12_reckons_54 : decode cX12_reckons 54 = .ok (.ifCond .ne 5, 3) := by decide +kernel
theorem dX12_reckons_57 : decode cX12_reckons 57 = .ok (.iconst 5, 1) := by decide +kernel
theorem dX12_reckons_58 : decode cX12_reckons 58 = .ok (.ireturn, 1) := by decide +kernel
theorem dX12_reckons_59 : decode cX12_reckons 59 = .ok (.lconst 0, 1) := by decide +kernel
theorem dX12_reckons_60 : decode cX12_reckons 60 = .ok (.lstore 4, 2) := by decide +kernel
theorem dX12_reckons_62 : decode cX12_reckons 62 = .ok (.iconst 0, 1) := by decide +kernel
theorem dX12_reckons_63 : decode cX12_reckons 63 = .ok (.istore 6, 2) := by decide +kernel
theorem dX12_reckons_65 : decode cX12_reckons 65 = .ok (.iload 6, 2) := by decide +kernel
theorem dX12_reckons_67 : decode cX12_reckons 67 = .ok (.iconst 4, 1) := by decide +kernel
theorem dX12_reckons_68 : decode cX12_reckons 68 = .ok (.if_icmp .ge 40, 3) := by decide +kernel
theorem dX12_reckons_71 : decode cX12_reckons 71 = .ok (.aload_n 0, 1) := by decide +kernel
theorem dX12_reckons_72 : decode cX12_reckons 72 = .ok (.iload_n 3, 1) := by decide +kernel
theorem dX12_reckons_73 : decode cX12_reckons 73 = .ok (.iload 6, 2) := by decide +kernel
theorem dX12_reckons_75 : decode cX12_reckons 75 = .ok (.invokevirtual 401, 3) := by decide +kernel
theorem dX12_reckons_78 : decode cX12_reckons 78 = .ok (.lconst 0, 1) := by decide +kernel
theorem dX12_reckons_79 : decode cX12_reckons 79 = .ok (.ldc2_w 424, 3) := by decide +kernel
theorem dX12_reckons_82 : decode cX12_reckons 82 = .ok (.invokestatic 104, 3) := by decide +kernel
theorem dX12_reckons_85 : decode cX12_reckons 85 = .ok (.ifCond .ne 5, 3) := by decide +kernel
theorem dX12_reckons_88 : decode cX12_reckons 88 = .ok (.iconst 5, 1) := by decide +kernel
theorem dX12_reckons_89 : decode cX12_reckons 89 = .ok (.ireturn, 1) := by decide +kernel
theorem dX12_reckons_90 : decode cX12_reckons 90 = .ok (.lload 4, 2) := by decide +kernel
theorem dX12_reckons_92 : decode cX12_reckons 92 = .ok (.aload_n 0, 1) := by decide +kernel
theorem dX12_reckons_93 : decode cX12_reckons 93 = .ok (.iload_n 3, 1) := by decide +kernel
theorem dX12_reckons_94 : decode cX12_reckons 94 = .ok (.iload 6, 2) := by decide +kernel
theorem dX12_reckons_96 : decode cX12_reckons 96 = .ok (.invokevirtual 401, 3) := by decide +kernel
theorem dX12_reckons_99 : decode cX12_reckons 99 = .ok (.ladd, 1) := by decide +kernel
theorem dX12_reckons_100 : decode cX12_reckons 100 = .ok (.lstore 4, 2) := by decide +kernel
theorem dX12_reckons_102 : decode cX12_reckons 102 = .ok (.iinc 6 1, 3) := by decide +kernel
theorem dX12_reckons_105 : decode cX12_reckons 105 = .ok (.goto (-40), 3) := by decide +kernel
theorem dX12_reckons_108 : decode cX12_reckons 108 = .ok (.lload 4, 2) := by decide +kernel
theorem dX12_reckons_110 : decode cX12_reckons 110 = .ok (.ldc2_w 424, 3) := by decide +kernel
theorem dX12_reckons_113 : decode cX12_reckons 113 = .ok (.lcmp, 1) := by decide +kernel
theorem dX12_reckons_114 : decode cX12_reckons 114 = .ok (.ifCond .eq 5, 3) := by decide +kernel
theorem dX12_reckons_117 : decode cX12_reckons 117 = .ok (.iconst 5, 1) := by decide +kernel
theorem dX12_reckons_118 : decode cX12_reckons 118 = .ok (.ireturn, 1) := by decide +kernel
theorem dX12_reckons_119 : decode cX12_reckons 119 = .ok (.iconst 0, 1) := by decide +kernel
theorem dX12_reckons_120 : decode cX12_reckons 120 = .ok (.istore 6, 2) := by decide +kernel
theorem dX12_reckons_122 : decode cX12_reckons 122 = .ok (.iload 6, 2) := by decide +kernel
theorem dX12_reckons_124 : decode cX12_reckons 124 = .ok (.bipush 100, 2) := by decide +kernel
theorem dX12_reckons_126 : decode cX12_reckons 126 = .ok (.if_icmp .ge 27, 3) := by decide +kernel
theorem dX12_reckons_129 : decode cX12_reckons 129 = .ok (.aload_n 0, 1) := by decide +kernel
theorem dX12_reckons_130 : decode cX12_reckons 130 = .ok (.getfield 60, 3) := by decide +kernel
theorem dX12_reckons_133 : decode cX12_reckons 133 = .ok (.iload 6, 2) := by decide +kernel
theorem dX12_reckons_135 : decode cX12_reckons 135 = .ok (.iload 6, 2) := by decide +kernel
theorem dX12_reckons_137 : decode cX12_reckons 137 = .ok (.iload_n 1, 1) := by decide +kernel
theorem dX12_reckons_138 : decode cX12_reckons 138 = .ok (.if_icmp .ne 7, 3) := by decide +kernel
theorem dX12_reckons_141 : decode cX12_reckons 141 = .ok (.lconst 1, 1) := by decide +kernel
theorem dX12_reckons_142 : decode cX12_reckons 142 = .ok (.goto 4, 3) := by decide +kernel
theorem dX12_reckons_145 : decode cX12_reckons 145 = .ok (.lconst 0, 1) := by decide +kernel
theorem dX12_reckons_146 : decode cX12_reckons 146 = .ok (.lastore, 1) := by decide +kernel
theorem dX12_reckons_147 : decode cX12_reckons 147 = .ok (.iinc 6 1, 3) := by decide +kernel
theorem dX12_reckons_150 : decode cX12_reckons 150 = .ok (.goto (-28), 3) := by decide +kernel
theorem dX12_reckons_153 : decode cX12_reckons 153 = .ok (.iconst 0, 1) := by decide +kernel
theorem dX12_reckons_154 : decode cX12_reckons 154 = .ok (.istore 6, 2) := by decide +kernel
theorem dX12_reckons_156 : decode cX12_reckons 156 = .ok (.iload 6, 2) := by decide +kernel
theorem dX12_reckons_158 : decode cX12_reckons 158 = .ok (.iload_n 2, 1) := by decide +kernel
theorem dX12_reckons_159 : decode cX12_reckons 159 = .ok (.if_icmp .ge 126, 3) := by decide +kernel
theorem dX12_reckons_162 : decode cX12_reckons 162 = .ok (.iconst 0, 1) := by decide +kernel
theorem dX12_reckons_163 : decode cX12_reckons 163 = .ok (.istore 7, 2) := by decide +kernel
theorem dX12_reckons_165 : decode cX12_reckons 165 = .ok (.iload 7, 2) := by decide +kernel
theorem dX12_reckons_167 : decode cX12_reckons 167 = .ok (.bipush 100, 2) := by decide +kernel
theorem dX12_reckons_169 : decode cX12_reckons 169 = .ok (.if_icmp .ge 17, 3) := by decide +kernel
theorem dX12_reckons_172 : decode cX12_reckons 172 = .ok (.aload_n 0, 1) := by decide +kernel
theorem dX12_reckons_173 : decode cX12_reckons 173 = .ok (.getfield 63, 3) := by decide +kernel
theorem dX12_reckons_176 : decode cX12_reckons 176 = .ok (.iload 7, 2) := by decide +kernel
theorem dX12_reckons_178 : decode cX12_reckons 178 = .ok (.lconst 0, 1) := by decide +kernel
theorem dX12_reckons_179 : decode cX12_reckons 179 = .ok (.lastore, 1) := by decide +kernel
theorem dX12_reckons_180 : decode cX12_reckons 180 = .ok (.iinc 7 1, 3) := by decide +kernel
theorem dX12_reckons_183 : decode cX12_reckons 183 = .ok (.goto (-18), 3) := by decide +kernel
theorem dX12_reckons_186 : decode cX12_reckons 186 = .ok (.iconst 0, 1) := by decide +kernel
theorem dX12_reckons_187 : decode cX12_reckons 187 = .ok (.istore 7, 2) := by decide +kernel
theorem dX12_reckons_189 : decode cX12_reckons 189 = .ok (.iload 7, 2) := by decide +kernel
theorem dX12_reckons_191 : decode cX12_reckons 191 = .ok (.bipush 100, 2) := by decide +kernel
theorem dX12_reckons_193 : decode cX12_reckons 193 = .ok (.if_icmp .ge 56, 3) := by decide +kernel
theorem dX12_reckons_196 : decode cX12_reckons 196 = .ok (.iconst 0, 1) := by decide +kernel
theorem dX12_reckons_197 : decode cX12_reckons 197 = .ok (.istore 8, 2) := by decide +kernel
theorem dX12_reckons_199 : decode cX12_reckons 199 = .ok (.iload 8, 2) := by decide +kernel
theorem dX12_reckons_201 : decode cX12_reckons 201 = .ok (.iconst 4, 1) := by decide +kernel
theorem dX12_reckons_202 : decode cX12_reckons 202 = .ok (.if_icmp .ge 41, 3) := by decide +kernel
theorem dX12_reckons_205 : decode cX12_reckons 205 = .ok (.aload_n 0, 1) := by decide +kernel
theorem dX12_reckons_206 : decode cX12_reckons 206 = .ok (.getfield 63, 3) := by decide +kernel
theorem dX12_reckons_209 : decode cX12_reckons 209 = .ok (.iconst 0, 1) := by decide +kernel
theorem dX12_reckons_210 : decode cX12_reckons 210 = .ok (.iload 7, 2) := by decide +kernel
theorem dX12_reckons_212 : decode cX12_reckons 212 = .ok (.iload 8, 2) := by decide +kernel
theorem dX12_reckons_214 : decode cX12_reckons 214 = .ok (.isub, 1) := by decide +kernel
theorem dX12_reckons_215 : decode cX12_reckons 215 = .ok (.invokestatic 312, 3) := by decide +kernel
theorem dX12_reckons_218 : decode cX12_reckons 218 = .ok (.dup2, 1) := by decide +kernel
theorem dX12_reckons_219 : decode cX12_reckons 219 = .ok (.laload, 1) := by decide +kernel
theorem dX12_reckons_220 : decode cX12_reckons 220 = .ok (.aload_n 0, 1) := by decide +kernel
theorem dX12_reckons_221 : decode cX12_reckons 221 = .ok (.getfield 60, 3) := by decide +kernel
theorem dX12_reckons_224 : decode cX12_reckons 224 = .ok (.iload 7, 2) := by decide +kernel
theorem dX12_reckons_226 : decode cX12_reckons 226 = .ok (.laload, 1) := by decide +kernel
theorem dX12_reckons_227 : decode cX12_reckons 227 = .ok (.aload_n 0, 1) := by decide +kernel
theorem dX12_reckons_228 : decode cX12_reckons 228 = .ok (.iload_n 3, 1) := by decide +kernel
theorem dX12_reckons_229 : decode cX12_reckons 229 = .ok (.iload 8, 2) := by decide +kernel
theorem dX12_reckons_231 : decode cX12_reckons 231 = .ok (.invokevirtual 401, 3) := by decide +kernel
theorem dX12_reckons_234 : decode cX12_reckons 234 = .ok (.lmul, 1) := by decide +kernel
theorem dX12_reckons_235 : decode cX12_reckons 235 = .ok (.ladd, 1) := by decide +kernel
theorem dX12_reckons_236 : decode cX12_reckons 236 = .ok (.lastore, 1) := by decide +kernel
theorem dX12_reckons_237 : decode cX12_reckons 237 = .ok (.iinc 8 1, 3) := by decide +kernel
theorem dX12_reckons_240 : decode cX12_reckons 240 = .ok (.goto (-41), 3) := by decide +kernel
theorem dX12_reckons_243 : decode cX12_reckons 243 = .ok (.iinc 7 1, 3) := by decide +kernel
theorem dX12_reckons_246 : decode cX12_reckons 246 = .ok (.goto (-57), 3) := by decide +kernel
theorem dX12_reckons_249 : decode cX12_reckons 249 = .ok (.iconst 0, 1) := by decide +kernel
theorem dX12_reckons_250 : decode cX12_reckons 250 = .ok (.istore 7, 2) := by decide +kernel
theorem dX12_reckons_252 : decode cX12_reckons 252 = .ok (.iload 7, 2) := by decide +kernel
theorem dX12_reckons_254 : decode cX12_reckons 254 = .ok (.bipush 100, 2) := by decide +kernel
theorem dX12_reckons_256 : decode cX12_reckons 256 = .ok (.if_icmp .ge 23, 3) := by decide +kernel
theorem dX12_reckons_259 : decode cX12_reckons 259 = .ok (.aload_n 0, 1) := by decide +kernel
theorem dX12_reckons_260 : decode cX12_reckons 260 = .ok (.getfield 60, 3) := by decide +kernel
theorem dX12_reckons_263 : decode cX12_reckons 263 = .ok (.iload 7, 2) := by decide +kernel
theorem dX12_reckons_265 : decode cX12_reckons 265 = .ok (.aload_n 0, 1) := by decide +kernel
theorem dX12_reckons_266 : decode cX12_reckons 266 = .ok (.getfield 63, 3) := by decide +kernel
theorem dX12_reckons_269 : decode cX12_reckons 269 = .ok (.iload 7, 2) := by decide +kernel
theorem dX12_reckons_271 : decode cX12_reckons 271 = .ok (.laload, 1) := by decide +kernel
theorem dX12_reckons_272 : decode cX12_reckons 272 = .ok (.lastore, 1) := by decide +kernel
theorem dX12_reckons_273 : decode cX12_reckons 273 = .ok (.iinc 7 1, 3) := by decide +kernel
theorem dX12_reckons_276 : decode cX12_reckons 276 = .ok (.goto (-24), 3) := by decide +kernel
theorem dX12_reckons_279 : decode cX12_reckons 279 = .ok (.iinc 6 1, 3) := by decide +kernel
theorem dX12_reckons_282 : decode cX12_reckons 282 = .ok (.goto (-126), 3) := by decide +kernel
theorem dX12_reckons_285 : decode cX12_reckons 285 = .ok (.iconst 0, 1) := by decide +kernel
theorem dX12_reckons_286 : decode cX12_reckons 286 = .ok (.ireturn, 1) := by decide +kernel
theorem dX12_power_0 : decode cX12_power 0 = .ok (.lconst 1, 1) := by decide +kernel
theorem dX12_power_1 : decode cX12_power 1 = .ok (.lstore_n 1, 1) := by decide +kernel
theorem dX12_power_2 : decode cX12_power 2 = .ok (.iconst 0, 1) := by decide +kernel
theorem dX12_power_3 : decode cX12_power 3 = .ok (.istore_n 3, 1) := by decide +kernel
theorem dX12_power_4 : decode cX12_power 4 = .ok (.iload_n 3, 1) := by decide +kernel
theorem dX12_power_5 : decode cX12_power 5 = .ok (.iload_n 0, 1) := by decide +kernel
theorem dX12_power_6 : decode cX12_power 6 = .ok (.if_icmp .ge 15, 3) := by decide +kernel
theorem dX12_power_9 : decode cX12_power 9 = .ok (.lload_n 1, 1) := by decide +kernel
theorem dX12_power_10 : decode cX12_power 10 = .ok (.ldc2_w 424, 3) := by decide +kernel
theorem dX12_power_13 : decode cX12_power 13 = .ok (.lmul, 1) := by decide +kernel
theorem dX12_power_14 : decode cX12_power 14 = .ok (.lstore_n 1, 1) := by decide +kernel
theorem dX12_power_15 : decode cX12_power 15 = .ok (.iinc 3 1, 3) := by decide +kernel
theorem dX12_power_18 : decode cX12_power 18 = .ok (.goto (-14), 3) := by decide +kernel
theorem dX12_power_21 : decode cX12_power 21 = .ok (.lload_n 1, 1) := by decide +kernel
theorem dX12_power_22 : decode cX12_power 22 = .ok (.lreturn, 1) := by decide +kernel
theorem dX12_stands_0 : decode cX12_stands 0 = .ok (.aload_n 0, 1) := by decide +kernel
theorem dX12_stands_1 : decode cX12_stands 1 = .ok (.iconst 0, 1) := by decide +kernel
theorem dX12_stands_2 : decode cX12_stands 2 = .ok (.putfield 69, 3) := by decide +kernel
theorem dX12_stands_5 : decode cX12_stands 5 = .ok (.aload_n 0, 1) := by decide +kernel
theorem dX12_stands_6 : decode cX12_stands 6 = .ok (.aload_n 0, 1) := by decide +kernel
theorem dX12_stands_7 : decode cX12_stands 7 = .ok (.iload_n 1, 1) := by decide +kernel
theorem dX12_stands_8 : decode cX12_stands 8 = .ok (.iload_n 2, 1) := by decide +kernel
theorem dX12_stands_9 : decode cX12_stands 9 = .ok (.iload_n 3, 1) := by decide +kernel
theorem dX12_stands_10 : decode cX12_stands 10 = .ok (.invokevirtual 426, 3) := by decide +kernel
theorem dX12_stands_13 : decode cX12_stands 13 = .ok (.putfield 72, 3) := by decide +kernel
theorem dX12_stands_16 : decode cX12_stands 16 = .ok (.aload_n 0, 1) := by decide +kernel
theorem dX12_stands_17 : decode cX12_stands 17 = .ok (.getfield 72, 3) := by decide +kernel
theorem dX12_stands_20 : decode cX12_stands 20 = .ok (.ifCond .le 5, 3) := by decide +kernel
theorem dX12_stands_23 : decode cX12_stands 23 = .ok (.iconst 0, 1) := by decide +kernel
theorem dX12_stands_24 : decode cX12_stands 24 = .ok (.ireturn, 1) := by decide +kernel
theorem dX12_stands_25 : decode cX12_stands 25 = .ok (.aload_n 0, 1) := by decide +kernel
theorem dX12_stands_26 : decode cX12_stands 26 = .ok (.iload_n 2, 1) := by decide +kernel
theorem dX12_stands_27 : decode cX12_stands 27 = .ok (.invokestatic 429, 3) := by decide +kernel
theorem dX12_stands_30 : decode cX12_stands 30 = .ok (.aload_n 0, 1) := by decide +kernel
theorem dX12_stands_31 : decode cX12_stands 31 = .ok (.getfield 60, 3) := by decide +kernel
theorem dX12_stands_34 : decode cX12_stands 34 = .ok (.iconst 0, 1) := by decide +kernel
theorem dX12_stands_35 : decode cX12_stands 35 = .ok (.laload, 1) := by decide +kernel
theorem dX12_stands_36 : decode cX12_stands 36 = .ok (.lsub, 1) := by decide +kernel
theorem dX12_stands_37 : decode cX12_stands 37 = .ok (.iload_n 2, 1) := by decide +kernel
theorem dX12_stands_38 : decode cX12_stands 38 = .ok (.invokestatic 429, 3) := by decide +kernel
theorem dX12_stands_41 : decode cX12_stands 41 = .ok (.invokevirtual 433, 3) := by decide +kernel
theorem dX12_stands_44 : decode cX12_stands 44 = .ok (.ireturn, 1) := by decide +kernel
theorem dX12_mean_0 : decode cX12_mean 0 = .ok (.aload_n 0, 1) := by decide +kernel
theorem dX12_mean_1 : decode cX12_mean 1 = .ok (.iconst 0, 1) := by decide +kernel
theorem dX12_mean_2 : decode cX12_mean 2 = .ok (.putfield 69, 3) := by decide +kernel
theorem dX12_mean_5 : decode cX12_mean 5 = .ok (.aload_n 0, 1) := by decide +kernel
theorem dX12_mean_6 : decode cX12_mean 6 = .ok (.aload_n 0, 1) := by decide +kernel
theorem dX12_mean_7 : decode cX12_mean 7 = .ok (.iload_n 1, 1) := by decide +kernel
theorem dX12_mean_8 : decode cX12_mean 8 = .ok (.iload_n 2, 1) := by decide +kernel
theorem dX12_mean_9 : decode cX12_mean 9 = .ok (.iload_n 3, 1) := by decide +kernel
theorem dX12_mean_10 : decode cX12_mean 10 = .ok (.invokevirtual 426, 3) := by decide +kernel
theorem dX12_mean_13 : decode cX12_mean 13 = .ok (.putfield 72, 3) := by decide +kernel
theorem dX12_mean_16 : decode cX12_mean 16 = .ok (.aload_n 0, 1) := by decide +kernel
theorem dX12_mean_17 : decode cX12_mean 17 = .ok (.getfield 72, 3) := by decide +kernel
theorem dX12_mean_20 : decode cX12_mean 20 = .ok (.ifCond .le 5, 3) := by decide +kernel
theorem dX12_mean_23 : decode cX12_mean 23 = .ok (.iconst 0, 1) := by decide +kernel
theorem dX12_mean_24 : decode cX12_mean 24 = .ok (.ireturn, 1) := by decide +kernel
theorem dX12_mean_25 : decode cX12_mean 25 = .ok (.lconst 0, 1) := by decide +kernel
theorem dX12_mean_26 : decode cX12_mean 26 = .ok (.lstore 4, 2) := by decide +kernel
theorem dX12_mean_28 : decode cX12_mean 28 = .ok (.iconst 0, 1) := by decide +kernel
theorem dX12_mean_29 : decode cX12_mean 29 = .ok (.istore 6, 2) := by decide +kernel
theorem dX12_mean_31 : decode cX12_mean 31 = .ok (.iload 6, 2) := by decide +kernel
theorem dX12_mean_33 : decode cX12_mean 33 = .ok (.bipush 100, 2) := by decide +kernel
theorem dX12_mean_35 : decode cX12_mean 35 = .ok (.if_icmp .ge 25, 3) := by decide +kernel
theorem dX12_mean_38 : decode cX12_mean 38 = .ok (.lload 4, 2) := by decide +kernel
theorem dX12_mean_40 : decode cX12_mean 40 = .ok (.iload 6, 2) := by decide +kernel
theorem dX12_mean_42 : decode cX12_mean 42 = .ok (.i2l, 1) := by decide +kernel
theorem dX12_mean_43 : decode cX12_mean 43 = .ok (.aload_n 0, 1) := by decide +kernel
theorem dX12_mean_44 : decode cX12_mean 44 = .ok (.getfield 60, 3) := by decide +kernel
theorem dX12_mean_47 : decode cX12_mean 47 = .ok (.iload 6, 2) := by decide +kernel
theorem dX12_mean_49 : decode cX12_mean 49 = .ok (.laload, 1) := by decide +kernel
theorem dX12_mean_50 : decode cX12_mean 50 = .ok (.lmul, 1) := by decide +kernel
theorem dX12_mean_51 : decode cX12_mean 51 = .ok (.ladd, 1) := by decide +kernel
theorem dX12_mean_52 : decode cX12_mean 52 = .ok (.lstore 4, 2) := by decide +kernel
theorem dX12_mean_54 : decode cX12_mean 54 = .ok (.iinc 6 1, 3) := by decide +kernel
theorem dX12_mean_57 : decode cX12_mean 57 = .ok (.goto (-26), 3) := by decide +kernel
theorem dX12_mean_60 : decode cX12_mean 60 = .ok (.aload_n 0, 1) := by decide +kernel
theorem dX12_mean_61 : decode cX12_mean 61 = .ok (.lload 4, 2) := by decide +kernel
theorem dX12_mean_63 : decode cX12_mean 63 = .ok (.iload_n 2, 1) := by decide +kernel
theorem dX12_mean_64 : decode cX12_mean 64 = .ok (.invokestatic 429, 3) := by decide +kernel
theorem dX12_mean_67 : decode cX12_mean 67 = .ok (.invokevirtual 433, 3) := by decide +kernel
theorem dX12_mean_70 : decode cX12_mean 70 = .ok (.ireturn, 1) := by decide +kernel
theorem dX12_draw_0 : decode cX12_draw 0 = .ok (.aload_n 0, 1) := by decide +kernel
theorem dX12_draw_1 : decode cX12_draw 1 = .ok (.aload_n 0, 1) := by decide +kernel
theorem dX12_draw_2 : decode cX12_draw 2 = .ok (.getfield 437, 3) := by decide +kernel
theorem dX12_draw_5 : decode cX12_draw 5 = .ok (.sipush 2741, 3) := by decide +kernel
theorem dX12_draw_8 : decode cX12_draw 8 = .ok (.imul, 1) := by decide +kernel
theorem dX12_draw_9 : decode cX12_draw 9 = .ok (.sipush 9337, 3) := by decide +kernel
theorem dX12_draw_12 : decode cX12_draw 12 = .ok (.iadd, 1) := by decide +kernel
theorem dX12_draw_13 : decode cX12_draw 13 = .ok (.ldc_w 440, 3) := by decide +kernel
theorem dX12_draw_16 : decode cX12_draw 16 = .ok (.irem, 1) := by decide +kernel
theorem dX12_draw_17 : decode cX12_draw 17 = .ok (.putfield 437, 3) := by decide +kernel
theorem dX12_draw_20 : decode cX12_draw 20 = .ok (.aload_n 0, 1) := by decide +kernel
theorem dX12_draw_21 : decode cX12_draw 21 = .ok (.getfield 437, 3) := by decide +kernel
theorem dX12_draw_24 : decode cX12_draw 24 = .ok (.bipush 8, 2) := by decide +kernel
theorem dX12_draw_26 : decode cX12_draw 26 = .ok (.idiv, 1) := by decide +kernel
theorem dX12_draw_27 : decode cX12_draw 27 = .ok (.iload_n 1, 1) := by decide +kernel
theorem dX12_draw_28 : decode cX12_draw 28 = .ok (.irem, 1) := by decide +kernel
theorem dX12_draw_29 : decode cX12_draw 29 = .ok (.ireturn, 1) := by decide +kernel
theorem dX12_does_0 : decode cX12_does 0 = .ok (.aload_n 0, 1) := by decide +kernel
theorem dX12_does_1 : decode cX12_does 1 = .ok (.getfield 35, 3) := by decide +kernel
theorem dX12_does_4 : decode cX12_does 4 = .ok (.iload_n 1, 1) := by decide +kernel
theorem dX12_does_5 : decode cX12_does 5 = .ok (.iaload, 1) := by decide +kernel
theorem dX12_does_6 : decode cX12_does 6 = .ok (.istore_n 2, 1) := by decide +kernel
theorem dX12_does_7 : decode cX12_does 7 = .ok (.iload_n 2, 1) := by decide +kernel
theorem dX12_does_8 : decode cX12_does 8 = .ok (.ifCond .ne 19, 3) := by decide +kernel
theorem dX12_does_11 : decode cX12_does 11 = .ok (.aload_n 0, 1) := by decide +kernel
theorem dX12_does_12 : decode cX12_does 12 = .ok (.aload_n 0, 1) := by decide +kernel
theorem dX12_does_13 : decode cX12_does 13 = .ok (.getfield 35, 3) := by decide +kernel
theorem dX12_does_16 : decode cX12_does 16 = .ok (.iload_n 1, 1) := by decide +kernel
theorem dX12_does_17 : decode cX12_does 17 = .ok (.iconst 1, 1) := by decide +kernel
theorem dX12_does_18 : decode cX12_does 18 = .ok (.iadd, 1) := by decide +kernel
theorem dX12_does_19 : decode cX12_does 19 = .ok (.iaload, 1) := by decide +kernel
theorem dX12_does_20 : decode cX12_does 20 = .ok (.invokevirtual 317, 3) := by decide +kernel
theorem dX12_does_23 : decode cX12_does 23 = .ok (.pop, 1) := by decide +kernel
theorem dX12_does_24 : decode cX12_does 24 = .ok (.goto 180, 3) := by decide +kernel
theorem dX12_does_27 : decode cX12_does 27 = .ok (.iload_n 2, 1) := by decide +kernel
theorem dX12_does_28 : decode cX12_does 28 = .ok (.iconst 1, 1) := by decide +kernel
theorem dX12_does_29 : decode cX12_does 29 = .ok (.if_icmp .ne 19, 3) := by decide +kernel
theorem dX12_does_32 : decode cX12_does 32 = .ok (.aload_n 0, 1) := by decide +kernel
theorem dX12_does_33 : decode cX12_does 33 = .ok (.aload_n 0, 1) := by decide +kernel
theorem dX12_does_34 : decode cX12_does 34 = .ok (.getfield 35, 3) := by decide +kernel
theorem dX12_does_37 : decode cX12_does 37 = .ok (.iload_n 1, 1) := by decide +kernel
theorem dX12_does_38 : decode cX12_does 38 = .ok (.iconst 1, 1) := by decide +kernel
theorem dX12_does_39 : decode cX12_does 39 = .ok (.iadd, 1) := by decide +kernel
theorem dX12_does_40 : decode cX12_does 40 = .ok (.iaload, 1) := by decide +kernel
theorem dX12_does_41 : decode cX12_does 41 = .ok (.invokevirtual 323, 3) := by decide +kernel
theorem dX12_does_44 : decode cX12_does 44 = .ok (.pop, 1) := by decide +kernel
theorem dX12_does_45 : decode cX12_does 45 = .ok (.goto 159, 3) := by decide +kernel
theorem dX12_does_48 : decode cX12_does 48 = .ok (.iload_n 2, 1) := by decide +kernel
theorem dX12_does_49 : decode cX12_does 49 = .ok (.iconst 2, 1) := by decide +kernel
theorem dX12_does_50 : decode cX12_does 50 = .ok (.if_icmp .ne 43, 3) := by decide +kernel
theorem dX12_does_53 : decode cX12_does 53 = .ok (.aload_n 0, 1) := by decide +kernel
theorem dX12_does_54 : decode cX12_does 54 = .ok (.aload_n 0, 1) := by decide +kernel
theorem dX12_does_55 : decode cX12_does 55 = .ok (.getfield 35, 3) := by decide +kernel
theorem dX12_does_58 : decode cX12_does 58 = .ok (.iload_n 1, 1) := by decide +kernel
theorem dX12_does_59 : decode cX12_does 59 = .ok (.iconst 1, 1) := by decide +kernel
theorem dX12_does_60 : decode cX12_does 60 = .ok (.iadd, 1) := by decide +kernel
theorem dX12_does_61 : decode cX12_does 61 = .ok (.iaload, 1) := by decide +kernel
theorem dX12_does_62 : decode cX12_does 62 = .ok (.aload_n 0, 1) := by decide +kernel
theorem dX12_does_63 : decode cX12_does 63 = .ok (.aload_n 0, 1) := by decide +kernel
theorem dX12_does_64 : decode cX12_does 64 = .ok (.getfield 35, 3) := by decide +kernel
theorem dX12_does_67 : decode cX12_does 67 = .ok (.iload_n 1, 1) := by decide +kernel
theorem dX12_does_68 : decode cX12_does 68 = .ok (.iconst 2, 1) := by decide +kernel
theorem dX12_does_69 : decode cX12_does 69 = .ok (.iadd, 1) := by decide +kernel
theorem dX12_does_70 : decode cX12_does 70 = .ok (.iaload, 1) := by decide +kernel
theorem dX12_does_71 : decode cX12_does 71 = .ok (.aload_n 0, 1) := by decide +kernel
theorem dX12_does_72 : decode cX12_does 72 = .ok (.getfield 35, 3) := by decide +kernel
theorem dX12_does_75 : decode cX12_does 75 = .ok (.iload_n 1, 1) := by decide +kernel
theorem dX12_does_76 : decode cX12_does 76 = .ok (.iconst 1, 1) := by decide +kernel
theorem dX12_does_77 : decode cX12_does 77 = .ok (.iadd, 1) := by decide +kernel
theorem dX12_does_78 : decode cX12_does 78 = .ok (.iaload, 1) := by decide +kernel
theorem dX12_does_79 : decode cX12_does 79 = .ok (.isub, 1) := by decide +kernel
theorem dX12_does_80 : decode cX12_does 80 = .ok (.iconst 1, 1) := by decide +kernel
theorem dX12_does_81 : decode cX12_does 81 = .ok (.iadd, 1) := by decide +kernel
theorem dX12_does_82 : decode cX12_does 82 = .ok (.invokevirtual 441, 3) := by decide +kernel
theorem dX12_does_85 : decode cX12_does 85 = .ok (.iadd, 1) := by decide +kernel
theorem dX12_does_86 : decode cX12_does 86 = .ok (.invokevirtual 317, 3) := by decide +kernel
theorem dX12_does_89 : decode cX12_does 89 = .ok (.pop, 1) := by decide +kernel
theorem dX12_does_90 : decode cX12_does 90 = .ok (.goto 114, 3) := by decide +kernel
theorem dX12_does_93 : decode cX12_does 93 = .ok (.iload_n 2, 1) := by decide +kernel
theorem dX12_does_94 : decode cX12_does 94 = .ok (.iconst 3, 1) := by decide +kernel
theorem dX12_does_95 : decode cX12_does 95 = .ok (.if_icmp .ne 44, 3) := by decide +kernel
theorem dX12_does_98 : decode cX12_does 98 = .ok (.aload_n 0, 1) := by decide +kernel
theorem dX12_does_99 : decode cX12_does 99 = .ok (.aload_n 0, 1) := by decide +kernel
theorem dX12_does_100 : decode cX12_does 100 = .ok (.getfield 35, 3) := by decide +kernel
theorem dX12_does_103 : decode cX12_does 103 = .ok (.iload_n 1, 1) := by decide +kernel
theorem dX12_does_104 : decode cX12_does 104 = .ok (.iconst 1, 1) := by decide +kernel
theorem dX12_does_105 : decode cX12_does 105 = .ok (.iadd, 1) := by decide +kernel
theorem dX12_does_106 : decode cX12_does 106 = .ok (.iaload, 1) := by decide +kernel
theorem dX12_does_107 : decode cX12_does 107 = .ok (.aload_n 0, 1) := by decide +kernel
theorem dX12_does_108 : decode cX12_does 108 = .ok (.getfield 35, 3) := by decide +kernel
theorem dX12_does_111 : decode cX12_does 111 = .ok (.iload_n 1, 1) := by decide +kernel
theorem dX12_does_112 : decode cX12_does 112 = .ok (.iconst 2, 1) := by decide +kernel
theorem dX12_does_113 : decode cX12_does 113 = .ok (.iadd, 1) := by decide +kernel
theorem dX12_does_114 : decode cX12_does 114 = .ok (.iaload, 1) := by decide +kernel
theorem dX12_does_115 : decode cX12_does 115 = .ok (.invokevirtual 339, 3) := by decide +kernel
theorem dX12_does_118 : decode cX12_does 118 = .ok (.istore_n 3, 1) := by decide +kernel
theorem dX12_does_119 : decode cX12_does 119 = .ok (.aload_n 0, 1) := by decide +kernel
theorem dX12_does_120 : decode cX12_does 120 = .ok (.dup, 1) := by decide +kernel
theorem dX12_does_121 : decode cX12_does 121 = .ok (.getfield 444, 3) := by decide +kernel
theorem dX12_does_124 : decode cX12_does 124 = .ok (.iload_n 3, 1) := by decide +kernel
theorem dX12_does_125 : decode cX12_does 125 = .ok (.iadd, 1) := by decide +kernel
theorem dX12_does_126 : decode cX12_does 126 = .ok (.putfield 444, 3) := by decide +kernel
theorem dX12_does_129 : decode cX12_does 129 = .ok (.iload_n 3, 1) := by decide +kernel
theorem dX12_does_130 : decode cX12_does 130 = .ok (.ifCond .le 7, 3) := by decide +kernel
theorem dX12_does_133 : decode cX12_does 133 = .ok (.iconst 1, 1) := by decide +kernel
theorem dX12_does_134 : decode cX12_does 134 = .ok (.goto 4, 3) := by decide +kernel
theorem dX12_does_137 : decode cX12_does 137 = .ok (.iconst 0, 1) := by decide +kernel
theorem dX12_does_138 : decode cX12_does 138 = .ok (.ireturn, 1) := by decide +kernel
theorem dX12_does_139 : decode cX12_does 139 = .ok (.iload_n 2, 1) := by decide +kernel
theorem dX12_does_140 : decode cX12_does 140 = .ok (.iconst 4, 1) := by decide +kernel
theorem dX12_does_141 : decode cX12_does 141 = .ok (.if_icmp .ne 16, 3) := by decide +kernel
theorem dX12_does_144 : decode cX12_does 144 = .ok (.aload_n 0, 1) := by decide +kernel
theorem dX12_does_145 : decode cX12_does 145 = .ok (.aload_n 0, 1) := by decide +kernel
theorem dX12_does_146 : decode cX12_does 146 = .ok (.getfield 35, 3) := by decide +kernel
theorem dX12_does_149 : decode cX12_does 149 = .ok (.iload_n 1, 1) := by decide +kernel
theorem dX12_does_150 : decode cX12_does 150 = .ok (.iconst 1, 1) := by decide +kernel
theorem dX12_does_151 : decode cX12_does 151 = .ok (.iadd, 1) := by decide +kernel
theorem dX12_does_152 : decode cX12_does 152 = .ok (.iaload, 1) := by decide +kernel
theorem dX12_does_153 : decode cX12_does 153 = .ok (.invokevirtual 342, 3) := by decide +kernel
theorem dX12_does_156 : decode cX12_does 156 = .ok (.ireturn, 1) := by decide +kernel
theorem dX12_does_157 : decode cX12_does 157 = .ok (.iload_n 2, 1) := by decide +kernel
theorem dX12_does_158 : decode cX12_does 158 = .ok (.iconst 5, 1) := by decide +kernel
theorem dX12_does_159 : decode cX12_does 159 = .ok (.if_icmp .ne 40, 3) := by decide +kernel
theorem dX12_does_162 : decode cX12_does 162 = .ok (.aload_n 0, 1) := by decide +kernel
theorem dX12_does_163 : decode cX12_does 163 = .ok (.aload_n 0, 1) := by decide +kernel
theorem dX12_does_164 : decode cX12_does 164 = .ok (.getfield 35, 3) := by decide +kernel
theorem dX12_does_167 : decode cX12_does 167 = .ok (.iload_n 1, 1) := by decide +kernel
theorem dX12_does_168 : decode cX12_does 168 = .ok (.iconst 1, 1) := by decide +kernel
theorem dX12_does_169 : decode cX12_does 169 = .ok (.iadd, 1) := by decide +kernel
theorem dX12_does_170 : decode cX12_does 170 = .ok (.iaload, 1) := by decide +kernel
theorem dX12_does_171 : decode cX12_does 171 = .ok (.aload_n 0, 1) := by decide +kernel
theorem dX12_does_172 : decode cX12_does 172 = .ok (.getfield 35, 3) := by decide +kernel
theorem dX12_does_175 : decode cX12_does 175 = .ok (.iload_n 1, 1) := by decide +kernel
theorem dX12_does_176 : decode cX12_does 176 = .ok (.iconst 2, 1) := by decide +kernel
theorem dX12_does_177 : decode cX12_does 177 = .ok (.iadd, 1) := by decide +kernel
theorem dX12_does_178 : decode cX12_does 178 = .ok (.iaload, 1) := by decide +kernel
theorem dX12_does_179 : decode cX12_does 179 = .ok (.aload_n 0, 1) := by decide +kernel
theorem dX12_does_180 : decode cX12_does 180 = .ok (.getfield 35, 3) := by decide +kernel
theorem dX12_does_183 : decode cX12_does 183 = .ok (.iload_n 1, 1) := by decide +kernel
theorem dX12_does_184 : decode cX12_does 184 = .ok (.iconst 3, 1) := by decide +kernel
theorem dX12_does_185 : decode cX12_does 185 = .ok (.iadd, 1) := by decide +kernel
theorem dX12_does_186 : decode cX12_does 186 = .ok (.iaload, 1) := by decide +kernel
theorem dX12_does_187 : decode cX12_does 187 = .ok (.invokevirtual 345, 3) := by decide +kernel
theorem dX12_does_190 : decode cX12_does 190 = .ok (.ifCond .le 7, 3) := by decide +kernel
theorem dX12_does_193 : decode cX12_does 193 = .ok (.iconst 1, 1) := by decide +kernel
theorem dX12_does_194 : decode cX12_does 194 = .ok (.goto 4, 3) := by decide +kernel
theorem dX12_does_197 : decode cX12_does 197 = .ok (.iconst 0, 1) := by decide +kernel
theorem dX12_does_198 : decode cX12_does 198 = .ok (.ireturn, 1) := by decide +kernel
theorem dX12_does_199 : decode cX12_does 199 = .ok (.aload_n 0, 1) := by decide +kernel
theorem dX12_does_200 : decode cX12_does 200 = .ok (.invokevirtual 349, 3) := by decide +kernel
theorem dX12_does_203 : decode cX12_does 203 = .ok (.ireturn, 1) := by decide +kernel
theorem dX12_does_204 : decode cX12_does 204 = .ok (.iconst 1, 1) := by decide +kernel
theorem dX12_does_205 : decode cX12_does 205 = .ok (.ireturn, 1) := by decide +kernel
theorem dX12_isSo_0 : decode cX12_isSo 0 = .ok (.aload_n 0, 1) := by decide +kernel
theorem dX12_isSo_1 : decode cX12_isSo 1 = .ok (.getfield 35, 3) := by decide +kernel
theorem dX12_isSo_4 : decode cX12_isSo 4 = .ok (.iload_n 1, 1) := by decide +kernel
theorem dX12_isSo_5 : decode cX12_isSo 5 = .ok (.bipush 6, 2) := by decide +kernel
theorem dX12_isSo_7 : decode cX12_isSo 7 = .ok (.iadd, 1) := by decide +kernel
theorem dX12_isSo_8 : decode cX12_isSo 8 = .ok (.iaload, 1) := by decide +kernel
theorem dX12_isSo_9 : decode cX12_isSo 9 = .ok (.istore_n 2, 1) := by decide +kernel
theorem dX12_isSo_10 : decode cX12_isSo 10 = .ok (.iload_n 2, 1) := by decide +kernel
theorem dX12_isSo_11 : decode cX12_isSo 11 = .ok (.iconst 2, 1) := by decide +kernel
theorem dX12_isSo_12 : decode cX12_isSo 12 = .ok (.if_icmp .ne 18, 3) := by decide +kernel
theorem dX12_isSo_15 : decode cX12_isSo 15 = .ok (.aload_n 0, 1) := by decide +kernel
theorem dX12_isSo_16 : decode cX12_isSo 16 = .ok (.getfield 35, 3) := by decide +kernel
theorem dX12_isSo_19 : decode cX12_isSo 19 = .ok (.iconst 4, 1) := by decide +kernel
theorem dX12_isSo_20 : decode cX12_isSo 20 = .ok (.iaload, 1) := by decide +kernel
theorem dX12_isSo_21 : decode cX12_isSo 21 = .ok (.ifCond .le 7, 3) := by decide +kernel
theorem dX12_isSo_24 : decode cX12_isSo 24 = .ok (.iconst 1, 1) := by decide +kernel
theorem dX12_isSo_25 : decode cX12_isSo 25 = .ok (.goto 4, 3) := by decide +kernel
theorem dX12_isSo_28 : decode cX12_isSo 28 = .ok (.iconst 0, 1) := by decide +kernel
theorem dX12_isSo_29 : decode cX12_isSo 29 = .ok (.ireturn, 1) := by decide +kernel
theorem dX12_isSo_30 : decode cX12_isSo 30 = .ok (.iload_n 2, 1) := by decide +kernel
theorem dX12_isSo_31 : decode cX12_isSo 31 = .ok (.ifCond .ne 12, 3) := by decide +kernel
theorem dX12_isSo_34 : decode cX12_isSo 34 = .ok (.aload_n 0, 1) := by decide +kernel
theorem dX12_isSo_35 : decode cX12_isSo 35 = .ok (.getfield 35, 3) := by decide +kernel
theorem dX12_isSo_38 : decode cX12_isSo 38 = .ok (.iconst 3, 1) := by decide +kernel
theorem dX12_isSo_39 : decode cX12_isSo 39 = .ok (.iaload, 1) := by decide +kernel
theorem dX12_isSo_40 : decode cX12_isSo 40 = .ok (.goto 35, 3) := by decide +kernel
theorem dX12_isSo_43 : decode cX12_isSo 43 = .ok (.iload_n 2, 1) := by decide +kernel
theorem dX12_isSo_44 : decode cX12_isSo 44 = .ok (.iconst 1, 1) := by decide +kernel
theorem dX12_isSo_45 : decode cX12_isSo 45 = .ok (.if_icmp .ne 22, 3) := by decide +kernel
theorem dX12_isSo_48 : decode cX12_isSo 48 = .ok (.aload_n 0, 1) := by decide +kernel
theorem dX12_isSo_49 : decode cX12_isSo 49 = .ok (.getfield 35, 3) := by decide +kernel
theorem dX12_isSo_52 : decode cX12_isSo 52 = .ok (.bipush 62, 2) := by decide +kernel
theorem dX12_isSo_54 : decode cX12_isSo 54 = .ok (.aload_n 0, 1) := by decide +kernel
theorem dX12_isSo_55 : decode cX12_isSo 55 = .ok (.getfield 35, 3) := by decide +kernel
theorem dX12_isSo_58 : decode cX12_isSo 58 = .ok (.iload_n 1, 1) := by decide +kernel
theorem dX12_isSo_59 : decode cX12_isSo 59 = .ok (.iconst 1, 1) := by decide +kernel
theorem dX12_isSo_60 : decode cX12_isSo 60 = .ok (.iadd, 1) := by decide +kernel
theorem dX12_isSo_61 : decode cX12_isSo 61 = .ok (.iaload, 1) := by decide +kernel
theorem dX12_isSo_62 : decode cX12_isSo 62 = .ok (.iadd, 1) := by decide +kernel
theorem dX12_isSo_63 : decode cX12_isSo 63 = .ok (.iaload, 1) := by decide +kernel
theorem dX12_isSo_64 : decode cX12_isSo 64 = .ok (.goto 11, 3) := by decide +kernel
theorem dX12_isSo_67 : decode cX12_isSo 67 = .ok (.aload_n 0, 1) := by decide +kernel
theorem dX12_isSo_68 : decode cX12_isSo 68 = .ok (.invokevirtual 383, 3) := by decide +kernel
theorem dX12_isSo_71 : decode cX12_isSo 71 = .ok (.sipush 1000, 3) := by decide +kernel
theorem dX12_isSo_74 : decode cX12_isSo 74 = .ok (.idiv, 1) := by decide +kernel
theorem dX12_isSo_75 : decode cX12_isSo 75 = .ok (.istore_n 3, 1) := by decide +kernel
theorem dX12_isSo_76 : decode cX12_isSo 76 = .ok (.aload_n 0, 1) := by decide +kernel
theorem dX12_isSo_77 : decode cX12_isSo 77 = .ok (.getfield 35, 3) := by decide +kernel
theorem dX12_isSo_80 : decode cX12_isSo 80 = .ok (.iload_n 1, 1) := by decide +kernel
theorem dX12_isSo_81 : decode cX12_isSo 81 = .ok (.bipush 7, 2) := by decide +kernel
theorem dX12_isSo_83 : decode cX12_isSo 83 = .ok (.iadd, 1) := by decide +kernel
theorem dX12_isSo_84 : decode cX12_isSo 84 = .ok (.iaload, 1) := by decide +kernel
theorem dX12_isSo_85 : decode cX12_isSo 85 = .ok (.bipush 60, 2) := by decide +kernel
theorem dX12_isSo_87 : decode cX12_isSo 87 = .ok (.if_icmp .ne 23, 3) := by decide +kernel
theorem dX12_isSo_90 : decode cX12_isSo 90 = .ok (.iload_n 3, 1) := by decide +kernel
theorem dX12_isSo_91 : decode cX12_isSo 91 = .ok (.aload_n 0, 1) := by decide +kernel
theorem dX12_isSo_92 : decode cX12_isSo 92 = .ok (.getfield 35, 3) := by decide +kernel
theorem dX12_isSo_95 : decode cX12_isSo 95 = .ok (.iload_n 1, 1) := by decide +kernel
theorem dX12_isSo_96 : decode cX12_isSo 96 = .ok (.iconst 2, 1) := by decide +kernel
theorem dX12_isSo_97 : decode cX12_isSo 97 = .ok (.iadd, 1) := by decide +kernel
theorem dX12_isSo_98 : decode cX12_isSo 98 = .ok (.iaload, 1) := by decide +kernel
theorem dX12_isSo_99 : decode cX12_isSo 99 = .ok (.if_icmp .ge 7, 3) := by decide +kernel
theorem dX12_isSo_102 : decode cX12_isSo 102 = .ok (.iconst 1, 1) := by decide +kernel
theorem dX12_isSo_103 : decode cX12_isSo 103 = .ok (.goto 58, 3) := by decide +kernel
theorem dX12_isSo_106 : decode cX12_isSo 106 = .ok (.iconst 0, 1) := by decide +kernel
theorem dX12_isSo_107 : decode cX12_isSo 107 = .ok (.goto 54, 3) := by decide +kernel
theorem dX12_isSo_110 : decode cX12_isSo 110 = .ok (.aload_n 0, 1) := by decide +kernel
theorem dX12_isSo_111 : decode cX12_isSo 111 = .ok (.getfield 35, 3) := by decide +kernel
theorem dX12_isSo_114 : decode cX12_isSo 114 = .ok (.iload_n 1, 1) := by decide +kernel
theorem dX12_isSo_115 : decode cX12_isSo 115 = .ok (.bipush 7, 2) := by decide +kernel
theorem dX12_isSo_117 : decode cX12_isSo 117 = .ok (.iadd, 1) := by decide +kernel
theorem dX12_isSo_118 : decode cX12_isSo 118 = .ok (.iaload, 1) := by decide +kernel
theorem dX12_isSo_119 : decode cX12_isSo 119 = .ok (.bipush 62, 2) := by decide +kernel
theorem dX12_isSo_121 : decode cX12_isSo 121 = .ok (.if_icmp .ne 23, 3) := by decide +kernel
theorem dX12_isSo_124 : decode cX12_isSo 124 = .ok (.iload_n 3, 1) := by decide +kernel
theorem dX12_isSo_125 : decode cX12_isSo 125 = .ok (.aload_n 0, 1) := by decide +kernel
theorem dX12_isSo_126 : decode cX12_isSo 126 = .ok (.getfield 35, 3) := by decide +kernel
theorem dX12_isSo_129 : decode cX12_isSo 129 = .ok (.iload_n 1, 1) := by decide +kernel
theorem dX12_isSo_130 : decode cX12_isSo 130 = .ok (.iconst 2, 1) := by decide +kernel
theorem dX12_isSo_131 : decode cX12_isSo 131 = .ok (.iadd, 1) := by decide +kernel
theorem dX12_isSo_132 : decode cX12_isSo 132 = .ok (.iaload, 1) := by decide +kernel
theorem dX12_isSo_133 : decode cX12_isSo 133 = .ok (.if_icmp .le 7, 3) := by decide +kernel
theorem dX12_isSo_136 : decode cX12_isSo 136 = .ok (.iconst 1, 1) := by decide +kernel
theorem dX12_isSo_137 : decode cX12_isSo 137 = .ok (.goto 24, 3) := by decide +kernel
theorem dX12_isSo_140 : decode cX12_isSo 140 = .ok (.iconst 0, 1) := by decide +kernel
theorem dX12_isSo_141 : decode cX12_isSo 141 = .ok (.goto 20, 3) := by decide +kernel
theorem dX12_isSo_144 : decode cX12_isSo 144 = .ok (.iload_n 3, 1) := by decide +kernel
theorem dX12_isSo_145 : decode cX12_isSo 145 = .ok (.aload_n 0, 1) := by decide +kernel
theorem dX12_isSo_146 : decode cX12_isSo 146 = .ok (.getfield 35, 3) := by decide +kernel
theorem dX12_isSo_149 : decode cX12_isSo 149 = .ok (.iload_n 1, 1) := by decide +kernel
theorem dX12_isSo_150 : decode cX12_isSo 150 = .ok (.iconst 2, 1) := by decide +kernel
theorem dX12_isSo_151 : decode cX12_isSo 151 = .ok (.iadd, 1) := by decide +kernel
theorem dX12_isSo_152 : decode cX12_isSo 152 = .ok (.iaload, 1) := by decide +kernel
theorem dX12_isSo_153 : decode cX12_isSo 153 = .ok (.if_icmp .ne 7, 3) := by decide +kernel
theorem dX12_isSo_156 : decode cX12_isSo 156 = .ok (.iconst 1, 1) := by decide +kernel
theorem dX12_isSo_157 : decode cX12_isSo 157 = .ok (.goto 4, 3) := by decide +kernel
theorem dX12_isSo_160 : decode cX12_isSo 160 = .ok (.iconst 0, 1) := by decide +kernel
theorem dX12_isSo_161 : decode cX12_isSo 161 = .ok (.ireturn, 1) := by decide +kernel
theorem dX12_doOne_0 : decode cX12_doOne 0 = .ok (.aload_n 0, 1) := by decide +kernel
theorem dX12_doOne_1 : decode cX12_doOne 1 = .ok (.getfield 447, 3) := by decide +kernel
theorem dX12_doOne_4 : decode cX12_doOne 4 = .ok (.sipush 300, 3) := by decide +kernel
theorem dX12_doOne_7 : decode cX12_doOne 7 = .ok (.if_icmp .ne 14, 3) := by decide +kernel
theorem dX12_doOne_10 : decode cX12_doOne 10 = .ok (.aload_n 0, 1) := by decide +kernel
theorem dX12_doOne_11 : decode cX12_doOne 11 = .ok (.iconst 1, 1) := by decide +kernel
theorem dX12_doOne_12 : decode cX12_doOne 12 = .ok (.putfield 450, 3) := by decide +kernel
theorem dX12_doOne_15 : decode cX12_doOne 15 = .ok (.aload_n 0, 1) := by decide +kernel
theorem dX12_doOne_16 : decode cX12_doOne 16 = .ok (.iconst 1, 1) := by decide +kernel
theorem dX12_doOne_17 : decode cX12_doOne 17 = .ok (.putfield 453, 3) := by decide +kernel
theorem dX12_doOne_20 : decode cX12_doOne 20 = .ok (.return_, 1) := by decide +kernel
theorem dX12_doOne_21 : decode cX12_doOne 21 = .ok (.aload_n 0, 1) := by decide +kernel
theorem dX12_doOne_22 : decode cX12_doOne 22 = .ok (.dup, 1) := by decide +kernel
theorem dX12_doOne_23 : decode cX12_doOne 23 = .ok (.getfield 447, 3) := by decide +kernel
theorem dX12_doOne_26 : decode cX12_doOne 26 = .ok (.iconst 1, 1) := by decide +kernel
theorem dX12_doOne_27 : decode cX12_doOne 27 = .ok (.iadd, 1) := by decide +kernel
theorem dX12_doOne_28 : decode cX12_doOne 28 = .ok (.putfield 447, 3) := by decide +kernel
theorem dX12_doOne_31 : decode cX12_doOne 31 = .ok (.sipush 244, 3) := by decide +kernel
theorem dX12_doOne_34 : decode cX12_doOne 34 = .ok (.bipush 9, 2) := by decide +kernel
theorem dX12_doOne_36 : decode cX12_doOne 36 = .ok (.iload_n 1, 1) := by decide +kernel
theorem dX12_doOne_37 : decode cX12_doOne 37 = .ok (.imul, 1) := by decide +kernel
theorem dX12_doOne_38 : decode cX12_doOne 38 = .ok (.iadd, 1) := by decide +kernel
theorem dX12_doOne_39 : decode cX12_doOne 39 = .ok (.istore_n 2, 1) := by decide +kernel
theorem dX12_doOne_40 : decode cX12_doOne 40 = .ok (.aload_n 0, 1) := by decide +kernel
theorem dX12_doOne_41 : decode cX12_doOne 41 = .ok (.getfield 35, 3) := by decide +kernel
theorem dX12_doOne_44 : decode cX12_doOne 44 = .ok (.iload_n 2, 1) := by decide +kernel
theorem dX12_doOne_45 : decode cX12_doOne 45 = .ok (.iaload, 1) := by decide +kernel
theorem dX12_doOne_46 : decode cX12_doOne 46 = .ok (.istore_n 3, 1) := by decide +kernel
theorem dX12_doOne_47 : decode cX12_doOne 47 = .ok (.iload_n 3, 1) := by decide +kernel
theorem dX12_doOne_48 : decode cX12_doOne 48 = .ok (.bipush 7, 2) := by decide +kernel
theorem dX12_doOne_50 : decode cX12_doOne 50 = .ok (.if_icmp .ge 28, 3) := by decide +kernel
theorem dX12_doOne_53 : decode cX12_doOne 53 = .ok (.aload_n 0, 1) := by decide +kernel
theorem dX12_doOne_54 : decode cX12_doOne 54 = .ok (.dup, 1) := by decide +kernel
theorem dX12_doOne_55 : decode cX12_doOne 55 = .ok (.getfield 456, 3) := by decide +kernel
theorem dX12_doOne_58 : decode cX12_doOne 58 = .ok (.aload_n 0, 1) := by decide +kernel
theorem dX12_doOne_59 : decode cX12_doOne 59 = .ok (.iload_n 2, 1) := by decide +kernel
theorem dX12_doOne_60 : decode cX12_doOne 60 = .ok (.invokevirtual 459, 3) := by decide +kernel
theorem dX12_doOne_63 : decode cX12_doOne 63 = .ok (.ifCond .eq 7, 3) := by decide +kernel
theorem dX12_doOne_66 : decode cX12_doOne 66 = .ok (.iconst 0, 1) := by decide +kernel
theorem dX12_doOne_67 : decode cX12_doOne 67 = .ok (.goto 4, 3) := by decide +kernel
theorem dX12_doOne_70 : decode cX12_doOne 70 = .ok (.iconst 1, 1) := by decide +kernel
theorem dX12_doOne_71 : decode cX12_doOne 71 = .ok (.iadd, 1) := by decide +kernel
theorem dX12_doOne_72 : decode cX12_doOne 72 = .ok (.putfield 456, 3) := by decide +kernel
theorem dX12_doOne_75 : decode cX12_doOne 75 = .ok (.goto 101, 3) := by decide +kernel
theorem dX12_doOne_78 : decode cX12_doOne 78 = .ok (.iload_n 3, 1) := by decide +kernel
theorem dX12_doOne_79 : decode cX12_doOne 79 = .ok (.bipush 7, 2) := by decide +kernel
theorem dX12_doOne_81 : decode cX12_doOne 81 = .ok (.if_icmp .ne 30, 3) := by decide +kernel
theorem dX12_doOne_84 : decode cX12_doOne 84 = .ok (.aload_n 0, 1) := by decide +kernel
theorem dX12_doOne_85 : decode cX12_doOne 85 = .ok (.iload_n 2, 1) := by decide +kernel
theorem dX12_doOne_86 : decode cX12_doOne 86 = .ok (.invokevirtual 462, 3) := by decide +kernel
theorem dX12_doOne_89 : decode cX12_doOne 89 = .ok (.ifCond .eq 22, 3) := by decide +kernel
theorem dX12_doOne_92 : decode cX12_doOne 92 = .ok (.aload_n 0, 1) := by decide +kernel
theorem dX12_doOne_93 : decode cX12_doOne 93 = .ok (.iload_n 1, 1) := by decide +kernel
theorem dX12_doOne_94 : decode cX12_doOne 94 = .ok (.iconst 1, 1) := by decide +kernel
theorem dX12_doOne_95 : decode cX12_doOne 95 = .ok (.iadd, 1) := by decide +kernel
theorem dX12_doOne_96 : decode cX12_doOne 96 = .ok (.aload_n 0, 1) := by decide +kernel
theorem dX12_doOne_97 : decode cX12_doOne 97 = .ok (.getfield 35, 3) := by decide +kernel
theorem dX12_doOne_100 : decode cX12_doOne 100 = .ok (.iload_n 2, 1) := by decide +kernel
theorem dX12_doOne_101 : decode cX12_doOne 101 = .ok (.bipush 8, 2) := by decide +kernel
theorem dX12_doOne_103 : decode cX12_doOne 103 = .ok (.iadd, 1) := by decide +kernel
theorem dX12_doOne_104 : decode cX12_doOne 104 = .ok (.iaload, 1) := by decide +kernel
theorem dX12_doOne_105 : decode cX12_doOne 105 = .ok (.invokevirtual 465, 3) := by decide +kernel
theorem dX12_doOne_108 : decode cX12_doOne 108 = .ok (.goto 68, 3) := by decide +kernel
theorem dX12_doOne_111 : decode cX12_doOne 111 = .ok (.iload_n 3, 1) := by decide +kernel
theorem dX12_doOne_112 : decode cX12_doOne 112 = .ok (.bipush 8, 2) := by decide +kernel
theorem dX12_doOne_114 : decode cX12_doOne 114 = .ok (.if_icmp .ne 51, 3) := by decide +kernel
theorem dX12_doOne_117 : decode cX12_doOne 117 = .ok (.iconst 0, 1) := by decide +kernel
theorem dX12_doOne_118 : decode cX12_doOne 118 = .ok (.istore 4, 2) := by decide +kernel
theorem dX12_doOne_120 : decode cX12_doOne 120 = .ok (.iload 4, 2) := by decide +kernel
theorem dX12_doOne_122 : decode cX12_doOne 122 = .ok (.aload_n 0, 1) := by decide +kernel
theorem dX12_doOne_123 : decode cX12_doOne 123 = .ok (.getfield 35, 3) := by decide +kernel
theorem dX12_doOne_126 : decode cX12_doOne 126 = .ok (.iload_n 2, 1) := by decide +kernel
theorem dX12_doOne_127 : decode cX12_doOne 127 = .ok (.iconst 1, 1) := by decide +kernel
theorem dX12_doOne_128 : decode cX12_doOne 128 = .ok (.iadd, 1) := by decide +kernel
theorem dX12_doOne_129 : decode cX12_doOne 129 = .ok (.iaload, 1) := by decide +kernel
theorem dX12_doOne_130 : decode cX12_doOne 130 = .ok (.if_icmp .ge 32, 3) := by decide +kernel
theorem dX12_doOne_133 : decode cX12_doOne 133 = .ok (.aload_n 0, 1) := by decide +kernel
theorem dX12_doOne_134 : decode cX12_doOne 134 = .ok (.getfield 450, 3) := by decide +kernel
theorem dX12_doOne_137 : decode cX12_doOne 137 = .ok (.ifCond .ne 25, 3) := by decide +kernel
theorem dX12_doOne_140 : decode cX12_doOne 140 = .ok (.aload_n 0, 1) := by decide +kernel
theorem dX12_doOne_141 : decode cX12_doOne 141 = .ok (.iload_n 1, 1) := by decide +kernel
theorem dX12_doOne_142 : decode cX12_doOne 142 = .ok (.iconst 1, 1) := by decide +kernel
theorem dX12_doOne_143 : decode cX12_doOne 143 = .ok (.iadd, 1) := by decide +kernel
theorem dX12_doOne_144 : decode cX12_doOne 144 = .ok (.aload_n 0, 1) := by decide +kernel
theorem dX12_doOne_145 : decode cX12_doOne 145 = .ok (.getfield 35, 3) := by decide +kernel
theorem dX12_doOne_148 : decode cX12_doOne 148 = .ok (.iload_n 2, 1) := by decide +kernel
theorem dX12_doOne_149 : decode cX12_doOne 149 = .ok (.bipush 8, 2) := by decide +kernel
theorem dX12_doOne_151 : decode cX12_doOne 151 = .ok (.iadd, 1) := by decide +kernel
theorem dX12_doOne_152 : decode cX12_doOne 152 = .ok (.iaload, 1) := by decide +kernel
theorem dX12_doOne_153 : decode cX12_doOne 153 = .ok (.invokevirtual 465, 3) := by decide +kernel
theorem dX12_doOne_156 : decode cX12_doOne 156 = .ok (.iinc 4 1, 3) := by decide +kernel
theorem dX12_doOne_159 : decode cX12_doOne 159 = .ok (.goto (-39), 3) := by decide +kernel
theorem dX12_doOne_162 : decode cX12_doOne 162 = .ok (.goto 14, 3) := by decide +kernel
theorem dX12_doOne_165 : decode cX12_doOne 165 = .ok (.iload_n 3, 1) := by decide +kernel
theorem dX12_doOne_166 : decode cX12_doOne 166 = .ok (.bipush 8, 2) := by decide +kernel
theorem dX12_doOne_168 : decode cX12_doOne 168 = .ok (.if_icmp .le 8, 3) := by decide +kernel
theorem dX12_doOne_171 : decode cX12_doOne 171 = .ok (.aload_n 0, 1) := by decide +kernel
theorem dX12_doOne_172 : decode cX12_doOne 172 = .ok (.iconst 1, 1) := by decide +kernel
theorem dX12_doOne_173 : decode cX12_doOne 173 = .ok (.putfield 450, 3) := by decide +kernel
theorem dX12_doOne_176 : decode cX12_doOne 176 = .ok (.return_, 1) := by decide +kernel
theorem dX12_doAll_0 : decode cX12_doAll 0 = .ok (.iload_n 1, 1) := by decide +kernel
theorem dX12_doAll_1 : decode cX12_doAll 1 = .ok (.istore_n 3, 1) := by decide +kernel
theorem dX12_doAll_2 : decode cX12_doAll 2 = .ok (.iload_n 3, 1) := by decide +kernel
theorem dX12_doAll_3 : decode cX12_doAll 3 = .ok (.iload_n 2, 1) := by decide +kernel
theorem dX12_doAll_4 : decode cX12_doAll 4 = .ok (.if_icmp .ge 35, 3) := by decide +kernel
theorem dX12_doAll_7 : decode cX12_doAll 7 = .ok (.aload_n 0, 1) := by decide +kernel
theorem dX12_doAll_8 : decode cX12_doAll 8 = .ok (.getfield 450, 3) := by decide +kernel
theorem dX12_doAll_11 : decode cX12_doAll 11 = .ok (.ifCond .ne 28, 3) := by decide +kernel
theorem dX12_doAll_14 : decode cX12_doAll 14 = .ok (.aload_n 0, 1) := by decide +kernel
theorem dX12_doAll_15 : decode cX12_doAll 15 = .ok (.iload_n 3, 1) := by decide +kernel
theorem dX12_doAll_16 : decode cX12_doAll 16 = .ok (.invokevirtual 468, 3) := by decide +kernel
theorem dX12_doAll_19 : decode cX12_doAll 19 = .ok (.aload_n 0, 1) := by decide +kernel
theorem dX12_doAll_20 : decode cX12_doAll 20 = .ok (.getfield 35, 3) := by decide +kernel
theorem dX12_doAll_23 : decode cX12_doAll 23 = .ok (.sipush 244, 3) := by decide +kernel
theorem dX12_doAll_26 : decode cX12_doAll 26 = .ok (.bipush 9, 2) := by decide +kernel
theorem dX12_doAll_28 : decode cX12_doAll 28 = .ok (.iload_n 3, 1) := by decide +kernel
theorem dX12_doAll_29 : decode cX12_doAll 29 = .ok (.imul, 1) := by decide +kernel
theorem dX12_doAll_30 : decode cX12_doAll 30 = .ok (.iadd, 1) := by decide +kernel
theorem dX12_doAll_31 : decode cX12_doAll 31 = .ok (.bipush 8, 2) := by decide +kernel
theorem dX12_doAll_33 : decode cX12_doAll 33 = .ok (.iadd, 1) := by decide +kernel
theorem dX12_doAll_34 : decode cX12_doAll 34 = .ok (.iaload, 1) := by decide +kernel
theorem dX12_doAll_35 : decode cX12_doAll 35 = .ok (.istore_n 3, 1) := by decide +kernel
theorem dX12_doAll_36 : decode cX12_doAll 36 = .ok (.goto (-34), 3) := by decide +kernel
theorem dX12_doAll_39 : decode cX12_doAll 39 = .ok (.return_, 1) := by decide +kernel
theorem dX12_runs_0 : decode cX12_runs 0 = .ok (.aload_n 0, 1) := by decide +kernel
theorem dX12_runs_1 : decode cX12_runs 1 = .ok (.iload_n 1, 1) := by decide +kernel
theorem dX12_runs_2 : decode cX12_runs 2 = .ok (.putfield 437, 3) := by decide +kernel
theorem dX12_runs_5 : decode cX12_runs 5 = .ok (.aload_n 0, 1) := by decide +kernel
theorem dX12_runs_6 : decode cX12_runs 6 = .ok (.iconst 0, 1) := by decide +kernel
theorem dX12_runs_7 : decode cX12_runs 7 = .ok (.putfield 447, 3) := by decide +kernel
theorem dX12_runs_10 : decode cX12_runs 10 = .ok (.aload_n 0, 1) := by decide +kernel
theorem dX12_runs_11 : decode cX12_runs 11 = .ok (.iconst 0, 1) := by decide +kernel
theorem dX12_runs_12 : decode cX12_runs 12 = .ok (.putfield 456, 3) := by decide +kernel
theorem dX12_runs_15 : decode cX12_runs 15 = .ok (.aload_n 0, 1) := by decide +kernel
theorem dX12_runs_16 : decode cX12_runs 16 = .ok (.iconst 0, 1) := by decide +kernel
theorem dX12_runs_17 : decode cX12_runs 17 = .ok (.putfield 444, 3) := by decide +kernel
theorem dX12_runs_20 : decode cX12_runs 20 = .ok (.aload_n 0, 1) := by decide +kernel
theorem dX12_runs_21 : decode cX12_runs 21 = .ok (.iconst 0, 1) := by decide +kernel
theorem dX12_runs_22 : decode cX12_runs 22 = .ok (.putfield 453, 3) := by decide +kernel
theorem dX12_runs_25 : decode cX12_runs 25 = .ok (.aload_n 0, 1) := by decide +kernel
theorem dX12_runs_26 : decode cX12_runs 26 = .ok (.iconst 0, 1) := by decide +kernel
theorem dX12_runs_27 : decode cX12_runs 27 = .ok (.putfield 450, 3) := by decide +kernel
theorem dX12_runs_30 : decode cX12_runs 30 = .ok (.aload_n 0, 1) := by decide +kernel
theorem dX12_runs_31 : decode cX12_runs 31 = .ok (.iconst 0, 1) := by decide +kernel
theorem dX12_runs_32 : decode cX12_runs 32 = .ok (.aload_n 0, 1) := by decide +kernel
theorem dX12_runs_33 : decode cX12_runs 33 = .ok (.getfield 35, 3) := by decide +kernel
theorem dX12_runs_36 : decode cX12_runs 36 = .ok (.sipush 243, 3) := by decide +kernel
theorem dX12_runs_39 : decode cX12_runs 39 = .ok (.iaload, 1) := by decide +kernel
theorem dX12_runs_40 : decode cX12_runs 40 = .ok (.invokevirtual 465, 3) := by decide +kernel
theorem dX12_runs_43 : decode cX12_runs 43 = .ok (.return_, 1) := by decide +kernel
theorem dX12_run_0 : decode cX12_run 0 = .ok (.aload_n 0, 1) := by decide +kernel
theorem dX12_run_1 : decode cX12_run 1 = .ok (.iconst 0, 1) := by decide +kernel
theorem dX12_run_2 : decode cX12_run 2 = .ok (.putfield 69, 3) := by decide +kernel
theorem dX12_run_5 : decode cX12_run 5 = .ok (.aload_n 0, 1) := by decide +kernel
theorem dX12_run_6 : decode cX12_run 6 = .ok (.iconst 0, 1) := by decide +kernel
theorem dX12_run_7 : decode cX12_run 7 = .ok (.putfield 72, 3) := by decide +kernel
theorem dX12_run_10 : decode cX12_run 10 = .ok (.iload_n 1, 1) := by decide +kernel
theorem dX12_run_11 : decode cX12_run 11 = .ok (.i2l, 1) := by decide +kernel
theorem dX12_run_12 : decode cX12_run 12 = .ok (.lconst 0, 1) := by decide +kernel
theorem dX12_run_13 : decode cX12_run 13 = .ok (.ldc2_w 471, 3) := by decide +kernel
theorem dX12_run_16 : decode cX12_run 16 = .ok (.invokestatic 104, 3) := by decide +kernel
theorem dX12_run_19 : decode cX12_run 19 = .ok (.ifCond .ne 9, 3) := by decide +kernel
theorem dX12_run_22 : decode cX12_run 22 = .ok (.aload_n 0, 1) := by decide +kernel
theorem dX12_run_23 : decode cX12_run 23 = .ok (.iconst 5, 1) := by decide +kernel
theorem dX12_run_24 : decode cX12_run 24 = .ok (.invokevirtual 298, 3) := by decide +kernel
theorem dX12_run_27 : decode cX12_run 27 = .ok (.ireturn, 1) := by decide +kernel
theorem dX12_run_28 : decode cX12_run 28 = .ok (.aload_n 0, 1) := by decide +kernel
theorem dX12_run_29 : decode cX12_run 29 = .ok (.getfield 35, 3) := by decide +kernel
theorem dX12_run_32 : decode cX12_run 32 = .ok (.sipush 242, 3) := by decide +kernel
theorem dX12_run_35 : decode cX12_run 35 = .ok (.iaload, 1) := by decide +kernel
theorem dX12_run_36 : decode cX12_run 36 = .ok (.ifCond .ne 10, 3) := by decide +kernel
theorem dX12_run_39 : decode cX12_run 39 = .ok (.aload_n 0, 1) := by decide +kernel
theorem dX12_run_40 : decode cX12_run 40 = .ok (.bipush 8, 2) := by decide +kernel
theorem dX12_run_42 : decode cX12_run 42 = .ok (.invokevirtual 298, 3) := by decide +kernel
theorem dX12_run_45 : decode cX12_run 45 = .ok (.ireturn, 1) := by decide +kernel
theorem dX12_run_46 : decode cX12_run 46 = .ok (.aload_n 0, 1) := by decide +kernel
theorem dX12_run_47 : decode cX12_run 47 = .ok (.getfield 35, 3) := by decide +kernel
theorem dX12_run_50 : decode cX12_run 50 = .ok (.iconst 4, 1) := by decide +kernel
theorem dX12_run_51 : decode cX12_run 51 = .ok (.iaload, 1) := by decide +kernel
theorem dX12_run_52 : decode cX12_run 52 = .ok (.istore_n 2, 1) := by decide +kernel
theorem dX12_run_53 : decode cX12_run 53 = .ok (.aload_n 0, 1) := by decide +kernel
theorem dX12_run_54 : decode cX12_run 54 = .ok (.iload_n 1, 1) := by decide +kernel
theorem dX12_run_55 : decode cX12_run 55 = .ok (.invokevirtual 473, 3) := by decide +kernel
theorem dX12_run_58 : decode cX12_run 58 = .ok (.aload_n 0, 1) := by decide +kernel
theorem dX12_run_59 : decode cX12_run 59 = .ok (.getfield 66, 3) := by decide +kernel
theorem dX12_run_62 : decode cX12_run 62 = .ok (.iconst 0, 1) := by decide +kernel
theorem dX12_run_63 : decode cX12_run 63 = .ok (.aload_n 0, 1) := by decide +kernel
theorem dX12_run_64 : decode cX12_run 64 = .ok (.getfield 456, 3) := by decide +kernel
theorem dX12_run_67 : decode cX12_run 67 = .ok (.iastore, 1) := by decide +kernel
theorem dX12_run_68 : decode cX12_run 68 = .ok (.aload_n 0, 1) := by decide +kernel
theorem dX12_run_69 : decode cX12_run 69 = .ok (.getfield 66, 3) := by decide +kernel
theorem dX12_run_72 : decode cX12_run 72 = .ok (.iconst 1, 1) := by decide +kernel
theorem dX12_run_73 : decode cX12_run 73 = .ok (.aload_n 0, 1) := by decide +kernel
theorem dX12_run_74 : decode cX12_run 74 = .ok (.getfield 444, 3) := by decide +kernel
theorem dX12_run_77 : decode cX12_run 77 = .ok (.iastore, 1) := by decide +kernel
theorem dX12_run_78 : decode cX12_run 78 = .ok (.aload_n 0, 1) := by decide +kernel
theorem dX12_run_79 : decode cX12_run 79 = .ok (.getfield 66, 3) := by decide +kernel
theorem dX12_run_82 : decode cX12_run 82 = .ok (.iconst 2, 1) := by decide +kernel
theorem dX12_run_83 : decode cX12_run 83 = .ok (.aload_n 0, 1) := by decide +kernel
theorem dX12_run_84 : decode cX12_run 84 = .ok (.getfield 35, 3) := by decide +kernel
theorem dX12_run_87 : decode cX12_run 87 = .ok (.iconst 4, 1) := by decide +kernel
theorem dX12_run_88 : decode cX12_run 88 = .ok (.iaload, 1) := by decide +kernel
theorem dX12_run_89 : decode cX12_run 89 = .ok (.iload_n 2, 1) := by decide +kernel
theorem dX12_run_90 : decode cX12_run 90 = .ok (.isub, 1) := by decide +kernel
theorem dX12_run_91 : decode cX12_run 91 = .ok (.iastore, 1) := by decide +kernel
theorem dX12_run_92 : decode cX12_run 92 = .ok (.aload_n 0, 1) := by decide +kernel
theorem dX12_run_93 : decode cX12_run 93 = .ok (.getfield 66, 3) := by decide +kernel
theorem dX12_run_96 : decode cX12_run 96 = .ok (.iconst 3, 1) := by decide +kernel
theorem dX12_run_97 : decode cX12_run 97 = .ok (.aload_n 0, 1) := by decide +kernel
theorem dX12_run_98 : decode cX12_run 98 = .ok (.getfield 453, 3) := by decide +kernel
theorem dX12_run_101 : decode cX12_run 101 = .ok (.iastore, 1) := by decide +kernel
theorem dX12_run_102 : decode cX12_run 102 = .ok (.aload_n 0, 1) := by decide +kernel
theorem dX12_run_103 : decode cX12_run 103 = .ok (.iconst 1, 1) := by decide +kernel
theorem dX12_run_104 : decode cX12_run 104 = .ok (.putfield 476, 3) := by decide +kernel
theorem dX12_run_107 : decode cX12_run 107 = .ok (.aload_n 0, 1) := by decide +kernel
theorem dX12_run_108 : decode cX12_run 108 = .ok (.getfield 447, 3) := by decide +kernel
theorem dX12_run_111 : decode cX12_run 111 = .ok (.ireturn, 1) := by decide +kernel
theorem dX12_ran_0 : decode cX12_ran 0 = .ok (.aload_n 0, 1) := by decide +kernel
theorem dX12_ran_1 : decode cX12_ran 1 = .ok (.iconst 0, 1) := by decide +kernel
theorem dX12_ran_2 : decode cX12_ran 2 = .ok (.putfield 69, 3) := by decide +kernel
theorem dX12_ran_5 : decode cX12_ran 5 = .ok (.aload_n 0, 1) := by decide +kernel
theorem dX12_ran_6 : decode cX12_ran 6 = .ok (.iconst 0, 1) := by decide +kernel
theorem dX12_ran_7 : decode cX12_ran 7 = .ok (.putfield 72, 3) := by decide +kernel
theorem dX12_ran_10 : decode cX12_ran 10 = .ok (.iload_n 1, 1) := by decide +kernel
theorem dX12_ran_11 : decode cX12_ran 11 = .ok (.i2l, 1) := by decide +kernel
theorem dX12_ran_12 : decode cX12_ran 12 = .ok (.lconst 0, 1) := by decide +kernel
theorem dX12_ran_13 : decode cX12_ran 13 = .ok (.ldc2_w 102, 3) := by decide +kernel
theorem dX12_ran_16 : decode cX12_ran 16 = .ok (.invokestatic 104, 3) := by decide +kernel
theorem dX12_ran_19 : decode cX12_ran 19 = .ok (.ifCond .ne 9, 3) := by decide +kernel
theorem dX12_ran_22 : decode cX12_ran 22 = .ok (.aload_n 0, 1) := by decide +kernel
theorem dX12_ran_23 : decode cX12_ran 23 = .ok (.iconst 5, 1) := by decide +kernel
theorem dX12_ran_24 : decode cX12_ran 24 = .ok (.invokevirtual 298, 3) := by decide +kernel
theorem dX12_ran_27 : decode cX12_ran 27 = .ok (.ireturn, 1) := by decide +kernel
theorem dX12_ran_28 : decode cX12_ran 28 = .ok (.aload_n 0, 1) := by decide +kernel
theorem dX12_ran_29 : decode cX12_ran 29 = .ok (.getfield 476, 3) := by decide +kernel
theorem dX12_ran_32 : decode cX12_ran 32 = .ok (.ifCond .eq 12, 3) := by decide +kernel
theorem dX12_ran_35 : decode cX12_ran 35 = .ok (.aload_n 0, 1) := by decide +kernel
theorem dX12_ran_36 : decode cX12_ran 36 = .ok (.getfield 66, 3) := by decide +kernel
theorem dX12_ran_39 : decode cX12_ran 39 = .ok (.iload_n 1, 1) := by decide +kernel
theorem dX12_ran_40 : decode cX12_ran 40 = .ok (.iaload, 1) := by decide +kernel
theorem dX12_ran_41 : decode cX12_ran 41 = .ok (.goto 9, 3) := by decide +kernel
theorem dX12_ran_44 : decode cX12_ran 44 = .ok (.aload_n 0, 1) := by decide +kernel
theorem dX12_ran_45 : decode cX12_ran 45 = .ok (.bipush 8, 2) := by decide +kernel
theorem dX12_ran_47 : decode cX12_ran 47 = .ok (.invokevirtual 298, 3) := by decide +kernel
theorem dX12_ran_50 : decode cX12_ran 50 = .ok (.ireturn, 1) := by decide +kernel
theorem dX12_peaces_0 : decode cX12_peaces 0 = .ok (.aload_n 0, 1) := by decide +kernel
theorem dX12_peaces_1 : decode cX12_peaces 1 = .ok (.iconst 0, 1) := by decide +kernel
theorem dX12_peaces_2 : decode cX12_peaces 2 = .ok (.putfield 69, 3) := by decide +kernel
theorem dX12_peaces_5 : decode cX12_peaces 5 = .ok (.aload_n 0, 1) := by decide +kernel
theorem dX12_peaces_6 : decode cX12_peaces 6 = .ok (.iconst 0, 1) := by decide +kernel
theorem dX12_peaces_7 : decode cX12_peaces 7 = .ok (.putfield 72, 3) := by decide +kernel
theorem dX12_peaces_10 : decode cX12_peaces 10 = .ok (.iload_n 2, 1) := by decide +kernel
theorem dX12_peaces_11 : decode cX12_peaces 11 = .ok (.i2l, 1) := by decide +kernel
theorem dX12_peaces_12 : decode cX12_peaces 12 = .ok (.lconst 1, 1) := by decide +kernel
theorem dX12_peaces_13 : decode cX12_peaces 13 = .ok (.ldc2_w 405, 3) := by decide +kernel
theorem dX12_peaces_16 : decode cX12_peaces 16 = .ok (.invokestatic 104, 3) := by decide +kernel
theorem dX12_peaces_19 : decode cX12_peaces 19 = .ok (.ifCond .eq 18, 3) := by decide +kernel
theorem dX12_peaces_22 : decode cX12_peaces 22 = .ok (.iload_n 1, 1) := by decide +kernel
theorem dX12_peaces_23 : decode cX12_peaces 23 = .ok (.i2l, 1) := by decide +kernel
theorem dX12_peaces_24 : decode cX12_peaces 24 = .ok (.lconst 0, 1) := by decide +kernel
theorem dX12_peaces_25 : decode cX12_peaces 25 = .ok (.sipush 10000, 3) := by decide +kernel
theorem dX12_peaces_28 : decode cX12_peaces 28 = .ok (.iload_n 2, 1) := by decide +kernel
theorem dX12_peaces_29 : decode cX12_peaces 29 = .ok (.isub, 1) := by decide +kernel
theorem dX12_peaces_30 : decode cX12_peaces 30 = .ok (.i2l, 1) := by decide +kernel
theorem dX12_peaces_31 : decode cX12_peaces 31 = .ok (.invokestatic 104, 3) := by decide +kernel
theorem dX12_peaces_34 : decode cX12_peaces 34 = .ok (.ifCond .ne 9, 3) := by decide +kernel
theorem dX12_peaces_37 : decode cX12_peaces 37 = .ok (.aload_n 0, 1) := by decide +kernel
theorem dX12_peaces_38 : decode cX12_peaces 38 = .ok (.iconst 5, 1) := by decide +kernel
theorem dX12_peaces_39 : decode cX12_peaces 39 = .ok (.invokevirtual 84, 3) := by decide +kernel
theorem dX12_peaces_42 : decode cX12_peaces 42 = .ok (.ireturn, 1) := by decide +kernel
theorem dX12_peaces_43 : decode cX12_peaces 43 = .ok (.aload_n 0, 1) := by decide +kernel
theorem dX12_peaces_44 : decode cX12_peaces 44 = .ok (.getfield 35, 3) := by decide +kernel
theorem dX12_peaces_47 : decode cX12_peaces 47 = .ok (.sipush 242, 3) := by decide +kernel
theorem dX12_peaces_50 : decode cX12_peaces 50 = .ok (.iaload, 1) := by decide +kernel
theorem dX12_peaces_51 : decode cX12_peaces 51 = .ok (.ifCond .ne 10, 3) := by decide +kernel
theorem dX12_peaces_54 : decode cX12_peaces 54 = .ok (.aload_n 0, 1) := by decide +kernel
theorem dX12_peaces_55 : decode cX12_peaces 55 = .ok (.bipush 8, 2) := by decide +kernel
theorem dX12_peaces_57 : decode cX12_peaces 57 = .ok (.invokevirtual 84, 3) := by decide +kernel
theorem dX12_peaces_60 : decode cX12_peaces 60 = .ok (.ireturn, 1) := by decide +kernel
theorem dX12_peaces_61 : decode cX12_peaces 61 = .ok (.iconst 0, 1) := by decide +kernel
theorem dX12_peaces_62 : decode cX12_peaces 62 = .ok (.istore_n 3, 1) := by decide +kernel
theorem dX12_peaces_63 : decode cX12_peaces 63 = .ok (.iload_n 3, 1) := by decide +kernel
theorem dX12_peaces_64 : decode cX12_peaces 64 = .ok (.sipush 242, 3) := by decide +kernel
theorem dX12_peaces_67 : decode cX12_peaces 67 = .ok (.if_icmp .ge 21, 3) := by decide +kernel
theorem dX12_peaces_70 : decode cX12_peaces 70 = .ok (.aload_n 0, 1) := by decide +kernel
theorem dX12_peaces_71 : decode cX12_peaces 71 = .ok (.getfield 38, 3) := by decide +kernel
theorem dX12_peaces_74 : decode cX12_peaces 74 = .ok (.iload_n 3, 1) := by decide +kernel
theorem dX12_peaces_75 : decode cX12_peaces 75 = .ok (.aload_n 0, 1) := by decide +kernel
theorem dX12_peaces_76 : decode cX12_peaces 76 = .ok (.getfield 35, 3) := by decide +kernel
theorem dX12_peaces_79 : decode cX12_peaces 79 = .ok (.iload_n 3, 1) := by decide +kernel
theorem dX12_peaces_80 : decode cX12_peaces 80 = .ok (.iaload, 1) := by decide +kernel
theorem dX12_peaces_81 : decode cX12_peaces 81 = .ok (.iastore, 1) := by decide +kernel
theorem dX12_peaces_82 : decode cX12_peaces 82 = .ok (.iinc 3 1, 3) := by decide +kernel
theorem dX12_peaces_85 : decode cX12_peaces 85 = .ok (.goto (-22), 3) := by decide +kernel
theorem dX12_peaces_88 : decode cX12_peaces 88 = .ok (.iconst 0, 1) := by decide +kernel
theorem dX12_peaces_89 : decode cX12_peaces 89 = .ok (.istore_n 3, 1) := by decide +kernel
theorem dX12_peaces_90 : decode cX12_peaces 90 = .ok (.iconst 0, 1) := by decide +kernel
theorem dX12_peaces_91 : decode cX12_peaces 91 = .ok (.istore 4, 2) := by decide +kernel
theorem dX12_peaces_93 : decode cX12_peaces 93 = .ok (.iload 4, 2) := by decide +kernel
theorem dX12_peaces_95 : decode cX12_peaces 95 = .ok (.iload_n 2, 1) := by decide +kernel
theorem dX12_peaces_96 : decode cX12_peaces 96 = .ok (.if_icmp .ge 68, 3) := by decide +kernel
theorem dX12_peaces_99 : decode cX12_peaces 99 = .ok (.aload_n 0, 1) := by decide +kernel
theorem dX12_peaces_100 : decode cX12_peaces 100 = .ok (.iload_n 1, 1) := by decide +kernel
theorem dX12_peaces_101 : decode cX12_peaces 101 = .ok (.iload 4, 2) := by decide +kernel
theorem dX12_peaces_103 : decode cX12_peaces 103 = .ok (.iadd, 1) := by decide +kernel
theorem dX12_peaces_104 : decode cX12_peaces 104 = .ok (.invokevirtual 473, 3) := by decide +kernel
theorem dX12_peaces_107 : decode cX12_peaces 107 = .ok (.iload_n 3, 1) := by decide +kernel
theorem dX12_peaces_108 : decode cX12_peaces 108 = .ok (.aload_n 0, 1) := by decide +kernel
theorem dX12_peaces_109 : decode cX12_peaces 109 = .ok (.invokevirtual 383, 3) := by decide +kernel
theorem dX12_peaces_112 : decode cX12_peaces 112 = .ok (.sipush 1000, 3) := by decide +kernel
theorem dX12_peaces_115 : decode cX12_peaces 115 = .ok (.idiv, 1) := by decide +kernel
theorem dX12_peaces_116 : decode cX12_peaces 116 = .ok (.iconst 4, 1) := by decide +kernel
theorem dX12_peaces_117 : decode cX12_peaces 117 = .ok (.if_icmp .gt 7, 3) := by decide +kernel
theorem dX12_peaces_120 : decode cX12_peaces 120 = .ok (.iconst 1, 1) := by decide +kernel
theorem dX12_peaces_121 : decode cX12_peaces 121 = .ok (.goto 4, 3) := by decide +kernel
theorem dX12_peaces_124 : decode cX12_peaces 124 = .ok (.iconst 0, 1) := by decide +kernel
theorem dX12_peaces_125 : decode cX12_peaces 125 = .ok (.iadd, 1) := by decide +kernel
theorem dX12_peaces_126 : decode cX12_peaces 126 = .ok (.istore_n 3, 1) := by decide +kernel
theorem dX12_peaces_127 : decode cX12_peaces 127 = .ok (.iconst 0, 1) := by decide +kernel
theorem dX12_peaces_128 : decode cX12_peaces 128 = .ok (.istore 5, 2) := by decide +kernel
theorem dX12_peaces_130 : decode cX12_peaces 130 = .ok (.iload 5, 2) := by decide +kernel
theorem dX12_peaces_132 : decode cX12_peaces 132 = .ok (.sipush 242, 3) := by decide +kernel
theorem dX12_peaces_135 : decode cX12_peaces 135 = .ok (.if_icmp .ge 23, 3) := by decide +kernel
theorem dX12_peaces_138 : decode cX12_peaces 138 = .ok (.aload_n 0, 1) := by decide +kernel
theorem dX12_peaces_139 : decode cX12_peaces 139 = .ok (.getfield 35, 3) := by decide +kernel
theorem dX12_peaces_142 : decode cX12_peaces 142 = .ok (.iload 5, 2) := by decide +kernel
theorem dX12_peaces_144 : decode cX12_peaces 144 = .ok (.aload_n 0, 1) := by decide +kernel
theorem dX12_peaces_145 : decode cX12_peaces 145 = .ok (.getfield 38, 3) := by decide +kernel
theorem dX12_peaces_148 : decode cX12_peaces 148 = .ok (.iload 5, 2) := by decide +kernel
theorem dX12_peaces_150 : decode cX12_peaces 150 = .ok (.iaload, 1) := by decide +kernel
theorem dX12_peaces_151 : decode cX12_peaces 151 = .ok (.iastore, 1) := by decide +kernel
theorem dX12_peaces_152 : decode cX12_peaces 152 = .ok (.iinc 5 1, 3) := by decide +kernel
theorem dX12_peaces_155 : decode cX12_peaces 155 = .ok (.goto (-25), 3) := by decide +kernel
theorem dX12_peaces_158 : decode cX12_peaces 158 = .ok (.iinc 4 1, 3) := by decide +kernel
theorem dX12_peaces_161 : decode cX12_peaces 161 = .ok (.goto (-68), 3) := by decide +kernel
theorem dX12_peaces_164 : decode cX12_peaces 164 = .ok (.aload_n 0, 1) := by decide +kernel
theorem dX12_peaces_165 : decode cX12_peaces 165 = .ok (.iload_n 3, 1) := by decide +kernel
theorem dX12_peaces_166 : decode cX12_peaces 166 = .ok (.i2l, 1) := by decide +kernel
theorem dX12_peaces_167 : decode cX12_peaces 167 = .ok (.iload_n 2, 1) := by decide +kernel
theorem dX12_peaces_168 : decode cX12_peaces 168 = .ok (.i2l, 1) := by decide +kernel
theorem dX12_peaces_169 : decode cX12_peaces 169 = .ok (.invokevirtual 433, 3) := by decide +kernel
theorem dX12_peaces_172 : decode cX12_peaces 172 = .ok (.ireturn, 1) := by decide +kernel
theorem dX12_copy_0 : decode cX12_copy 0 = .ok (.iconst 0, 1) := by decide +kernel
theorem dX12_copy_1 : decode cX12_copy 1 = .ok (.istore_n 3, 1) := by decide +kernel
theorem dX12_copy_2 : decode cX12_copy 2 = .ok (.iload_n 3, 1) := by decide +kernel
theorem dX12_copy_3 : decode cX12_copy 3 = .ok (.sipush 520, 3) := by decide +kernel
theorem dX12_copy_6 : decode cX12_copy 6 = .ok (.if_icmp .ge 33, 3) := by decide +kernel
theorem dX12_copy_9 : decode cX12_copy 9 = .ok (.aload_n 0, 1) := by decide +kernel
theorem dX12_copy_10 : decode cX12_copy 10 = .ok (.getfield 35, 3) := by decide +kernel
theorem dX12_copy_13 : decode cX12_copy 13 = .ok (.sipush 520, 3) := by decide +kernel
theorem dX12_copy_16 : decode cX12_copy 16 = .ok (.iload_n 2, 1) := by decide +kernel
theorem dX12_copy_17 : decode cX12_copy 17 = .ok (.imul, 1) := by decide +kernel
theorem dX12_copy_18 : decode cX12_copy 18 = .ok (.iload_n 3, 1) := by decide +kernel
theorem dX12_copy_19 : decode cX12_copy 19 = .ok (.iadd, 1) := by decide +kernel
theorem dX12_copy_20 : decode cX12_copy 20 = .ok (.aload_n 0, 1) := by decide +kernel
theorem dX12_copy_21 : decode cX12_copy 21 = .ok (.getfield 35, 3) := by decide +kernel
theorem dX12_copy_24 : decode cX12_copy 24 = .ok (.sipush 520, 3) := by decide +kernel
theorem dX12_copy_27 : decode cX12_copy 27 = .ok (.iload_n 1, 1) := by decide +kernel
theorem dX12_copy_28 : decode cX12_copy 28 = .ok (.imul, 1) := by decide +kernel
theorem dX12_copy_29 : decode cX12_copy 29 = .ok (.iload_n 3, 1) := by decide +kernel
theorem dX12_copy_30 : decode cX12_copy 30 = .ok (.iadd, 1) := by decide +kernel
theorem dX12_copy_31 : decode cX12_copy 31 = .ok (.iaload, 1) := by decide +kernel
theorem dX12_copy_32 : decode cX12_copy 32 = .ok (.iastore, 1) := by decide +kernel
theorem dX12_copy_33 : decode cX12_copy 33 = .ok (.iinc 3 1, 3) := by decide +kernel
theorem dX12_copy_36 : decode cX12_copy 36 = .ok (.goto (-34), 3) := by decide +kernel
theorem dX12_copy_39 : decode cX12_copy 39 = .ok (.return_, 1) := by decide +kernel
theorem dX12_mark_0 : decode cX12_mark 0 = .ok (.aload_n 0, 1) := by decide +kernel
theorem dX12_mark_1 : decode cX12_mark 1 = .ok (.iconst 0, 1) := by decide +kernel
theorem dX12_mark_2 : decode cX12_mark 2 = .ok (.putfield 69, 3) := by decide +kernel
theorem dX12_mark_5 : decode cX12_mark 5 = .ok (.aload_n 0, 1) := by decide +kernel
theorem dX12_mark_6 : decode cX12_mark 6 = .ok (.iconst 0, 1) := by decide +kernel
theorem dX12_mark_7 : decode cX12_mark 7 = .ok (.putfield 72, 3) := by decide +kernel
theorem dX12_mark_10 : decode cX12_mark 10 = .ok (.aload_n 0, 1) := by decide +kernel
theorem dX12_mark_11 : decode cX12_mark 11 = .ok (.getfield 479, 3) := by decide +kernel
theorem dX12_mark_14 : decode cX12_mark 14 = .ok (.iconst 3, 1) := by decide +kernel
theorem dX12_mark_15 : decode cX12_mark 15 = .ok (.if_icmp .ne 10, 3) := by decide +kernel
theorem dX12_mark_18 : decode cX12_mark 18 = .ok (.aload_n 0, 1) := by decide +kernel
theorem dX12_mark_19 : decode cX12_mark 19 = .ok (.bipush 7, 2) := by decide +kernel
theorem dX12_mark_21 : decode cX12_mark 21 = .ok (.invokevirtual 298, 3) := by decide +kernel
theorem dX12_mark_24 : decode cX12_mark 24 = .ok (.ireturn, 1) := by decide +kernel
theorem dX12_mark_25 : decode cX12_mark 25 = .ok (.aload_n 0, 1) := by decide +kernel
theorem dX12_mark_26 : decode cX12_mark 26 = .ok (.dup, 1) := by decide +kernel
theorem dX12_mark_27 : decode cX12_mark 27 = .ok (.getfield 479, 3) := by decide +kernel
theorem dX12_mark_30 : decode cX12_mark 30 = .ok (.iconst 1, 1) := by decide +kernel
theorem dX12_mark_31 : decode cX12_mark 31 = .ok (.iadd, 1) := by decide +kernel
theorem dX12_mark_32 : decode cX12_mark 32 = .ok (.putfield 479, 3) := by decide +kernel
theorem dX12_mark_35 : decode cX12_mark 35 = .ok (.aload_n 0, 1) := by decide +kernel
theorem dX12_mark_36 : decode cX12_mark 36 = .ok (.iconst 0, 1) := by decide +kernel
theorem dX12_mark_37 : decode cX12_mark 37 = .ok (.aload_n 0, 1) := by decide +kernel
theorem dX12_mark_38 : decode cX12_mark 38 = .ok (.getfield 479, 3) := by decide +kernel
theorem dX12_mark_41 : decode cX12_mark 41 = .ok (.invokevirtual 482, 3) := by decide +kernel
theorem dX12_mark_44 : decode cX12_mark 44 = .ok (.aload_n 0, 1) := by decide +kernel
theorem dX12_mark_45 : decode cX12_mark 45 = .ok (.getfield 479, 3) := by decide +kernel
theorem dX12_mark_48 : decode cX12_mark 48 = .ok (.ireturn, 1) := by decide +kernel
theorem dX12_back_0 : decode cX12_back 0 = .ok (.aload_n 0, 1) := by decide +kernel
theorem dX12_back_1 : decode cX12_back 1 = .ok (.iconst 0, 1) := by decide +kernel
theorem dX12_back_2 : decode cX12_back 2 = .ok (.putfield 69, 3) := by decide +kernel
theorem dX12_back_5 : decode cX12_back 5 = .ok (.aload_n 0, 1) := by decide +kernel
theorem dX12_back_6 : decode cX12_back 6 = .ok (.iconst 0, 1) := by decide +kernel
theorem dX12_back_7 : decode cX12_back 7 = .ok (.putfield 72, 3) := by decide +kernel
theorem dX12_back_10 : decode cX12_back 10 = .ok (.aload_n 0, 1) := by decide +kernel
theorem dX12_back_11 : decode cX12_back 11 = .ok (.getfield 479, 3) := by decide +kernel
theorem dX12_back_14 : decode cX12_back 14 = .ok (.ifCond .ne 10, 3) := by decide +kernel
theorem dX12_back_17 : decode cX12_back 17 = .ok (.aload_n 0, 1) := by decide +kernel
theorem dX12_back_18 : decode cX12_back 18 = .ok (.bipush 8, 2) := by decide +kernel
theorem dX12_back_20 : decode cX12_back 20 = .ok (.invokevirtual 298, 3) := by decide +kernel
theorem dX12_back_23 : decode cX12_back 23 = .ok (.ireturn, 1) := by decide +kernel
theorem dX12_back_24 : decode cX12_back 24 = .ok (.aload_n 0, 1) := by decide +kernel
theorem dX12_back_25 : decode cX12_back 25 = .ok (.aload_n 0, 1) := by decide +kernel
theorem dX12_back_26 : decode cX12_back 26 = .ok (.getfield 479, 3) := by decide +kernel
theorem dX12_back_29 : decode cX12_back 29 = .ok (.iconst 0, 1) := by decide +kernel
theorem dX12_back_30 : decode cX12_back 30 = .ok (.invokevirtual 482, 3) := by decide +kernel
theorem dX12_back_33 : decode cX12_back 33 = .ok (.aload_n 0, 1) := by decide +kernel
theorem dX12_back_34 : decode cX12_back 34 = .ok (.dup, 1) := by decide +kernel
theorem dX12_back_35 : decode cX12_back 35 = .ok (.getfield 479, 3) := by decide +kernel
theorem dX12_back_38 : decode cX12_back 38 = .ok (.iconst 1, 1) := by decide +kernel
theorem dX12_back_39 : decode cX12_back 39 = .ok (.isub, 1) := by decide +kernel
theorem dX12_back_40 : decode cX12_back 40 = .ok (.putfield 479, 3) := by decide +kernel
theorem dX12_back_43 : decode cX12_back 43 = .ok (.aload_n 0, 1) := by decide +kernel
theorem dX12_back_44 : decode cX12_back 44 = .ok (.getfield 479, 3) := by decide +kernel
theorem dX12_back_47 : decode cX12_back 47 = .ok (.ireturn, 1) := by decide +kernel
