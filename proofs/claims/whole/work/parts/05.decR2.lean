theorem dX6_not0_72 : decode cX6_not0 72 = .ok (.ifCond .ne 5, 3) := by decide +kernel
theorem dX6_not0_75 : decode cX6_not0 75 = .ok (.iload_n 1, 1) := by decide +kernel
theorem dX6_not0_76 : decode cX6_not0 76 = .ok (.ireturn, 1) := by decide +kernel
theorem dX6_not0_77 : decode cX6_not0 77 = .ok (.aload_n 0, 1) := by decide +kernel
theorem dX6_not0_78 : decode cX6_not0 78 = .ok (.getfield 186, 3) := by decide +kernel
theorem dX6_not0_81 : decode cX6_not0 81 = .ok (.ldc2_w 253, 3) := by decide +kernel
theorem dX6_not0_84 : decode cX6_not0 84 = .ok (.lcmp, 1) := by decide +kernel
theorem dX6_not0_85 : decode cX6_not0 85 = .ok (.ifCond .ne 7, 3) := by decide +kernel
theorem dX6_not0_88 : decode cX6_not0 88 = .ok (.iconst 1, 1) := by decide +kernel
theorem dX6_not0_89 : decode cX6_not0 89 = .ok (.goto 4, 3) := by decide +kernel
theorem dX6_not0_92 : decode cX6_not0 92 = .ok (.iconst 0, 1) := by decide +kernel
theorem dX6_not0_93 : decode cX6_not0 93 = .ok (.istore_n 2, 1) := by decide +kernel
theorem dX6_not0_94 : decode cX6_not0 94 = .ok (.aload_n 0, 1) := by decide +kernel
theorem dX6_not0_95 : decode cX6_not0 95 = .ok (.invokevirtual 206, 3) := by decide +kernel
theorem dX6_not0_98 : decode cX6_not0 98 = .ok (.aload_n 0, 1) := by decide +kernel
theorem dX6_not0_99 : decode cX6_not0 99 = .ok (.invokevirtual 342, 3) := by decide +kernel
theorem dX6_not0_102 : decode cX6_not0 102 = .ok (.istore_n 3, 1) := by decide +kernel
theorem dX6_not0_103 : decode cX6_not0 103 = .ok (.iload_n 2, 1) := by decide +kernel
theorem dX6_not0_104 : decode cX6_not0 104 = .ok (.ifCond .eq 11, 3) := by decide +kernel
theorem dX6_not0_107 : decode cX6_not0 107 = .ok (.iload_n 1, 1) := by decide +kernel
theorem dX6_not0_108 : decode cX6_not0 108 = .ok (.iload_n 3, 1) := by decide +kernel
theorem dX6_not0_109 : decode cX6_not0 109 = .ok (.if_icmp .ge 15, 3) := by decide +kernel
theorem dX6_not0_112 : decode cX6_not0 112 = .ok (.goto 8, 3) := by decide +kernel
theorem dX6_not0_115 : decode cX6_not0 115 = .ok (.iload_n 1, 1) := by decide +kernel
theorem dX6_not0_116 : decode cX6_not0 116 = .ok (.iload_n 3, 1) := by decide +kernel
theorem dX6_not0_117 : decode cX6_not0 117 = .ok (.if_icmp .ne 7, 3) := by decide +kernel
theorem dX6_not0_120 : decode cX6_not0 120 = .ok (.iconst 1, 1) := by decide +kernel
theorem dX6_not0_121 : decode cX6_not0 121 = .ok (.goto 4, 3) := by decide +kernel
theorem dX6_not0_124 : decode cX6_not0 124 = .ok (.iconst 0, 1) := by decide +kernel
theorem dX6_not0_125 : decode cX6_not0 125 = .ok (.ireturn, 1) := by decide +kernel
theorem dX6_both0_0 : decode cX6_both0 0 = .ok (.aload_n 0, 1) := by decide +kernel
theorem dX6_both0_1 : decode cX6_both0 1 = .ok (.invokevirtual 345, 3) := by decide +kernel
theorem dX6_both0_4 : decode cX6_both0 4 = .ok (.istore_n 1, 1) := by decide +kernel
theorem dX6_both0_5 : decode cX6_both0 5 = .ok (.aload_n 0, 1) := by decide +kernel
theorem dX6_both0_6 : decode cX6_both0 6 = .ok (.bipush 97, 2) := by decide +kernel
theorem dX6_both0_8 : decode cX6_both0 8 = .ok (.bipush 110, 2) := by decide +kernel
theorem dX6_both0_10 : decode cX6_both0 10 = .ok (.bipush 100, 2) := by decide +kernel
theorem dX6_both0_12 : decode cX6_both0 12 = .ok (.iconst 0, 1) := by decide +kernel
theorem dX6_both0_13 : decode cX6_both0 13 = .ok (.iconst 0, 1) := by decide +kernel
theorem dX6_both0_14 : decode cX6_both0 14 = .ok (.iconst 0, 1) := by decide +kernel
theorem dX6_both0_15 : decode cX6_both0 15 = .ok (.iconst 0, 1) := by decide +kernel
theorem dX6_both0_16 : decode cX6_both0 16 = .ok (.iconst 0, 1) := by decide +kernel
theorem dX6_both0_17 : decode cX6_both0 17 = .ok (.invokevirtual 209, 3) := by decide +kernel
theorem dX6_both0_20 : decode cX6_both0 20 = .ok (.ifCond .eq 29, 3) := by decide +kernel
theorem dX6_both0_23 : decode cX6_both0 23 = .ok (.aload_n 0, 1) := by decide +kernel
theorem dX6_both0_24 : decode cX6_both0 24 = .ok (.invokevirtual 206, 3) := by decide +kernel
theorem dX6_both0_27 : decode cX6_both0 27 = .ok (.aload_n 0, 1) := by decide +kernel
theorem dX6_both0_28 : decode cX6_both0 28 = .ok (.invokevirtual 345, 3) := by decide +kernel
theorem dX6_both0_31 : decode cX6_both0 31 = .ok (.istore_n 2, 1) := by decide +kernel
theorem dX6_both0_32 : decode cX6_both0 32 = .ok (.iload_n 1, 1) := by decide +kernel
theorem dX6_both0_33 : decode cX6_both0 33 = .ok (.ifCond .eq 11, 3) := by decide +kernel
theorem dX6_both0_36 : decode cX6_both0 36 = .ok (.iload_n 2, 1) := by decide +kernel
theorem dX6_both0_37 : decode cX6_both0 37 = .ok (.ifCond .eq 7, 3) := by decide +kernel
theorem dX6_both0_40 : decode cX6_both0 40 = .ok (.iconst 1, 1) := by decide +kernel
theorem dX6_both0_41 : decode cX6_both0 41 = .ok (.goto 4, 3) := by decide +kernel
theorem dX6_both0_44 : decode cX6_both0 44 = .ok (.iconst 0, 1) := by decide +kernel
theorem dX6_both0_45 : decode cX6_both0 45 = .ok (.istore_n 1, 1) := by decide +kernel
theorem dX6_both0_46 : decode cX6_both0 46 = .ok (.goto (-41), 3) := by decide +kernel
theorem dX6_both0_49 : decode cX6_both0 49 = .ok (.iload_n 1, 1) := by decide +kernel
theorem dX6_both0_50 : decode cX6_both0 50 = .ok (.ireturn, 1) := by decide +kernel
theorem dX6_either0_0 : decode cX6_either0 0 = .ok (.aload_n 0, 1) := by decide +kernel
theorem dX6_either0_1 : decode cX6_either0 1 = .ok (.invokevirtual 348, 3) := by decide +kernel
theorem dX6_either0_4 : decode cX6_either0 4 = .ok (.istore_n 1, 1) := by decide +kernel
theorem dX6_either0_5 : decode cX6_either0 5 = .ok (.aload_n 0, 1) := by decide +kernel
theorem dX6_either0_6 : decode cX6_either0 6 = .ok (.bipush 111, 2) := by decide +kernel
theorem dX6_either0_8 : decode cX6_either0 8 = .ok (.bipush 114, 2) := by decide +kernel
theorem dX6_either0_10 : decode cX6_either0 10 = .ok (.iconst 0, 1) := by decide +kernel
theorem dX6_either0_11 : decode cX6_either0 11 = .ok (.iconst 0, 1) := by decide +kernel
theorem dX6_either0_12 : decode cX6_either0 12 = .ok (.iconst 0, 1) := by decide +kernel
theorem dX6_either0_13 : decode cX6_either0 13 = .ok (.iconst 0, 1) := by decide +kernel
theorem dX6_either0_14 : decode cX6_either0 14 = .ok (.iconst 0, 1) := by decide +kernel
theorem dX6_either0_15 : decode cX6_either0 15 = .ok (.iconst 0, 1) := by decide +kernel
theorem dX6_either0_16 : decode cX6_either0 16 = .ok (.invokevirtual 209, 3) := by decide +kernel
theorem dX6_either0_19 : decode cX6_either0 19 = .ok (.ifCond .eq 29, 3) := by decide +kernel
theorem dX6_either0_22 : decode cX6_either0 22 = .ok (.aload_n 0, 1) := by decide +kernel
theorem dX6_either0_23 : decode cX6_either0 23 = .ok (.invokevirtual 206, 3) := by decide +kernel
theorem dX6_either0_26 : decode cX6_either0 26 = .ok (.aload_n 0, 1) := by decide +kernel
theorem dX6_either0_27 : decode cX6_either0 27 = .ok (.invokevirtual 348, 3) := by decide +kernel
theorem dX6_either0_30 : decode cX6_either0 30 = .ok (.istore_n 2, 1) := by decide +kernel
theorem dX6_either0_31 : decode cX6_either0 31 = .ok (.iload_n 1, 1) := by decide +kernel
theorem dX6_either0_32 : decode cX6_either0 32 = .ok (.ifCond .ne 7, 3) := by decide +kernel
theorem dX6_either0_35 : decode cX6_either0 35 = .ok (.iload_n 2, 1) := by decide +kernel
theorem dX6_either0_36 : decode cX6_either0 36 = .ok (.ifCond .eq 7, 3) := by decide +kernel
theorem dX6_either0_39 : decode cX6_either0 39 = .ok (.iconst 1, 1) := by decide +kernel
theorem dX6_either0_40 : decode cX6_either0 40 = .ok (.goto 4, 3) := by decide +kernel
theorem dX6_either0_43 : decode cX6_either0 43 = .ok (.iconst 0, 1) := by decide +kernel
theorem dX6_either0_44 : decode cX6_either0 44 = .ok (.istore_n 1, 1) := by decide +kernel
theorem dX6_either0_45 : decode cX6_either0 45 = .ok (.goto (-40), 3) := by decide +kernel
theorem dX6_either0_48 : decode cX6_either0 48 = .ok (.iload_n 1, 1) := by decide +kernel
theorem dX6_either0_49 : decode cX6_either0 49 = .ok (.ireturn, 1) := by decide +kernel
theorem dX6_part_0 : decode cX6_part 0 = .ok (.iload_n 1, 1) := by decide +kernel
theorem dX6_part_1 : decode cX6_part 1 = .ok (.ifCond .ne 7, 3) := by decide +kernel
theorem dX6_part_4 : decode cX6_part 4 = .ok (.aload_n 0, 1) := by decide +kernel
theorem dX6_part_5 : decode cX6_part 5 = .ok (.invokevirtual 203, 3) := by decide +kernel
theorem dX6_part_8 : decode cX6_part 8 = .ok (.aload_n 0, 1) := by decide +kernel
theorem dX6_part_9 : decode cX6_part 9 = .ok (.getfield 190, 3) := by decide +kernel
theorem dX6_part_12 : decode cX6_part 12 = .ok (.ifCond .ne 7, 3) := by decide +kernel
theorem dX6_part_15 : decode cX6_part 15 = .ok (.aload_n 0, 1) := by decide +kernel
theorem dX6_part_16 : decode cX6_part 16 = .ok (.invokevirtual 206, 3) := by decide +kernel
theorem dX6_part_19 : decode cX6_part 19 = .ok (.aload_n 0, 1) := by decide +kernel
theorem dX6_part_20 : decode cX6_part 20 = .ok (.getfield 190, 3) := by decide +kernel
theorem dX6_part_23 : decode cX6_part 23 = .ok (.ifCond .eq 7, 3) := by decide +kernel
theorem dX6_part_26 : decode cX6_part 26 = .ok (.iconst 0, 1) := by decide +kernel
theorem dX6_part_27 : decode cX6_part 27 = .ok (.goto 7, 3) := by decide +kernel
theorem dX6_part_30 : decode cX6_part 30 = .ok (.aload_n 0, 1) := by decide +kernel
theorem dX6_part_31 : decode cX6_part 31 = .ok (.invokevirtual 351, 3) := by decide +kernel
theorem dX6_part_34 : decode cX6_part 34 = .ok (.istore_n 2, 1) := by decide +kernel
theorem dX6_part_35 : decode cX6_part 35 = .ok (.aload_n 0, 1) := by decide +kernel
theorem dX6_part_36 : decode cX6_part 36 = .ok (.bipush 59, 2) := by decide +kernel
theorem dX6_part_38 : decode cX6_part 38 = .ok (.invokevirtual 231, 3) := by decide +kernel
theorem dX6_part_41 : decode cX6_part 41 = .ok (.ifCond .ne 7, 3) := by decide +kernel
theorem dX6_part_44 : decode cX6_part 44 = .ok (.aload_n 0, 1) := by decide +kernel
theorem dX6_part_45 : decode cX6_part 45 = .ok (.invokevirtual 203, 3) := by decide +kernel
theorem dX6_part_48 : decode cX6_part 48 = .ok (.aload_n 0, 1) := by decide +kernel
theorem dX6_part_49 : decode cX6_part 49 = .ok (.getfield 190, 3) := by decide +kernel
theorem dX6_part_52 : decode cX6_part 52 = .ok (.ifCond .ne 7, 3) := by decide +kernel
theorem dX6_part_55 : decode cX6_part 55 = .ok (.aload_n 0, 1) := by decide +kernel
theorem dX6_part_56 : decode cX6_part 56 = .ok (.invokevirtual 206, 3) := by decide +kernel
theorem dX6_part_59 : decode cX6_part 59 = .ok (.iload_n 2, 1) := by decide +kernel
theorem dX6_part_60 : decode cX6_part 60 = .ok (.ireturn, 1) := by decide +kernel
theorem dX6_read_0 : decode cX6_read 0 = .ok (.aload_n 0, 1) := by decide +kernel
theorem dX6_read_1 : decode cX6_read 1 = .ok (.sipush 160, 3) := by decide +kernel
theorem dX6_read_4 : decode cX6_read 4 = .ok (.iload_n 1, 1) := by decide +kernel
theorem dX6_read_5 : decode cX6_read 5 = .ok (.imul, 1) := by decide +kernel
theorem dX6_read_6 : decode cX6_read 6 = .ok (.putfield 162, 3) := by decide +kernel
theorem dX6_read_9 : decode cX6_read 9 = .ok (.aload_n 0, 1) := by decide +kernel
theorem dX6_read_10 : decode cX6_read 10 = .ok (.aload_n 0, 1) := by decide +kernel
theorem dX6_read_11 : decode cX6_read 11 = .ok (.getfield 17, 3) := by decide +kernel
theorem dX6_read_14 : decode cX6_read 14 = .ok (.iload_n 1, 1) := by decide +kernel
theorem dX6_read_15 : decode cX6_read 15 = .ok (.iaload, 1) := by decide +kernel
theorem dX6_read_16 : decode cX6_read 16 = .ok (.putfield 159, 3) := by decide +kernel
theorem dX6_read_19 : decode cX6_read 19 = .ok (.aload_n 0, 1) := by decide +kernel
theorem dX6_read_20 : decode cX6_read 20 = .ok (.iconst 0, 1) := by decide +kernel
theorem dX6_read_21 : decode cX6_read 21 = .ok (.putfield 165, 3) := by decide +kernel
theorem dX6_read_24 : decode cX6_read 24 = .ok (.aload_n 0, 1) := by decide +kernel
theorem dX6_read_25 : decode cX6_read 25 = .ok (.iconst 0, 1) := by decide +kernel
theorem dX6_read_26 : decode cX6_read 26 = .ok (.putfield 200, 3) := by decide +kernel
theorem dX6_read_29 : decode cX6_read 29 = .ok (.aload_n 0, 1) := by decide +kernel
theorem dX6_read_30 : decode cX6_read 30 = .ok (.iconst 0, 1) := by decide +kernel
theorem dX6_read_31 : decode cX6_read 31 = .ok (.putfield 190, 3) := by decide +kernel
theorem dX6_read_34 : decode cX6_read 34 = .ok (.aload_n 0, 1) := by decide +kernel
theorem dX6_read_35 : decode cX6_read 35 = .ok (.invokevirtual 206, 3) := by decide +kernel
theorem dX6_read_38 : decode cX6_read 38 = .ok (.aload_n 0, 1) := by decide +kernel
theorem dX6_read_39 : decode cX6_read 39 = .ok (.aload_n 0, 1) := by decide +kernel
theorem dX6_read_40 : decode cX6_read 40 = .ok (.bipush 103, 2) := by decide +kernel
theorem dX6_read_42 : decode cX6_read 42 = .ok (.bipush 114, 2) := by decide +kernel
theorem dX6_read_44 : decode cX6_read 44 = .ok (.bipush 111, 2) := by decide +kernel
theorem dX6_read_46 : decode cX6_read 46 = .ok (.bipush 119, 2) := by decide +kernel
theorem dX6_read_48 : decode cX6_read 48 = .ok (.bipush 115, 2) := by decide +kernel
theorem dX6_read_50 : decode cX6_read 50 = .ok (.iconst 0, 1) := by decide +kernel
theorem dX6_read_51 : decode cX6_read 51 = .ok (.iconst 0, 1) := by decide +kernel
theorem dX6_read_52 : decode cX6_read 52 = .ok (.iconst 0, 1) := by decide +kernel
theorem dX6_read_53 : decode cX6_read 53 = .ok (.invokevirtual 209, 3) := by decide +kernel
theorem dX6_read_56 : decode cX6_read 56 = .ok (.invokevirtual 354, 3) := by decide +kernel
theorem dX6_read_59 : decode cX6_read 59 = .ok (.istore_n 3, 1) := by decide +kernel
theorem dX6_read_60 : decode cX6_read 60 = .ok (.aload_n 0, 1) := by decide +kernel
theorem dX6_read_61 : decode cX6_read 61 = .ok (.getfield 190, 3) := by decide +kernel
theorem dX6_read_64 : decode cX6_read 64 = .ok (.ifCond .eq 7, 3) := by decide +kernel
theorem dX6_read_67 : decode cX6_read 67 = .ok (.iconst 0, 1) := by decide +kernel
theorem dX6_read_68 : decode cX6_read 68 = .ok (.goto 24, 3) := by decide +kernel
theorem dX6_read_71 : decode cX6_read 71 = .ok (.aload_n 0, 1) := by decide +kernel
theorem dX6_read_72 : decode cX6_read 72 = .ok (.aload_n 0, 1) := by decide +kernel
theorem dX6_read_73 : decode cX6_read 73 = .ok (.bipush 101, 2) := by decide +kernel
theorem dX6_read_75 : decode cX6_read 75 = .ok (.bipush 118, 2) := by decide +kernel
theorem dX6_read_77 : decode cX6_read 77 = .ok (.bipush 101, 2) := by decide +kernel
theorem dX6_read_79 : decode cX6_read 79 = .ok (.bipush 110, 2) := by decide +kernel
theorem dX6_read_81 : decode cX6_read 81 = .ok (.bipush 115, 2) := by decide +kernel
theorem dX6_read_83 : decode cX6_read 83 = .ok (.iconst 0, 1) := by decide +kernel
theorem dX6_read_84 : decode cX6_read 84 = .ok (.iconst 0, 1) := by decide +kernel
theorem dX6_read_85 : decode cX6_read 85 = .ok (.iconst 0, 1) := by decide +kernel
theorem dX6_read_86 : decode cX6_read 86 = .ok (.invokevirtual 209, 3) := by decide +kernel
theorem dX6_read_89 : decode cX6_read 89 = .ok (.invokevirtual 354, 3) := by decide +kernel
theorem dX6_read_92 : decode cX6_read 92 = .ok (.istore 4, 2) := by decide +kernel
theorem dX6_read_94 : decode cX6_read 94 = .ok (.aload_n 0, 1) := by decide +kernel
theorem dX6_read_95 : decode cX6_read 95 = .ok (.getfield 190, 3) := by decide +kernel
theorem dX6_read_98 : decode cX6_read 98 = .ok (.ifCond .eq 7, 3) := by decide +kernel
theorem dX6_read_101 : decode cX6_read 101 = .ok (.iconst 0, 1) := by decide +kernel
theorem dX6_read_102 : decode cX6_read 102 = .ok (.goto 24, 3) := by decide +kernel
theorem dX6_read_105 : decode cX6_read 105 = .ok (.aload_n 0, 1) := by decide +kernel
theorem dX6_read_106 : decode cX6_read 106 = .ok (.aload_n 0, 1) := by decide +kernel
theorem dX6_read_107 : decode cX6_read 107 = .ok (.bipush 109, 2) := by decide +kernel
theorem dX6_read_109 : decode cX6_read 109 = .ok (.bipush 105, 2) := by decide +kernel
theorem dX6_read_111 : decode cX6_read 111 = .ok (.bipush 110, 2) := by decide +kernel
theorem dX6_read_113 : decode cX6_read 113 = .ok (.bipush 100, 2) := by decide +kernel
theorem dX6_read_115 : decode cX6_read 115 = .ok (.bipush 115, 2) := by decide +kernel
theorem dX6_read_117 : decode cX6_read 117 = .ok (.iconst 0, 1) := by decide +kernel
theorem dX6_read_118 : decode cX6_read 118 = .ok (.iconst 0, 1) := by decide +kernel
theorem dX6_read_119 : decode cX6_read 119 = .ok (.iconst 0, 1) := by decide +kernel
theorem dX6_read_120 : decode cX6_read 120 = .ok (.invokevirtual 209, 3) := by decide +kernel
theorem dX6_read_123 : decode cX6_read 123 = .ok (.invokevirtual 354, 3) := by decide +kernel
theorem dX6_read_126 : decode cX6_read 126 = .ok (.istore 5, 2) := by decide +kernel
theorem dX6_read_128 : decode cX6_read 128 = .ok (.aload_n 0, 1) := by decide +kernel
theorem dX6_read_129 : decode cX6_read 129 = .ok (.getfield 190, 3) := by decide +kernel
theorem dX6_read_132 : decode cX6_read 132 = .ok (.ifCond .ne 14, 3) := by decide +kernel
theorem dX6_read_135 : decode cX6_read 135 = .ok (.aload_n 0, 1) := by decide +kernel
theorem dX6_read_136 : decode cX6_read 136 = .ok (.getfield 175, 3) := by decide +kernel
theorem dX6_read_139 : decode cX6_read 139 = .ok (.ifCond .eq 7, 3) := by decide +kernel
theorem dX6_read_142 : decode cX6_read 142 = .ok (.aload_n 0, 1) := by decide +kernel
theorem dX6_read_143 : decode cX6_read 143 = .ok (.invokevirtual 203, 3) := by decide +kernel
theorem dX6_read_146 : decode cX6_read 146 = .ok (.aload_n 0, 1) := by decide +kernel
theorem dX6_read_147 : decode cX6_read 147 = .ok (.iload_n 3, 1) := by decide +kernel
theorem dX6_read_148 : decode cX6_read 148 = .ok (.putfield 358, 3) := by decide +kernel
theorem dX6_read_151 : decode cX6_read 151 = .ok (.aload_n 0, 1) := by decide +kernel
theorem dX6_read_152 : decode cX6_read 152 = .ok (.iload 4, 2) := by decide +kernel
theorem dX6_read_154 : decode cX6_read 154 = .ok (.putfield 361, 3) := by decide +kernel
theorem dX6_read_157 : decode cX6_read 157 = .ok (.aload_n 0, 1) := by decide +kernel
theorem dX6_read_158 : decode cX6_read 158 = .ok (.iload 5, 2) := by decide +kernel
theorem dX6_read_160 : decode cX6_read 160 = .ok (.putfield 364, 3) := by decide +kernel
theorem dX6_read_163 : decode cX6_read 163 = .ok (.iload_n 2, 1) := by decide +kernel
theorem dX6_read_164 : decode cX6_read 164 = .ok (.ifCond .ne 7, 3) := by decide +kernel
theorem dX6_read_167 : decode cX6_read 167 = .ok (.iload_n 3, 1) := by decide +kernel
theorem dX6_read_168 : decode cX6_read 168 = .ok (.goto 15, 3) := by decide +kernel
theorem dX6_read_171 : decode cX6_read 171 = .ok (.iload_n 2, 1) := by decide +kernel
theorem dX6_read_172 : decode cX6_read 172 = .ok (.iconst 1, 1) := by decide +kernel
theorem dX6_read_173 : decode cX6_read 173 = .ok (.if_icmp .ne 8, 3) := by decide +kernel
theorem dX6_read_176 : decode cX6_read 176 = .ok (.iload 4, 2) := by decide +kernel
theorem dX6_read_178 : decode cX6_read 178 = .ok (.goto 5, 3) := by decide +kernel
theorem dX6_read_181 : decode cX6_read 181 = .ok (.iload 5, 2) := by decide +kernel
theorem dX6_read_183 : decode cX6_read 183 = .ok (.ireturn, 1) := by decide +kernel
theorem dX6_saidAt_0 : decode cX6_saidAt 0 = .ok (.aload_n 0, 1) := by decide +kernel
theorem dX6_saidAt_1 : decode cX6_saidAt 1 = .ok (.getfield 367, 3) := by decide +kernel
theorem dX6_saidAt_4 : decode cX6_saidAt 4 = .ok (.istore_n 1, 1) := by decide +kernel
theorem dX6_saidAt_5 : decode cX6_saidAt 5 = .ok (.bipush 31, 2) := by decide +kernel
theorem dX6_saidAt_7 : decode cX6_saidAt 7 = .ok (.iload_n 1, 1) := by decide +kernel
theorem dX6_saidAt_8 : decode cX6_saidAt 8 = .ok (.imul, 1) := by decide +kernel
theorem dX6_saidAt_9 : decode cX6_saidAt 9 = .ok (.aload_n 0, 1) := by decide +kernel
theorem dX6_saidAt_10 : decode cX6_saidAt 10 = .ok (.getfield 213, 3) := by decide +kernel
theorem dX6_saidAt_13 : decode cX6_saidAt 13 = .ok (.iadd, 1) := by decide +kernel
theorem dX6_saidAt_14 : decode cX6_saidAt 14 = .ok (.istore_n 1, 1) := by decide +kernel
theorem dX6_saidAt_15 : decode cX6_saidAt 15 = .ok (.bipush 31, 2) := by decide +kernel
theorem dX6_saidAt_17 : decode cX6_saidAt 17 = .ok (.iload_n 1, 1) := by decide +kernel
theorem dX6_saidAt_18 : decode cX6_saidAt 18 = .ok (.imul, 1) := by decide +kernel
theorem dX6_saidAt_19 : decode cX6_saidAt 19 = .ok (.aload_n 0, 1) := by decide +kernel
theorem dX6_saidAt_20 : decode cX6_saidAt 20 = .ok (.getfield 216, 3) := by decide +kernel
theorem dX6_saidAt_23 : decode cX6_saidAt 23 = .ok (.iadd, 1) := by decide +kernel
theorem dX6_saidAt_24 : decode cX6_saidAt 24 = .ok (.istore_n 1, 1) := by decide +kernel
theorem dX6_saidAt_25 : decode cX6_saidAt 25 = .ok (.bipush 31, 2) := by decide +kernel
theorem dX6_saidAt_27 : decode cX6_saidAt 27 = .ok (.iload_n 1, 1) := by decide +kernel
theorem dX6_saidAt_28 : decode cX6_saidAt 28 = .ok (.imul, 1) := by decide +kernel
theorem dX6_saidAt_29 : decode cX6_saidAt 29 = .ok (.aload_n 0, 1) := by decide +kernel
theorem dX6_saidAt_30 : decode cX6_saidAt 30 = .ok (.getfield 219, 3) := by decide +kernel
theorem dX6_saidAt_33 : decode cX6_saidAt 33 = .ok (.iadd, 1) := by decide +kernel
theorem dX6_saidAt_34 : decode cX6_saidAt 34 = .ok (.istore_n 1, 1) := by decide +kernel
theorem dX6_saidAt_35 : decode cX6_saidAt 35 = .ok (.bipush 31, 2) := by decide +kernel
theorem dX6_saidAt_37 : decode cX6_saidAt 37 = .ok (.iload_n 1, 1) := by decide +kernel
theorem dX6_saidAt_38 : decode cX6_saidAt 38 = .ok (.imul, 1) := by decide +kernel
theorem dX6_saidAt_39 : decode cX6_saidAt 39 = .ok (.aload_n 0, 1) := by decide +kernel
theorem dX6_saidAt_40 : decode cX6_saidAt 40 = .ok (.getfield 222, 3) := by decide +kernel
theorem dX6_saidAt_43 : decode cX6_saidAt 43 = .ok (.iadd, 1) := by decide +kernel
theorem dX6_saidAt_44 : decode cX6_saidAt 44 = .ok (.istore_n 1, 1) := by decide +kernel
theorem dX6_saidAt_45 : decode cX6_saidAt 45 = .ok (.bipush 31, 2) := by decide +kernel
theorem dX6_saidAt_47 : decode cX6_saidAt 47 = .ok (.iload_n 1, 1) := by decide +kernel
theorem dX6_saidAt_48 : decode cX6_saidAt 48 = .ok (.imul, 1) := by decide +kernel
theorem dX6_saidAt_49 : decode cX6_saidAt 49 = .ok (.aload_n 0, 1) := by decide +kernel
theorem dX6_saidAt_50 : decode cX6_saidAt 50 = .ok (.getfield 225, 3) := by decide +kernel
theorem dX6_saidAt_53 : decode cX6_saidAt 53 = .ok (.iadd, 1) := by decide +kernel
theorem dX6_saidAt_54 : decode cX6_saidAt 54 = .ok (.istore_n 1, 1) := by decide +kernel
theorem dX6_saidAt_55 : decode cX6_saidAt 55 = .ok (.bipush 31, 2) := by decide +kernel
theorem dX6_saidAt_57 : decode cX6_saidAt 57 = .ok (.iload_n 1, 1) := by decide +kernel
theorem dX6_saidAt_58 : decode cX6_saidAt 58 = .ok (.imul, 1) := by decide +kernel
theorem dX6_saidAt_59 : decode cX6_saidAt 59 = .ok (.aload_n 0, 1) := by decide +kernel
theorem dX6_saidAt_60 : decode cX6_saidAt 60 = .ok (.getfield 228, 3) := by decide +kernel
theorem dX6_saidAt_63 : decode cX6_saidAt 63 = .ok (.iadd, 1) := by decide +kernel
theorem dX6_saidAt_64 : decode cX6_saidAt 64 = .ok (.istore_n 1, 1) := by decide +kernel
theorem dX6_saidAt_65 : decode cX6_saidAt 65 = .ok (.bipush 11, 2) := by decide +kernel
theorem dX6_saidAt_67 : decode cX6_saidAt 67 = .ok (.iload_n 1, 1) := by decide +kernel
theorem dX6_saidAt_68 : decode cX6_saidAt 68 = .ok (.iload_n 1, 1) := by decide +kernel
theorem dX6_saidAt_69 : decode cX6_saidAt 69 = .ok (.bipush 15, 2) := by decide +kernel
theorem dX6_saidAt_71 : decode cX6_saidAt 71 = .ok (.iushr, 1) := by decide +kernel
theorem dX6_saidAt_72 : decode cX6_saidAt 72 = .ok (.ixor, 1) := by decide +kernel
theorem dX6_saidAt_73 : decode cX6_saidAt 73 = .ok (.sipush 2047, 3) := by decide +kernel
theorem dX6_saidAt_76 : decode cX6_saidAt 76 = .ok (.iand, 1) := by decide +kernel
theorem dX6_saidAt_77 : decode cX6_saidAt 77 = .ok (.imul, 1) := by decide +kernel
theorem dX6_saidAt_78 : decode cX6_saidAt 78 = .ok (.ireturn, 1) := by decide +kernel
theorem dX6_isSaid_0 : decode cX6_isSaid 0 = .ok (.aload_n 0, 1) := by decide +kernel
theorem dX6_isSaid_1 : decode cX6_isSaid 1 = .ok (.getfield 56, 3) := by decide +kernel
theorem dX6_isSaid_4 : decode cX6_isSaid 4 = .ok (.iload_n 1, 1) := by decide +kernel
theorem dX6_isSaid_5 : decode cX6_isSaid 5 = .ok (.iaload, 1) := by decide +kernel
theorem dX6_isSaid_6 : decode cX6_isSaid 6 = .ok (.iconst 1, 1) := by decide +kernel
theorem dX6_isSaid_7 : decode cX6_isSaid 7 = .ok (.if_icmp .ne 114, 3) := by decide +kernel
theorem dX6_isSaid_10 : decode cX6_isSaid 10 = .ok (.aload_n 0, 1) := by decide +kernel
theorem dX6_isSaid_11 : decode cX6_isSaid 11 = .ok (.getfield 56, 3) := by decide +kernel
theorem dX6_isSaid_14 : decode cX6_isSaid 14 = .ok (.iload_n 1, 1) := by decide +kernel
theorem dX6_isSaid_15 : decode cX6_isSaid 15 = .ok (.iconst 1, 1) := by decide +kernel
theorem dX6_isSaid_16 : decode cX6_isSaid 16 = .ok (.iadd, 1) := by decide +kernel
theorem dX6_isSaid_17 : decode cX6_isSaid 17 = .ok (.iaload, 1) := by decide +kernel
theorem dX6_isSaid_18 : decode cX6_isSaid 18 = .ok (.aload_n 0, 1) := by decide +kernel
theorem dX6_isSaid_19 : decode cX6_isSaid 19 = .ok (.getfield 367, 3) := by decide +kernel
theorem dX6_isSaid_22 : decode cX6_isSaid 22 = .ok (.if_icmp .ne 99, 3) := by decide +kernel
theorem dX6_isSaid_25 : decode cX6_isSaid 25 = .ok (.aload_n 0, 1) := by decide +kernel
theorem dX6_isSaid_26 : decode cX6_isSaid 26 = .ok (.getfield 56, 3) := by decide +kernel
theorem dX6_isSaid_29 : decode cX6_isSaid 29 = .ok (.iload_n 1, 1) := by decide +kernel
theorem dX6_isSaid_30 : decode cX6_isSaid 30 = .ok (.iconst 2, 1) := by decide +kernel
theorem dX6_isSaid_31 : decode cX6_isSaid 31 = .ok (.iadd, 1) := by decide +kernel
theorem dX6_isSaid_32 : decode cX6_isSaid 32 = .ok (.iaload, 1) := by decide +kernel
theorem dX6_isSaid_33 : decode cX6_isSaid 33 = .ok (.aload_n 0, 1) := by decide +kernel
theorem dX6_isSaid_34 : decode cX6_isSaid 34 = .ok (.getfield 213, 3) := by decide +kernel
theorem dX6_isSaid_37 : decode cX6_isSaid 37 = .ok (.if_icmp .ne 84, 3) := by decide +kernel
theorem dX6_isSaid_40 : decode cX6_isSaid 40 = .ok (.aload_n 0, 1) := by decide +kernel
theorem dX6_isSaid_41 : decode cX6_isSaid 41 = .ok (.getfield 56, 3) := by decide +kernel
theorem dX6_isSaid_44 : decode cX6_isSaid 44 = .ok (.iload_n 1, 1) := by decide +kernel
theorem dX6_isSaid_45 : decode cX6_isSaid 45 = .ok (.iconst 3, 1) := by decide +kernel
theorem dX6_isSaid_46 : decode cX6_isSaid 46 = .ok (.iadd, 1) := by decide +kernel
theorem dX6_isSaid_47 : decode cX6_isSaid 47 = .ok (.iaload, 1) := by decide +kernel
theorem dX6_isSaid_48 : decode cX6_isSaid 48 = .ok (.aload_n 0, 1) := by decide +kernel
theorem dX6_isSaid_49 : decode cX6_isSaid 49 = .ok (.getfield 216, 3) := by decide +kernel
theorem dX6_isSaid_52 : decode cX6_isSaid 52 = .ok (.if_icmp .ne 69, 3) := by decide +kernel
theorem dX6_isSaid_55 : decode cX6_isSaid 55 = .ok (.aload_n 0, 1) := by decide +kernel
theorem dX6_isSaid_56 : decode cX6_isSaid 56 = .ok (.getfield 56, 3) := by decide +kernel
theorem dX6_isSaid_59 : decode cX6_isSaid 59 = .ok (.iload_n 1, 1) := by decide +kernel
theorem dX6_isSaid_60 : decode cX6_isSaid 60 = .ok (.iconst 4, 1) := by decide +kernel
theorem dX6_isSaid_61 : decode cX6_isSaid 61 = .ok (.iadd, 1) := by decide +kernel
theorem dX6_isSaid_62 : decode cX6_isSaid 62 = .ok (.iaload, 1) := by decide +kernel
theorem dX6_isSaid_63 : decode cX6_isSaid 63 = .ok (.aload_n 0, 1) := by decide +kernel
theorem dX6_isSaid_64 : decode cX6_isSaid 64 = .ok (.getfield 219, 3) := by decide +kernel
theorem dX6_isSaid_67 : decode cX6_isSaid 67 = .ok (.if_icmp .ne 54, 3) := by decide +kernel
theorem dX6_isSaid_70 : decode cX6_isSaid 70 = .ok (.aload_n 0, 1) := by decide +kernel
theorem dX6_isSaid_71 : decode cX6_isSaid 71 = .ok (.getfield 56, 3) := by decide +kernel
theorem dX6_isSaid_74 : decode cX6_isSaid 74 = .ok (.iload_n 1, 1) := by decide +kernel
theorem dX6_isSaid_75 : decode cX6_isSaid 75 = .ok (.iconst 5, 1) := by decide +kernel
theorem dX6_isSaid_76 : decode cX6_isSaid 76 = .ok (.iadd, 1) := by decide +kernel
theorem dX6_isSaid_77 : decode cX6_isSaid 77 = .ok (.iaload, 1) := by decide +kernel
theorem dX6_isSaid_78 : decode cX6_isSaid 78 = .ok (.aload_n 0, 1) := by decide +kernel
theorem dX6_isSaid_79 : decode cX6_isSaid 79 = .ok (.getfield 222, 3) := by decide +kernel
theorem dX6_isSaid_82 : decode cX6_isSaid 82 = .ok (.if_icmp .ne 39, 3) := by decide +kernel
theorem dX6_isSaid_85 : decode cX6_isSaid 85 = .ok (.aload_n 0, 1) := by decide +kernel
theorem dX6_isSaid_86 : decode cX6_isSaid 86 = .ok (.getfield 56, 3) := by decide +kernel
theorem dX6_isSaid_89 : decode cX6_isSaid 89 = .ok (.iload_n 1, 1) := by decide +kernel
theorem dX6_isSaid_90 : decode cX6_isSaid 90 = .ok (.bipush 6, 2) := by decide +kernel
theorem dX6_isSaid_92 : decode cX6_isSaid 92 = .ok (.iadd, 1) := by decide +kernel
theorem dX6_isSaid_93 : decode cX6_isSaid 93 = .ok (.iaload, 1) := by decide +kernel
theorem dX6_isSaid_94 : decode cX6_isSaid 94 = .ok (.aload_n 0, 1) := by decide +kernel
theorem dX6_isSaid_95 : decode cX6_isSaid 95 = .ok (.getfield 225, 3) := by decide +kernel
theorem dX6_isSaid_98 : decode cX6_isSaid 98 = .ok (.if_icmp .ne 23, 3) := by decide +kernel
theorem dX6_isSaid_101 : decode cX6_isSaid 101 = .ok (.aload_n 0, 1) := by decide +kernel
theorem dX6_isSaid_102 : decode cX6_isSaid 102 = .ok (.getfield 56, 3) := by decide +kernel
theorem dX6_isSaid_105 : decode cX6_isSaid 105 = .ok (.iload_n 1, 1) := by decide +kernel
theorem dX6_isSaid_106 : decode cX6_isSaid 106 = .ok (.bipush 7, 2) := by decide +kernel
theorem dX6_isSaid_108 : decode cX6_isSaid 108 = .ok (.iadd, 1) := by decide +kernel
theorem dX6_isSaid_109 : decode cX6_isSaid 109 = .ok (.iaload, 1) := by decide +kernel
theorem dX6_isSaid_110 : decode cX6_isSaid 110 = .ok (.aload_n 0, 1) := by decide +kernel
theorem dX6_isSaid_111 : decode cX6_isSaid 111 = .ok (.getfield 228, 3) := by decide +kernel
theorem dX6_isSaid_114 : decode cX6_isSaid 114 = .ok (.if_icmp .ne 7, 3) := by decide +kernel
theorem dX6_isSaid_117 : decode cX6_isSaid 117 = .ok (.iconst 1, 1) := by decide +kernel
theorem dX6_isSaid_118 : decode cX6_isSaid 118 = .ok (.goto 4, 3) := by decide +kernel
theorem dX6_isSaid_121 : decode cX6_isSaid 121 = .ok (.iconst 0, 1) := by decide +kernel
theorem dX6_isSaid_122 : decode cX6_isSaid 122 = .ok (.ireturn, 1) := by decide +kernel
theorem dX6_saying_0 : decode cX6_saying 0 = .ok (.aload_n 0, 1) := by decide +kernel
theorem dX6_saying_1 : decode cX6_saying 1 = .ok (.invokevirtual 370, 3) := by decide +kernel
theorem dX6_saying_4 : decode cX6_saying 4 = .ok (.istore_n 2, 1) := by decide +kernel
theorem dX6_saying_5 : decode cX6_saying 5 = .ok (.aload_n 0, 1) := by decide +kernel
theorem dX6_saying_6 : decode cX6_saying 6 = .ok (.iload_n 2, 1) := by decide +kernel
theorem dX6_saying_7 : decode cX6_saying 7 = .ok (.invokevirtual 373, 3) := by decide +kernel
theorem dX6_saying_10 : decode cX6_saying 10 = .ok (.ifCond .ne 145, 3) := by decide +kernel
theorem dX6_saying_13 : decode cX6_saying 13 = .ok (.aload_n 0, 1) := by decide +kernel
theorem dX6_saying_14 : decode cX6_saying 14 = .ok (.aload_n 0, 1) := by decide +kernel
theorem dX6_saying_15 : decode cX6_saying 15 = .ok (.getfield 367, 3) := by decide +kernel
theorem dX6_saying_18 : decode cX6_saying 18 = .ok (.iload_n 1, 1) := by decide +kernel
theorem dX6_saying_19 : decode cX6_saying 19 = .ok (.invokevirtual 376, 3) := by decide +kernel
theorem dX6_saying_22 : decode cX6_saying 22 = .ok (.istore_n 3, 1) := by decide +kernel
theorem dX6_saying_23 : decode cX6_saying 23 = .ok (.aload_n 0, 1) := by decide +kernel
theorem dX6_saying_24 : decode cX6_saying 24 = .ok (.getfield 56, 3) := by decide +kernel
theorem dX6_saying_27 : decode cX6_saying 27 = .ok (.iload_n 2, 1) := by decide +kernel
theorem dX6_saying_28 : decode cX6_saying 28 = .ok (.iconst 1, 1) := by decide +kernel
theorem dX6_saying_29 : decode cX6_saying 29 = .ok (.iastore, 1) := by decide +kernel
theorem dX6_saying_30 : decode cX6_saying 30 = .ok (.aload_n 0, 1) := by decide +kernel
theorem dX6_saying_31 : decode cX6_saying 31 = .ok (.getfield 56, 3) := by decide +kernel
theorem dX6_saying_34 : decode cX6_saying 34 = .ok (.iload_n 2, 1) := by decide +kernel
theorem dX6_saying_35 : decode cX6_saying 35 = .ok (.iconst 1, 1) := by decide +kernel
theorem dX6_saying_36 : decode cX6_saying 36 = .ok (.iadd, 1) := by decide +kernel
theorem dX6_saying_37 : decode cX6_saying 37 = .ok (.aload_n 0, 1) := by decide +kernel
theorem dX6_saying_38 : decode cX6_saying 38 = .ok (.getfield 367, 3) := by decide +kernel
theorem dX6_saying_41 : decode cX6_saying 41 = .ok (.iastore, 1) := by decide +kernel
theorem dX6_saying_42 : decode cX6_saying 42 = .ok (.aload_n 0, 1) := by decide +kernel
theorem dX6_saying_43 : decode cX6_saying 43 = .ok (.getfield 56, 3) := by decide +kernel
theorem dX6_saying_46 : decode cX6_saying 46 = .ok (.iload_n 2, 1) := by decide +kernel
theorem dX6_saying_47 : decode cX6_saying 47 = .ok (.iconst 2, 1) := by decide +kernel
theorem dX6_saying_48 : decode cX6_saying 48 = .ok (.iadd, 1) := by decide +kernel
theorem dX6_saying_49 : decode cX6_saying 49 = .ok (.aload_n 0, 1) := by decide +kernel
theorem dX6_saying_50 : decode cX6_saying 50 = .ok (.getfield 213, 3) := by decide +kernel
theorem dX6_saying_53 : decode cX6_saying 53 = .ok (.iastore, 1) := by decide +kernel
theorem dX6_saying_54 : decode cX6_saying 54 = .ok (.aload_n 0, 1) := by decide +kernel
theorem dX6_saying_55 : decode cX6_saying 55 = .ok (.getfield 56, 3) := by decide +kernel
theorem dX6_saying_58 : decode cX6_saying 58 = .ok (.iload_n 2, 1) := by decide +kernel
theorem dX6_saying_59 : decode cX6_saying 59 = .ok (.iconst 3, 1) := by decide +kernel
theorem dX6_saying_60 : decode cX6_saying 60 = .ok (.iadd, 1) := by decide +kernel
theorem dX6_saying_61 : decode cX6_saying 61 = .ok (.aload_n 0, 1) := by decide +kernel
theorem dX6_saying_62 : decode cX6_saying 62 = .ok (.getfield 216, 3) := by decide +kernel
theorem dX6_saying_65 : decode cX6_saying 65 = .ok (.iastore, 1) := by decide +kernel
theorem dX6_saying_66 : decode cX6_saying 66 = .ok (.aload_n 0, 1) := by decide +kernel
theorem dX6_saying_67 : decode cX6_saying 67 = .ok (.getfield 56, 3) := by decide +kernel
theorem dX6_saying_70 : decode cX6_saying 70 = .ok (.iload_n 2, 1) := by decide +kernel
theorem dX6_saying_71 : decode cX6_saying 71 = .ok (.iconst 4, 1) := by decide +kernel
theorem dX6_saying_72 : decode cX6_saying 72 = .ok (.iadd, 1) := by decide +kernel
theorem dX6_saying_73 : decode cX6_saying 73 = .ok (.aload_n 0, 1) := by decide +kernel
theorem dX6_saying_74 : decode cX6_saying 74 = .ok (.getfield 219, 3) := by decide +kernel
theorem dX6_saying_77 : decode cX6_saying 77 = .ok (.iastore, 1) := by decide +kernel
theorem dX6_saying_78 : decode cX6_saying 78 = .ok (.aload_n 0, 1) := by decide +kernel
theorem dX6_saying_79 : decode cX6_saying 79 = .ok (.getfield 56, 3) := by decide +kernel
theorem dX6_saying_82 : decode cX6_saying 82 = .ok (.iload_n 2, 1) := by decide +kernel
theorem dX6_saying_83 : decode cX6_saying 83 = .ok (.iconst 5, 1) := by decide +kernel
theorem dX6_saying_84 : decode cX6_saying 84 = .ok (.iadd, 1) := by decide +kernel
theorem dX6_saying_85 : decode cX6_saying 85 = .ok (.aload_n 0, 1) := by decide +kernel
theorem dX6_saying_86 : decode cX6_saying 86 = .ok (.getfield 222, 3) := by decide +kernel
theorem dX6_saying_89 : decode cX6_saying 89 = .ok (.iastore, 1) := by decide +kernel
theorem dX6_saying_90 : decode cX6_saying 90 = .ok (.aload_n 0, 1) := by decide +kernel
theorem dX6_saying_91 : decode cX6_saying 91 = .ok (.getfield 56, 3) := by decide +kernel
theorem dX6_saying_94 : decode cX6_saying 94 = .ok (.iload_n 2, 1) := by decide +kernel
theorem dX6_saying_95 : decode cX6_saying 95 = .ok (.bipush 6, 2) := by decide +kernel
theorem dX6_saying_97 : decode cX6_saying 97 = .ok (.iadd, 1) := by decide +kernel
theorem dX6_saying_98 : decode cX6_saying 98 = .ok (.aload_n 0, 1) := by decide +kernel
theorem dX6_saying_99 : decode cX6_saying 99 = .ok (.getfield 225, 3) := by decide +kernel
theorem dX6_saying_102 : decode cX6_saying 102 = .ok (.iastore, 1) := by decide +kernel
theorem dX6_saying_103 : decode cX6_saying 103 = .ok (.aload_n 0, 1) := by decide +kernel
theorem dX6_saying_104 : decode cX6_saying 104 = .ok (.getfield 56, 3) := by decide +kernel
theorem dX6_saying_107 : decode cX6_saying 107 = .ok (.iload_n 2, 1) := by decide +kernel
theorem dX6_saying_108 : decode cX6_saying 108 = .ok (.bipush 7, 2) := by decide +kernel
theorem dX6_saying_110 : decode cX6_saying 110 = .ok (.iadd, 1) := by decide +kernel
theorem dX6_saying_111 : decode cX6_saying 111 = .ok (.aload_n 0, 1) := by decide +kernel
theorem dX6_saying_112 : decode cX6_saying 112 = .ok (.getfield 228, 3) := by decide +kernel
theorem dX6_saying_115 : decode cX6_saying 115 = .ok (.iastore, 1) := by decide +kernel
theorem dX6_saying_116 : decode cX6_saying 116 = .ok (.aload_n 0, 1) := by decide +kernel
theorem dX6_saying_117 : decode cX6_saying 117 = .ok (.getfield 56, 3) := by decide +kernel
theorem dX6_saying_120 : decode cX6_saying 120 = .ok (.iload_n 2, 1) := by decide +kernel
theorem dX6_saying_121 : decode cX6_saying 121 = .ok (.bipush 8, 2) := by decide +kernel
theorem dX6_saying_123 : decode cX6_saying 123 = .ok (.iadd, 1) := by decide +kernel
theorem dX6_saying_124 : decode cX6_saying 124 = .ok (.aload_n 0, 1) := by decide +kernel
theorem dX6_saying_125 : decode cX6_saying 125 = .ok (.getfield 358, 3) := by decide +kernel
theorem dX6_saying_128 : decode cX6_saying 128 = .ok (.iastore, 1) := by decide +kernel
theorem dX6_saying_129 : decode cX6_saying 129 = .ok (.aload_n 0, 1) := by decide +kernel
theorem dX6_saying_130 : decode cX6_saying 130 = .ok (.getfield 56, 3) := by decide +kernel
theorem dX6_saying_133 : decode cX6_saying 133 = .ok (.iload_n 2, 1) := by decide +kernel
theorem dX6_saying_134 : decode cX6_saying 134 = .ok (.bipush 9, 2) := by decide +kernel
theorem dX6_saying_136 : decode cX6_saying 136 = .ok (.iadd, 1) := by decide +kernel
theorem dX6_saying_137 : decode cX6_saying 137 = .ok (.aload_n 0, 1) := by decide +kernel
theorem dX6_saying_138 : decode cX6_saying 138 = .ok (.getfield 361, 3) := by decide +kernel
theorem dX6_saying_141 : decode cX6_saying 141 = .ok (.iastore, 1) := by decide +kernel
theorem dX6_saying_142 : decode cX6_saying 142 = .ok (.aload_n 0, 1) := by decide +kernel
theorem dX6_saying_143 : decode cX6_saying 143 = .ok (.getfield 56, 3) := by decide +kernel
theorem dX6_saying_146 : decode cX6_saying 146 = .ok (.iload_n 2, 1) := by decide +kernel
theorem dX6_saying_147 : decode cX6_saying 147 = .ok (.bipush 10, 2) := by decide +kernel
theorem dX6_saying_149 : decode cX6_saying 149 = .ok (.iadd, 1) := by decide +kernel
theorem dX6_saying_150 : decode cX6_saying 150 = .ok (.aload_n 0, 1) := by decide +kernel
theorem dX6_saying_151 : decode cX6_saying 151 = .ok (.getfield 364, 3) := by decide +kernel
theorem dX6_saying_154 : decode cX6_saying 154 = .ok (.iastore, 1) := by decide +kernel
theorem dX6_saying_155 : decode cX6_saying 155 = .ok (.aload_n 0, 1) := by decide +kernel
theorem dX6_saying_156 : decode cX6_saying 156 = .ok (.getfield 56, 3) := by decide +kernel
theorem dX6_saying_159 : decode cX6_saying 159 = .ok (.iload_n 2, 1) := by decide +kernel
theorem dX6_saying_160 : decode cX6_saying 160 = .ok (.bipush 8, 2) := by decide +kernel
theorem dX6_saying_162 : decode cX6_saying 162 = .ok (.iadd, 1) := by decide +kernel
theorem dX6_saying_163 : decode cX6_saying 163 = .ok (.iload_n 1, 1) := by decide +kernel
theorem dX6_saying_164 : decode cX6_saying 164 = .ok (.iadd, 1) := by decide +kernel
theorem dX6_saying_165 : decode cX6_saying 165 = .ok (.iaload, 1) := by decide +kernel
theorem dX6_saying_166 : decode cX6_saying 166 = .ok (.ireturn, 1) := by decide +kernel
theorem dX6_text_0 : decode cX6_text 0 = .ok (.aload_n 0, 1) := by decide +kernel
theorem dX6_text_1 : decode cX6_text 1 = .ok (.getfield 103, 3) := by decide +kernel
theorem dX6_text_4 : decode cX6_text 4 = .ok (.bipush 6, 2) := by decide +kernel
theorem dX6_text_6 : decode cX6_text 6 = .ok (.if_icmp .ne 6, 3) := by decide +kernel
theorem dX6_text_9 : decode cX6_text 9 = .ok (.bipush (-4), 2) := by decide +kernel
theorem dX6_text_11 : decode cX6_text 11 = .ok (.ireturn, 1) := by decide +kernel
theorem dX6_text_12 : decode cX6_text 12 = .ok (.iconst 0, 1) := by decide +kernel
theorem dX6_text_13 : decode cX6_text 13 = .ok (.istore_n 1, 1) := by decide +kernel
theorem dX6_text_14 : decode cX6_text 14 = .ok (.iload_n 1, 1) := by decide +kernel
theorem dX6_text_15 : decode cX6_text 15 = .ok (.aload_n 0, 1) := by decide +kernel
theorem dX6_text_16 : decode cX6_text 16 = .ok (.getfield 156, 3) := by decide +kernel
theorem dX6_text_19 : decode cX6_text 19 = .ok (.if_icmp .ge 30, 3) := by decide +kernel
theorem dX6_text_22 : decode cX6_text 22 = .ok (.aload_n 0, 1) := by decide +kernel
theorem dX6_text_23 : decode cX6_text 23 = .ok (.getfield 13, 3) := by decide +kernel
theorem dX6_text_26 : decode cX6_text 26 = .ok (.sipush 160, 3) := by decide +kernel
theorem dX6_text_29 : decode cX6_text 29 = .ok (.aload_n 0, 1) := by decide +kernel
theorem dX6_text_30 : decode cX6_text 30 = .ok (.getfield 103, 3) := by decide +kernel
theorem dX6_text_33 : decode cX6_text 33 = .ok (.imul, 1) := by decide +kernel
theorem dX6_text_34 : decode cX6_text 34 = .ok (.iload_n 1, 1) := by decide +kernel
theorem dX6_text_35 : decode cX6_text 35 = .ok (.iadd, 1) := by decide +kernel
theorem dX6_text_36 : decode cX6_text 36 = .ok (.aload_n 0, 1) := by decide +kernel
theorem dX6_text_37 : decode cX6_text 37 = .ok (.getfield 20, 3) := by decide +kernel
theorem dX6_text_40 : decode cX6_text 40 = .ok (.iload_n 1, 1) := by decide +kernel
theorem dX6_text_41 : decode cX6_text 41 = .ok (.iaload, 1) := by decide +kernel
theorem dX6_text_42 : decode cX6_text 42 = .ok (.iastore, 1) := by decide +kernel
theorem dX6_text_43 : decode cX6_text 43 = .ok (.iinc 1 1, 3) := by decide +kernel
theorem dX6_text_46 : decode cX6_text 46 = .ok (.goto (-32), 3) := by decide +kernel
theorem dX6_text_49 : decode cX6_text 49 = .ok (.aload_n 0, 1) := by decide +kernel
theorem dX6_text_50 : decode cX6_text 50 = .ok (.getfield 17, 3) := by decide +kernel
theorem dX6_text_53 : decode cX6_text 53 = .ok (.aload_n 0, 1) := by decide +kernel
theorem dX6_text_54 : decode cX6_text 54 = .ok (.getfield 103, 3) := by decide +kernel
theorem dX6_text_57 : decode cX6_text 57 = .ok (.aload_n 0, 1) := by decide +kernel
theorem dX6_text_58 : decode cX6_text 58 = .ok (.getfield 156, 3) := by decide +kernel
theorem dX6_text_61 : decode cX6_text 61 = .ok (.iastore, 1) := by decide +kernel
theorem dX6_text_62 : decode cX6_text 62 = .ok (.aload_n 0, 1) := by decide +kernel
theorem dX6_text_63 : decode cX6_text 63 = .ok (.iconst 0, 1) := by decide +kernel
theorem dX6_text_64 : decode cX6_text 64 = .ok (.putfield 156, 3) := by decide +kernel
theorem dX6_text_67 : decode cX6_text 67 = .ok (.aload_n 0, 1) := by decide +kernel
theorem dX6_text_68 : decode cX6_text 68 = .ok (.aload_n 0, 1) := by decide +kernel
theorem dX6_text_69 : decode cX6_text 69 = .ok (.getfield 103, 3) := by decide +kernel
theorem dX6_text_72 : decode cX6_text 72 = .ok (.iconst 0, 1) := by decide +kernel
theorem dX6_text_73 : decode cX6_text 73 = .ok (.invokevirtual 376, 3) := by decide +kernel
theorem dX6_text_76 : decode cX6_text 76 = .ok (.istore_n 1, 1) := by decide +kernel
theorem dX6_text_77 : decode cX6_text 77 = .ok (.aload_n 0, 1) := by decide +kernel
theorem dX6_text_78 : decode cX6_text 78 = .ok (.getfield 190, 3) := by decide +kernel
theorem dX6_text_81 : decode cX6_text 81 = .ok (.ifCond .eq 11, 3) := by decide +kernel
theorem dX6_text_84 : decode cX6_text 84 = .ok (.bipush (-100), 2) := by decide +kernel
theorem dX6_text_86 : decode cX6_text 86 = .ok (.aload_n 0, 1) := by decide +kernel
theorem dX6_text_87 : decode cX6_text 87 = .ok (.getfield 194, 3) := by decide +kernel
theorem dX6_text_90 : decode cX6_text 90 = .ok (.isub, 1) := by decide +kernel
theorem dX6_text_91 : decode cX6_text 91 = .ok (.ireturn, 1) := by decide +kernel
theorem dX6_text_92 : decode cX6_text 92 = .ok (.aload_n 0, 1) := by decide +kernel
theorem dX6_text_93 : decode cX6_text 93 = .ok (.dup, 1) := by decide +kernel
theorem dX6_text_94 : decode cX6_text 94 = .ok (.getfield 103, 3) := by decide +kernel
theorem dX6_text_97 : decode cX6_text 97 = .ok (.iconst 1, 1) := by decide +kernel
theorem dX6_text_98 : decode cX6_text 98 = .ok (.iadd, 1) := by decide +kernel
theorem dX6_text_99 : decode cX6_text 99 = .ok (.putfield 103, 3) := by decide +kernel
theorem dX6_text_102 : decode cX6_text 102 = .ok (.aload_n 0, 1) := by decide +kernel
theorem dX6_text_103 : decode cX6_text 103 = .ok (.getfield 103, 3) := by decide +kernel
theorem dX6_text_106 : decode cX6_text 106 = .ok (.iconst 1, 1) := by decide +kernel
theorem dX6_text_107 : decode cX6_text 107 = .ok (.isub, 1) := by decide +kernel
theorem dX6_text_108 : decode cX6_text 108 = .ok (.ireturn, 1) := by decide +kernel
theorem dX6_force_0 : decode cX6_force 0 = .ok (.iload_n 1, 1) := by decide +kernel
theorem dX6_force_1 : decode cX6_force 1 = .ok (.i2l, 1) := by decide +kernel
theorem dX6_force_2 : decode cX6_force 2 = .ok (.lconst 0, 1) := by decide +kernel
theorem dX6_force_3 : decode cX6_force 3 = .ok (.aload_n 0, 1) := by decide +kernel
theorem dX6_force_4 : decode cX6_force 4 = .ok (.getfield 103, 3) := by decide +kernel
theorem dX6_force_7 : decode cX6_force 7 = .ok (.iconst 1, 1) := by decide +kernel
theorem dX6_force_8 : decode cX6_force 8 = .ok (.isub, 1) := by decide +kernel
theorem dX6_force_9 : decode cX6_force 9 = .ok (.i2l, 1) := by decide +kernel
theorem dX6_force_10 : decode cX6_force 10 = .ok (.invokestatic 108, 3) := by decide +kernel
theorem dX6_force_13 : decode cX6_force 13 = .ok (.ifCond .ne 6, 3) := by decide +kernel
theorem dX6_force_16 : decode cX6_force 16 = .ok (.bipush (-2), 2) := by decide +kernel
theorem dX6_force_18 : decode cX6_force 18 = .ok (.ireturn, 1) := by decide +kernel
theorem dX6_force_19 : decode cX6_force 19 = .ok (.aload_n 0, 1) := by decide +kernel
theorem dX6_force_20 : decode cX6_force 20 = .ok (.getfield 367, 3) := by decide +kernel
theorem dX6_force_23 : decode cX6_force 23 = .ok (.istore_n 2, 1) := by decide +kernel
theorem dX6_force_24 : decode cX6_force 24 = .ok (.aload_n 0, 1) := by decide +kernel
theorem dX6_force_25 : decode cX6_force 25 = .ok (.iload_n 1, 1) := by decide +kernel
theorem dX6_force_26 : decode cX6_force 26 = .ok (.putfield 367, 3) := by decide +kernel
theorem dX6_force_29 : decode cX6_force 29 = .ok (.iload_n 2, 1) := by decide +kernel
theorem dX6_force_30 : decode cX6_force 30 = .ok (.ireturn, 1) := by decide +kernel
theorem dX6_says_0 : decode cX6_says 0 = .ok (.aload_n 0, 1) := by decide +kernel
theorem dX6_says_1 : decode cX6_says 1 = .ok (.aload_n 0, 1) := by decide +kernel
theorem dX6_says_2 : decode cX6_says 2 = .ok (.getfield 23, 3) := by decide +kernel
theorem dX6_says_5 : decode cX6_says 5 = .ok (.iload_n 2, 1) := by decide +kernel
theorem dX6_says_6 : decode cX6_says 6 = .ok (.iaload, 1) := by decide +kernel
theorem dX6_says_7 : decode cX6_says 7 = .ok (.putfield 213, 3) := by decide +kernel
theorem dX6_says_10 : decode cX6_says 10 = .ok (.aload_n 0, 1) := by decide +kernel
theorem dX6_says_11 : decode cX6_says 11 = .ok (.aload_n 0, 1) := by decide +kernel
theorem dX6_says_12 : decode cX6_says 12 = .ok (.getfield 26, 3) := by decide +kernel
theorem dX6_says_15 : decode cX6_says 15 = .ok (.iload_n 2, 1) := by decide +kernel
theorem dX6_says_16 : decode cX6_says 16 = .ok (.iaload, 1) := by decide +kernel
theorem dX6_says_17 : decode cX6_says 17 = .ok (.putfield 216, 3) := by decide +kernel
theorem dX6_says_20 : decode cX6_says 20 = .ok (.aload_n 0, 1) := by decide +kernel
theorem dX6_says_21 : decode cX6_says 21 = .ok (.aload_n 0, 1) := by decide +kernel
theorem dX6_says_22 : decode cX6_says 22 = .ok (.getfield 29, 3) := by decide +kernel
theorem dX6_says_25 : decode cX6_says 25 = .ok (.iload_n 2, 1) := by decide +kernel
theorem dX6_says_26 : decode cX6_says 26 = .ok (.iaload, 1) := by decide +kernel
theorem dX6_says_27 : decode cX6_says 27 = .ok (.putfield 219, 3) := by decide +kernel
theorem dX6_says_30 : decode cX6_says 30 = .ok (.aload_n 0, 1) := by decide +kernel
theorem dX6_says_31 : decode cX6_says 31 = .ok (.iload_n 3, 1) := by decide +kernel
theorem dX6_says_32 : decode cX6_says 32 = .ok (.putfield 222, 3) := by decide +kernel
theorem dX6_says_35 : decode cX6_says 35 = .ok (.aload_n 0, 1) := by decide +kernel
theorem dX6_says_36 : decode cX6_says 36 = .ok (.iload_n 2, 1) := by decide +kernel
theorem dX6_says_37 : decode cX6_says 37 = .ok (.putfield 225, 3) := by decide +kernel
theorem dX6_says_40 : decode cX6_says 40 = .ok (.aload_n 0, 1) := by decide +kernel
theorem dX6_says_41 : decode cX6_says 41 = .ok (.iload 4, 2) := by decide +kernel
theorem dX6_says_43 : decode cX6_says 43 = .ok (.putfield 228, 3) := by decide +kernel
theorem dX6_says_46 : decode cX6_says 46 = .ok (.aload_n 0, 1) := by decide +kernel
theorem dX6_says_47 : decode cX6_says 47 = .ok (.iload_n 1, 1) := by decide +kernel
theorem dX6_says_48 : decode cX6_says 48 = .ok (.invokevirtual 379, 3) := by decide +kernel
theorem dX6_says_51 : decode cX6_says 51 = .ok (.iconst 0, 1) := by decide +kernel
theorem dX6_says_52 : decode cX6_says 52 = .ok (.bipush 99, 2) := by decide +kernel
theorem dX6_says_54 : decode cX6_says 54 = .ok (.invokestatic 382, 3) := by decide +kernel
theorem dX6_says_57 : decode cX6_says 57 = .ok (.ireturn, 1) := by decide +kernel
theorem dX6_meansTo_0 : decode cX6_meansTo 0 = .ok (.aload_n 0, 1) := by decide +kernel
theorem dX6_meansTo_1 : decode cX6_meansTo 1 = .ok (.getfield 35, 3) := by decide +kernel
theorem dX6_meansTo_4 : decode cX6_meansTo 4 = .ok (.iload_n 1, 1) := by decide +kernel
theorem dX6_meansTo_5 : decode cX6_meansTo 5 = .ok (.iaload, 1) := by decide +kernel
theorem dX6_meansTo_6 : decode cX6_meansTo 6 = .ok (.istore 4, 2) := by decide +kernel
theorem dX6_meansTo_8 : decode cX6_meansTo 8 = .ok (.aload_n 0, 1) := by decide +kernel
theorem dX6_meansTo_9 : decode cX6_meansTo 9 = .ok (.getfield 41, 3) := by decide +kernel
theorem dX6_meansTo_12 : decode cX6_meansTo 12 = .ok (.iload_n 1, 1) := by decide +kernel
theorem dX6_meansTo_13 : decode cX6_meansTo 13 = .ok (.iaload, 1) := by decide +kernel
theorem dX6_meansTo_14 : decode cX6_meansTo 14 = .ok (.iload_n 3, 1) := by decide +kernel
theorem dX6_meansTo_15 : decode cX6_meansTo 15 = .ok (.imul, 1) := by decide +kernel
theorem dX6_meansTo_16 : decode cX6_meansTo 16 = .ok (.bipush 10, 2) := by decide +kernel
theorem dX6_meansTo_18 : decode cX6_meansTo 18 = .ok (.aload_n 0, 1) := by decide +kernel
theorem dX6_meansTo_19 : decode cX6_meansTo 19 = .ok (.getfield 41, 3) := by decide +kernel
theorem dX6_meansTo_22 : decode cX6_meansTo 22 = .ok (.iload_n 1, 1) := by decide +kernel
theorem dX6_meansTo_23 : decode cX6_meansTo 23 = .ok (.iaload, 1) := by decide +kernel
theorem dX6_meansTo_24 : decode cX6_meansTo 24 = .ok (.isub, 1) := by decide +kernel
theorem dX6_meansTo_25 : decode cX6_meansTo 25 = .ok (.aload_n 0, 1) := by decide +kernel
theorem dX6_meansTo_26 : decode cX6_meansTo 26 = .ok (.getfield 44, 3) := by decide +kernel
theorem dX6_meansTo_29 : decode cX6_meansTo 29 = .ok (.iload_n 1, 1) := by decide +kernel
theorem dX6_meansTo_30 : decode cX6_meansTo 30 = .ok (.iaload, 1) := by decide +kernel
theorem dX6_meansTo_31 : decode cX6_meansTo 31 = .ok (.imul, 1) := by decide +kernel
theorem dX6_meansTo_32 : decode cX6_meansTo 32 = .ok (.iadd, 1) := by decide +kernel
theorem dX6_meansTo_33 : decode cX6_meansTo 33 = .ok (.bipush 10, 2) := by decide +kernel
theorem dX6_meansTo_35 : decode cX6_meansTo 35 = .ok (.idiv, 1) := by decide +kernel
theorem dX6_meansTo_36 : decode cX6_meansTo 36 = .ok (.istore 5, 2) := by decide +kernel
theorem dX6_meansTo_38 : decode cX6_meansTo 38 = .ok (.iload 4, 2) := by decide +kernel
theorem dX6_meansTo_40 : decode cX6_meansTo 40 = .ok (.iconst 1, 1) := by decide +kernel
theorem dX6_meansTo_41 : decode cX6_meansTo 41 = .ok (.if_icmp .ne 15, 3) := by decide +kernel
theorem dX6_meansTo_44 : decode cX6_meansTo 44 = .ok (.iload 5, 2) := by decide +kernel
theorem dX6_meansTo_46 : decode cX6_meansTo 46 = .ok (.aload_n 0, 1) := by decide +kernel
theorem dX6_meansTo_47 : decode cX6_meansTo 47 = .ok (.getfield 38, 3) := by decide +kernel
theorem dX6_meansTo_50 : decode cX6_meansTo 50 = .ok (.iload_n 1, 1) := by decide +kernel
theorem dX6_meansTo_51 : decode cX6_meansTo 51 = .ok (.iaload, 1) := by decide +kernel
theorem dX6_meansTo_52 : decode cX6_meansTo 52 = .ok (.isub, 1) := by decide +kernel
theorem dX6_meansTo_53 : decode cX6_meansTo 53 = .ok (.goto 36, 3) := by decide +kernel
theorem dX6_meansTo_56 : decode cX6_meansTo 56 = .ok (.iload 4, 2) := by decide +kernel
theorem dX6_meansTo_58 : decode cX6_meansTo 58 = .ok (.iconst 3, 1) := by decide +kernel
theorem dX6_meansTo_59 : decode cX6_meansTo 59 = .ok (.if_icmp .ne 28, 3) := by decide +kernel
theorem dX6_meansTo_62 : decode cX6_meansTo 62 = .ok (.iload 5, 2) := by decide +kernel
theorem dX6_meansTo_64 : decode cX6_meansTo 64 = .ok (.aload_n 0, 1) := by decide +kernel
theorem dX6_meansTo_65 : decode cX6_meansTo 65 = .ok (.getfield 38, 3) := by decide +kernel
theorem dX6_meansTo_68 : decode cX6_meansTo 68 = .ok (.iload_n 1, 1) := by decide +kernel
theorem dX6_meansTo_69 : decode cX6_meansTo 69 = .ok (.iaload, 1) := by decide +kernel
theorem dX6_meansTo_70 : decode cX6_meansTo 70 = .ok (.isub, 1) := by decide +kernel
theorem dX6_meansTo_71 : decode cX6_meansTo 71 = .ok (.iload_n 2, 1) := by decide +kernel
theorem dX6_meansTo_72 : decode cX6_meansTo 72 = .ok (.iconst 2, 1) := by decide +kernel
theorem dX6_meansTo_73 : decode cX6_meansTo 73 = .ok (.irem, 1) := by decide +kernel
theorem dX6_meansTo_74 : decode cX6_meansTo 74 = .ok (.iconst 1, 1) := by decide +kernel
theorem dX6_meansTo_75 : decode cX6_meansTo 75 = .ok (.if_icmp .ne 7, 3) := by decide +kernel
theorem dX6_meansTo_78 : decode cX6_meansTo 78 = .ok (.iconst 3, 1) := by decide +kernel
theorem dX6_meansTo_79 : decode cX6_meansTo 79 = .ok (.goto 4, 3) := by decide +kernel
theorem dX6_meansTo_82 : decode cX6_meansTo 82 = .ok (.iconst 0, 1) := by decide +kernel
theorem dX6_meansTo_83 : decode cX6_meansTo 83 = .ok (.isub, 1) := by decide +kernel
theorem dX6_meansTo_84 : decode cX6_meansTo 84 = .ok (.goto 5, 3) := by decide +kernel
theorem dX6_meansTo_87 : decode cX6_meansTo 87 = .ok (.iload 5, 2) := by decide +kernel
theorem dX6_meansTo_89 : decode cX6_meansTo 89 = .ok (.ireturn, 1) := by decide +kernel
theorem dX6_leaves_0 : decode cX6_leaves 0 = .ok (.aload_n 0, 1) := by decide +kernel
theorem dX6_leaves_1 : decode cX6_leaves 1 = .ok (.getfield 35, 3) := by decide +kernel
theorem dX6_leaves_4 : decode cX6_leaves 4 = .ok (.iload_n 1, 1) := by decide +kernel
theorem dX6_leaves_5 : decode cX6_leaves 5 = .ok (.iaload, 1) := by decide +kernel
theorem dX6_leaves_6 : decode cX6_leaves 6 = .ok (.istore 4, 2) := by decide +kernel
theorem dX6_leaves_8 : decode cX6_leaves 8 = .ok (.iload_n 2, 1) := by decide +kernel
theorem dX6_leaves_9 : decode cX6_leaves 9 = .ok (.iload_n 3, 1) := by decide +kernel
theorem dX6_leaves_10 : decode cX6_leaves 10 = .ok (.iadd, 1) := by decide +kernel
theorem dX6_leaves_11 : decode cX6_leaves 11 = .ok (.iconst 2, 1) := by decide +kernel
theorem dX6_leaves_12 : decode cX6_leaves 12 = .ok (.idiv, 1) := by decide +kernel
theorem dX6_leaves_13 : decode cX6_leaves 13 = .ok (.istore 5, 2) := by decide +kernel
theorem dX6_leaves_15 : decode cX6_leaves 15 = .ok (.iload 4, 2) := by decide +kernel
theorem dX6_leaves_17 : decode cX6_leaves 17 = .ok (.iconst 2, 1) := by decide +kernel
theorem dX6_leaves_18 : decode cX6_leaves 18 = .ok (.if_icmp .ne 8, 3) := by decide +kernel
theorem dX6_leaves_21 : decode cX6_leaves 21 = .ok (.iload 5, 2) := by decide +kernel
theorem dX6_leaves_23 : decode cX6_leaves 23 = .ok (.goto 33, 3) := by decide +kernel
theorem dX6_leaves_26 : decode cX6_leaves 26 = .ok (.iload 4, 2) := by decide +kernel
theorem dX6_leaves_28 : decode cX6_leaves 28 = .ok (.iconst 4, 1) := by decide +kernel
theorem dX6_leaves_29 : decode cX6_leaves 29 = .ok (.if_icmp .ne 12, 3) := by decide +kernel
theorem dX6_leaves_32 : decode cX6_leaves 32 = .ok (.iload_n 2, 1) := by decide +kernel
theorem dX6_leaves_33 : decode cX6_leaves 33 = .ok (.iload 5, 2) := by decide +kernel
theorem dX6_leaves_35 : decode cX6_leaves 35 = .ok (.iadd, 1) := by decide +kernel
theorem dX6_leaves_36 : decode cX6_leaves 36 = .ok (.iconst 2, 1) := by decide +kernel
theorem dX6_leaves_37 : decode cX6_leaves 37 = .ok (.idiv, 1) := by decide +kernel
theorem dX6_leaves_38 : decode cX6_leaves 38 = .ok (.goto 18, 3) := by decide +kernel
theorem dX6_leaves_41 : decode cX6_leaves 41 = .ok (.iload 4, 2) := by decide +kernel
theorem dX6_leaves_43 : decode cX6_leaves 43 = .ok (.iconst 5, 1) := by decide +kernel
theorem dX6_leaves_44 : decode cX6_leaves 44 = .ok (.if_icmp .ne 11, 3) := by decide +kernel
theorem dX6_leaves_47 : decode cX6_leaves 47 = .ok (.iload_n 3, 1) := by decide +kernel
theorem dX6_leaves_48 : decode cX6_leaves 48 = .ok (.iload_n 3, 1) := by decide +kernel
theorem dX6_leaves_49 : decode cX6_leaves 49 = .ok (.iconst 5, 1) := by decide +kernel
theorem dX6_leaves_50 : decode cX6_leaves 50 = .ok (.irem, 1) := by decide +kernel
theorem dX6_leaves_51 : decode cX6_leaves 51 = .ok (.isub, 1) := by decide +kernel
theorem dX6_leaves_52 : decode cX6_leaves 52 = .ok (.goto 4, 3) := by decide +kernel
theorem dX6_leaves_55 : decode cX6_leaves 55 = .ok (.iload_n 3, 1) := by decide +kernel
theorem dX6_leaves_56 : decode cX6_leaves 56 = .ok (.ireturn, 1) := by decide +kernel
theorem dX6_cutsAt_0 : decode cX6_cutsAt 0 = .ok (.aload_n 0, 1) := by decide +kernel
theorem dX6_cutsAt_1 : decode cX6_cutsAt 1 = .ok (.iload_n 1, 1) := by decide +kernel
theorem dX6_cutsAt_2 : decode cX6_cutsAt 2 = .ok (.iload_n 2, 1) := by decide +kernel
theorem dX6_cutsAt_3 : decode cX6_cutsAt 3 = .ok (.aload_n 0, 1) := by decide +kernel
theorem dX6_cutsAt_4 : decode cX6_cutsAt 4 = .ok (.getfield 26, 3) := by decide +kernel
theorem dX6_cutsAt_7 : decode cX6_cutsAt 7 = .ok (.iload_n 2, 1) := by decide +kernel
theorem dX6_cutsAt_8 : decode cX6_cutsAt 8 = .ok (.iaload, 1) := by decide +kernel
theorem dX6_cutsAt_9 : decode cX6_cutsAt 9 = .ok (.invokevirtual 386, 3) := by decide +kernel
theorem dX6_cutsAt_12 : decode cX6_cutsAt 12 = .ok (.istore 4, 2) := by decide +kernel
theorem dX6_cutsAt_14 : decode cX6_cutsAt 14 = .ok (.iload_n 3, 1) := by decide +kernel
theorem dX6_cutsAt_15 : decode cX6_cutsAt 15 = .ok (.iconst 1, 1) := by decide +kernel
theorem dX6_cutsAt_16 : decode cX6_cutsAt 16 = .ok (.if_icmp .ne 19, 3) := by decide +kernel
theorem dX6_cutsAt_19 : decode cX6_cutsAt 19 = .ok (.aload_n 0, 1) := by decide +kernel
theorem dX6_cutsAt_20 : decode cX6_cutsAt 20 = .ok (.getfield 23, 3) := by decide +kernel
theorem dX6_cutsAt_23 : decode cX6_cutsAt 23 = .ok (.iload_n 2, 1) := by decide +kernel
theorem dX6_cutsAt_24 : decode cX6_cutsAt 24 = .ok (.iaload, 1) := by decide +kernel
theorem dX6_cutsAt_25 : decode cX6_cutsAt 25 = .ok (.iload 4, 2) := by decide +kernel
theorem dX6_cutsAt_27 : decode cX6_cutsAt 27 = .ok (.iadd, 1) := by decide +kernel
theorem dX6_cutsAt_28 : decode cX6_cutsAt 28 = .ok (.iconst 2, 1) := by decide +kernel
theorem dX6_cutsAt_29 : decode cX6_cutsAt 29 = .ok (.idiv, 1) := by decide +kernel
theorem dX6_cutsAt_30 : decode cX6_cutsAt 30 = .ok (.istore 4, 2) := by decide +kernel
theorem dX6_cutsAt_32 : decode cX6_cutsAt 32 = .ok (.goto 33, 3) := by decide +kernel
theorem dX6_cutsAt_35 : decode cX6_cutsAt 35 = .ok (.iload_n 3, 1) := by decide +kernel
theorem dX6_cutsAt_36 : decode cX6_cutsAt 36 = .ok (.iconst 2, 1) := by decide +kernel
theorem dX6_cutsAt_37 : decode cX6_cutsAt 37 = .ok (.if_icmp .ne 9, 3) := by decide +kernel
theorem dX6_cutsAt_40 : decode cX6_cutsAt 40 = .ok (.iinc 4 (-10), 3) := by decide +kernel
theorem dX6_cutsAt_43 : decode cX6_cutsAt 43 = .ok (.goto 22, 3) := by decide +kernel
theorem dX6_cutsAt_46 : decode cX6_cutsAt 46 = .ok (.iload_n 3, 1) := by decide +kernel
theorem dX6_cutsAt_47 : decode cX6_cutsAt 47 = .ok (.iconst 3, 1) := by decide +kernel
theorem dX6_cutsAt_48 : decode cX6_cutsAt 48 = .ok (.if_icmp .ne 17, 3) := by decide +kernel
theorem dX6_cutsAt_51 : decode cX6_cutsAt 51 = .ok (.aload_n 0, 1) := by decide +kernel
theorem dX6_cutsAt_52 : decode cX6_cutsAt 52 = .ok (.getfield 32, 3) := by decide +kernel
theorem dX6_cutsAt_55 : decode cX6_cutsAt 55 = .ok (.iconst (-1), 1) := by decide +kernel
theorem dX6_cutsAt_56 : decode cX6_cutsAt 56 = .ok (.if_icmp .eq 9, 3) := by decide +kernel
theorem dX6_cutsAt_59 : decode cX6_cutsAt 59 = .ok (.aload_n 0, 1) := by decide +kernel
theorem dX6_cutsAt_60 : decode cX6_cutsAt 60 = .ok (.getfield 32, 3) := by decide +kernel
theorem dX6_cutsAt_63 : decode cX6_cutsAt 63 = .ok (.istore 4, 2) := by decide +kernel
theorem dX6_cutsAt_65 : decode cX6_cutsAt 65 = .ok (.aload_n 0, 1) := by decide +kernel
theorem dX6_cutsAt_66 : decode cX6_cutsAt 66 = .ok (.iload_n 1, 1) := by decide +kernel
theorem dX6_cutsAt_67 : decode cX6_cutsAt 67 = .ok (.aload_n 0, 1) := by decide +kernel
theorem dX6_cutsAt_68 : decode cX6_cutsAt 68 = .ok (.getfield 23, 3) := by decide +kernel
theorem dX6_cutsAt_71 : decode cX6_cutsAt 71 = .ok (.iload_n 2, 1) := by decide +kernel
theorem dX6_cutsAt_72 : decode cX6_cutsAt 72 = .ok (.iaload, 1) := by decide +kernel
theorem dX6_cutsAt_73 : decode cX6_cutsAt 73 = .ok (.iload 4, 2) := by decide +kernel
theorem dX6_cutsAt_75 : decode cX6_cutsAt 75 = .ok (.invokevirtual 389, 3) := by decide +kernel
theorem dX6_cutsAt_78 : decode cX6_cutsAt 78 = .ok (.istore 5, 2) := by decide +kernel
theorem dX6_cutsAt_80 : decode cX6_cutsAt 80 = .ok (.aload_n 0, 1) := by decide +kernel
theorem dX6_cutsAt_81 : decode cX6_cutsAt 81 = .ok (.getfield 23, 3) := by decide +kernel
theorem dX6_cutsAt_84 : decode cX6_cutsAt 84 = .ok (.iload_n 2, 1) := by decide +kernel
theorem dX6_cutsAt_85 : decode cX6_cutsAt 85 = .ok (.iload 5, 2) := by decide +kernel
theorem dX6_cutsAt_87 : decode cX6_cutsAt 87 = .ok (.ifCond .ge 7, 3) := by decide +kernel
theorem dX6_cutsAt_90 : decode cX6_cutsAt 90 = .ok (.iconst 0, 1) := by decide +kernel
theorem dX6_cutsAt_91 : decode cX6_cutsAt 91 = .ok (.goto 25, 3) := by decide +kernel
theorem dX6_cutsAt_94 : decode cX6_cutsAt 94 = .ok (.iload 5, 2) := by decide +kernel
theorem dX6_cutsAt_96 : decode cX6_cutsAt 96 = .ok (.aload_n 0, 1) := by decide +kernel
theorem dX6_cutsAt_97 : decode cX6_cutsAt 97 = .ok (.getfield 23, 3) := by decide +kernel
theorem dX6_cutsAt_100 : decode cX6_cutsAt 100 = .ok (.iload_n 2, 1) := by decide +kernel
theorem dX6_cutsAt_101 : decode cX6_cutsAt 101 = .ok (.iaload, 1) := by decide +kernel
theorem dX6_cutsAt_102 : decode cX6_cutsAt 102 = .ok (.if_icmp .ge 8, 3) := by decide +kernel
theorem dX6_cutsAt_105 : decode cX6_cutsAt 105 = .ok (.iload 5, 2) := by decide +kernel
theorem dX6_cutsAt_107 : decode cX6_cutsAt 107 = .ok (.goto 9, 3) := by decide +kernel
theorem dX6_cutsAt_110 : decode cX6_cutsAt 110 = .ok (.aload_n 0, 1) := by decide +kernel
theorem dX6_cutsAt_111 : decode cX6_cutsAt 111 = .ok (.getfield 23, 3) := by decide +kernel
theorem dX6_cutsAt_114 : decode cX6_cutsAt 114 = .ok (.iload_n 2, 1) := by decide +kernel
theorem dX6_cutsAt_115 : decode cX6_cutsAt 115 = .ok (.iaload, 1) := by decide +kernel
theorem dX6_cutsAt_116 : decode cX6_cutsAt 116 = .ok (.iastore, 1) := by decide +kernel
theorem dX6_cutsAt_117 : decode cX6_cutsAt 117 = .ok (.return_, 1) := by decide +kernel
theorem dX6_evensOut_0 : decode cX6_evensOut 0 = .ok (.iconst 0, 1) := by decide +kernel
theorem dX6_evensOut_1 : decode cX6_evensOut 1 = .ok (.istore 4, 2) := by decide +kernel
theorem dX6_evensOut_3 : decode cX6_evensOut 3 = .ok (.iload 4, 2) := by decide +kernel
theorem dX6_evensOut_5 : decode cX6_evensOut 5 = .ok (.bipush 30, 2) := by decide +kernel
theorem dX6_evensOut_7 : decode cX6_evensOut 7 = .ok (.if_icmp .ge 99, 3) := by decide +kernel
theorem dX6_evensOut_10 : decode cX6_evensOut 10 = .ok (.aload_n 0, 1) := by decide +kernel
theorem dX6_evensOut_11 : decode cX6_evensOut 11 = .ok (.getfield 23, 3) := by decide +kernel
theorem dX6_evensOut_14 : decode cX6_evensOut 14 = .ok (.iload_n 1, 1) := by decide +kernel
theorem dX6_evensOut_15 : decode cX6_evensOut 15 = .ok (.iaload, 1) := by decide +kernel
theorem dX6_evensOut_16 : decode cX6_evensOut 16 = .ok (.aload_n 0, 1) := by decide +kernel
theorem dX6_evensOut_17 : decode cX6_evensOut 17 = .ok (.getfield 23, 3) := by decide +kernel
theorem dX6_evensOut_20 : decode cX6_evensOut 20 = .ok (.iload_n 1, 1) := by decide +kernel
theorem dX6_evensOut_21 : decode cX6_evensOut 21 = .ok (.iconst 1, 1) := by decide +kernel
theorem dX6_evensOut_22 : decode cX6_evensOut 22 = .ok (.iadd, 1) := by decide +kernel
theorem dX6_evensOut_23 : decode cX6_evensOut 23 = .ok (.iaload, 1) := by decide +kernel
theorem dX6_evensOut_24 : decode cX6_evensOut 24 = .ok (.isub, 1) := by decide +kernel
theorem dX6_evensOut_25 : decode cX6_evensOut 25 = .ok (.invokestatic 392, 3) := by decide +kernel
theorem dX6_evensOut_28 : decode cX6_evensOut 28 = .ok (.aload_n 0, 1) := by decide +kernel
theorem dX6_evensOut_29 : decode cX6_evensOut 29 = .ok (.iconst 1, 1) := by decide +kernel
theorem dX6_evensOut_30 : decode cX6_evensOut 30 = .ok (.iload_n 1, 1) := by decide +kernel
theorem dX6_evensOut_31 : decode cX6_evensOut 31 = .ok (.iload_n 2, 1) := by decide +kernel
theorem dX6_evensOut_32 : decode cX6_evensOut 32 = .ok (.iload_n 3, 1) := by decide +kernel
theorem dX6_evensOut_33 : decode cX6_evensOut 33 = .ok (.invokevirtual 395, 3) := by decide +kernel
theorem dX6_evensOut_36 : decode cX6_evensOut 36 = .ok (.if_icmp .le 70, 3) := by decide +kernel
theorem dX6_evensOut_39 : decode cX6_evensOut 39 = .ok (.aload_n 0, 1) := by decide +kernel
theorem dX6_evensOut_40 : decode cX6_evensOut 40 = .ok (.getfield 23, 3) := by decide +kernel
theorem dX6_evensOut_43 : decode cX6_evensOut 43 = .ok (.iload_n 1, 1) := by decide +kernel
theorem dX6_evensOut_44 : decode cX6_evensOut 44 = .ok (.iaload, 1) := by decide +kernel
theorem dX6_evensOut_45 : decode cX6_evensOut 45 = .ok (.aload_n 0, 1) := by decide +kernel
theorem dX6_evensOut_46 : decode cX6_evensOut 46 = .ok (.getfield 23, 3) := by decide +kernel
theorem dX6_evensOut_49 : decode cX6_evensOut 49 = .ok (.iload_n 1, 1) := by decide +kernel
theorem dX6_evensOut_50 : decode cX6_evensOut 50 = .ok (.iconst 1, 1) := by decide +kernel
theorem dX6_evensOut_51 : decode cX6_evensOut 51 = .ok (.iadd, 1) := by decide +kernel
theorem dX6_evensOut_52 : decode cX6_evensOut 52 = .ok (.iaload, 1) := by decide +kernel
theorem dX6_evensOut_53 : decode cX6_evensOut 53 = .ok (.if_icmp .le 7, 3) := by decide +kernel
theorem dX6_evensOut_56 : decode cX6_evensOut 56 = .ok (.iload_n 1, 1) := by decide +kernel
theorem dX6_evensOut_57 : decode cX6_evensOut 57 = .ok (.goto 6, 3) := by decide +kernel
theorem dX6_evensOut_60 : decode cX6_evensOut 60 = .ok (.iload_n 1, 1) := by decide +kernel
theorem dX6_evensOut_61 : decode cX6_evensOut 61 = .ok (.iconst 1, 1) := by decide +kernel
theorem dX6_evensOut_62 : decode cX6_evensOut 62 = .ok (.iadd, 1) := by decide +kernel
theorem dX6_evensOut_63 : decode cX6_evensOut 63 = .ok (.istore 5, 2) := by decide +kernel
theorem dX6_evensOut_65 : decode cX6_evensOut 65 = .ok (.aload_n 0, 1) := by decide +kernel
theorem dX6_evensOut_66 : decode cX6_evensOut 66 = .ok (.getfield 23, 3) := by decide +kernel
theorem dX6_evensOut_69 : decode cX6_evensOut 69 = .ok (.iconst 2, 1) := by decide +kernel
theorem dX6_evensOut_70 : decode cX6_evensOut 70 = .ok (.iload_n 1, 1) := by decide +kernel
theorem dX6_evensOut_71 : decode cX6_evensOut 71 = .ok (.imul, 1) := by decide +kernel
theorem dX6_evensOut_72 : decode cX6_evensOut 72 = .ok (.iconst 1, 1) := by decide +kernel
theorem dX6_evensOut_73 : decode cX6_evensOut 73 = .ok (.iadd, 1) := by decide +kernel
theorem dX6_evensOut_74 : decode cX6_evensOut 74 = .ok (.iload 5, 2) := by decide +kernel
theorem dX6_evensOut_76 : decode cX6_evensOut 76 = .ok (.isub, 1) := by decide +kernel
theorem dX6_evensOut_77 : decode cX6_evensOut 77 = .ok (.iaload, 1) := by decide +kernel
theorem dX6_evensOut_78 : decode cX6_evensOut 78 = .ok (.istore 6, 2) := by decide +kernel
theorem dX6_evensOut_80 : decode cX6_evensOut 80 = .ok (.aload_n 0, 1) := by decide +kernel
theorem dX6_evensOut_81 : decode cX6_evensOut 81 = .ok (.getfield 23, 3) := by decide +kernel
theorem dX6_evensOut_84 : decode cX6_evensOut 84 = .ok (.iload 5, 2) := by decide +kernel
theorem dX6_evensOut_86 : decode cX6_evensOut 86 = .ok (.iload 6, 2) := by decide +kernel
theorem dX6_evensOut_88 : decode cX6_evensOut 88 = .ok (.ifCond .le 10, 3) := by decide +kernel
theorem dX6_evensOut_91 : decode cX6_evensOut 91 = .ok (.iload 6, 2) := by decide +kernel
theorem dX6_evensOut_93 : decode cX6_evensOut 93 = .ok (.iconst 1, 1) := by decide +kernel
theorem dX6_evensOut_94 : decode cX6_evensOut 94 = .ok (.isub, 1) := by decide +kernel
theorem dX6_evensOut_95 : decode cX6_evensOut 95 = .ok (.goto 4, 3) := by decide +kernel
theorem dX6_evensOut_98 : decode cX6_evensOut 98 = .ok (.iconst 0, 1) := by decide +kernel
theorem dX6_evensOut_99 : decode cX6_evensOut 99 = .ok (.iastore, 1) := by decide +kernel
theorem dX6_evensOut_100 : decode cX6_evensOut 100 = .ok (.iinc 4 1, 3) := by decide +kernel
theorem dX6_evensOut_103 : decode cX6_evensOut 103 = .ok (.goto (-100), 3) := by decide +kernel
theorem dX6_evensOut_106 : decode cX6_evensOut 106 = .ok (.aload_n 0, 1) := by decide +kernel
theorem dX6_evensOut_107 : decode cX6_evensOut 107 = .ok (.dup, 1) := by decide +kernel
theorem dX6_evensOut_108 : decode cX6_evensOut 108 = .ok (.getfield 399, 3) := by decide +kernel
theorem dX6_evensOut_111 : decode cX6_evensOut 111 = .ok (.iload 4, 2) := by decide +kernel
theorem dX6_evensOut_113 : decode cX6_evensOut 113 = .ok (.iadd, 1) := by decide +kernel
theorem dX6_evensOut_114 : decode cX6_evensOut 114 = .ok (.putfield 399, 3) := by decide +kernel
theorem dX6_evensOut_117 : decode cX6_evensOut 117 = .ok (.return_, 1) := by decide +kernel
theorem dX6_goesTo_0 : decode cX6_goesTo 0 = .ok (.aload_n 0, 1) := by decide +kernel
theorem dX6_goesTo_1 : decode cX6_goesTo 1 = .ok (.getfield 47, 3) := by decide +kernel
theorem dX6_goesTo_4 : decode cX6_goesTo 4 = .ok (.iload_n 1, 1) := by decide +kernel
theorem dX6_goesTo_5 : decode cX6_goesTo 5 = .ok (.iaload, 1) := by decide +kernel
theorem dX6_goesTo_6 : decode cX6_goesTo 6 = .ok (.istore_n 2, 1) := by decide +kernel
theorem dX6_goesTo_7 : decode cX6_goesTo 7 = .ok (.aload_n 0, 1) := by decide +kernel
theorem dX6_goesTo_8 : decode cX6_goesTo 8 = .ok (.getfield 50, 3) := by decide +kernel
theorem dX6_goesTo_11 : decode cX6_goesTo 11 = .ok (.iload_n 1, 1) := by decide +kernel
theorem dX6_goesTo_12 : decode cX6_goesTo 12 = .ok (.iaload, 1) := by decide +kernel
theorem dX6_goesTo_13 : decode cX6_goesTo 13 = .ok (.istore_n 3, 1) := by decide +kernel
theorem dX6_goesTo_14 : decode cX6_goesTo 14 = .ok (.iconst 0, 1) := by decide +kernel
theorem dX6_goesTo_15 : decode cX6_goesTo 15 = .ok (.istore 4, 2) := by decide +kernel
theorem dX6_goesTo_17 : decode cX6_goesTo 17 = .ok (.iload 4, 2) := by decide +kernel
theorem dX6_goesTo_19 : decode cX6_goesTo 19 = .ok (.iconst 4, 1) := by decide +kernel
theorem dX6_goesTo_20 : decode cX6_goesTo 20 = .ok (.if_icmp .ge 40, 3) := by decide +kernel
theorem dX6_goesTo_23 : decode cX6_goesTo 23 = .ok (.aload_n 0, 1) := by decide +kernel
theorem dX6_goesTo_24 : decode cX6_goesTo 24 = .ok (.getfield 23, 3) := by decide +kernel
theorem dX6_goesTo_27 : decode cX6_goesTo 27 = .ok (.iload 4, 2) := by decide +kernel
theorem dX6_goesTo_29 : decode cX6_goesTo 29 = .ok (.aload_n 0, 1) := by decide +kernel
theorem dX6_goesTo_30 : decode cX6_goesTo 30 = .ok (.getfield 23, 3) := by decide +kernel
theorem dX6_goesTo_33 : decode cX6_goesTo 33 = .ok (.iload 4, 2) := by decide +kernel
theorem dX6_goesTo_35 : decode cX6_goesTo 35 = .ok (.iaload, 1) := by decide +kernel
theorem dX6_goesTo_36 : decode cX6_goesTo 36 = .ok (.aload_n 0, 1) := by decide +kernel
theorem dX6_goesTo_37 : decode cX6_goesTo 37 = .ok (.iconst 0, 1) := by decide +kernel
theorem dX6_goesTo_38 : decode cX6_goesTo 38 = .ok (.iload 4, 2) := by decide +kernel
theorem dX6_goesTo_40 : decode cX6_goesTo 40 = .ok (.iload_n 3, 1) := by decide +kernel
theorem dX6_goesTo_41 : decode cX6_goesTo 41 = .ok (.iload_n 2, 1) := by decide +kernel
theorem dX6_goesTo_42 : decode cX6_goesTo 42 = .ok (.invokevirtual 395, 3) := by decide +kernel
theorem dX6_goesTo_45 : decode cX6_goesTo 45 = .ok (.iadd, 1) := by decide +kernel
theorem dX6_goesTo_46 : decode cX6_goesTo 46 = .ok (.iconst 0, 1) := by decide +kernel
theorem dX6_goesTo_47 : decode cX6_goesTo 47 = .ok (.sipush 199, 3) := by decide +kernel
theorem dX6_goesTo_50 : decode cX6_goesTo 50 = .ok (.invokestatic 382, 3) := by decide +kernel
theorem dX6_goesTo_53 : decode cX6_goesTo 53 = .ok (.iastore, 1) := by decide +kernel
theorem dX6_goesTo_54 : decode cX6_goesTo 54 = .ok (.iinc 4 1, 3) := by decide +kernel
theorem dX6_goesTo_57 : decode cX6_goesTo 57 = .ok (.goto (-40), 3) := by decide +kernel
theorem dX6_goesTo_60 : decode cX6_goesTo 60 = .ok (.iconst 0, 1) := by decide +kernel
theorem dX6_goesTo_61 : decode cX6_goesTo 61 = .ok (.istore 4, 2) := by decide +kernel
theorem dX6_goesTo_63 : decode cX6_goesTo 63 = .ok (.iload 4, 2) := by decide +kernel
theorem dX6_goesTo_65 : decode cX6_goesTo 65 = .ok (.iconst 4, 1) := by decide +kernel
theorem dX6_goesTo_66 : decode cX6_goesTo 66 = .ok (.if_icmp .ge 22, 3) := by decide +kernel
theorem dX6_goesTo_69 : decode cX6_goesTo 69 = .ok (.aload_n 0, 1) := by decide +kernel
theorem dX6_goesTo_70 : decode cX6_goesTo 70 = .ok (.iload_n 2, 1) := by decide +kernel
theorem dX6_goesTo_71 : decode cX6_goesTo 71 = .ok (.iload 4, 2) := by decide +kernel
theorem dX6_goesTo_73 : decode cX6_goesTo 73 = .ok (.aload_n 0, 1) := by decide +kernel
theorem dX6_goesTo_74 : decode cX6_goesTo 74 = .ok (.getfield 53, 3) := by decide +kernel
theorem dX6_goesTo_77 : decode cX6_goesTo 77 = .ok (.iload_n 1, 1) := by decide +kernel
theorem dX6_goesTo_78 : decode cX6_goesTo 78 = .ok (.iaload, 1) := by decide +kernel
theorem dX6_goesTo_79 : decode cX6_goesTo 79 = .ok (.invokevirtual 402, 3) := by decide +kernel
theorem dX6_goesTo_82 : decode cX6_goesTo 82 = .ok (.iinc 4 1, 3) := by decide +kernel
theorem dX6_goesTo_85 : decode cX6_goesTo 85 = .ok (.goto (-22), 3) := by decide +kernel
theorem dX6_goesTo_88 : decode cX6_goesTo 88 = .ok (.aload_n 0, 1) := by decide +kernel
theorem dX6_goesTo_89 : decode cX6_goesTo 89 = .ok (.iconst 0, 1) := by decide +kernel
theorem dX6_goesTo_90 : decode cX6_goesTo 90 = .ok (.iload_n 3, 1) := by decide +kernel
theorem dX6_goesTo_91 : decode cX6_goesTo 91 = .ok (.iload_n 2, 1) := by decide +kernel
theorem dX6_goesTo_92 : decode cX6_goesTo 92 = .ok (.invokevirtual 405, 3) := by decide +kernel
theorem dX6_goesTo_95 : decode cX6_goesTo 95 = .ok (.aload_n 0, 1) := by decide +kernel
theorem dX6_goesTo_96 : decode cX6_goesTo 96 = .ok (.iconst 2, 1) := by decide +kernel
theorem dX6_goesTo_97 : decode cX6_goesTo 97 = .ok (.iload_n 3, 1) := by decide +kernel
theorem dX6_goesTo_98 : decode cX6_goesTo 98 = .ok (.iload_n 2, 1) := by decide +kernel
theorem dX6_goesTo_99 : decode cX6_goesTo 99 = .ok (.invokevirtual 405, 3) := by decide +kernel
theorem dX6_goesTo_102 : decode cX6_goesTo 102 = .ok (.iconst 0, 1) := by decide +kernel
theorem dX6_goesTo_103 : decode cX6_goesTo 103 = .ok (.istore 4, 2) := by decide +kernel
theorem dX6_goesTo_105 : decode cX6_goesTo 105 = .ok (.iload 4, 2) := by decide +kernel
theorem dX6_goesTo_107 : decode cX6_goesTo 107 = .ok (.iconst 4, 1) := by decide +kernel
theorem dX6_goesTo_108 : decode cX6_goesTo 108 = .ok (.if_icmp .ge 23, 3) := by decide +kernel
theorem dX6_goesTo_111 : decode cX6_goesTo 111 = .ok (.aload_n 0, 1) := by decide +kernel
theorem dX6_goesTo_112 : decode cX6_goesTo 112 = .ok (.getfield 26, 3) := by decide +kernel
theorem dX6_goesTo_115 : decode cX6_goesTo 115 = .ok (.iload 4, 2) := by decide +kernel
theorem dX6_goesTo_117 : decode cX6_goesTo 117 = .ok (.aload_n 0, 1) := by decide +kernel
theorem dX6_goesTo_118 : decode cX6_goesTo 118 = .ok (.getfield 23, 3) := by decide +kernel
theorem dX6_goesTo_121 : decode cX6_goesTo 121 = .ok (.iload 4, 2) := by decide +kernel
theorem dX6_goesTo_123 : decode cX6_goesTo 123 = .ok (.iaload, 1) := by decide +kernel
theorem dX6_goesTo_124 : decode cX6_goesTo 124 = .ok (.iastore, 1) := by decide +kernel
theorem dX6_goesTo_125 : decode cX6_goesTo 125 = .ok (.iinc 4 1, 3) := by decide +kernel
theorem dX6_goesTo_128 : decode cX6_goesTo 128 = .ok (.goto (-23), 3) := by decide +kernel
theorem dX6_goesTo_131 : decode cX6_goesTo 131 = .ok (.return_, 1) := by decide +kernel
theorem dX6_offNow_0 : decode cX6_offNow 0 = .ok (.iconst 0, 1) := by decide +kernel
theorem dX6_offNow_1 : decode cX6_offNow 1 = .ok (.istore_n 1, 1) := by decide +kernel
theorem dX6_offNow_2 : decode cX6_offNow 2 = .ok (.iconst 0, 1) := by decide +kernel
theorem dX6_offNow_3 : decode cX6_offNow 3 = .ok (.istore_n 2, 1) := by decide +kernel
theorem dX6_offNow_4 : decode cX6_offNow 4 = .ok (.iload_n 2, 1) := by decide +kernel
theorem dX6_offNow_5 : decode cX6_offNow 5 = .ok (.iconst 4, 1) := by decide +kernel
theorem dX6_offNow_6 : decode cX6_offNow 6 = .ok (.if_icmp .ge 37, 3) := by decide +kernel
theorem dX6_offNow_9 : decode cX6_offNow 9 = .ok (.iload_n 1, 1) := by decide +kernel
theorem dX6_offNow_10 : decode cX6_offNow 10 = .ok (.aload_n 0, 1) := by decide +kernel
theorem dX6_offNow_11 : decode cX6_offNow 11 = .ok (.getfield 23, 3) := by decide +kernel
theorem dX6_offNow_14 : decode cX6_offNow 14 = .ok (.iload_n 2, 1) := by decide +kernel
theorem dX6_offNow_15 : decode cX6_offNow 15 = .ok (.iaload, 1) := by decide +kernel
theorem dX6_offNow_16 : decode cX6_offNow 16 = .ok (.aload_n 0, 1) := by decide +kernel
theorem dX6_offNow_17 : decode cX6_offNow 17 = .ok (.getfield 29, 3) := by decide +kernel
theorem dX6_offNow_20 : decode cX6_offNow 20 = .ok (.iload_n 2, 1) := by decide +kernel
theorem dX6_offNow_21 : decode cX6_offNow 21 = .ok (.iaload, 1) := by decide +kernel
theorem dX6_offNow_22 : decode cX6_offNow 22 = .ok (.isub, 1) := by decide +kernel
theorem dX6_offNow_23 : decode cX6_offNow 23 = .ok (.invokestatic 392, 3) := by decide +kernel
theorem dX6_offNow_26 : decode cX6_offNow 26 = .ok (.aload_n 0, 1) := by decide +kernel
theorem dX6_offNow_27 : decode cX6_offNow 27 = .ok (.iconst 2, 1) := by decide +kernel
theorem dX6_offNow_28 : decode cX6_offNow 28 = .ok (.iload_n 2, 1) := by decide +kernel
theorem dX6_offNow_29 : decode cX6_offNow 29 = .ok (.iconst 0, 1) := by decide +kernel
theorem dX6_offNow_30 : decode cX6_offNow 30 = .ok (.iconst 0, 1) := by decide +kernel
theorem dX6_offNow_31 : decode cX6_offNow 31 = .ok (.invokevirtual 395, 3) := by decide +kernel
theorem dX6_offNow_34 : decode cX6_offNow 34 = .ok (.imul, 1) := by decide +kernel
theorem dX6_offNow_35 : decode cX6_offNow 35 = .ok (.iadd, 1) := by decide +kernel
theorem dX6_offNow_36 : decode cX6_offNow 36 = .ok (.istore_n 1, 1) := by decide +kernel
theorem dX6_offNow_37 : decode cX6_offNow 37 = .ok (.iinc 2 1, 3) := by decide +kernel
theorem dX6_offNow_40 : decode cX6_offNow 40 = .ok (.goto (-36), 3) := by decide +kernel
theorem dX6_offNow_43 : decode cX6_offNow 43 = .ok (.iload_n 1, 1) := by decide +kernel
theorem dX6_offNow_44 : decode cX6_offNow 44 = .ok (.ireturn, 1) := by decide +kernel
theorem dX6_layAside_0 : decode cX6_layAside 0 = .ok (.iconst 0, 1) := by decide +kernel
theorem dX6_layAside_1 : decode cX6_layAside 1 = .ok (.istore_n 1, 1) := by decide +kernel
theorem dX6_layAside_2 : decode cX6_layAside 2 = .ok (.iload_n 1, 1) := by decide +kernel
theorem dX6_layAside_3 : decode cX6_layAside 3 = .ok (.iconst 4, 1) := by decide +kernel
theorem dX6_layAside_4 : decode cX6_layAside 4 = .ok (.if_icmp .ge 35, 3) := by decide +kernel
theorem dX6_layAside_7 : decode cX6_layAside 7 = .ok (.aload_n 0, 1) := by decide +kernel
theorem dX6_layAside_8 : decode cX6_layAside 8 = .ok (.getfield 59, 3) := by decide +kernel
theorem dX6_layAside_11 : decode cX6_layAside 11 = .ok (.iload_n 1, 1) := by decide +kernel
theorem dX6_layAside_12 : decode cX6_layAside 12 = .ok (.aload_n 0, 1) := by decide +kernel
theorem dX6_layAside_13 : decode cX6_layAside 13 = .ok (.getfield 23, 3) := by decide +kernel
theorem dX6_layAside_16 : decode cX6_layAside 16 = .ok (.iload_n 1, 1) := by decide +kernel
theorem dX6_layAside_17 : decode cX6_layAside 17 = .ok (.iaload, 1) := by decide +kernel
theorem dX6_layAside_18 : decode cX6_layAside 18 = .ok (.iastore, 1) := by decide +kernel
theorem dX6_layAside_19 : decode cX6_layAside 19 = .ok (.aload_n 0, 1) := by decide +kernel
theorem dX6_layAside_20 : decode cX6_layAside 20 = .ok (.getfield 59, 3) := by decide +kernel
theorem dX6_layAside_23 : decode cX6_layAside 23 = .ok (.iconst 4, 1) := by decide +kernel
theorem dX6_layAside_24 : decode cX6_layAside 24 = .ok (.iload_n 1, 1) := by decide +kernel
theorem dX6_layAside_25 : decode cX6_layAside 25 = .ok (.iadd, 1) := by decide +kernel
theorem dX6_layAside_26 : decode cX6_layAside 26 = .ok (.aload_n 0, 1) := by decide +kernel
theorem dX6_layAside_27 : decode cX6_layAside 27 = .ok (.getfield 26, 3) := by decide +kernel
theorem dX6_layAside_30 : decode cX6_layAside 30 = .ok (.iload_n 1, 1) := by decide +kernel
theorem dX6_layAside_31 : decode cX6_layAside 31 = .ok (.iaload, 1) := by decide +kernel
theorem dX6_layAside_32 : decode cX6_layAside 32 = .ok (.iastore, 1) := by decide +kernel
theorem dX6_layAside_33 : decode cX6_layAside 33 = .ok (.iinc 1 1, 3) := by decide +kernel
theorem dX6_layAside_36 : decode cX6_layAside 36 = .ok (.goto (-34), 3) := by decide +kernel
theorem dX6_layAside_39 : decode cX6_layAside 39 = .ok (.aload_n 0, 1) := by decide +kernel
theorem dX6_layAside_40 : decode cX6_layAside 40 = .ok (.iconst 0, 1) := by decide +kernel
theorem dX6_layAside_41 : decode cX6_layAside 41 = .ok (.putfield 399, 3) := by decide +kernel
theorem dX6_layAside_44 : decode cX6_layAside 44 = .ok (.return_, 1) := by decide +kernel
theorem dX6_takeBack_0 : decode cX6_takeBack 0 = .ok (.iconst 0, 1) := by decide +kernel
theorem dX6_takeBack_1 : decode cX6_takeBack 1 = .ok (.istore_n 1, 1) := by decide +kernel
theorem dX6_takeBack_2 : decode cX6_takeBack 2 = .ok (.iload_n 1, 1) := by decide +kernel
theorem dX6_takeBack_3 : decode cX6_takeBack 3 = .ok (.iconst 4, 1) := by decide +kernel
theorem dX6_takeBack_4 : decode cX6_takeBack 4 = .ok (.if_icmp .ge 35, 3) := by decide +kernel
theorem dX6_takeBack_7 : decode cX6_takeBack 7 = .ok (.aload_n 0, 1) := by decide +kernel
theorem dX6_takeBack_8 : decode cX6_takeBack 8 = .ok (.getfield 23, 3) := by decide +kernel
theorem dX6_takeBack_11 : decode cX6_takeBack 11 = .ok (.iload_n 1, 1) := by decide +kernel
theorem dX6_takeBack_12 : decode cX6_takeBack 12 = .ok (.aload_n 0, 1) := by decide +kernel
theorem dX6_takeBack_13 : decode cX6_takeBack 13 = .ok (.getfield 59, 3) := by decide +kernel
theorem dX6_takeBack_16 : decode cX6_takeBack 16 = .ok (.iload_n 1, 1) := by decide +kernel
theorem dX6_takeBack_17 : decode cX6_takeBack 17 = .ok (.iaload, 1) := by decide +kernel
theorem dX6_takeBack_18 : decode cX6_takeBack 18 = .ok (.iastore, 1) := by decide +kernel
theorem dX6_takeBack_19 : decode cX6_takeBack 19 = .ok (.aload_n 0, 1) := by decide +kernel
theorem dX6_takeBack_20 : decode cX6_takeBack 20 = .ok (.getfield 26, 3) := by decide +kernel
theorem dX6_takeBack_23 : decode cX6_takeBack 23 = .ok (.iload_n 1, 1) := by decide +kernel
theorem dX6_takeBack_24 : decode cX6_takeBack 24 = .ok (.aload_n 0, 1) := by decide +kernel
theorem dX6_takeBack_25 : decode cX6_takeBack 25 = .ok (.getfield 59, 3) := by decide +kernel
theorem dX6_takeBack_28 : decode cX6_takeBack 28 = .ok (.iconst 4, 1) := by decide +kernel
theorem dX6_takeBack_29 : decode cX6_takeBack 29 = .ok (.iload_n 1, 1) := by decide +kernel
theorem dX6_takeBack_30 : decode cX6_takeBack 30 = .ok (.iadd, 1) := by decide +kernel
theorem dX6_takeBack_31 : decode cX6_takeBack 31 = .ok (.iaload, 1) := by decide +kernel
theorem dX6_takeBack_32 : decode cX6_takeBack 32 = .ok (.iastore, 1) := by decide +kernel
theorem dX6_takeBack_33 : decode cX6_takeBack 33 = .ok (.iinc 1 1, 3) := by decide +kernel
theorem dX6_takeBack_36 : decode cX6_takeBack 36 = .ok (.goto (-34), 3) := by decide +kernel
theorem dX6_takeBack_39 : decode cX6_takeBack 39 = .ok (.return_, 1) := by decide +kernel
theorem dX6_once_0 : decode cX6_once 0 = .ok (.aload_n 0, 1) := by decide +kernel
theorem dX6_once_1 : decode cX6_once 1 = .ok (.iload_n 1, 1) := by decide +kernel
theorem dX6_once_2 : decode cX6_once 2 = .ok (.invokevirtual 125, 3) := by decide +kernel
theorem dX6_once_5 : decode cX6_once 5 = .ok (.ifCond .eq 15, 3) := by decide +kernel
theorem dX6_once_8 : decode cX6_once 8 = .ok (.iload_n 2, 1) := by decide +kernel
theorem dX6_once_9 : decode cX6_once 9 = .ok (.i2l, 1) := by decide +kernel
theorem dX6_once_10 : decode cX6_once 10 = .ok (.lconst 0, 1) := by decide +kernel
theorem dX6_once_11 : decode cX6_once 11 = .ok (.ldc2_w 144, 3) := by decide +kernel
theorem dX6_once_14 : decode cX6_once 14 = .ok (.invokestatic 108, 3) := by decide +kernel
theorem dX6_once_17 : decode cX6_once 17 = .ok (.ifCond .ne 6, 3) := by decide +kernel
theorem dX6_once_20 : decode cX6_once 20 = .ok (.bipush (-2), 2) := by decide +kernel
theorem dX6_once_22 : decode cX6_once 22 = .ok (.ireturn, 1) := by decide +kernel
theorem dX6_once_23 : decode cX6_once 23 = .ok (.aload_n 0, 1) := by decide +kernel
theorem dX6_once_24 : decode cX6_once 24 = .ok (.invokevirtual 408, 3) := by decide +kernel
theorem dX6_once_27 : decode cX6_once 27 = .ok (.aload_n 0, 1) := by decide +kernel
theorem dX6_once_28 : decode cX6_once 28 = .ok (.iload_n 1, 1) := by decide +kernel
theorem dX6_once_29 : decode cX6_once 29 = .ok (.invokevirtual 411, 3) := by decide +kernel
theorem dX6_once_32 : decode cX6_once 32 = .ok (.iload_n 2, 1) := by decide +kernel
theorem dX6_once_33 : decode cX6_once 33 = .ok (.iconst 4, 1) := by decide +kernel
theorem dX6_once_34 : decode cX6_once 34 = .ok (.if_icmp .ge 12, 3) := by decide +kernel
theorem dX6_once_37 : decode cX6_once 37 = .ok (.aload_n 0, 1) := by decide +kernel
theorem dX6_once_38 : decode cX6_once 38 = .ok (.getfield 23, 3) := by decide +kernel
theorem dX6_once_41 : decode cX6_once 41 = .ok (.iload_n 2, 1) := by decide +kernel
theorem dX6_once_42 : decode cX6_once 42 = .ok (.iaload, 1) := by decide +kernel
theorem dX6_once_43 : decode cX6_once 43 = .ok (.goto 19, 3) := by decide +kernel
theorem dX6_once_46 : decode cX6_once 46 = .ok (.iload_n 2, 1) := by decide +kernel
theorem dX6_once_47 : decode cX6_once 47 = .ok (.iconst 4, 1) := by decide +kernel
theorem dX6_once_48 : decode cX6_once 48 = .ok (.if_icmp .ne 10, 3) := by decide +kernel
theorem dX6_once_51 : decode cX6_once 51 = .ok (.aload_n 0, 1) := by decide +kernel
theorem dX6_once_52 : decode cX6_once 52 = .ok (.getfield 399, 3) := by decide +kernel
theorem dX6_once_55 : decode cX6_once 55 = .ok (.goto 7, 3) := by decide +kernel
theorem dX6_once_58 : decode cX6_once 58 = .ok (.aload_n 0, 1) := by decide +kernel
theorem dX6_once_59 : decode cX6_once 59 = .ok (.invokevirtual 415, 3) := by decide +kernel
theorem dX6_once_62 : decode cX6_once 62 = .ok (.istore_n 3, 1) := by decide +kernel
theorem dX6_once_63 : decode cX6_once 63 = .ok (.aload_n 0, 1) := by decide +kernel
theorem dX6_once_64 : decode cX6_once 64 = .ok (.invokevirtual 418, 3) := by decide +kernel
theorem dX6_once_67 : decode cX6_once 67 = .ok (.iload_n 3, 1) := by decide +kernel
theorem dX6_once_68 : decode cX6_once 68 = .ok (.ireturn, 1) := by decide +kernel
theorem dX6_go_0 : decode cX6_go 0 = .ok (.aload_n 0, 1) := by decide +kernel
theorem dX6_go_1 : decode cX6_go 1 = .ok (.iload_n 1, 1) := by decide +kernel
theorem dX6_go_2 : decode cX6_go 2 = .ok (.invokevirtual 125, 3) := by decide +kernel
theorem dX6_go_5 : decode cX6_go 5 = .ok (.ifCond .ne 6, 3) := by decide +kernel
theorem dX6_go_8 : decode cX6_go 8 = .ok (.bipush (-2), 2) := by decide +kernel
theorem dX6_go_10 : decode cX6_go 10 = .ok (.ireturn, 1) := by decide +kernel
theorem dX6_go_11 : decode cX6_go 11 = .ok (.aload_n 0, 1) := by decide +kernel
theorem dX6_go_12 : decode cX6_go 12 = .ok (.iload_n 1, 1) := by decide +kernel
theorem dX6_go_13 : decode cX6_go 13 = .ok (.invokevirtual 411, 3) := by decide +kernel
theorem dX6_go_16 : decode cX6_go 16 = .ok (.aload_n 0, 1) := by decide +kernel
theorem dX6_go_17 : decode cX6_go 17 = .ok (.invokevirtual 415, 3) := by decide +kernel
theorem dX6_go_20 : decode cX6_go 20 = .ok (.ireturn, 1) := by decide +kernel
theorem dX6_courses_0 : decode cX6_courses 0 = .ok (.iconst 0, 1) := by decide +kernel
theorem dX6_courses_1 : decode cX6_courses 1 = .ok (.istore_n 1, 1) := by decide +kernel
theorem dX6_courses_2 : decode cX6_courses 2 = .ok (.aload_n 0, 1) := by decide +kernel
theorem dX6_courses_3 : decode cX6_courses 3 = .ok (.invokevirtual 408, 3) := by decide +kernel
theorem dX6_courses_6 : decode cX6_courses 6 = .ok (.iconst 0, 1) := by decide +kernel
theorem dX6_courses_7 : decode cX6_courses 7 = .ok (.istore_n 2, 1) := by decide +kernel
theorem dX6_courses_8 : decode cX6_courses 8 = .ok (.iload_n 2, 1) := by decide +kernel
theorem dX6_courses_9 : decode cX6_courses 9 = .ok (.aload_n 0, 1) := by decide +kernel
theorem dX6_courses_10 : decode cX6_courses 10 = .ok (.getfield 115, 3) := by decide +kernel
theorem dX6_courses_13 : decode cX6_courses 13 = .ok (.if_icmp .ge 62, 3) := by decide +kernel
theorem dX6_courses_16 : decode cX6_courses 16 = .ok (.aload_n 0, 1) := by decide +kernel
theorem dX6_courses_17 : decode cX6_courses 17 = .ok (.iload_n 2, 1) := by decide +kernel
theorem dX6_courses_18 : decode cX6_courses 18 = .ok (.invokevirtual 411, 3) := by decide +kernel
theorem dX6_courses_21 : decode cX6_courses 21 = .ok (.iconst 0, 1) := by decide +kernel
theorem dX6_courses_22 : decode cX6_courses 22 = .ok (.istore_n 3, 1) := by decide +kernel
theorem dX6_courses_23 : decode cX6_courses 23 = .ok (.iload_n 3, 1) := by decide +kernel
theorem dX6_courses_24 : decode cX6_courses 24 = .ok (.iconst 4, 1) := by decide +kernel
theorem dX6_courses_25 : decode cX6_courses 25 = .ok (.if_icmp .ge 25, 3) := by decide +kernel
theorem dX6_courses_28 : decode cX6_courses 28 = .ok (.aload_n 0, 1) := by decide +kernel
theorem dX6_courses_29 : decode cX6_courses 29 = .ok (.getfield 62, 3) := by decide +kernel
theorem dX6_courses_32 : decode cX6_courses 32 = .ok (.iconst 4, 1) := by decide +kernel
theorem dX6_courses_33 : decode cX6_courses 33 = .ok (.iload_n 2, 1) := by decide +kernel
theorem dX6_courses_34 : decode cX6_courses 34 = .ok (.imul, 1) := by decide +kernel
theorem dX6_courses_35 : decode cX6_courses 35 = .ok (.iload_n 3, 1) := by decide +kernel
theorem dX6_courses_36 : decode cX6_courses 36 = .ok (.iadd, 1) := by decide +kernel
theorem dX6_courses_37 : decode cX6_courses 37 = .ok (.aload_n 0, 1) := by decide +kernel
theorem dX6_courses_38 : decode cX6_courses 38 = .ok (.getfield 23, 3) := by decide +kernel
theorem dX6_courses_41 : decode cX6_courses 41 = .ok (.iload_n 3, 1) := by decide +kernel
theorem dX6_courses_42 : decode cX6_courses 42 = .ok (.iaload, 1) := by decide +kernel
theorem dX6_courses_43 : decode cX6_courses 43 = .ok (.iastore, 1) := by decide +kernel
theorem dX6_courses_44 : decode cX6_courses 44 = .ok (.iinc 3 1, 3) := by decide +kernel
theorem dX6_courses_47 : decode cX6_courses 47 = .ok (.goto (-24), 3) := by decide +kernel
theorem dX6_courses_50 : decode cX6_courses 50 = .ok (.aload_n 0, 1) := by decide +kernel
theorem dX6_courses_51 : decode cX6_courses 51 = .ok (.getfield 65, 3) := by decide +kernel
theorem dX6_courses_54 : decode cX6_courses 54 = .ok (.iload_n 2, 1) := by decide +kernel
theorem dX6_courses_55 : decode cX6_courses 55 = .ok (.aload_n 0, 1) := by decide +kernel
theorem dX6_courses_56 : decode cX6_courses 56 = .ok (.invokevirtual 415, 3) := by decide +kernel
theorem dX6_courses_59 : decode cX6_courses 59 = .ok (.iastore, 1) := by decide +kernel
theorem dX6_courses_60 : decode cX6_courses 60 = .ok (.iload_n 1, 1) := by decide +kernel
theorem dX6_courses_61 : decode cX6_courses 61 = .ok (.aload_n 0, 1) := by decide +kernel
theorem dX6_courses_62 : decode cX6_courses 62 = .ok (.getfield 65, 3) := by decide +kernel
theorem dX6_courses_65 : decode cX6_courses 65 = .ok (.iload_n 2, 1) := by decide +kernel
theorem dX6_courses_66 : decode cX6_courses 66 = .ok (.iaload, 1) := by decide +kernel
theorem dX6_courses_67 : decode cX6_courses 67 = .ok (.iadd, 1) := by decide +kernel
theorem dX6_courses_68 : decode cX6_courses 68 = .ok (.istore_n 1, 1) := by decide +kernel
theorem dX6_courses_69 : decode cX6_courses 69 = .ok (.iinc 2 1, 3) := by decide +kernel
theorem dX6_courses_72 : decode cX6_courses 72 = .ok (.goto (-64), 3) := by decide +kernel
theorem dX6_courses_75 : decode cX6_courses 75 = .ok (.aload_n 0, 1) := by decide +kernel
theorem dX6_courses_76 : decode cX6_courses 76 = .ok (.invokevirtual 418, 3) := by decide +kernel
theorem dX6_courses_79 : decode cX6_courses 79 = .ok (.iload_n 1, 1) := by decide +kernel
theorem dX6_courses_80 : decode cX6_courses 80 = .ok (.ireturn, 1) := by decide +kernel
theorem dX6_course_0 : decode cX6_course 0 = .ok (.aload_n 0, 1) := by decide +kernel
theorem dX6_course_1 : decode cX6_course 1 = .ok (.iload_n 1, 1) := by decide +kernel
theorem dX6_course_2 : decode cX6_course 2 = .ok (.invokevirtual 125, 3) := by decide +kernel
theorem dX6_course_5 : decode cX6_course 5 = .ok (.ifCond .eq 10, 3) := by decide +kernel
theorem dX6_course_8 : decode cX6_course 8 = .ok (.iload_n 2, 1) := by decide +kernel
theorem dX6_course_9 : decode cX6_course 9 = .ok (.invokestatic 118, 3) := by decide +kernel
theorem dX6_course_12 : decode cX6_course 12 = .ok (.ifCond .ne 6, 3) := by decide +kernel
theorem dX6_course_15 : decode cX6_course 15 = .ok (.bipush (-2), 2) := by decide +kernel
theorem dX6_course_17 : decode cX6_course 17 = .ok (.ireturn, 1) := by decide +kernel
theorem dX6_course_18 : decode cX6_course 18 = .ok (.aload_n 0, 1) := by decide +kernel
theorem dX6_course_19 : decode cX6_course 19 = .ok (.invokevirtual 421, 3) := by decide +kernel
theorem dX6_course_22 : decode cX6_course 22 = .ok (.pop, 1) := by decide +kernel
theorem dX6_course_23 : decode cX6_course 23 = .ok (.aload_n 0, 1) := by decide +kernel
theorem dX6_course_24 : decode cX6_course 24 = .ok (.getfield 62, 3) := by decide +kernel
theorem dX6_course_27 : decode cX6_course 27 = .ok (.iconst 4, 1) := by decide +kernel
theorem dX6_course_28 : decode cX6_course 28 = .ok (.iload_n 1, 1) := by decide +kernel
theorem dX6_course_29 : decode cX6_course 29 = .ok (.imul, 1) := by decide +kernel
theorem dX6_course_30 : decode cX6_course 30 = .ok (.iload_n 2, 1) := by decide +kernel
theorem dX6_course_31 : decode cX6_course 31 = .ok (.iadd, 1) := by decide +kernel
theorem dX6_course_32 : decode cX6_course 32 = .ok (.iaload, 1) := by decide +kernel
theorem dX6_course_33 : decode cX6_course 33 = .ok (.ireturn, 1) := by decide +kernel
theorem dX6_bad_0 : decode cX6_bad 0 = .ok (.iload_n 1, 1) := by decide +kernel
theorem dX6_bad_1 : decode cX6_bad 1 = .ok (.i2l, 1) := by decide +kernel
theorem dX6_bad_2 : decode cX6_bad 2 = .ok (.lconst 0, 1) := by decide +kernel
theorem dX6_bad_3 : decode cX6_bad 3 = .ok (.ldc2_w 106, 3) := by decide +kernel
theorem dX6_bad_6 : decode cX6_bad 6 = .ok (.invokestatic 108, 3) := by decide +kernel
theorem dX6_bad_9 : decode cX6_bad 9 = .ok (.ifCond .ne 6, 3) := by decide +kernel
theorem dX6_bad_12 : decode cX6_bad 12 = .ok (.bipush (-2), 2) := by decide +kernel
theorem dX6_bad_14 : decode cX6_bad 14 = .ok (.ireturn, 1) := by decide +kernel
theorem dX6_bad_15 : decode cX6_bad 15 = .ok (.aload_n 0, 1) := by decide +kernel
theorem dX6_bad_16 : decode cX6_bad 16 = .ok (.invokevirtual 421, 3) := by decide +kernel
theorem dX6_bad_19 : decode cX6_bad 19 = .ok (.istore_n 2, 1) := by decide +kernel
theorem dX6_bad_20 : decode cX6_bad 20 = .ok (.iload_n 1, 1) := by decide +kernel
theorem dX6_bad_21 : decode cX6_bad 21 = .ok (.iconst 2, 1) := by decide +kernel
theorem dX6_bad_22 : decode cX6_bad 22 = .ok (.if_icmp .ge 16, 3) := by decide +kernel
theorem dX6_bad_25 : decode cX6_bad 25 = .ok (.iload_n 1, 1) := by decide +kernel
theorem dX6_bad_26 : decode cX6_bad 26 = .ok (.ifCond .ne 7, 3) := by decide +kernel
theorem dX6_bad_29 : decode cX6_bad 29 = .ok (.iload_n 2, 1) := by decide +kernel
theorem dX6_bad_30 : decode cX6_bad 30 = .ok (.goto 7, 3) := by decide +kernel
theorem dX6_bad_33 : decode cX6_bad 33 = .ok (.aload_n 0, 1) := by decide +kernel
theorem dX6_bad_34 : decode cX6_bad 34 = .ok (.getfield 399, 3) := by decide +kernel
theorem dX6_bad_37 : decode cX6_bad 37 = .ok (.ireturn, 1) := by decide +kernel
theorem dX6_bad_38 : decode cX6_bad 38 = .ok (.iload_n 1, 1) := by decide +kernel
theorem dX6_bad_39 : decode cX6_bad 39 = .ok (.iconst 2, 1) := by decide +kernel
theorem dX6_bad_40 : decode cX6_bad 40 = .ok (.if_icmp .ne 29, 3) := by decide +kernel
theorem dX6_bad_43 : decode cX6_bad 43 = .ok (.aload_n 0, 1) := by decide +kernel
theorem dX6_bad_44 : decode cX6_bad 44 = .ok (.getfield 115, 3) := by decide +kernel
theorem dX6_bad_47 : decode cX6_bad 47 = .ok (.ifCond .ne 10, 3) := by decide +kernel
theorem dX6_bad_50 : decode cX6_bad 50 = .ok (.aload_n 0, 1) := by decide +kernel
theorem dX6_bad_51 : decode cX6_bad 51 = .ok (.invokevirtual 415, 3) := by decide +kernel
theorem dX6_bad_54 : decode cX6_bad 54 = .ok (.goto 14, 3) := by decide +kernel
theorem dX6_bad_57 : decode cX6_bad 57 = .ok (.aload_n 0, 1) := by decide +kernel
theorem dX6_bad_58 : decode cX6_bad 58 = .ok (.getfield 65, 3) := by decide +kernel
theorem dX6_bad_61 : decode cX6_bad 61 = .ok (.aload_n 0, 1) := by decide +kernel
theorem dX6_bad_62 : decode cX6_bad 62 = .ok (.getfield 115, 3) := by decide +kernel
theorem dX6_bad_65 : decode cX6_bad 65 = .ok (.iconst 1, 1) := by decide +kernel
theorem dX6_bad_66 : decode cX6_bad 66 = .ok (.isub, 1) := by decide +kernel
theorem dX6_bad_67 : decode cX6_bad 67 = .ok (.iaload, 1) := by decide +kernel
theorem dX6_bad_68 : decode cX6_bad 68 = .ok (.ireturn, 1) := by decide +kernel
theorem dX6_bad_69 : decode cX6_bad 69 = .ok (.iconst (-1), 1) := by decide +kernel
theorem dX6_bad_70 : decode cX6_bad 70 = .ok (.istore_n 3, 1) := by decide +kernel
theorem dX6_bad_71 : decode cX6_bad 71 = .ok (.iconst 0, 1) := by decide +kernel
theorem dX6_bad_72 : decode cX6_bad 72 = .ok (.istore 4, 2) := by decide +kernel
theorem dX6_bad_74 : decode cX6_bad 74 = .ok (.iload 4, 2) := by decide +kernel
theorem dX6_bad_76 : decode cX6_bad 76 = .ok (.aload_n 0, 1) := by decide +kernel
theorem dX6_bad_77 : decode cX6_bad 77 = .ok (.getfield 115, 3) := by decide +kernel
theorem dX6_bad_80 : decode cX6_bad 80 = .ok (.if_icmp .ge 37, 3) := by decide +kernel
theorem dX6_bad_83 : decode cX6_bad 83 = .ok (.iload_n 3, 1) := by decide +kernel
theorem dX6_bad_84 : decode cX6_bad 84 = .ok (.iconst (-1), 1) := by decide +kernel
theorem dX6_bad_85 : decode cX6_bad 85 = .ok (.if_icmp .eq 19, 3) := by decide +kernel
theorem dX6_bad_88 : decode cX6_bad 88 = .ok (.aload_n 0, 1) := by decide +kernel
theorem dX6_bad_89 : decode cX6_bad 89 = .ok (.getfield 65, 3) := by decide +kernel
theorem dX6_bad_92 : decode cX6_bad 92 = .ok (.iload 4, 2) := by decide +kernel
theorem dX6_bad_94 : decode cX6_bad 94 = .ok (.iaload, 1) := by decide +kernel
theorem dX6_bad_95 : decode cX6_bad 95 = .ok (.aload_n 0, 1) := by decide +kernel
theorem dX6_bad_96 : decode cX6_bad 96 = .ok (.getfield 65, 3) := by decide +kernel
theorem dX6_bad_99 : decode cX6_bad 99 = .ok (.iload_n 3, 1) := by decide +kernel
theorem dX6_bad_100 : decode cX6_bad 100 = .ok (.iaload, 1) := by decide +kernel
theorem dX6_bad_101 : decode cX6_bad 101 = .ok (.if_icmp .le 8, 3) := by decide +kernel
theorem dX6_bad_104 : decode cX6_bad 104 = .ok (.iload 4, 2) := by decide +kernel
theorem dX6_bad_106 : decode cX6_bad 106 = .ok (.goto 4, 3) := by decide +kernel
theorem dX6_bad_109 : decode cX6_bad 109 = .ok (.iload_n 3, 1) := by decide +kernel
theorem dX6_bad_110 : decode cX6_bad 110 = .ok (.istore_n 3, 1) := by decide +kernel
theorem dX6_bad_111 : decode cX6_bad 111 = .ok (.iinc 4 1, 3) := by decide +kernel
theorem dX6_bad_114 : decode cX6_bad 114 = .ok (.goto (-40), 3) := by decide +kernel
theorem dX6_bad_117 : decode cX6_bad 117 = .ok (.iload_n 3, 1) := by decide +kernel
theorem dX6_bad_118 : decode cX6_bad 118 = .ok (.ireturn, 1) := by decide +kernel
theorem dX6_drift_0 : decode cX6_drift 0 = .ok (.iload_n 1, 1) := by decide +kernel
theorem dX6_drift_1 : decode cX6_drift 1 = .ok (.invokestatic 118, 3) := by decide +kernel
theorem dX6_drift_4 : decode cX6_drift 4 = .ok (.ifCond .ne 7, 3) := by decide +kernel
theorem dX6_drift_7 : decode cX6_drift 7 = .ok (.sipush (-1000), 3) := by decide +kernel
theorem dX6_drift_10 : decode cX6_drift 10 = .ok (.ireturn, 1) := by decide +kernel
theorem dX6_drift_11 : decode cX6_drift 11 = .ok (.aload_n 0, 1) := by decide +kernel
theorem dX6_drift_12 : decode cX6_drift 12 = .ok (.invokevirtual 421, 3) := by decide +kernel
theorem dX6_drift_15 : decode cX6_drift 15 = .ok (.pop, 1) := by decide +kernel
theorem dX6_drift_16 : decode cX6_drift 16 = .ok (.aload_n 0, 1) := by decide +kernel
theorem dX6_drift_17 : decode cX6_drift 17 = .ok (.getfield 115, 3) := by decide +kernel
theorem dX6_drift_20 : decode cX6_drift 20 = .ok (.ifCond .ne 12, 3) := by decide +kernel
theorem dX6_drift_23 : decode cX6_drift 23 = .ok (.aload_n 0, 1) := by decide +kernel
theorem dX6_drift_24 : decode cX6_drift 24 = .ok (.getfield 23, 3) := by decide +kernel
theorem dX6_drift_27 : decode cX6_drift 27 = .ok (.iload_n 1, 1) := by decide +kernel
theorem dX6_drift_28 : decode cX6_drift 28 = .ok (.iaload, 1) := by decide +kernel
theorem dX6_drift_29 : decode cX6_drift 29 = .ok (.goto 18, 3) := by decide +kernel
theorem dX6_drift_32 : decode cX6_drift 32 = .ok (.aload_n 0, 1) := by decide +kernel
theorem dX6_drift_33 : decode cX6_drift 33 = .ok (.getfield 62, 3) := by decide +kernel
theorem dX6_drift_36 : decode cX6_drift 36 = .ok (.iconst 4, 1) := by decide +kernel
theorem dX6_drift_37 : decode cX6_drift 37 = .ok (.aload_n 0, 1) := by decide +kernel
theorem dX6_drift_38 : decode cX6_drift 38 = .ok (.getfield 115, 3) := by decide +kernel
theorem dX6_drift_41 : decode cX6_drift 41 = .ok (.iconst 1, 1) := by decide +kernel
theorem dX6_drift_42 : decode cX6_drift 42 = .ok (.isub, 1) := by decide +kernel
theorem dX6_drift_43 : decode cX6_drift 43 = .ok (.imul, 1) := by decide +kernel
theorem dX6_drift_44 : decode cX6_drift 44 = .ok (.iload_n 1, 1) := by decide +kernel
theorem dX6_drift_45 : decode cX6_drift 45 = .ok (.iadd, 1) := by decide +kernel
theorem dX6_drift_46 : decode cX6_drift 46 = .ok (.iaload, 1) := by decide +kernel
theorem dX6_drift_47 : decode cX6_drift 47 = .ok (.aload_n 0, 1) := by decide +kernel
theorem dX6_drift_48 : decode cX6_drift 48 = .ok (.getfield 29, 3) := by decide +kernel
theorem dX6_drift_51 : decode cX6_drift 51 = .ok (.iload_n 1, 1) := by decide +kernel
theorem dX6_drift_52 : decode cX6_drift 52 = .ok (.iaload, 1) := by decide +kernel
theorem dX6_drift_53 : decode cX6_drift 53 = .ok (.isub, 1) := by decide +kernel
theorem dX6_drift_54 : decode cX6_drift 54 = .ok (.ireturn, 1) := by decide +kernel
theorem dX6_keeps_0 : decode cX6_keeps 0 = .ok (.iconst 0, 1) := by decide +kernel
theorem dX6_keeps_1 : decode cX6_keeps 1 = .ok (.istore_n 1, 1) := by decide +kernel
theorem dX6_keeps_2 : decode cX6_keeps 2 = .ok (.iload_n 1, 1) := by decide +kernel
theorem dX6_keeps_3 : decode cX6_keeps 3 = .ok (.bipush 8, 2) := by decide +kernel
theorem dX6_keeps_5 : decode cX6_keeps 5 = .ok (.if_icmp .ge 33, 3) := by decide +kernel
theorem dX6_keeps_8 : decode cX6_keeps 8 = .ok (.aload_n 0, 1) := by decide +kernel
theorem dX6_keeps_9 : decode cX6_keeps 9 = .ok (.getfield 68, 3) := by decide +kernel
theorem dX6_keeps_12 : decode cX6_keeps 12 = .ok (.iload_n 1, 1) := by decide +kernel
theorem dX6_keeps_13 : decode cX6_keeps 13 = .ok (.aload_n 0, 1) := by decide +kernel
theorem dX6_keeps_14 : decode cX6_keeps 14 = .ok (.getfield 53, 3) := by decide +kernel
theorem dX6_keeps_17 : decode cX6_keeps 17 = .ok (.iload_n 1, 1) := by decide +kernel
theorem dX6_keeps_18 : decode cX6_keeps 18 = .ok (.iaload, 1) := by decide +kernel
theorem dX6_keeps_19 : decode cX6_keeps 19 = .ok (.iastore, 1) := by decide +kernel
theorem dX6_keeps_20 : decode cX6_keeps 20 = .ok (.aload_n 0, 1) := by decide +kernel
theorem dX6_keeps_21 : decode cX6_keeps 21 = .ok (.getfield 71, 3) := by decide +kernel
theorem dX6_keeps_24 : decode cX6_keeps 24 = .ok (.iload_n 1, 1) := by decide +kernel
theorem dX6_keeps_25 : decode cX6_keeps 25 = .ok (.aload_n 0, 1) := by decide +kernel
theorem dX6_keeps_26 : decode cX6_keeps 26 = .ok (.getfield 47, 3) := by decide +kernel
theorem dX6_keeps_29 : decode cX6_keeps 29 = .ok (.iload_n 1, 1) := by decide +kernel
theorem dX6_keeps_30 : decode cX6_keeps 30 = .ok (.iaload, 1) := by decide +kernel
theorem dX6_keeps_31 : decode cX6_keeps 31 = .ok (.iastore, 1) := by decide +kernel
theorem dX6_keeps_32 : decode cX6_keeps 32 = .ok (.iinc 1 1, 3) := by decide +kernel
theorem dX6_keeps_35 : decode cX6_keeps 35 = .ok (.goto (-33), 3) := by decide +kernel
theorem dX6_keeps_38 : decode cX6_keeps 38 = .ok (.return_, 1) := by decide +kernel
theorem dX6_laysBack_0 : decode cX6_laysBack 0 = .ok (.iconst 0, 1) := by decide +kernel
theorem dX6_laysBack_1 : decode cX6_laysBack 1 = .ok (.istore_n 1, 1) := by decide +kernel
theorem dX6_laysBack_2 : decode cX6_laysBack 2 = .ok (.iload_n 1, 1) := by decide +kernel
theorem dX6_laysBack_3 : decode cX6_laysBack 3 = .ok (.bipush 8, 2) := by decide +kernel
theorem dX6_laysBack_5 : decode cX6_laysBack 5 = .ok (.if_icmp .ge 33, 3) := by decide +kernel
theorem dX6_laysBack_8 : decode cX6_laysBack 8 = .ok (.aload_n 0, 1) := by decide +kernel
theorem dX6_laysBack_9 : decode cX6_laysBack 9 = .ok (.getfield 53, 3) := by decide +kernel
theorem dX6_laysBack_12 : decode cX6_laysBack 12 = .ok (.iload_n 1, 1) := by decide +kernel
theorem dX6_laysBack_13 : decode cX6_laysBack 13 = .ok (.aload_n 0, 1) := by decide +kernel
theorem dX6_laysBack_14 : decode cX6_laysBack 14 = .ok (.getfield 68, 3) := by decide +kernel
theorem dX6_laysBack_17 : decode cX6_laysBack 17 = .ok (.iload_n 1, 1) := by decide +kernel
theorem dX6_laysBack_18 : decode cX6_laysBack 18 = .ok (.iaload, 1) := by decide +kernel
theorem dX6_laysBack_19 : decode cX6_laysBack 19 = .ok (.iastore, 1) := by decide +kernel
theorem dX6_laysBack_20 : decode cX6_laysBack 20 = .ok (.aload_n 0, 1) := by decide +kernel
theorem dX6_laysBack_21 : decode cX6_laysBack 21 = .ok (.getfield 47, 3) := by decide +kernel
theorem dX6_laysBack_24 : decode cX6_laysBack 24 = .ok (.iload_n 1, 1) := by decide +kernel
theorem dX6_laysBack_25 : decode cX6_laysBack 25 = .ok (.aload_n 0, 1) := by decide +kernel
theorem dX6_laysBack_26 : decode cX6_laysBack 26 = .ok (.getfield 71, 3) := by decide +kernel
theorem dX6_laysBack_29 : decode cX6_laysBack 29 = .ok (.iload_n 1, 1) := by decide +kernel
theorem dX6_laysBack_30 : decode cX6_laysBack 30 = .ok (.iaload, 1) := by decide +kernel
theorem dX6_laysBack_31 : decode cX6_laysBack 31 = .ok (.iastore, 1) := by decide +kernel
theorem dX6_laysBack_32 : decode cX6_laysBack 32 = .ok (.iinc 1 1, 3) := by decide +kernel
theorem dX6_laysBack_35 : decode cX6_laysBack 35 = .ok (.goto (-33), 3) := by decide +kernel
theorem dX6_laysBack_38 : decode cX6_laysBack 38 = .ok (.return_, 1) := by decide +kernel
theorem dX6_say_0 : decode cX6_say 0 = .ok (.iload_n 1, 1) := by decide +kernel
theorem dX6_say_1 : decode cX6_say 1 = .ok (.i2l, 1) := by decide +kernel
theorem dX6_say_2 : decode cX6_say 2 = .ok (.lconst 0, 1) := by decide +kernel
theorem dX6_say_3 : decode cX6_say 3 = .ok (.ldc2_w 424, 3) := by decide +kernel
theorem dX6_say_6 : decode cX6_say 6 = .ok (.invokestatic 108, 3) := by decide +kernel
theorem dX6_say_9 : decode cX6_say 9 = .ok (.ifCond .eq 21, 3) := by decide +kernel
theorem dX6_say_12 : decode cX6_say 12 = .ok (.iload_n 1, 1) := by decide +kernel
theorem dX6_say_13 : decode cX6_say 13 = .ok (.aload_n 0, 1) := by decide +kernel
theorem dX6_say_14 : decode cX6_say 14 = .ok (.getfield 115, 3) := by decide +kernel
theorem dX6_say_17 : decode cX6_say 17 = .ok (.if_icmp .gt 13, 3) := by decide +kernel
theorem dX6_say_20 : decode cX6_say 20 = .ok (.iload_n 2, 1) := by decide +kernel
theorem dX6_say_21 : decode cX6_say 21 = .ok (.i2l, 1) := by decide +kernel
theorem dX6_say_22 : decode cX6_say 22 = .ok (.lconst 0, 1) := by decide +kernel
theorem dX6_say_23 : decode cX6_say 23 = .ok (.lconst 1, 1) := by decide +kernel
theorem dX6_say_24 : decode cX6_say 24 = .ok (.invokestatic 108, 3) := by decide +kernel
theorem dX6_say_27 : decode cX6_say 27 = .ok (.ifCond .ne 6, 3) := by decide +kernel
theorem dX6_say_30 : decode cX6_say 30 = .ok (.bipush (-2), 2) := by decide +kernel
theorem dX6_say_32 : decode cX6_say 32 = .ok (.ireturn, 1) := by decide +kernel
theorem dX6_say_33 : decode cX6_say 33 = .ok (.aload_n 0, 1) := by decide +kernel
theorem dX6_say_34 : decode cX6_say 34 = .ok (.invokevirtual 426, 3) := by decide +kernel
theorem dX6_say_37 : decode cX6_say 37 = .ok (.iconst 1, 1) := by decide +kernel
theorem dX6_say_38 : decode cX6_say 38 = .ok (.istore_n 3, 1) := by decide +kernel
theorem dX6_say_39 : decode cX6_say 39 = .ok (.iconst 0, 1) := by decide +kernel
theorem dX6_say_40 : decode cX6_say 40 = .ok (.istore 4, 2) := by decide +kernel
theorem dX6_say_42 : decode cX6_say 42 = .ok (.iload 4, 2) := by decide +kernel
theorem dX6_say_44 : decode cX6_say 44 = .ok (.iload_n 1, 1) := by decide +kernel
theorem dX6_say_45 : decode cX6_say 45 = .ok (.if_icmp .ge 13, 3) := by decide +kernel
theorem dX6_say_48 : decode cX6_say 48 = .ok (.iload_n 3, 1) := by decide +kernel
theorem dX6_say_49 : decode cX6_say 49 = .ok (.iconst 4, 1) := by decide +kernel
theorem dX6_say_50 : decode cX6_say 50 = .ok (.imul, 1) := by decide +kernel
theorem dX6_say_51 : decode cX6_say 51 = .ok (.istore_n 3, 1) := by decide +kernel
theorem dX6_say_52 : decode cX6_say 52 = .ok (.iinc 4 1, 3) := by decide +kernel
theorem dX6_say_55 : decode cX6_say 55 = .ok (.goto (-13), 3) := by decide +kernel
theorem dX6_say_58 : decode cX6_say 58 = .ok (.iconst (-1), 1) := by decide +kernel
theorem dX6_say_59 : decode cX6_say 59 = .ok (.istore 4, 2) := by decide +kernel
theorem dX6_say_61 : decode cX6_say 61 = .ok (.iconst 0, 1) := by decide +kernel
theorem dX6_say_62 : decode cX6_say 62 = .ok (.istore 5, 2) := by decide +kernel
theorem dX6_say_64 : decode cX6_say 64 = .ok (.iconst 0, 1) := by decide +kernel
theorem dX6_say_65 : decode cX6_say 65 = .ok (.istore 6, 2) := by decide +kernel
theorem dX6_say_67 : decode cX6_say 67 = .ok (.iload 6, 2) := by decide +kernel
theorem dX6_say_69 : decode cX6_say 69 = .ok (.iload_n 3, 1) := by decide +kernel
theorem dX6_say_70 : decode cX6_say 70 = .ok (.if_icmp .ge 101, 3) := by decide +kernel
theorem dX6_say_73 : decode cX6_say 73 = .ok (.iload 6, 2) := by decide +kernel
theorem dX6_say_75 : decode cX6_say 75 = .ok (.istore 7, 2) := by decide +kernel
theorem dX6_say_77 : decode cX6_say 77 = .ok (.iconst 0, 1) := by decide +kernel
theorem dX6_say_78 : decode cX6_say 78 = .ok (.istore 8, 2) := by decide +kernel
theorem dX6_say_80 : decode cX6_say 80 = .ok (.iconst 1, 1) := by decide +kernel
theorem dX6_say_81 : decode cX6_say 81 = .ok (.istore 9, 2) := by decide +kernel
theorem dX6_say_83 : decode cX6_say 83 = .ok (.iload_n 1, 1) := by decide +kernel
theorem dX6_say_84 : decode cX6_say 84 = .ok (.iconst 1, 1) := by decide +kernel
theorem dX6_say_85 : decode cX6_say 85 = .ok (.isub, 1) := by decide +kernel
theorem dX6_say_86 : decode cX6_say 86 = .ok (.istore 10, 2) := by decide +kernel
theorem dX6_say_88 : decode cX6_say 88 = .ok (.iload 10, 2) := by decide +kernel
theorem dX6_say_90 : decode cX6_say 90 = .ok (.ifCond .lt 48, 3) := by decide +kernel
theorem dX6_say_93 : decode cX6_say 93 = .ok (.aload_n 0, 1) := by decide +kernel
theorem dX6_say_94 : decode cX6_say 94 = .ok (.getfield 53, 3) := by decide +kernel
theorem dX6_say_97 : decode cX6_say 97 = .ok (.iload 10, 2) := by decide +kernel
theorem dX6_say_99 : decode cX6_say 99 = .ok (.iload 7, 2) := by decide +kernel
theorem dX6_say_101 : decode cX6_say 101 = .ok (.iconst 4, 1) := by decide +kernel
theorem dX6_say_102 : decode cX6_say 102 = .ok (.irem, 1) := by decide +kernel
theorem dX6_say_103 : decode cX6_say 103 = .ok (.iastore, 1) := by decide +kernel
theorem dX6_say_104 : decode cX6_say 104 = .ok (.iload 7, 2) := by decide +kernel
theorem dX6_say_106 : decode cX6_say 106 = .ok (.iconst 4, 1) := by decide +kernel
theorem dX6_say_107 : decode cX6_say 107 = .ok (.idiv, 1) := by decide +kernel
theorem dX6_say_108 : decode cX6_say 108 = .ok (.istore 7, 2) := by decide +kernel
theorem dX6_say_110 : decode cX6_say 110 = .ok (.iload 8, 2) := by decide +kernel
theorem dX6_say_112 : decode cX6_say 112 = .ok (.iload 9, 2) := by decide +kernel
theorem dX6_say_114 : decode cX6_say 114 = .ok (.aload_n 0, 1) := by decide +kernel
theorem dX6_say_115 : decode cX6_say 115 = .ok (.getfield 53, 3) := by decide +kernel
theorem dX6_say_118 : decode cX6_say 118 = .ok (.iload 10, 2) := by decide +kernel
theorem dX6_say_120 : decode cX6_say 120 = .ok (.iaload, 1) := by decide +kernel
theorem dX6_say_121 : decode cX6_say 121 = .ok (.imul, 1) := by decide +kernel
theorem dX6_say_122 : decode cX6_say 122 = .ok (.iadd, 1) := by decide +kernel
theorem dX6_say_123 : decode cX6_say 123 = .ok (.istore 8, 2) := by decide +kernel
theorem dX6_say_125 : decode cX6_say 125 = .ok (.iload 9, 2) := by decide +kernel
theorem dX6_say_127 : decode cX6_say 127 = .ok (.bipush 10, 2) := by decide +kernel
theorem dX6_say_129 : decode cX6_say 129 = .ok (.imul, 1) := by decide +kernel
theorem dX6_say_130 : decode cX6_say 130 = .ok (.istore 9, 2) := by decide +kernel
theorem dX6_say_132 : decode cX6_say 132 = .ok (.iinc 10 (-1), 3) := by decide +kernel
theorem dX6_say_135 : decode cX6_say 135 = .ok (.goto (-47), 3) := by decide +kernel
theorem dX6_say_138 : decode cX6_say 138 = .ok (.aload_n 0, 1) := by decide +kernel
theorem dX6_say_139 : decode cX6_say 139 = .ok (.invokevirtual 421, 3) := by decide +kernel
theorem dX6_say_142 : decode cX6_say 142 = .ok (.istore 10, 2) := by decide +kernel
theorem dX6_say_144 : decode cX6_say 144 = .ok (.iload 4, 2) := by decide +kernel
theorem dX6_say_146 : decode cX6_say 146 = .ok (.iconst (-1), 1) := by decide +kernel
theorem dX6_say_147 : decode cX6_say 147 = .ok (.if_icmp .eq 10, 3) := by decide +kernel
theorem dX6_say_150 : decode cX6_say 150 = .ok (.iload 10, 2) := by decide +kernel
theorem dX6_say_152 : decode cX6_say 152 = .ok (.iload 5, 2) := by decide +kernel
theorem dX6_say_154 : decode cX6_say 154 = .ok (.if_icmp .ge 11, 3) := by decide +kernel
theorem dX6_say_157 : decode cX6_say 157 = .ok (.iload 8, 2) := by decide +kernel
theorem dX6_say_159 : decode cX6_say 159 = .ok (.istore 4, 2) := by decide +kernel
theorem dX6_say_161 : decode cX6_say 161 = .ok (.iload 10, 2) := by decide +kernel
theorem dX6_say_163 : decode cX6_say 163 = .ok (.istore 5, 2) := by decide +kernel
theorem dX6_say_165 : decode cX6_say 165 = .ok (.iinc 6 1, 3) := by decide +kernel
theorem dX6_say_168 : decode cX6_say 168 = .ok (.goto (-101), 3) := by decide +kernel
theorem dX6_say_171 : decode cX6_say 171 = .ok (.aload_n 0, 1) := by decide +kernel
theorem dX6_say_172 : decode cX6_say 172 = .ok (.invokevirtual 429, 3) := by decide +kernel
theorem dX6_say_175 : decode cX6_say 175 = .ok (.iload_n 2, 1) := by decide +kernel
theorem dX6_say_176 : decode cX6_say 176 = .ok (.ifCond .ne 8, 3) := by decide +kernel
theorem dX6_say_179 : decode cX6_say 179 = .ok (.iload 5, 2) := by decide +kernel
theorem dX6_say_181 : decode cX6_say 181 = .ok (.goto 5, 3) := by decide +kernel
theorem dX6_say_184 : decode cX6_say 184 = .ok (.iload 4, 2) := by decide +kernel
theorem dX6_say_186 : decode cX6_say 186 = .ok (.ireturn, 1) := by decide +kernel
theorem dX6_whom_0 : decode cX6_whom 0 = .ok (.iload_n 1, 1) := by decide +kernel
theorem dX6_whom_1 : decode cX6_whom 1 = .ok (.i2l, 1) := by decide +kernel
theorem dX6_whom_2 : decode cX6_whom 2 = .ok (.lconst 0, 1) := by decide +kernel
theorem dX6_whom_3 : decode cX6_whom 3 = .ok (.lconst 1, 1) := by decide +kernel
theorem dX6_whom_4 : decode cX6_whom 4 = .ok (.invokestatic 108, 3) := by decide +kernel
theorem dX6_whom_7 : decode cX6_whom 7 = .ok (.ifCond .ne 6, 3) := by decide +kernel
theorem dX6_whom_10 : decode cX6_whom 10 = .ok (.bipush (-2), 2) := by decide +kernel
theorem dX6_whom_12 : decode cX6_whom 12 = .ok (.ireturn, 1) := by decide +kernel
theorem dX6_whom_13 : decode cX6_whom 13 = .ok (.aload_n 0, 1) := by decide +kernel
theorem dX6_whom_14 : decode cX6_whom 14 = .ok (.invokevirtual 426, 3) := by decide +kernel
theorem dX6_whom_17 : decode cX6_whom 17 = .ok (.iconst (-1), 1) := by decide +kernel
theorem dX6_whom_18 : decode cX6_whom 18 = .ok (.istore_n 2, 1) := by decide +kernel
theorem dX6_whom_19 : decode cX6_whom 19 = .ok (.iconst (-1), 1) := by decide +kernel
theorem dX6_whom_20 : decode cX6_whom 20 = .ok (.istore_n 3, 1) := by decide +kernel
theorem dX6_whom_21 : decode cX6_whom 21 = .ok (.iconst 0, 1) := by decide +kernel
theorem dX6_whom_22 : decode cX6_whom 22 = .ok (.istore 4, 2) := by decide +kernel
theorem dX6_whom_24 : decode cX6_whom 24 = .ok (.iload 4, 2) := by decide +kernel
theorem dX6_whom_26 : decode cX6_whom 26 = .ok (.aload_n 0, 1) := by decide +kernel
theorem dX6_whom_27 : decode cX6_whom 27 = .ok (.getfield 112, 3) := by decide +kernel
theorem dX6_whom_30 : decode cX6_whom 30 = .ok (.if_icmp .ge 59, 3) := by decide +kernel
theorem dX6_whom_33 : decode cX6_whom 33 = .ok (.iconst 0, 1) := by decide +kernel
theorem dX6_whom_34 : decode cX6_whom 34 = .ok (.istore 5, 2) := by decide +kernel
theorem dX6_whom_36 : decode cX6_whom 36 = .ok (.iload 5, 2) := by decide +kernel
theorem dX6_whom_38 : decode cX6_whom 38 = .ok (.aload_n 0, 1) := by decide +kernel
theorem dX6_whom_39 : decode cX6_whom 39 = .ok (.getfield 115, 3) := by decide +kernel
theorem dX6_whom_42 : decode cX6_whom 42 = .ok (.if_icmp .ge 18, 3) := by decide +kernel
theorem dX6_whom_45 : decode cX6_whom 45 = .ok (.aload_n 0, 1) := by decide +kernel
theorem dX6_whom_46 : decode cX6_whom 46 = .ok (.getfield 47, 3) := by decide +kernel
theorem dX6_whom_49 : decode cX6_whom 49 = .ok (.iload 5, 2) := by decide +kernel
theorem dX6_whom_51 : decode cX6_whom 51 = .ok (.iload 4, 2) := by decide +kernel
theorem dX6_whom_53 : decode cX6_whom 53 = .ok (.iastore, 1) := by decide +kernel
theorem dX6_whom_54 : decode cX6_whom 54 = .ok (.iinc 5 1, 3) := by decide +kernel
theorem dX6_whom_57 : decode cX6_whom 57 = .ok (.goto (-21), 3) := by decide +kernel
theorem dX6_whom_60 : decode cX6_whom 60 = .ok (.aload_n 0, 1) := by decide +kernel
theorem dX6_whom_61 : decode cX6_whom 61 = .ok (.invokevirtual 421, 3) := by decide +kernel
theorem dX6_whom_64 : decode cX6_whom 64 = .ok (.istore 5, 2) := by decide +kernel
theorem dX6_whom_66 : decode cX6_whom 66 = .ok (.iload_n 2, 1) := by decide +kernel
theorem dX6_whom_67 : decode cX6_whom 67 = .ok (.iconst (-1), 1) := by decide +kernel
theorem dX6_whom_68 : decode cX6_whom 68 = .ok (.if_icmp .eq 9, 3) := by decide +kernel
theorem dX6_whom_71 : decode cX6_whom 71 = .ok (.iload 5, 2) := by decide +kernel
theorem dX6_whom_73 : decode cX6_whom 73 = .ok (.iload_n 3, 1) := by decide +kernel
theorem dX6_whom_74 : decode cX6_whom 74 = .ok (.if_icmp .ge 9, 3) := by decide +kernel
theorem dX6_whom_77 : decode cX6_whom 77 = .ok (.iload 4, 2) := by decide +kernel
theorem dX6_whom_79 : decode cX6_whom 79 = .ok (.istore_n 2, 1) := by decide +kernel
theorem dX6_whom_80 : decode cX6_whom 80 = .ok (.iload 5, 2) := by decide +kernel
theorem dX6_whom_82 : decode cX6_whom 82 = .ok (.istore_n 3, 1) := by decide +kernel
theorem dX6_whom_83 : decode cX6_whom 83 = .ok (.iinc 4 1, 3) := by decide +kernel
theorem dX6_whom_86 : decode cX6_whom 86 = .ok (.goto (-62), 3) := by decide +kernel
theorem dX6_whom_89 : decode cX6_whom 89 = .ok (.aload_n 0, 1) := by decide +kernel
theorem dX6_whom_90 : decode cX6_whom 90 = .ok (.invokevirtual 429, 3) := by decide +kernel
theorem dX6_whom_93 : decode cX6_whom 93 = .ok (.iload_n 1, 1) := by decide +kernel
theorem dX6_whom_94 : decode cX6_whom 94 = .ok (.ifCond .ne 7, 3) := by decide +kernel
theorem dX6_whom_97 : decode cX6_whom 97 = .ok (.iload_n 2, 1) := by decide +kernel
theorem dX6_whom_98 : decode cX6_whom 98 = .ok (.goto 4, 3) := by decide +kernel
theorem dX6_whom_101 : decode cX6_whom 101 = .ok (.iload_n 3, 1) := by decide +kernel
theorem dX6_whom_102 : decode cX6_whom 102 = .ok (.ireturn, 1) := by decide +kernel
theorem dX6_when_0 : decode cX6_when 0 = .ok (.aload_n 0, 1) := by decide +kernel
theorem dX6_when_1 : decode cX6_when 1 = .ok (.iload_n 1, 1) := by decide +kernel
theorem dX6_when_2 : decode cX6_when 2 = .ok (.invokevirtual 125, 3) := by decide +kernel
theorem dX6_when_5 : decode cX6_when 5 = .ok (.ifCond .eq 13, 3) := by decide +kernel
theorem dX6_when_8 : decode cX6_when 8 = .ok (.iload_n 2, 1) := by decide +kernel
theorem dX6_when_9 : decode cX6_when 9 = .ok (.i2l, 1) := by decide +kernel
theorem dX6_when_10 : decode cX6_when 10 = .ok (.lconst 0, 1) := by decide +kernel
theorem dX6_when_11 : decode cX6_when 11 = .ok (.lconst 1, 1) := by decide +kernel
theorem dX6_when_12 : decode cX6_when 12 = .ok (.invokestatic 108, 3) := by decide +kernel
theorem dX6_when_15 : decode cX6_when 15 = .ok (.ifCond .ne 6, 3) := by decide +kernel
theorem dX6_when_18 : decode cX6_when 18 = .ok (.bipush (-2), 2) := by decide +kernel
theorem dX6_when_20 : decode cX6_when 20 = .ok (.ireturn, 1) := by decide +kernel
theorem dX6_when_21 : decode cX6_when 21 = .ok (.aload_n 0, 1) := by decide +kernel
theorem dX6_when_22 : decode cX6_when 22 = .ok (.getfield 50, 3) := by decide +kernel
theorem dX6_when_25 : decode cX6_when 25 = .ok (.iload_n 1, 1) := by decide +kernel
theorem dX6_when_26 : decode cX6_when 26 = .ok (.iaload, 1) := by decide +kernel
theorem dX6_when_27 : decode cX6_when 27 = .ok (.istore_n 3, 1) := by decide +kernel
theorem dX6_when_28 : decode cX6_when 28 = .ok (.iconst (-1), 1) := by decide +kernel
theorem dX6_when_29 : decode cX6_when 29 = .ok (.istore 4, 2) := by decide +kernel
theorem dX6_when_31 : decode cX6_when 31 = .ok (.iconst 0, 1) := by decide +kernel
theorem dX6_when_32 : decode cX6_when 32 = .ok (.istore 5, 2) := by decide +kernel
theorem dX6_when_34 : decode cX6_when 34 = .ok (.iconst 0, 1) := by decide +kernel
theorem dX6_when_35 : decode cX6_when 35 = .ok (.istore 6, 2) := by decide +kernel
theorem dX6_when_37 : decode cX6_when 37 = .ok (.iload 6, 2) := by decide +kernel
theorem dX6_when_39 : decode cX6_when 39 = .ok (.bipush 20, 2) := by decide +kernel
theorem dX6_when_41 : decode cX6_when 41 = .ok (.if_icmp .gt 44, 3) := by decide +kernel
theorem dX6_when_44 : decode cX6_when 44 = .ok (.aload_n 0, 1) := by decide +kernel
theorem dX6_when_45 : decode cX6_when 45 = .ok (.getfield 50, 3) := by decide +kernel
theorem dX6_when_48 : decode cX6_when 48 = .ok (.iload_n 1, 1) := by decide +kernel
theorem dX6_when_49 : decode cX6_when 49 = .ok (.iload 6, 2) := by decide +kernel
theorem dX6_when_51 : decode cX6_when 51 = .ok (.iastore, 1) := by decide +kernel
theorem dX6_when_52 : decode cX6_when 52 = .ok (.aload_n 0, 1) := by decide +kernel
theorem dX6_when_53 : decode cX6_when 53 = .ok (.invokevirtual 421, 3) := by decide +kernel
theorem dX6_when_56 : decode cX6_when 56 = .ok (.istore 7, 2) := by decide +kernel
theorem dX6_when_58 : decode cX6_when 58 = .ok (.iload 4, 2) := by decide +kernel
theorem dX6_when_60 : decode cX6_when 60 = .ok (.iconst (-1), 1) := by decide +kernel
theorem dX6_when_61 : decode cX6_when 61 = .ok (.if_icmp .eq 10, 3) := by decide +kernel
theorem dX6_when_64 : decode cX6_when 64 = .ok (.iload 7, 2) := by decide +kernel
theorem dX6_when_66 : decode cX6_when 66 = .ok (.iload 5, 2) := by decide +kernel
theorem dX6_when_68 : decode cX6_when 68 = .ok (.if_icmp .ge 11, 3) := by decide +kernel
theorem dX6_when_71 : decode cX6_when 71 = .ok (.iload 6, 2) := by decide +kernel
theorem dX6_when_73 : decode cX6_when 73 = .ok (.istore 4, 2) := by decide +kernel
theorem dX6_when_75 : decode cX6_when 75 = .ok (.iload 7, 2) := by decide +kernel
theorem dX6_when_77 : decode cX6_when 77 = .ok (.istore 5, 2) := by decide +kernel
theorem dX6_when_79 : decode cX6_when 79 = .ok (.iinc 6 1, 3) := by decide +kernel
theorem dX6_when_82 : decode cX6_when 82 = .ok (.goto (-45), 3) := by decide +kernel
theorem dX6_when_85 : decode cX6_when 85 = .ok (.aload_n 0, 1) := by decide +kernel
theorem dX6_when_86 : decode cX6_when 86 = .ok (.getfield 50, 3) := by decide +kernel
theorem dX6_when_89 : decode cX6_when 89 = .ok (.iload_n 1, 1) := by decide +kernel
theorem dX6_when_90 : decode cX6_when 90 = .ok (.iload_n 3, 1) := by decide +kernel
theorem dX6_when_91 : decode cX6_when 91 = .ok (.iastore, 1) := by decide +kernel
theorem dX6_when_92 : decode cX6_when 92 = .ok (.iload_n 2, 1) := by decide +kernel
theorem dX6_when_93 : decode cX6_when 93 = .ok (.ifCond .ne 8, 3) := by decide +kernel
theorem dX6_when_96 : decode cX6_when 96 = .ok (.iload 4, 2) := by decide +kernel
theorem dX6_when_98 : decode cX6_when 98 = .ok (.goto 5, 3) := by decide +kernel
theorem dX6_when_101 : decode cX6_when 101 = .ok (.iload 5, 2) := by decide +kernel
theorem dX6_when_103 : decode cX6_when 103 = .ok (.ireturn, 1) := by decide +kernel
theorem dX6_marked_0 : decode cX6_marked 0 = .ok (.aload_n 0, 1) := by decide +kernel
theorem dX6_marked_1 : decode cX6_marked 1 = .ok (.invokevirtual 421, 3) := by decide +kernel
theorem dX6_marked_4 : decode cX6_marked 4 = .ok (.istore_n 1, 1) := by decide +kernel
theorem dX6_marked_5 : decode cX6_marked 5 = .ok (.aload_n 0, 1) := by decide +kernel
theorem dX6_marked_6 : decode cX6_marked 6 = .ok (.getfield 32, 3) := by decide +kernel
theorem dX6_marked_9 : decode cX6_marked 9 = .ok (.istore_n 2, 1) := by decide +kernel
theorem dX6_marked_10 : decode cX6_marked 10 = .ok (.aload_n 0, 1) := by decide +kernel
theorem dX6_marked_11 : decode cX6_marked 11 = .ok (.invokevirtual 426, 3) := by decide +kernel
theorem dX6_marked_14 : decode cX6_marked 14 = .ok (.aload_n 0, 1) := by decide +kernel
theorem dX6_marked_15 : decode cX6_marked 15 = .ok (.aload_n 0, 1) := by decide +kernel
theorem dX6_marked_16 : decode cX6_marked 16 = .ok (.getfield 29, 3) := by decide +kernel
theorem dX6_marked_19 : decode cX6_marked 19 = .ok (.iconst 0, 1) := by decide +kernel
theorem dX6_marked_20 : decode cX6_marked 20 = .ok (.iaload, 1) := by decide +kernel
theorem dX6_marked_21 : decode cX6_marked 21 = .ok (.putfield 32, 3) := by decide +kernel
theorem dX6_marked_24 : decode cX6_marked 24 = .ok (.iconst 0, 1) := by decide +kernel
theorem dX6_marked_25 : decode cX6_marked 25 = .ok (.istore_n 3, 1) := by decide +kernel
theorem dX6_marked_26 : decode cX6_marked 26 = .ok (.iload_n 3, 1) := by decide +kernel
theorem dX6_marked_27 : decode cX6_marked 27 = .ok (.aload_n 0, 1) := by decide +kernel
theorem dX6_marked_28 : decode cX6_marked 28 = .ok (.getfield 115, 3) := by decide +kernel
theorem dX6_marked_31 : decode cX6_marked 31 = .ok (.if_icmp .ge 16, 3) := by decide +kernel
theorem dX6_marked_34 : decode cX6_marked 34 = .ok (.aload_n 0, 1) := by decide +kernel
theorem dX6_marked_35 : decode cX6_marked 35 = .ok (.getfield 53, 3) := by decide +kernel
theorem dX6_marked_38 : decode cX6_marked 38 = .ok (.iload_n 3, 1) := by decide +kernel
theorem dX6_marked_39 : decode cX6_marked 39 = .ok (.iconst 3, 1) := by decide +kernel
theorem dX6_marked_40 : decode cX6_marked 40 = .ok (.iastore, 1) := by decide +kernel
theorem dX6_marked_41 : decode cX6_marked 41 = .ok (.iinc 3 1, 3) := by decide +kernel
theorem dX6_marked_44 : decode cX6_marked 44 = .ok (.goto (-18), 3) := by decide +kernel
theorem dX6_marked_47 : decode cX6_marked 47 = .ok (.aload_n 0, 1) := by decide +kernel
theorem dX6_marked_48 : decode cX6_marked 48 = .ok (.invokevirtual 421, 3) := by decide +kernel
theorem dX6_marked_51 : decode cX6_marked 51 = .ok (.istore_n 3, 1) := by decide +kernel
theorem dX6_marked_52 : decode cX6_marked 52 = .ok (.aload_n 0, 1) := by decide +kernel
theorem dX6_marked_53 : decode cX6_marked 53 = .ok (.invokevirtual 429, 3) := by decide +kernel
theorem dX6_marked_56 : decode cX6_marked 56 = .ok (.aload_n 0, 1) := by decide +kernel
theorem dX6_marked_57 : decode cX6_marked 57 = .ok (.iload_n 2, 1) := by decide +kernel
theorem dX6_marked_58 : decode cX6_marked 58 = .ok (.putfield 32, 3) := by decide +kernel
theorem dX6_marked_61 : decode cX6_marked 61 = .ok (.iload_n 3, 1) := by decide +kernel
theorem dX6_marked_62 : decode cX6_marked 62 = .ok (.iload_n 1, 1) := by decide +kernel
theorem dX6_marked_63 : decode cX6_marked 63 = .ok (.isub, 1) := by decide +kernel
theorem dX6_marked_64 : decode cX6_marked 64 = .ok (.ireturn, 1) := by decide +kernel
theorem dX6_isNear_0 : decode cX6_isNear 0 = .ok (.iconst 0, 1) := by decide +kernel
theorem dX6_isNear_1 : decode cX6_isNear 1 = .ok (.istore_n 3, 1) := by decide +kernel
theorem dX6_isNear_2 : decode cX6_isNear 2 = .ok (.iload_n 3, 1) := by decide +kernel
theorem dX6_isNear_3 : decode cX6_isNear 3 = .ok (.iconst 4, 1) := by decide +kernel
theorem dX6_isNear_4 : decode cX6_isNear 4 = .ok (.if_icmp .ge 35, 3) := by decide +kernel
theorem dX6_isNear_7 : decode cX6_isNear 7 = .ok (.aload_n 0, 1) := by decide +kernel
theorem dX6_isNear_8 : decode cX6_isNear 8 = .ok (.getfield 62, 3) := by decide +kernel
theorem dX6_isNear_11 : decode cX6_isNear 11 = .ok (.iconst 4, 1) := by decide +kernel
theorem dX6_isNear_12 : decode cX6_isNear 12 = .ok (.iload_n 1, 1) := by decide +kernel
theorem dX6_isNear_13 : decode cX6_isNear 13 = .ok (.imul, 1) := by decide +kernel
theorem dX6_isNear_14 : decode cX6_isNear 14 = .ok (.iload_n 3, 1) := by decide +kernel
theorem dX6_isNear_15 : decode cX6_isNear 15 = .ok (.iadd, 1) := by decide +kernel
theorem dX6_isNear_16 : decode cX6_isNear 16 = .ok (.iaload, 1) := by decide +kernel
theorem dX6_isNear_17 : decode cX6_isNear 17 = .ok (.aload_n 0, 1) := by decide +kernel
theorem dX6_isNear_18 : decode cX6_isNear 18 = .ok (.getfield 29, 3) := by decide +kernel
theorem dX6_isNear_21 : decode cX6_isNear 21 = .ok (.iload_n 3, 1) := by decide +kernel
theorem dX6_isNear_22 : decode cX6_isNear 22 = .ok (.iaload, 1) := by decide +kernel
theorem dX6_isNear_23 : decode cX6_isNear 23 = .ok (.isub, 1) := by decide +kernel
theorem dX6_isNear_24 : decode cX6_isNear 24 = .ok (.invokestatic 392, 3) := by decide +kernel
theorem dX6_isNear_27 : decode cX6_isNear 27 = .ok (.iload_n 2, 1) := by decide +kernel
theorem dX6_isNear_28 : decode cX6_isNear 28 = .ok (.if_icmp .le 5, 3) := by decide +kernel
theorem dX6_isNear_31 : decode cX6_isNear 31 = .ok (.iconst 0, 1) := by decide +kernel
theorem dX6_isNear_32 : decode cX6_isNear 32 = .ok (.ireturn, 1) := by decide +kernel
theorem dX6_isNear_33 : decode cX6_isNear 33 = .ok (.iinc 3 1, 3) := by decide +kernel
theorem dX6_isNear_36 : decode cX6_isNear 36 = .ok (.goto (-34), 3) := by decide +kernel
theorem dX6_isNear_39 : decode cX6_isNear 39 = .ok (.iconst 1, 1) := by decide +kernel
theorem dX6_isNear_40 : decode cX6_isNear 40 = .ok (.ireturn, 1) := by decide +kernel
theorem dX6_again_0 : decode cX6_again 0 = .ok (.iload_n 1, 1) := by decide +kernel
theorem dX6_again_1 : decode cX6_again 1 = .ok (.i2l, 1) := by decide +kernel
theorem dX6_again_2 : decode cX6_again 2 = .ok (.lconst 0, 1) := by decide +kernel
theorem dX6_again_3 : decode cX6_again 3 = .ok (.ldc2_w 148, 3) := by decide +kernel
theorem dX6_again_6 : decode cX6_again 6 = .ok (.invokestatic 108, 3) := by decide +kernel
theorem dX6_again_9 : decode cX6_again 9 = .ok (.ifCond .ne 6, 3) := by decide +kernel
theorem dX6_again_12 : decode cX6_again 12 = .ok (.bipush (-2), 2) := by decide +kernel
theorem dX6_again_14 : decode cX6_again 14 = .ok (.ireturn, 1) := by decide +kernel
theorem dX6_again_15 : decode cX6_again 15 = .ok (.aload_n 0, 1) := by decide +kernel
theorem dX6_again_16 : decode cX6_again 16 = .ok (.invokevirtual 421, 3) := by decide +kernel
theorem dX6_again_19 : decode cX6_again 19 = .ok (.pop, 1) := by decide +kernel
theorem dX6_again_20 : decode cX6_again 20 = .ok (.aload_n 0, 1) := by decide +kernel
theorem dX6_again_21 : decode cX6_again 21 = .ok (.getfield 115, 3) := by decide +kernel
theorem dX6_again_24 : decode cX6_again 24 = .ok (.istore_n 2, 1) := by decide +kernel
theorem dX6_again_25 : decode cX6_again 25 = .ok (.iload_n 2, 1) := by decide +kernel
theorem dX6_again_26 : decode cX6_again 26 = .ok (.ifCond .le 20, 3) := by decide +kernel
theorem dX6_again_29 : decode cX6_again 29 = .ok (.aload_n 0, 1) := by decide +kernel
theorem dX6_again_30 : decode cX6_again 30 = .ok (.iload_n 2, 1) := by decide +kernel
theorem dX6_again_31 : decode cX6_again 31 = .ok (.iconst 1, 1) := by decide +kernel
theorem dX6_again_32 : decode cX6_again 32 = .ok (.isub, 1) := by decide +kernel
theorem dX6_again_33 : decode cX6_again 33 = .ok (.iload_n 1, 1) := by decide +kernel
theorem dX6_again_34 : decode cX6_again 34 = .ok (.invokevirtual 432, 3) := by decide +kernel
theorem dX6_again_37 : decode cX6_again 37 = .ok (.ifCond .eq 9, 3) := by decide +kernel
theorem dX6_again_40 : decode cX6_again 40 = .ok (.iinc 2 (-1), 3) := by decide +kernel
theorem dX6_again_43 : decode cX6_again 43 = .ok (.goto (-18), 3) := by decide +kernel
theorem dX6_again_46 : decode cX6_again 46 = .ok (.iload_n 2, 1) := by decide +kernel
theorem dX6_again_47 : decode cX6_again 47 = .ok (.aload_n 0, 1) := by decide +kernel
theorem dX6_again_48 : decode cX6_again 48 = .ok (.getfield 115, 3) := by decide +kernel
theorem dX6_again_51 : decode cX6_again 51 = .ok (.if_icmp .ne 7, 3) := by decide +kernel
theorem dX6_again_54 : decode cX6_again 54 = .ok (.iconst (-1), 1) := by decide +kernel
theorem dX6_again_55 : decode cX6_again 55 = .ok (.goto 4, 3) := by decide +kernel
theorem dX6_again_58 : decode cX6_again 58 = .ok (.iload_n 2, 1) := by decide +kernel
theorem dX6_again_59 : decode cX6_again 59 = .ok (.ireturn, 1) := by decide +kernel
theorem dX6_unlikeAt_0 : decode cX6_unlikeAt 0 = .ok (.aload_n 0, 1) := by decide +kernel
theorem dX6_unlikeAt_1 : decode cX6_unlikeAt 1 = .ok (.invokevirtual 421, 3) := by decide +kernel
theorem dX6_unlikeAt_4 : decode cX6_unlikeAt 4 = .ok (.pop, 1) := by decide +kernel
theorem dX6_unlikeAt_5 : decode cX6_unlikeAt 5 = .ok (.iconst 0, 1) := by decide +kernel
theorem dX6_unlikeAt_6 : decode cX6_unlikeAt 6 = .ok (.istore_n 3, 1) := by decide +kernel
theorem dX6_unlikeAt_7 : decode cX6_unlikeAt 7 = .ok (.iload_n 3, 1) := by decide +kernel
theorem dX6_unlikeAt_8 : decode cX6_unlikeAt 8 = .ok (.aload_n 0, 1) := by decide +kernel
theorem dX6_unlikeAt_9 : decode cX6_unlikeAt 9 = .ok (.getfield 93, 3) := by decide +kernel
theorem dX6_unlikeAt_12 : decode cX6_unlikeAt 12 = .ok (.iload_n 1, 1) := by decide +kernel
theorem dX6_unlikeAt_13 : decode cX6_unlikeAt 13 = .ok (.iaload, 1) := by decide +kernel
theorem dX6_unlikeAt_14 : decode cX6_unlikeAt 14 = .ok (.if_icmp .ge 35, 3) := by decide +kernel
theorem dX6_unlikeAt_17 : decode cX6_unlikeAt 17 = .ok (.aload_n 0, 1) := by decide +kernel
theorem dX6_unlikeAt_18 : decode cX6_unlikeAt 18 = .ok (.getfield 62, 3) := by decide +kernel
theorem dX6_unlikeAt_21 : decode cX6_unlikeAt 21 = .ok (.iconst 4, 1) := by decide +kernel
theorem dX6_unlikeAt_22 : decode cX6_unlikeAt 22 = .ok (.iload_n 3, 1) := by decide +kernel
theorem dX6_unlikeAt_23 : decode cX6_unlikeAt 23 = .ok (.imul, 1) := by decide +kernel
theorem dX6_unlikeAt_24 : decode cX6_unlikeAt 24 = .ok (.iload_n 2, 1) := by decide +kernel
theorem dX6_unlikeAt_25 : decode cX6_unlikeAt 25 = .ok (.iadd, 1) := by decide +kernel
theorem dX6_unlikeAt_26 : decode cX6_unlikeAt 26 = .ok (.iaload, 1) := by decide +kernel
theorem dX6_unlikeAt_27 : decode cX6_unlikeAt 27 = .ok (.aload_n 0, 1) := by decide +kernel
theorem dX6_unlikeAt_28 : decode cX6_unlikeAt 28 = .ok (.getfield 96, 3) := by decide +kernel
theorem dX6_unlikeAt_31 : decode cX6_unlikeAt 31 = .ok (.bipush 40, 2) := by decide +kernel
theorem dX6_unlikeAt_33 : decode cX6_unlikeAt 33 = .ok (.iload_n 1, 1) := by decide +kernel
theorem dX6_unlikeAt_34 : decode cX6_unlikeAt 34 = .ok (.imul, 1) := by decide +kernel
theorem dX6_unlikeAt_35 : decode cX6_unlikeAt 35 = .ok (.iload_n 3, 1) := by decide +kernel
theorem dX6_unlikeAt_36 : decode cX6_unlikeAt 36 = .ok (.iadd, 1) := by decide +kernel
theorem dX6_unlikeAt_37 : decode cX6_unlikeAt 37 = .ok (.iaload, 1) := by decide +kernel
theorem dX6_unlikeAt_38 : decode cX6_unlikeAt 38 = .ok (.if_icmp .eq 5, 3) := by decide +kernel
theorem dX6_unlikeAt_41 : decode cX6_unlikeAt 41 = .ok (.iload_n 3, 1) := by decide +kernel
theorem dX6_unlikeAt_42 : decode cX6_unlikeAt 42 = .ok (.ireturn, 1) := by decide +kernel
theorem dX6_unlikeAt_43 : decode cX6_unlikeAt 43 = .ok (.iinc 3 1, 3) := by decide +kernel
theorem dX6_unlikeAt_46 : decode cX6_unlikeAt 46 = .ok (.goto (-39), 3) := by decide +kernel
theorem dX6_unlikeAt_49 : decode cX6_unlikeAt 49 = .ok (.iconst (-1), 1) := by decide +kernel
theorem dX6_unlikeAt_50 : decode cX6_unlikeAt 50 = .ok (.ireturn, 1) := by decide +kernel
theorem dX6_pictures_0 : decode cX6_pictures 0 = .ok (.iload_n 1, 1) := by decide +kernel
theorem dX6_pictures_1 : decode cX6_pictures 1 = .ok (.invokestatic 435, 3) := by decide +kernel
theorem dX6_pictures_4 : decode cX6_pictures 4 = .ok (.ifCond .eq 10, 3) := by decide +kernel
theorem dX6_pictures_7 : decode cX6_pictures 7 = .ok (.iload_n 2, 1) := by decide +kernel
theorem dX6_pictures_8 : decode cX6_pictures 8 = .ok (.invokestatic 118, 3) := by decide +kernel
theorem dX6_pictures_11 : decode cX6_pictures 11 = .ok (.ifCond .ne 6, 3) := by decide +kernel
theorem dX6_pictures_14 : decode cX6_pictures 14 = .ok (.bipush (-2), 2) := by decide +kernel
theorem dX6_pictures_16 : decode cX6_pictures 16 = .ok (.ireturn, 1) := by decide +kernel
theorem dX6_pictures_17 : decode cX6_pictures 17 = .ok (.aload_n 0, 1) := by decide +kernel
theorem dX6_pictures_18 : decode cX6_pictures 18 = .ok (.getfield 86, 3) := by decide +kernel
theorem dX6_pictures_21 : decode cX6_pictures 21 = .ok (.iload_n 1, 1) := by decide +kernel
theorem dX6_pictures_22 : decode cX6_pictures 22 = .ok (.baload, 1) := by decide +kernel
theorem dX6_pictures_23 : decode cX6_pictures 23 = .ok (.ifCond .ne 6, 3) := by decide +kernel
theorem dX6_pictures_26 : decode cX6_pictures 26 = .ok (.bipush (-11), 2) := by decide +kernel
theorem dX6_pictures_28 : decode cX6_pictures 28 = .ok (.ireturn, 1) := by decide +kernel
theorem dX6_pictures_29 : decode cX6_pictures 29 = .ok (.aload_n 0, 1) := by decide +kernel
theorem dX6_pictures_30 : decode cX6_pictures 30 = .ok (.getfield 93, 3) := by decide +kernel
theorem dX6_pictures_33 : decode cX6_pictures 33 = .ok (.iload_n 1, 1) := by decide +kernel
theorem dX6_pictures_34 : decode cX6_pictures 34 = .ok (.iaload, 1) := by decide +kernel
theorem dX6_pictures_35 : decode cX6_pictures 35 = .ok (.aload_n 0, 1) := by decide +kernel
theorem dX6_pictures_36 : decode cX6_pictures 36 = .ok (.getfield 115, 3) := by decide +kernel
theorem dX6_pictures_39 : decode cX6_pictures 39 = .ok (.if_icmp .le 8, 3) := by decide +kernel
theorem dX6_pictures_42 : decode cX6_pictures 42 = .ok (.bipush (-2), 2) := by decide +kernel
theorem dX6_pictures_44 : decode cX6_pictures 44 = .ok (.goto 9, 3) := by decide +kernel
theorem dX6_pictures_47 : decode cX6_pictures 47 = .ok (.aload_n 0, 1) := by decide +kernel
theorem dX6_pictures_48 : decode cX6_pictures 48 = .ok (.iload_n 1, 1) := by decide +kernel
theorem dX6_pictures_49 : decode cX6_pictures 49 = .ok (.iload_n 2, 1) := by decide +kernel
theorem dX6_pictures_50 : decode cX6_pictures 50 = .ok (.invokevirtual 438, 3) := by decide +kernel
theorem dX6_pictures_53 : decode cX6_pictures 53 = .ok (.ireturn, 1) := by decide +kernel
theorem dX6_seen_0 : decode cX6_seen 0 = .ok (.iload_n 1, 1) := by decide +kernel
theorem dX6_seen_1 : decode cX6_seen 1 = .ok (.invokestatic 435, 3) := by decide +kernel
theorem dX6_seen_4 : decode cX6_seen 4 = .ok (.ifCond .eq 59, 3) := by decide +kernel
theorem dX6_seen_7 : decode cX6_seen 7 = .ok (.iload_n 2, 1) := by decide +kernel
theorem dX6_seen_8 : decode cX6_seen 8 = .ok (.invokestatic 118, 3) := by decide +kernel
theorem dX6_seen_11 : decode cX6_seen 11 = .ok (.ifCond .eq 52, 3) := by decide +kernel
theorem dX6_seen_14 : decode cX6_seen 14 = .ok (.iload_n 3, 1) := by decide +kernel
theorem dX6_seen_15 : decode cX6_seen 15 = .ok (.i2l, 1) := by decide +kernel
theorem dX6_seen_16 : decode cX6_seen 16 = .ok (.lconst 0, 1) := by decide +kernel
theorem dX6_seen_17 : decode cX6_seen 17 = .ok (.ldc2_w 144, 3) := by decide +kernel
theorem dX6_seen_20 : decode cX6_seen 20 = .ok (.invokestatic 108, 3) := by decide +kernel
theorem dX6_seen_23 : decode cX6_seen 23 = .ok (.ifCond .eq 40, 3) := by decide +kernel
theorem dX6_seen_26 : decode cX6_seen 26 = .ok (.iload_n 3, 1) := by decide +kernel
theorem dX6_seen_27 : decode cX6_seen 27 = .ok (.iconst 3, 1) := by decide +kernel
theorem dX6_seen_28 : decode cX6_seen 28 = .ok (.if_icmp .ge 12, 3) := by decide +kernel
theorem dX6_seen_31 : decode cX6_seen 31 = .ok (.aload_n 0, 1) := by decide +kernel
theorem dX6_seen_32 : decode cX6_seen 32 = .ok (.iload 4, 2) := by decide +kernel
theorem dX6_seen_34 : decode cX6_seen 34 = .ok (.invokevirtual 125, 3) := by decide +kernel
theorem dX6_seen_37 : decode cX6_seen 37 = .ok (.ifCond .eq 26, 3) := by decide +kernel
theorem dX6_seen_40 : decode cX6_seen 40 = .ok (.iload_n 3, 1) := by decide +kernel
theorem dX6_seen_41 : decode cX6_seen 41 = .ok (.i2l, 1) := by decide +kernel
theorem dX6_seen_42 : decode cX6_seen 42 = .ok (.ldc2_w 106, 3) := by decide +kernel
theorem dX6_seen_45 : decode cX6_seen 45 = .ok (.ldc2_w 424, 3) := by decide +kernel
theorem dX6_seen_48 : decode cX6_seen 48 = .ok (.invokestatic 108, 3) := by decide +kernel
theorem dX6_seen_51 : decode cX6_seen 51 = .ok (.ifCond .eq 15, 3) := by decide +kernel
theorem dX6_seen_54 : decode cX6_seen 54 = .ok (.aload_n 0, 1) := by decide +kernel
theorem dX6_seen_55 : decode cX6_seen 55 = .ok (.iload 4, 2) := by decide +kernel
theorem dX6_seen_57 : decode cX6_seen 57 = .ok (.invokevirtual 122, 3) := by decide +kernel
theorem dX6_seen_60 : decode cX6_seen 60 = .ok (.ifCond .ne 6, 3) := by decide +kernel
theorem dX6_seen_63 : decode cX6_seen 63 = .ok (.bipush (-2), 2) := by decide +kernel
theorem dX6_seen_65 : decode cX6_seen 65 = .ok (.ireturn, 1) := by decide +kernel
theorem dX6_seen_66 : decode cX6_seen 66 = .ok (.aload_n 0, 1) := by decide +kernel
theorem dX6_seen_67 : decode cX6_seen 67 = .ok (.getfield 86, 3) := by decide +kernel
theorem dX6_seen_70 : decode cX6_seen 70 = .ok (.iload_n 1, 1) := by decide +kernel
theorem dX6_seen_71 : decode cX6_seen 71 = .ok (.baload, 1) := by decide +kernel
theorem dX6_seen_72 : decode cX6_seen 72 = .ok (.ifCond .ne 6, 3) := by decide +kernel
theorem dX6_seen_75 : decode cX6_seen 75 = .ok (.bipush (-11), 2) := by decide +kernel
theorem dX6_seen_77 : decode cX6_seen 77 = .ok (.ireturn, 1) := by decide +kernel
theorem dX6_seen_78 : decode cX6_seen 78 = .ok (.aload_n 0, 1) := by decide +kernel
theorem dX6_seen_79 : decode cX6_seen 79 = .ok (.getfield 93, 3) := by decide +kernel
theorem dX6_seen_82 : decode cX6_seen 82 = .ok (.iload_n 1, 1) := by decide +kernel
theorem dX6_seen_83 : decode cX6_seen 83 = .ok (.iaload, 1) := by decide +kernel
theorem dX6_seen_84 : decode cX6_seen 84 = .ok (.aload_n 0, 1) := by decide +kernel
theorem dX6_seen_85 : decode cX6_seen 85 = .ok (.getfield 115, 3) := by decide +kernel
theorem dX6_seen_88 : decode cX6_seen 88 = .ok (.if_icmp .le 6, 3) := by decide +kernel
theorem dX6_seen_91 : decode cX6_seen 91 = .ok (.bipush (-2), 2) := by decide +kernel
theorem dX6_seen_93 : decode cX6_seen 93 = .ok (.ireturn, 1) := by decide +kernel
theorem dX6_seen_94 : decode cX6_seen 94 = .ok (.iload_n 3, 1) := by decide +kernel
theorem dX6_seen_95 : decode cX6_seen 95 = .ok (.ifCond .ne 8, 3) := by decide +kernel
theorem dX6_seen_98 : decode cX6_seen 98 = .ok (.bipush 7, 2) := by decide +kernel
theorem dX6_seen_100 : decode cX6_seen 100 = .ok (.goto 26, 3) := by decide +kernel
theorem dX6_seen_103 : decode cX6_seen 103 = .ok (.iload_n 3, 1) := by decide +kernel
theorem dX6_seen_104 : decode cX6_seen 104 = .ok (.iconst 1, 1) := by decide +kernel
theorem dX6_seen_105 : decode cX6_seen 105 = .ok (.if_icmp .ne 8, 3) := by decide +kernel
theorem dX6_seen_108 : decode cX6_seen 108 = .ok (.bipush 9, 2) := by decide +kernel
theorem dX6_seen_110 : decode cX6_seen 110 = .ok (.goto 16, 3) := by decide +kernel
theorem dX6_seen_113 : decode cX6_seen 113 = .ok (.iload_n 3, 1) := by decide +kernel
theorem dX6_seen_114 : decode cX6_seen 114 = .ok (.iconst 2, 1) := by decide +kernel
theorem dX6_seen_115 : decode cX6_seen 115 = .ok (.if_icmp .ne 8, 3) := by decide +kernel
theorem dX6_seen_118 : decode cX6_seen 118 = .ok (.bipush 8, 2) := by decide +kernel
theorem dX6_seen_120 : decode cX6_seen 120 = .ok (.goto 6, 3) := by decide +kernel
theorem dX6_seen_123 : decode cX6_seen 123 = .ok (.iload_n 3, 1) := by decide +kernel
theorem dX6_seen_124 : decode cX6_seen 124 = .ok (.iconst 1, 1) := by decide +kernel
theorem dX6_seen_125 : decode cX6_seen 125 = .ok (.iadd, 1) := by decide +kernel
theorem dX6_seen_126 : decode cX6_seen 126 = .ok (.istore 5, 2) := by decide +kernel
theorem dX6_seen_128 : decode cX6_seen 128 = .ok (.iload_n 3, 1) := by decide +kernel
theorem dX6_seen_129 : decode cX6_seen 129 = .ok (.ifCond .ne 10, 3) := by decide +kernel
theorem dX6_seen_132 : decode cX6_seen 132 = .ok (.aload_n 0, 1) := by decide +kernel
theorem dX6_seen_133 : decode cX6_seen 133 = .ok (.getfield 112, 3) := by decide +kernel
theorem dX6_seen_136 : decode cX6_seen 136 = .ok (.goto 46, 3) := by decide +kernel
theorem dX6_seen_139 : decode cX6_seen 139 = .ok (.iload_n 3, 1) := by decide +kernel
theorem dX6_seen_140 : decode cX6_seen 140 = .ok (.iconst 1, 1) := by decide +kernel
theorem dX6_seen_141 : decode cX6_seen 141 = .ok (.if_icmp .ne 7, 3) := by decide +kernel
theorem dX6_seen_144 : decode cX6_seen 144 = .ok (.iconst 4, 1) := by decide +kernel
theorem dX6_seen_145 : decode cX6_seen 145 = .ok (.goto 37, 3) := by decide +kernel
theorem dX6_seen_148 : decode cX6_seen 148 = .ok (.iload_n 3, 1) := by decide +kernel
theorem dX6_seen_149 : decode cX6_seen 149 = .ok (.iconst 2, 1) := by decide +kernel
theorem dX6_seen_150 : decode cX6_seen 150 = .ok (.if_icmp .ne 8, 3) := by decide +kernel
theorem dX6_seen_153 : decode cX6_seen 153 = .ok (.bipush 21, 2) := by decide +kernel
theorem dX6_seen_155 : decode cX6_seen 155 = .ok (.goto 27, 3) := by decide +kernel
theorem dX6_seen_158 : decode cX6_seen 158 = .ok (.iload_n 3, 1) := by decide +kernel
theorem dX6_seen_159 : decode cX6_seen 159 = .ok (.iconst 3, 1) := by decide +kernel
theorem dX6_seen_160 : decode cX6_seen 160 = .ok (.if_icmp .ne 8, 3) := by decide +kernel
theorem dX6_seen_163 : decode cX6_seen 163 = .ok (.bipush 10, 2) := by decide +kernel
theorem dX6_seen_165 : decode cX6_seen 165 = .ok (.goto 17, 3) := by decide +kernel
theorem dX6_seen_168 : decode cX6_seen 168 = .ok (.iload_n 3, 1) := by decide +kernel
theorem dX6_seen_169 : decode cX6_seen 169 = .ok (.iconst 4, 1) := by decide +kernel
theorem dX6_seen_170 : decode cX6_seen 170 = .ok (.if_icmp .ne 8, 3) := by decide +kernel
theorem dX6_seen_173 : decode cX6_seen 173 = .ok (.bipush 11, 2) := by decide +kernel
theorem dX6_seen_175 : decode cX6_seen 175 = .ok (.goto 7, 3) := by decide +kernel
theorem dX6_seen_178 : decode cX6_seen 178 = .ok (.aload_n 0, 1) := by decide +kernel
theorem dX6_seen_179 : decode cX6_seen 179 = .ok (.getfield 103, 3) := by decide +kernel
theorem dX6_seen_182 : decode cX6_seen 182 = .ok (.istore 6, 2) := by decide +kernel
theorem dX6_seen_184 : decode cX6_seen 184 = .ok (.iload_n 3, 1) := by decide +kernel
theorem dX6_seen_185 : decode cX6_seen 185 = .ok (.iconst 5, 1) := by decide +kernel
theorem dX6_seen_186 : decode cX6_seen 186 = .ok (.if_icmp .ne 10, 3) := by decide +kernel
theorem dX6_seen_189 : decode cX6_seen 189 = .ok (.aload_n 0, 1) := by decide +kernel
theorem dX6_seen_190 : decode cX6_seen 190 = .ok (.getfield 367, 3) := by decide +kernel
theorem dX6_seen_193 : decode cX6_seen 193 = .ok (.goto 11, 3) := by decide +kernel
theorem dX6_seen_196 : decode cX6_seen 196 = .ok (.aload_n 0, 1) := by decide +kernel
theorem dX6_seen_197 : decode cX6_seen 197 = .ok (.iload 4, 2) := by decide +kernel
theorem dX6_seen_199 : decode cX6_seen 199 = .ok (.iload 5, 2) := by decide +kernel
theorem dX6_seen_201 : decode cX6_seen 201 = .ok (.invokevirtual 136, 3) := by decide +kernel
theorem dX6_seen_204 : decode cX6_seen 204 = .ok (.istore 7, 2) := by decide +kernel
theorem dX6_seen_206 : decode cX6_seen 206 = .ok (.iconst 0, 1) := by decide +kernel
theorem dX6_seen_207 : decode cX6_seen 207 = .ok (.istore 8, 2) := by decide +kernel
theorem dX6_seen_209 : decode cX6_seen 209 = .ok (.iconst 0, 1) := by decide +kernel
theorem dX6_seen_210 : decode cX6_seen 210 = .ok (.istore 9, 2) := by decide +kernel
theorem dX6_seen_212 : decode cX6_seen 212 = .ok (.iload 9, 2) := by decide +kernel
theorem dX6_seen_214 : decode cX6_seen 214 = .ok (.iload 6, 2) := by decide +kernel
theorem dX6_seen_216 : decode cX6_seen 216 = .ok (.if_icmp .ge 56, 3) := by decide +kernel
theorem dX6_seen_219 : decode cX6_seen 219 = .ok (.iload_n 3, 1) := by decide +kernel
theorem dX6_seen_220 : decode cX6_seen 220 = .ok (.iconst 5, 1) := by decide +kernel
theorem dX6_seen_221 : decode cX6_seen 221 = .ok (.if_icmp .ne 12, 3) := by decide +kernel
theorem dX6_seen_224 : decode cX6_seen 224 = .ok (.aload_n 0, 1) := by decide +kernel
theorem dX6_seen_225 : decode cX6_seen 225 = .ok (.iload 9, 2) := by decide +kernel
theorem dX6_seen_227 : decode cX6_seen 227 = .ok (.putfield 367, 3) := by decide +kernel
theorem dX6_seen_230 : decode cX6_seen 230 = .ok (.goto 13, 3) := by decide +kernel
theorem dX6_seen_233 : decode cX6_seen 233 = .ok (.aload_n 0, 1) := by decide +kernel
theorem dX6_seen_234 : decode cX6_seen 234 = .ok (.iload 5, 2) := by decide +kernel
theorem dX6_seen_236 : decode cX6_seen 236 = .ok (.iload 4, 2) := by decide +kernel
theorem dX6_seen_238 : decode cX6_seen 238 = .ok (.iload 9, 2) := by decide +kernel
theorem dX6_seen_240 : decode cX6_seen 240 = .ok (.invokevirtual 140, 3) := by decide +kernel
theorem dX6_seen_243 : decode cX6_seen 243 = .ok (.iload 8, 2) := by decide +kernel
theorem dX6_seen_245 : decode cX6_seen 245 = .ok (.aload_n 0, 1) := by decide +kernel
theorem dX6_seen_246 : decode cX6_seen 246 = .ok (.iload_n 1, 1) := by decide +kernel
theorem dX6_seen_247 : decode cX6_seen 247 = .ok (.iload_n 2, 1) := by decide +kernel
theorem dX6_seen_248 : decode cX6_seen 248 = .ok (.invokevirtual 438, 3) := by decide +kernel
theorem dX6_seen_251 : decode cX6_seen 251 = .ok (.iconst (-1), 1) := by decide +kernel
theorem dX6_seen_252 : decode cX6_seen 252 = .ok (.if_icmp .ne 7, 3) := by decide +kernel
theorem dX6_seen_255 : decode cX6_seen 255 = .ok (.iconst 1, 1) := by decide +kernel
theorem dX6_seen_256 : decode cX6_seen 256 = .ok (.goto 4, 3) := by decide +kernel
theorem dX6_seen_259 : decode cX6_seen 259 = .ok (.iconst 0, 1) := by decide +kernel
theorem dX6_seen_260 : decode cX6_seen 260 = .ok (.iload 9, 2) := by decide +kernel
theorem dX6_seen_262 : decode cX6_seen 262 = .ok (.ishl, 1) := by decide +kernel
theorem dX6_seen_263 : decode cX6_seen 263 = .ok (.ior, 1) := by decide +kernel
theorem dX6_seen_264 : decode cX6_seen 264 = .ok (.istore 8, 2) := by decide +kernel
theorem dX6_seen_266 : decode cX6_seen 266 = .ok (.iinc 9 1, 3) := by decide +kernel
theorem dX6_seen_269 : decode cX6_seen 269 = .ok (.goto (-57), 3) := by decide +kernel
theorem dX6_seen_272 : decode cX6_seen 272 = .ok (.iload_n 3, 1) := by decide +kernel
theorem dX6_seen_273 : decode cX6_seen 273 = .ok (.iconst 5, 1) := by decide +kernel
theorem dX6_seen_274 : decode cX6_seen 274 = .ok (.if_icmp .ne 12, 3) := by decide +kernel
theorem dX6_seen_277 : decode cX6_seen 277 = .ok (.aload_n 0, 1) := by decide +kernel
theorem dX6_seen_278 : decode cX6_seen 278 = .ok (.iload 7, 2) := by decide +kernel
theorem dX6_seen_280 : decode cX6_seen 280 = .ok (.putfield 367, 3) := by decide +kernel
theorem dX6_seen_283 : decode cX6_seen 283 = .ok (.goto 13, 3) := by decide +kernel
theorem dX6_seen_286 : decode cX6_seen 286 = .ok (.aload_n 0, 1) := by decide +kernel
theorem dX6_seen_287 : decode cX6_seen 287 = .ok (.iload 5, 2) := by decide +kernel
theorem dX6_seen_289 : decode cX6_seen 289 = .ok (.iload 4, 2) := by decide +kernel
theorem dX6_seen_291 : decode cX6_seen 291 = .ok (.iload 7, 2) := by decide +kernel
theorem dX6_seen_293 : decode cX6_seen 293 = .ok (.invokevirtual 140, 3) := by decide +kernel
theorem dX6_seen_296 : decode cX6_seen 296 = .ok (.iload 8, 2) := by decide +kernel
theorem dX6_seen_298 : decode cX6_seen 298 = .ok (.ireturn, 1) := by decide +kernel
theorem dX6_film_0 : decode cX6_film 0 = .ok (.iload_n 1, 1) := by decide +kernel
theorem dX6_film_1 : decode cX6_film 1 = .ok (.invokestatic 435, 3) := by decide +kernel
theorem dX6_film_4 : decode cX6_film 4 = .ok (.ifCond .eq 24, 3) := by decide +kernel
theorem dX6_film_7 : decode cX6_film 7 = .ok (.iload_n 2, 1) := by decide +kernel
theorem dX6_film_8 : decode cX6_film 8 = .ok (.invokestatic 118, 3) := by decide +kernel
theorem dX6_film_11 : decode cX6_film 11 = .ok (.ifCond .eq 17, 3) := by decide +kernel
theorem dX6_film_14 : decode cX6_film 14 = .ok (.iload_n 3, 1) := by decide +kernel
theorem dX6_film_15 : decode cX6_film 15 = .ok (.i2l, 1) := by decide +kernel
theorem dX6_film_16 : decode cX6_film 16 = .ok (.lconst 0, 1) := by decide +kernel
theorem dX6_film_17 : decode cX6_film 17 = .ok (.aload_n 0, 1) := by decide +kernel
theorem dX6_film_18 : decode cX6_film 18 = .ok (.getfield 115, 3) := by decide +kernel
theorem dX6_film_21 : decode cX6_film 21 = .ok (.i2l, 1) := by decide +kernel
theorem dX6_film_22 : decode cX6_film 22 = .ok (.invokestatic 108, 3) := by decide +kernel
theorem dX6_film_25 : decode cX6_film 25 = .ok (.ifCond .ne 6, 3) := by decide +kernel
theorem dX6_film_28 : decode cX6_film 28 = .ok (.bipush (-2), 2) := by decide +kernel
theorem dX6_film_30 : decode cX6_film 30 = .ok (.ireturn, 1) := by decide +kernel
theorem dX6_film_31 : decode cX6_film 31 = .ok (.aload_n 0, 1) := by decide +kernel
theorem dX6_film_32 : decode cX6_film 32 = .ok (.invokevirtual 421, 3) := by decide +kernel
theorem dX6_film_35 : decode cX6_film 35 = .ok (.pop, 1) := by decide +kernel
theorem dX6_film_36 : decode cX6_film 36 = .ok (.aload_n 0, 1) := by decide +kernel
theorem dX6_film_37 : decode cX6_film 37 = .ok (.iload_n 1, 1) := by decide +kernel
theorem dX6_film_38 : decode cX6_film 38 = .ok (.iconst 1, 1) := by decide +kernel
theorem dX6_film_39 : decode cX6_film 39 = .ok (.iload_n 3, 1) := by decide +kernel
theorem dX6_film_40 : decode cX6_film 40 = .ok (.invokevirtual 441, 3) := by decide +kernel
theorem dX6_film_43 : decode cX6_film 43 = .ok (.pop, 1) := by decide +kernel
theorem dX6_film_44 : decode cX6_film 44 = .ok (.iconst 0, 1) := by decide +kernel
theorem dX6_film_45 : decode cX6_film 45 = .ok (.istore 4, 2) := by decide +kernel
theorem dX6_film_47 : decode cX6_film 47 = .ok (.iload 4, 2) := by decide +kernel
theorem dX6_film_49 : decode cX6_film 49 = .ok (.iload_n 3, 1) := by decide +kernel
theorem dX6_film_50 : decode cX6_film 50 = .ok (.if_icmp .ge 32, 3) := by decide +kernel
theorem dX6_film_53 : decode cX6_film 53 = .ok (.aload_n 0, 1) := by decide +kernel
theorem dX6_film_54 : decode cX6_film 54 = .ok (.getfield 96, 3) := by decide +kernel
theorem dX6_film_57 : decode cX6_film 57 = .ok (.bipush 40, 2) := by decide +kernel
theorem dX6_film_59 : decode cX6_film 59 = .ok (.iload_n 1, 1) := by decide +kernel
theorem dX6_film_60 : decode cX6_film 60 = .ok (.imul, 1) := by decide +kernel
theorem dX6_film_61 : decode cX6_film 61 = .ok (.iload 4, 2) := by decide +kernel
theorem dX6_film_63 : decode cX6_film 63 = .ok (.iadd, 1) := by decide +kernel
theorem dX6_film_64 : decode cX6_film 64 = .ok (.aload_n 0, 1) := by decide +kernel
theorem dX6_film_65 : decode cX6_film 65 = .ok (.getfield 62, 3) := by decide +kernel
theorem dX6_film_68 : decode cX6_film 68 = .ok (.iconst 4, 1) := by decide +kernel
theorem dX6_film_69 : decode cX6_film 69 = .ok (.iload 4, 2) := by decide +kernel
theorem dX6_film_71 : decode cX6_film 71 = .ok (.imul, 1) := by decide +kernel
theorem dX6_film_72 : decode cX6_film 72 = .ok (.iload_n 2, 1) := by decide +kernel
theorem dX6_film_73 : decode cX6_film 73 = .ok (.iadd, 1) := by decide +kernel
theorem dX6_film_74 : decode cX6_film 74 = .ok (.iaload, 1) := by decide +kernel
theorem dX6_film_75 : decode cX6_film 75 = .ok (.iastore, 1) := by decide +kernel
theorem dX6_film_76 : decode cX6_film 76 = .ok (.iinc 4 1, 3) := by decide +kernel
theorem dX6_film_79 : decode cX6_film 79 = .ok (.goto (-32), 3) := by decide +kernel
theorem dX6_film_82 : decode cX6_film 82 = .ok (.iload_n 3, 1) := by decide +kernel
theorem dX6_film_83 : decode cX6_film 83 = .ok (.ireturn, 1) := by decide +kernel
theorem dX6_draws_0 : decode cX6_draws 0 = .ok (.aload_n 0, 1) := by decide +kernel
theorem dX6_draws_1 : decode cX6_draws 1 = .ok (.invokevirtual 426, 3) := by decide +kernel
theorem dX6_draws_4 : decode cX6_draws 4 = .ok (.iload_n 1, 1) := by decide +kernel
theorem dX6_draws_5 : decode cX6_draws 5 = .ok (.istore_n 2, 1) := by decide +kernel
theorem dX6_draws_6 : decode cX6_draws 6 = .ok (.iconst 0, 1) := by decide +kernel
theorem dX6_draws_7 : decode cX6_draws 7 = .ok (.istore_n 3, 1) := by decide +kernel
theorem dX6_draws_8 : decode cX6_draws 8 = .ok (.iload_n 3, 1) := by decide +kernel
theorem dX6_draws_9 : decode cX6_draws 9 = .ok (.aload_n 0, 1) := by decide +kernel
theorem dX6_draws_10 : decode cX6_draws 10 = .ok (.getfield 115, 3) := by decide +kernel
theorem dX6_draws_13 : decode cX6_draws 13 = .ok (.if_icmp .ge 34, 3) := by decide +kernel
theorem dX6_draws_16 : decode cX6_draws 16 = .ok (.iload_n 2, 1) := by decide +kernel
theorem dX6_draws_17 : decode cX6_draws 17 = .ok (.ldc_w 444, 3) := by decide +kernel
theorem dX6_draws_20 : decode cX6_draws 20 = .ok (.imul, 1) := by decide +kernel
theorem dX6_draws_21 : decode cX6_draws 21 = .ok (.sipush 12345, 3) := by decide +kernel
theorem dX6_draws_24 : decode cX6_draws 24 = .ok (.iadd, 1) := by decide +kernel
theorem dX6_draws_25 : decode cX6_draws 25 = .ok (.istore_n 2, 1) := by decide +kernel
theorem dX6_draws_26 : decode cX6_draws 26 = .ok (.aload_n 0, 1) := by decide +kernel
theorem dX6_draws_27 : decode cX6_draws 27 = .ok (.getfield 47, 3) := by decide +kernel
theorem dX6_draws_30 : decode cX6_draws 30 = .ok (.iload_n 3, 1) := by decide +kernel
theorem dX6_draws_31 : decode cX6_draws 31 = .ok (.iload_n 2, 1) := by decide +kernel
theorem dX6_draws_32 : decode cX6_draws 32 = .ok (.bipush 9, 2) := by decide +kernel
theorem dX6_draws_34 : decode cX6_draws 34 = .ok (.iushr, 1) := by decide +kernel
theorem dX6_draws_35 : decode cX6_draws 35 = .ok (.aload_n 0, 1) := by decide +kernel
theorem dX6_draws_36 : decode cX6_draws 36 = .ok (.getfield 112, 3) := by decide +kernel
theorem dX6_draws_39 : decode cX6_draws 39 = .ok (.irem, 1) := by decide +kernel
theorem dX6_draws_40 : decode cX6_draws 40 = .ok (.iastore, 1) := by decide +kernel
theorem dX6_draws_41 : decode cX6_draws 41 = .ok (.iinc 3 1, 3) := by decide +kernel
theorem dX6_draws_44 : decode cX6_draws 44 = .ok (.goto (-36), 3) := by decide +kernel
theorem dX6_draws_47 : decode cX6_draws 47 = .ok (.aload_n 0, 1) := by decide +kernel
theorem dX6_draws_48 : decode cX6_draws 48 = .ok (.invokevirtual 421, 3) := by decide +kernel
theorem dX6_draws_51 : decode cX6_draws 51 = .ok (.istore_n 3, 1) := by decide +kernel
theorem dX6_draws_52 : decode cX6_draws 52 = .ok (.aload_n 0, 1) := by decide +kernel
theorem dX6_draws_53 : decode cX6_draws 53 = .ok (.invokevirtual 429, 3) := by decide +kernel
theorem dX6_draws_56 : decode cX6_draws 56 = .ok (.iload_n 3, 1) := by decide +kernel
theorem dX6_draws_57 : decode cX6_draws 57 = .ok (.ireturn, 1) := by decide +kernel
theorem dX6_drawn_0 : decode cX6_drawn 0 = .ok (.aload_n 0, 1) := by decide +kernel
theorem dX6_drawn_1 : decode cX6_drawn 1 = .ok (.getfield 112, 3) := by decide +kernel
theorem dX6_drawn_4 : decode cX6_drawn 4 = .ok (.ifCond .ne 7, 3) := by decide +kernel
theorem dX6_drawn_7 : decode cX6_drawn 7 = .ok (.iconst (-1), 1) := by decide +kernel
theorem dX6_drawn_8 : decode cX6_drawn 8 = .ok (.goto 8, 3) := by decide +kernel
theorem dX6_drawn_11 : decode cX6_drawn 11 = .ok (.aload_n 0, 1) := by decide +kernel
theorem dX6_drawn_12 : decode cX6_drawn 12 = .ok (.iload_n 1, 1) := by decide +kernel
theorem dX6_drawn_13 : decode cX6_drawn 13 = .ok (.invokevirtual 445, 3) := by decide +kernel
theorem dX6_drawn_16 : decode cX6_drawn 16 = .ok (.ireturn, 1) := by decide +kernel
theorem dX6_chance_0 : decode cX6_chance 0 = .ok (.iload_n 2, 1) := by decide +kernel
theorem dX6_chance_1 : decode cX6_chance 1 = .ok (.i2l, 1) := by decide +kernel
theorem dX6_chance_2 : decode cX6_chance 2 = .ok (.lconst 1, 1) := by decide +kernel
theorem dX6_chance_3 : decode cX6_chance 3 = .ok (.ldc2_w 448, 3) := by decide +kernel
theorem dX6_chance_6 : decode cX6_chance 6 = .ok (.invokestatic 108, 3) := by decide +kernel
theorem dX6_chance_9 : decode cX6_chance 9 = .ok (.ifCond .eq 20, 3) := by decide +kernel
theorem dX6_chance_12 : decode cX6_chance 12 = .ok (.iload_n 3, 1) := by decide +kernel
theorem dX6_chance_13 : decode cX6_chance 13 = .ok (.i2l, 1) := by decide +kernel
theorem dX6_chance_14 : decode cX6_chance 14 = .ok (.lconst 0, 1) := by decide +kernel
theorem dX6_chance_15 : decode cX6_chance 15 = .ok (.lconst 1, 1) := by decide +kernel
theorem dX6_chance_16 : decode cX6_chance 16 = .ok (.invokestatic 108, 3) := by decide +kernel
theorem dX6_chance_19 : decode cX6_chance 19 = .ok (.ifCond .eq 10, 3) := by decide +kernel
theorem dX6_chance_22 : decode cX6_chance 22 = .ok (.aload_n 0, 1) := by decide +kernel
theorem dX6_chance_23 : decode cX6_chance 23 = .ok (.getfield 112, 3) := by decide +kernel
theorem dX6_chance_26 : decode cX6_chance 26 = .ok (.ifCond .ne 7, 3) := by decide +kernel
theorem dX6_chance_29 : decode cX6_chance 29 = .ok (.ldc2_w 450, 3) := by decide +kernel
theorem dX6_chance_32 : decode cX6_chance 32 = .ok (.lreturn, 1) := by decide +kernel
theorem dX6_chance_33 : decode cX6_chance 33 = .ok (.aload_n 0, 1) := by decide +kernel
theorem dX6_chance_34 : decode cX6_chance 34 = .ok (.invokevirtual 421, 3) := by decide +kernel
theorem dX6_chance_37 : decode cX6_chance 37 = .ok (.istore 4, 2) := by decide +kernel
theorem dX6_chance_39 : decode cX6_chance 39 = .ok (.lconst 0, 1) := by decide +kernel
theorem dX6_chance_40 : decode cX6_chance 40 = .ok (.lstore 5, 2) := by decide +kernel
theorem dX6_chance_42 : decode cX6_chance 42 = .ok (.iconst 0, 1) := by decide +kernel
theorem dX6_chance_43 : decode cX6_chance 43 = .ok (.istore 7, 2) := by decide +kernel
theorem dX6_chance_45 : decode cX6_chance 45 = .ok (.iload 7, 2) := by decide +kernel
theorem dX6_chance_47 : decode cX6_chance 47 = .ok (.iload_n 2, 1) := by decide +kernel
theorem dX6_chance_48 : decode cX6_chance 48 = .ok (.if_icmp .ge 32, 3) := by decide +kernel
theorem dX6_chance_51 : decode cX6_chance 51 = .ok (.lload 5, 2) := by decide +kernel
theorem dX6_chance_53 : decode cX6_chance 53 = .ok (.aload_n 0, 1) := by decide +kernel
theorem dX6_chance_54 : decode cX6_chance 54 = .ok (.iload_n 1, 1) := by decide +kernel
theorem dX6_chance_55 : decode cX6_chance 55 = .ok (.iload 7, 2) := by decide +kernel
theorem dX6_chance_57 : decode cX6_chance 57 = .ok (.iadd, 1) := by decide +kernel
theorem dX6_chance_58 : decode cX6_chance 58 = .ok (.invokevirtual 445, 3) := by decide +kernel
theorem dX6_chance_61 : decode cX6_chance 61 = .ok (.iload 4, 2) := by decide +kernel
theorem dX6_chance_63 : decode cX6_chance 63 = .ok (.if_icmp .gt 7, 3) := by decide +kernel
theorem dX6_chance_66 : decode cX6_chance 66 = .ok (.lconst 1, 1) := by decide +kernel
theorem dX6_chance_67 : decode cX6_chance 67 = .ok (.goto 4, 3) := by decide +kernel
theorem dX6_chance_70 : decode cX6_chance 70 = .ok (.lconst 0, 1) := by decide +kernel
theorem dX6_chance_71 : decode cX6_chance 71 = .ok (.ladd, 1) := by decide +kernel
theorem dX6_chance_72 : decode cX6_chance 72 = .ok (.lstore 5, 2) := by decide +kernel
theorem dX6_chance_74 : decode cX6_chance 74 = .ok (.iinc 7 1, 3) := by decide +kernel
theorem dX6_chance_77 : decode cX6_chance 77 = .ok (.goto (-32), 3) := by decide +kernel
theorem dX6_chance_80 : decode cX6_chance 80 = .ok (.lload 5, 2) := by decide +kernel
theorem dX6_chance_82 : decode cX6_chance 82 = .ok (.lstore 7, 2) := by decide +kernel
theorem dX6_chance_84 : decode cX6_chance 84 = .ok (.iload_n 2, 1) := by decide +kernel
theorem dX6_chance_85 : decode cX6_chance 85 = .ok (.i2l, 1) := by decide +kernel
theorem dX6_chance_86 : decode cX6_chance 86 = .ok (.lstore 9, 2) := by decide +kernel
theorem dX6_chance_88 : decode cX6_chance 88 = .ok (.lload 9, 2) := by decide +kernel
theorem dX6_chance_90 : decode cX6_chance 90 = .ok (.lconst 0, 1) := by decide +kernel
theorem dX6_chance_91 : decode cX6_chance 91 = .ok (.lcmp, 1) := by decide +kernel
theorem dX6_chance_92 : decode cX6_chance 92 = .ok (.ifCond .eq 21, 3) := by decide +kernel
theorem dX6_chance_95 : decode cX6_chance 95 = .ok (.lload 7, 2) := by decide +kernel
theorem dX6_chance_97 : decode cX6_chance 97 = .ok (.lload 9, 2) := by decide +kernel
theorem dX6_chance_99 : decode cX6_chance 99 = .ok (.lrem, 1) := by decide +kernel
theorem dX6_chance_100 : decode cX6_chance 100 = .ok (.lstore 11, 2) := by decide +kernel
theorem dX6_chance_102 : decode cX6_chance 102 = .ok (.lload 9, 2) := by decide +kernel
theorem dX6_chance_104 : decode cX6_chance 104 = .ok (.lstore 7, 2) := by decide +kernel
theorem dX6_chance_106 : decode cX6_chance 106 = .ok (.lload 11, 2) := by decide +kernel
theorem dX6_chance_108 : decode cX6_chance 108 = .ok (.lstore 9, 2) := by decide +kernel
theorem dX6_chance_110 : decode cX6_chance 110 = .ok (.goto (-22), 3) := by decide +kernel
theorem dX6_chance_113 : decode cX6_chance 113 = .ok (.iload_n 3, 1) := by decide +kernel
theorem dX6_chance_114 : decode cX6_chance 114 = .ok (.ifCond .ne 11, 3) := by decide +kernel
theorem dX6_chance_117 : decode cX6_chance 117 = .ok (.lload 5, 2) := by decide +kernel
theorem dX6_chance_119 : decode cX6_chance 119 = .ok (.lload 7, 2) := by decide +kernel
theorem dX6_chance_121 : decode cX6_chance 121 = .ok (.ldiv, 1) := by decide +kernel
theorem dX6_chance_122 : decode cX6_chance 122 = .ok (.goto 8, 3) := by decide +kernel
theorem dX6_chance_125 : decode cX6_chance 125 = .ok (.iload_n 2, 1) := by decide +kernel
theorem dX6_chance_126 : decode cX6_chance 126 = .ok (.i2l, 1) := by decide +kernel
theorem dX6_chance_127 : decode cX6_chance 127 = .ok (.lload 7, 2) := by decide +kernel
theorem dX6_chance_129 : decode cX6_chance 129 = .ok (.ldiv, 1) := by decide +kernel
theorem dX6_chance_130 : decode cX6_chance 130 = .ok (.lreturn, 1) := by decide +kernel
theorem dX6_image_0 : decode cX6_image 0 = .ok (.iconst 0, 1) := by decide +kernel
theorem dX6_image_1 : decode cX6_image 1 = .ok (.istore_n 1, 1) := by decide +kernel
theorem dX6_image_2 : decode cX6_image 2 = .ok (.iload_n 1, 1) := by decide +kernel
theorem dX6_image_3 : decode cX6_image 3 = .ok (.iconst 4, 1) := by decide +kernel
theorem dX6_image_4 : decode cX6_image 4 = .ok (.if_icmp .ge 50, 3) := by decide +kernel
theorem dX6_image_7 : decode cX6_image 7 = .ok (.aload_n 0, 1) := by decide +kernel
theorem dX6_image_8 : decode cX6_image 8 = .ok (.getfield 74, 3) := by decide +kernel
theorem dX6_image_11 : decode cX6_image 11 = .ok (.iload_n 1, 1) := by decide +kernel
theorem dX6_image_12 : decode cX6_image 12 = .ok (.aload_n 0, 1) := by decide +kernel
theorem dX6_image_13 : decode cX6_image 13 = .ok (.getfield 23, 3) := by decide +kernel
theorem dX6_image_16 : decode cX6_image 16 = .ok (.iload_n 1, 1) := by decide +kernel
theorem dX6_image_17 : decode cX6_image 17 = .ok (.iaload, 1) := by decide +kernel
theorem dX6_image_18 : decode cX6_image 18 = .ok (.iastore, 1) := by decide +kernel
theorem dX6_image_19 : decode cX6_image 19 = .ok (.aload_n 0, 1) := by decide +kernel
theorem dX6_image_20 : decode cX6_image 20 = .ok (.getfield 74, 3) := by decide +kernel
theorem dX6_image_23 : decode cX6_image 23 = .ok (.iconst 4, 1) := by decide +kernel
theorem dX6_image_24 : decode cX6_image 24 = .ok (.iload_n 1, 1) := by decide +kernel
theorem dX6_image_25 : decode cX6_image 25 = .ok (.iadd, 1) := by decide +kernel
theorem dX6_image_26 : decode cX6_image 26 = .ok (.aload_n 0, 1) := by decide +kernel
theorem dX6_image_27 : decode cX6_image 27 = .ok (.getfield 26, 3) := by decide +kernel
theorem dX6_image_30 : decode cX6_image 30 = .ok (.iload_n 1, 1) := by decide +kernel
theorem dX6_image_31 : decode cX6_image 31 = .ok (.iaload, 1) := by decide +kernel
theorem dX6_image_32 : decode cX6_image 32 = .ok (.iastore, 1) := by decide +kernel
theorem dX6_image_33 : decode cX6_image 33 = .ok (.aload_n 0, 1) := by decide +kernel
theorem dX6_image_34 : decode cX6_image 34 = .ok (.getfield 74, 3) := by decide +kernel
theorem dX6_image_37 : decode cX6_image 37 = .ok (.bipush 8, 2) := by decide +kernel
theorem dX6_image_39 : decode cX6_image 39 = .ok (.iload_n 1, 1) := by decide +kernel
theorem dX6_image_40 : decode cX6_image 40 = .ok (.iadd, 1) := by decide +kernel
theorem dX6_image_41 : decode cX6_image 41 = .ok (.aload_n 0, 1) := by decide +kernel
theorem dX6_image_42 : decode cX6_image 42 = .ok (.getfield 29, 3) := by decide +kernel
theorem dX6_image_45 : decode cX6_image 45 = .ok (.iload_n 1, 1) := by decide +kernel
theorem dX6_image_46 : decode cX6_image 46 = .ok (.iaload, 1) := by decide +kernel
theorem dX6_image_47 : decode cX6_image 47 = .ok (.iastore, 1) := by decide +kernel
theorem dX6_image_48 : decode cX6_image 48 = .ok (.iinc 1 1, 3) := by decide +kernel
theorem dX6_image_51 : decode cX6_image 51 = .ok (.goto (-49), 3) := by decide +kernel
theorem dX6_image_54 : decode cX6_image 54 = .ok (.iconst 0, 1) := by decide +kernel
theorem dX6_image_55 : decode cX6_image 55 = .ok (.istore_n 1, 1) := by decide +kernel
theorem dX6_image_56 : decode cX6_image 56 = .ok (.iload_n 1, 1) := by decide +kernel
theorem dX6_image_57 : decode cX6_image 57 = .ok (.iconst 5, 1) := by decide +kernel
theorem dX6_image_58 : decode cX6_image 58 = .ok (.if_icmp .ge 50, 3) := by decide +kernel
theorem dX6_image_61 : decode cX6_image 61 = .ok (.aload_n 0, 1) := by decide +kernel
theorem dX6_image_62 : decode cX6_image 62 = .ok (.getfield 77, 3) := by decide +kernel
theorem dX6_image_65 : decode cX6_image 65 = .ok (.iload_n 1, 1) := by decide +kernel
theorem dX6_image_66 : decode cX6_image 66 = .ok (.aload_n 0, 1) := by decide +kernel
theorem dX6_image_67 : decode cX6_image 67 = .ok (.getfield 38, 3) := by decide +kernel
theorem dX6_image_70 : decode cX6_image 70 = .ok (.iload_n 1, 1) := by decide +kernel
theorem dX6_image_71 : decode cX6_image 71 = .ok (.iaload, 1) := by decide +kernel
theorem dX6_image_72 : decode cX6_image 72 = .ok (.iastore, 1) := by decide +kernel
theorem dX6_image_73 : decode cX6_image 73 = .ok (.aload_n 0, 1) := by decide +kernel
theorem dX6_image_74 : decode cX6_image 74 = .ok (.getfield 77, 3) := by decide +kernel
theorem dX6_image_77 : decode cX6_image 77 = .ok (.iconst 5, 1) := by decide +kernel
theorem dX6_image_78 : decode cX6_image 78 = .ok (.iload_n 1, 1) := by decide +kernel
theorem dX6_image_79 : decode cX6_image 79 = .ok (.iadd, 1) := by decide +kernel
theorem dX6_image_80 : decode cX6_image 80 = .ok (.aload_n 0, 1) := by decide +kernel
theorem dX6_image_81 : decode cX6_image 81 = .ok (.getfield 41, 3) := by decide +kernel
theorem dX6_image_84 : decode cX6_image 84 = .ok (.iload_n 1, 1) := by decide +kernel
theorem dX6_image_85 : decode cX6_image 85 = .ok (.iaload, 1) := by decide +kernel
theorem dX6_image_86 : decode cX6_image 86 = .ok (.iastore, 1) := by decide +kernel
theorem dX6_image_87 : decode cX6_image 87 = .ok (.aload_n 0, 1) := by decide +kernel
theorem dX6_image_88 : decode cX6_image 88 = .ok (.getfield 77, 3) := by decide +kernel
theorem dX6_image_91 : decode cX6_image 91 = .ok (.bipush 10, 2) := by decide +kernel
theorem dX6_image_93 : decode cX6_image 93 = .ok (.iload_n 1, 1) := by decide +kernel
theorem dX6_image_94 : decode cX6_image 94 = .ok (.iadd, 1) := by decide +kernel
theorem dX6_image_95 : decode cX6_image 95 = .ok (.aload_n 0, 1) := by decide +kernel
theorem dX6_image_96 : decode cX6_image 96 = .ok (.getfield 44, 3) := by decide +kernel
theorem dX6_image_99 : decode cX6_image 99 = .ok (.iload_n 1, 1) := by decide +kernel
theorem dX6_image_100 : decode cX6_image 100 = .ok (.iaload, 1) := by decide +kernel
theorem dX6_image_101 : decode cX6_image 101 = .ok (.iastore, 1) := by decide +kernel
theorem dX6_image_102 : decode cX6_image 102 = .ok (.iinc 1 1, 3) := by decide +kernel
theorem dX6_image_105 : decode cX6_image 105 = .ok (.goto (-49), 3) := by decide +kernel
theorem dX6_image_108 : decode cX6_image 108 = .ok (.iconst 0, 1) := by decide +kernel
theorem dX6_image_109 : decode cX6_image 109 = .ok (.istore_n 1, 1) := by decide +kernel
theorem dX6_image_110 : decode cX6_image 110 = .ok (.iload_n 1, 1) := by decide +kernel
theorem dX6_image_111 : decode cX6_image 111 = .ok (.bipush 8, 2) := by decide +kernel
theorem dX6_image_113 : decode cX6_image 113 = .ok (.if_icmp .ge 51, 3) := by decide +kernel
theorem dX6_image_116 : decode cX6_image 116 = .ok (.aload_n 0, 1) := by decide +kernel
theorem dX6_image_117 : decode cX6_image 117 = .ok (.getfield 80, 3) := by decide +kernel
theorem dX6_image_120 : decode cX6_image 120 = .ok (.iload_n 1, 1) := by decide +kernel
theorem dX6_image_121 : decode cX6_image 121 = .ok (.aload_n 0, 1) := by decide +kernel
theorem dX6_image_122 : decode cX6_image 122 = .ok (.getfield 47, 3) := by decide +kernel
theorem dX6_image_125 : decode cX6_image 125 = .ok (.iload_n 1, 1) := by decide +kernel
theorem dX6_image_126 : decode cX6_image 126 = .ok (.iaload, 1) := by decide +kernel
theorem dX6_image_127 : decode cX6_image 127 = .ok (.iastore, 1) := by decide +kernel
theorem dX6_image_128 : decode cX6_image 128 = .ok (.aload_n 0, 1) := by decide +kernel
theorem dX6_image_129 : decode cX6_image 129 = .ok (.getfield 80, 3) := by decide +kernel
theorem dX6_image_132 : decode cX6_image 132 = .ok (.bipush 8, 2) := by decide +kernel
theorem dX6_image_134 : decode cX6_image 134 = .ok (.iload_n 1, 1) := by decide +kernel
theorem dX6_image_135 : decode cX6_image 135 = .ok (.iadd, 1) := by decide +kernel
theorem dX6_image_136 : decode cX6_image 136 = .ok (.aload_n 0, 1) := by decide +kernel
theorem dX6_image_137 : decode cX6_image 137 = .ok (.getfield 50, 3) := by decide +kernel
theorem dX6_image_140 : decode cX6_image 140 = .ok (.iload_n 1, 1) := by decide +kernel
theorem dX6_image_141 : decode cX6_image 141 = .ok (.iaload, 1) := by decide +kernel
theorem dX6_image_142 : decode cX6_image 142 = .ok (.iastore, 1) := by decide +kernel
theorem dX6_image_143 : decode cX6_image 143 = .ok (.aload_n 0, 1) := by decide +kernel
theorem dX6_image_144 : decode cX6_image 144 = .ok (.getfield 80, 3) := by decide +kernel
theorem dX6_image_147 : decode cX6_image 147 = .ok (.bipush 16, 2) := by decide +kernel
theorem dX6_image_149 : decode cX6_image 149 = .ok (.iload_n 1, 1) := by decide +kernel
theorem dX6_image_150 : decode cX6_image 150 = .ok (.iadd, 1) := by decide +kernel
theorem dX6_image_151 : decode cX6_image 151 = .ok (.aload_n 0, 1) := by decide +kernel
theorem dX6_image_152 : decode cX6_image 152 = .ok (.getfield 53, 3) := by decide +kernel
theorem dX6_image_155 : decode cX6_image 155 = .ok (.iload_n 1, 1) := by decide +kernel
theorem dX6_image_156 : decode cX6_image 156 = .ok (.iaload, 1) := by decide +kernel
theorem dX6_image_157 : decode cX6_image 157 = .ok (.iastore, 1) := by decide +kernel
theorem dX6_image_158 : decode cX6_image 158 = .ok (.iinc 1 1, 3) := by decide +kernel
theorem dX6_image_161 : decode cX6_image 161 = .ok (.goto (-51), 3) := by decide +kernel
theorem dX6_image_164 : decode cX6_image 164 = .ok (.aload_n 0, 1) := by decide +kernel
theorem dX6_image_165 : decode cX6_image 165 = .ok (.aload_n 0, 1) := by decide +kernel
theorem dX6_image_166 : decode cX6_image 166 = .ok (.getfield 115, 3) := by decide +kernel
theorem dX6_image_169 : decode cX6_image 169 = .ok (.putfield 83, 3) := by decide +kernel
theorem dX6_image_172 : decode cX6_image 172 = .ok (.aload_n 0, 1) := by decide +kernel
theorem dX6_image_173 : decode cX6_image 173 = .ok (.aload_n 0, 1) := by decide +kernel
theorem dX6_image_174 : decode cX6_image 174 = .ok (.getfield 112, 3) := by decide +kernel
theorem dX6_image_177 : decode cX6_image 177 = .ok (.putfield 452, 3) := by decide +kernel
theorem dX6_image_180 : decode cX6_image 180 = .ok (.aload_n 0, 1) := by decide +kernel
theorem dX6_image_181 : decode cX6_image 181 = .ok (.aload_n 0, 1) := by decide +kernel
theorem dX6_image_182 : decode cX6_image 182 = .ok (.getfield 32, 3) := by decide +kernel
theorem dX6_image_185 : decode cX6_image 185 = .ok (.putfield 455, 3) := by decide +kernel
theorem dX6_image_188 : decode cX6_image 188 = .ok (.aload_n 0, 1) := by decide +kernel
theorem dX6_image_189 : decode cX6_image 189 = .ok (.aload_n 0, 1) := by decide +kernel
theorem dX6_image_190 : decode cX6_image 190 = .ok (.getfield 367, 3) := by decide +kernel
theorem dX6_image_193 : decode cX6_image 193 = .ok (.putfield 458, 3) := by decide +kernel
theorem dX6_image_196 : decode cX6_image 196 = .ok (.aload_n 0, 1) := by decide +kernel
theorem dX6_image_197 : decode cX6_image 197 = .ok (.getfield 115, 3) := by decide +kernel
theorem dX6_image_200 : decode cX6_image 200 = .ok (.ireturn, 1) := by decide +kernel
theorem dX6_back_0 : decode cX6_back 0 = .ok (.aload_n 0, 1) := by decide +kernel
theorem dX6_back_1 : decode cX6_back 1 = .ok (.getfield 83, 3) := by decide +kernel
theorem dX6_back_4 : decode cX6_back 4 = .ok (.iconst (-1), 1) := by decide +kernel
theorem dX6_back_5 : decode cX6_back 5 = .ok (.if_icmp .ne 6, 3) := by decide +kernel
theorem dX6_back_8 : decode cX6_back 8 = .ok (.bipush (-3), 2) := by decide +kernel
theorem dX6_back_10 : decode cX6_back 10 = .ok (.ireturn, 1) := by decide +kernel
theorem dX6_back_11 : decode cX6_back 11 = .ok (.iconst 0, 1) := by decide +kernel
theorem dX6_back_12 : decode cX6_back 12 = .ok (.istore_n 1, 1) := by decide +kernel
theorem dX6_back_13 : decode cX6_back 13 = .ok (.iload_n 1, 1) := by decide +kernel
theorem dX6_back_14 : decode cX6_back 14 = .ok (.iconst 4, 1) := by decide +kernel
theorem dX6_back_15 : decode cX6_back 15 = .ok (.if_icmp .ge 50, 3) := by decide +kernel
theorem dX6_back_18 : decode cX6_back 18 = .ok (.aload_n 0, 1) := by decide +kernel
theorem dX6_back_19 : decode cX6_back 19 = .ok (.getfield 23, 3) := by decide +kernel
theorem dX6_back_22 : decode cX6_back 22 = .ok (.iload_n 1, 1) := by decide +kernel
theorem dX6_back_23 : decode cX6_back 23 = .ok (.aload_n 0, 1) := by decide +kernel
theorem dX6_back_24 : decode cX6_back 24 = .ok (.getfield 74, 3) := by decide +kernel
theorem dX6_back_27 : decode cX6_back 27 = .ok (.iload_n 1, 1) := by decide +kernel
theorem dX6_back_28 : decode cX6_back 28 = .ok (.iaload, 1) := by decide +kernel
theorem dX6_back_29 : decode cX6_back 29 = .ok (.iastore, 1) := by decide +kernel
theorem dX6_back_30 : decode cX6_back 30 = .ok (.aload_n 0, 1) := by decide +kernel
theorem dX6_back_31 : decode cX6_back 31 = .ok (.getfield 26, 3) := by decide +kernel
theorem dX6_back_34 : decode cX6_back 34 = .ok (.iload_n 1, 1) := by decide +kernel
theorem dX6_back_35 : decode cX6_back 35 = .ok (.aload_n 0, 1) := by decide +kernel
theorem dX6_back_36 : decode cX6_back 36 = .ok (.getfield 74, 3) := by decide +kernel
theorem dX6_back_39 : decode cX6_back 39 = .ok (.iconst 4, 1) := by decide +kernel
theorem dX6_back_40 : decode cX6_back 40 = .ok (.iload_n 1, 1) := by decide +kernel
theorem dX6_back_41 : decode cX6_back 41 = .ok (.iadd, 1) := by decide +kernel
theorem dX6_back_42 : decode cX6_back 42 = .ok (.iaload, 1) := by decide +kernel
theorem dX6_back_43 : decode cX6_back 43 = .ok (.iastore, 1) := by decide +kernel
theorem dX6_back_44 : decode cX6_back 44 = .ok (.aload_n 0, 1) := by decide +kernel
theorem dX6_back_45 : decode cX6_back 45 = .ok (.getfield 29, 3) := by decide +kernel
theorem dX6_back_48 : decode cX6_back 48 = .ok (.iload_n 1, 1) := by decide +kernel
theorem dX6_back_49 : decode cX6_back 49 = .ok (.aload_n 0, 1) := by decide +kernel
theorem dX6_back_50 : decode cX6_back 50 = .ok (.getfield 74, 3) := by decide +kernel
theorem dX6_back_53 : decode cX6_back 53 = .ok (.bipush 8, 2) := by decide +kernel
theorem dX6_back_55 : decode cX6_back 55 = .ok (.iload_n 1, 1) := by decide +kernel
theorem dX6_back_56 : decode cX6_back 56 = .ok (.iadd, 1) := by decide +kernel
theorem dX6_back_57 : decode cX6_back 57 = .ok (.iaload, 1) := by decide +kernel
theorem dX6_back_58 : decode cX6_back 58 = .ok (.iastore, 1) := by decide +kernel
theorem dX6_back_59 : decode cX6_back 59 = .ok (.iinc 1 1, 3) := by decide +kernel
theorem dX6_back_62 : decode cX6_back 62 = .ok (.goto (-49), 3) := by decide +kernel
theorem dX6_back_65 : decode cX6_back 65 = .ok (.iconst 0, 1) := by decide +kernel
theorem dX6_back_66 : decode cX6_back 66 = .ok (.istore_n 1, 1) := by decide +kernel
theorem dX6_back_67 : decode cX6_back 67 = .ok (.iload_n 1, 1) := by decide +kernel
theorem dX6_back_68 : decode cX6_back 68 = .ok (.iconst 5, 1) := by decide +kernel
theorem dX6_back_69 : decode cX6_back 69 = .ok (.if_icmp .ge 50, 3) := by decide +kernel
theorem dX6_back_72 : decode cX6_back 72 = .ok (.aload_n 0, 1) := by decide +kernel
theorem dX6_back_73 : decode cX6_back 73 = .ok (.getfield 38, 3) := by decide +kernel
theorem dX6_back_76 : decode cX6_back 76 = .ok (.iload_n 1, 1) := by decide +kernel
theorem dX6_back_77 : decode cX6_back 77 = .ok (.aload_n 0, 1) := by decide +kernel
theorem dX6_back_78 : decode cX6_back 78 = .ok (.getfield 77, 3) := by decide +kernel
theorem dX6_back_81 : decode cX6_back 81 = .ok (.iload_n 1, 1) := by decide +kernel
theorem dX6_back_82 : decode cX6_back 82 = .ok (.iaload, 1) := by decide +kernel
theorem dX6_back_83 : decode cX6_back 83 = .ok (.iastore, 1) := by decide +kernel
theorem dX6_back_84 : decode cX6_back 84 = .ok (.aload_n 0, 1) := by decide +kernel
theorem dX6_back_85 : decode cX6_back 85 = .ok (.getfield 41, 3) := by decide +kernel
theorem dX6_back_88 : decode cX6_back 88 = .ok (.iload_n 1, 1) := by decide +kernel
theorem dX6_back_89 : decode cX6_back 89 = .ok (.aload_n 0, 1) := by decide +kernel
theorem dX6_back_90 : decode cX6_back 90 = .ok (.getfield 77, 3) := by decide +kernel
theorem dX6_back_93 : decode cX6_back 93 = .ok (.iconst 5, 1) := by decide +kernel
theorem dX6_back_94 : decode cX6_back 94 = .ok (.iload_n 1, 1) := by decide +kernel
theorem dX6_back_95 : decode cX6_back 95 = .ok (.iadd, 1) := by decide +kernel
theorem dX6_back_96 : decode cX6_back 96 = .ok (.iaload, 1) := by decide +kernel
theorem dX6_back_97 : decode cX6_back 97 = .ok (.iastore, 1) := by decide +kernel
theorem dX6_back_98 : decode cX6_back 98 = .ok (.aload_n 0, 1) := by decide +kernel
theorem dX6_back_99 : decode cX6_back 99 = .ok (.getfield 44, 3) := by decide +kernel
theorem dX6_back_102 : decode cX6_back 102 = .ok (.iload_n 1, 1) := by decide +kernel
theorem dX6_back_103 : decode cX6_back 103 = .ok (.aload_n 0, 1) := by decide +kernel
theorem dX6_back_104 : decode cX6_back 104 = .ok (.getfield 77, 3) := by decide +kernel
theorem dX6_back_107 : decode cX6_back 107 = .ok (.bipush 10, 2) := by decide +kernel
theorem dX6_back_109 : decode cX6_back 109 = .ok (.iload_n 1, 1) := by decide +kernel
theorem dX6_back_110 : decode cX6_back 110 = .ok (.iadd, 1) := by decide +kernel
theorem dX6_back_111 : decode cX6_back 111 = .ok (.iaload, 1) := by decide +kernel
theorem dX6_back_112 : decode cX6_back 112 = .ok (.iastore, 1) := by decide +kernel
theorem dX6_back_113 : decode cX6_back 113 = .ok (.iinc 1 1, 3) := by decide +kernel
theorem dX6_back_116 : decode cX6_back 116 = .ok (.goto (-49), 3) := by decide +kernel
theorem dX6_back_119 : decode cX6_back 119 = .ok (.iconst 0, 1) := by decide +kernel
theorem dX6_back_120 : decode cX6_back 120 = .ok (.istore_n 1, 1) := by decide +kernel
theorem dX6_back_121 : decode cX6_back 121 = .ok (.iload_n 1, 1) := by decide +kernel
theorem dX6_back_122 : decode cX6_back 122 = .ok (.bipush 8, 2) := by decide +kernel
theorem dX6_back_124 : decode cX6_back 124 = .ok (.if_icmp .ge 51, 3) := by decide +kernel
theorem dX6_back_127 : decode cX6_back 127 = .ok (.aload_n 0, 1) := by decide +kernel
theorem dX6_back_128 : decode cX6_back 128 = .ok (.getfield 47, 3) := by decide +kernel
theorem dX6_back_131 : decode cX6_back 131 = .ok (.iload_n 1, 1) := by decide +kernel
theorem dX6_back_132 : decode cX6_back 132 = .ok (.aload_n 0, 1) := by decide +kernel
theorem dX6_back_133 : decode cX6_back 133 = .ok (.getfield 80, 3) := by decide +kernel
theorem dX6_back_136 : decode cX6_back 136 = .ok (.iload_n 1, 1) := by decide +kernel
theorem dX6_back_137 : decode cX6_back 137 = .ok (.iaload, 1) := by decide +kernel
theorem dX6_back_138 : decode cX6_back 138 = .ok (.iastore, 1) := by decide +kernel
theorem dX6_back_139 : decode cX6_back 139 = .ok (.aload_n 0, 1) := by decide +kernel
theorem dX6_back_140 : decode cX6_back 140 = .ok (.getfield 50, 3) := by decide +kernel
theorem dX6_back_143 : decode cX6_back 143 = .ok (.iload_n 1, 1) := by decide +kernel
theorem dX6_back_144 : decode cX6_back 144 = .ok (.aload_n 0, 1) := by decide +kernel
theorem dX6_back_145 : decode cX6_back 145 = .ok (.getfield 80, 3) := by decide +kernel
theorem dX6_back_148 : decode cX6_back 148 = .ok (.bipush 8, 2) := by decide +kernel
theorem dX6_back_150 : decode cX6_back 150 = .ok (.iload_n 1, 1) := by decide +kernel
theorem dX6_back_151 : decode cX6_back 151 = .ok (.iadd, 1) := by decide +kernel
theorem dX6_back_152 : decode cX6_back 152 = .ok (.iaload, 1) := by decide +kernel
theorem dX6_back_153 : decode cX6_back 153 = .ok (.iastore, 1) := by decide +kernel
theorem dX6_back_154 : decode cX6_back 154 = .ok (.aload_n 0, 1) := by decide +kernel
theorem dX6_back_155 : decode cX6_back 155 = .ok (.getfield 53, 3) := by decide +kernel
theorem dX6_back_158 : decode cX6_back 158 = .ok (.iload_n 1, 1) := by decide +kernel
theorem dX6_back_159 : decode cX6_back 159 = .ok (.aload_n 0, 1) := by decide +kernel
theorem dX6_back_160 : decode cX6_back 160 = .ok (.getfield 80, 3) := by decide +kernel
theorem dX6_back_163 : decode cX6_back 163 = .ok (.bipush 16, 2) := by decide +kernel
theorem dX6_back_165 : decode cX6_back 165 = .ok (.iload_n 1, 1) := by decide +kernel
theorem dX6_back_166 : decode cX6_back 166 = .ok (.iadd, 1) := by decide +kernel
theorem dX6_back_167 : decode cX6_back 167 = .ok (.iaload, 1) := by decide +kernel
theorem dX6_back_168 : decode cX6_back 168 = .ok (.iastore, 1) := by decide +kernel
theorem dX6_back_169 : decode cX6_back 169 = .ok (.iinc 1 1, 3) := by decide +kernel
theorem dX6_back_172 : decode cX6_back 172 = .ok (.goto (-51), 3) := by decide +kernel
theorem dX6_back_175 : decode cX6_back 175 = .ok (.aload_n 0, 1) := by decide +kernel
theorem dX6_back_176 : decode cX6_back 176 = .ok (.aload_n 0, 1) := by decide +kernel
theorem dX6_back_177 : decode cX6_back 177 = .ok (.getfield 83, 3) := by decide +kernel
theorem dX6_back_180 : decode cX6_back 180 = .ok (.putfield 115, 3) := by decide +kernel
theorem dX6_back_183 : decode cX6_back 183 = .ok (.aload_n 0, 1) := by decide +kernel
theorem dX6_back_184 : decode cX6_back 184 = .ok (.aload_n 0, 1) := by decide +kernel
theorem dX6_back_185 : decode cX6_back 185 = .ok (.getfield 452, 3) := by decide +kernel
theorem dX6_back_188 : decode cX6_back 188 = .ok (.putfield 112, 3) := by decide +kernel
theorem dX6_back_191 : decode cX6_back 191 = .ok (.aload_n 0, 1) := by decide +kernel
theorem dX6_back_192 : decode cX6_back 192 = .ok (.aload_n 0, 1) := by decide +kernel
theorem dX6_back_193 : decode cX6_back 193 = .ok (.getfield 455, 3) := by decide +kernel
theorem dX6_back_196 : decode cX6_back 196 = .ok (.putfield 32, 3) := by decide +kernel
theorem dX6_back_199 : decode cX6_back 199 = .ok (.aload_n 0, 1) := by decide +kernel
theorem dX6_back_200 : decode cX6_back 200 = .ok (.aload_n 0, 1) := by decide +kernel
theorem dX6_back_201 : decode cX6_back 201 = .ok (.getfield 458, 3) := by decide +kernel
theorem dX6_back_204 : decode cX6_back 204 = .ok (.putfield 367, 3) := by decide +kernel
theorem dX6_back_207 : decode cX6_back 207 = .ok (.aload_n 0, 1) := by decide +kernel
theorem dX6_back_208 : decode cX6_back 208 = .ok (.getfield 115, 3) := by decide +kernel
theorem dX6_back_211 : decode cX6_back 211 = .ok (.ireturn, 1) := by decide +kernel
theorem dX6_count_0 : decode cX6_count 0 = .ok (.iload_n 1, 1) := by decide +kernel
theorem dX6_count_1 : decode cX6_count 1 = .ok (.i2l, 1) := by decide +kernel
theorem dX6_count_2 : decode cX6_count 2 = .ok (.lconst 0, 1) := by decide +kernel
theorem dX6_count_3 : decode cX6_count 3 = .ok (.ldc2_w 144, 3) := by decide +kernel
theorem dX6_count_6 : decode cX6_count 6 = .ok (.invokestatic 108, 3) := by decide +kernel
theorem dX6_count_9 : decode cX6_count 9 = .ok (.ifCond .ne 6, 3) := by decide +kernel
theorem dX6_count_12 : decode cX6_count 12 = .ok (.bipush (-2), 2) := by decide +kernel
theorem dX6_count_14 : decode cX6_count 14 = .ok (.ireturn, 1) := by decide +kernel
theorem dX6_count_15 : decode cX6_count 15 = .ok (.iload_n 1, 1) := by decide +kernel
theorem dX6_count_16 : decode cX6_count 16 = .ok (.iconst 5, 1) := by decide +kernel
theorem dX6_count_17 : decode cX6_count 17 = .ok (.if_icmp .ge 55, 3) := by decide +kernel
theorem dX6_count_20 : decode cX6_count 20 = .ok (.iload_n 1, 1) := by decide +kernel
theorem dX6_count_21 : decode cX6_count 21 = .ok (.ifCond .ne 10, 3) := by decide +kernel
theorem dX6_count_24 : decode cX6_count 24 = .ok (.aload_n 0, 1) := by decide +kernel
theorem dX6_count_25 : decode cX6_count 25 = .ok (.getfield 112, 3) := by decide +kernel
theorem dX6_count_28 : decode cX6_count 28 = .ok (.goto 43, 3) := by decide +kernel
theorem dX6_count_31 : decode cX6_count 31 = .ok (.iload_n 1, 1) := by decide +kernel
theorem dX6_count_32 : decode cX6_count 32 = .ok (.iconst 1, 1) := by decide +kernel
theorem dX6_count_33 : decode cX6_count 33 = .ok (.if_icmp .ne 10, 3) := by decide +kernel
theorem dX6_count_36 : decode cX6_count 36 = .ok (.aload_n 0, 1) := by decide +kernel
theorem dX6_count_37 : decode cX6_count 37 = .ok (.getfield 115, 3) := by decide +kernel
theorem dX6_count_40 : decode cX6_count 40 = .ok (.goto 31, 3) := by decide +kernel
theorem dX6_count_43 : decode cX6_count 43 = .ok (.iload_n 1, 1) := by decide +kernel
theorem dX6_count_44 : decode cX6_count 44 = .ok (.iconst 2, 1) := by decide +kernel
theorem dX6_count_45 : decode cX6_count 45 = .ok (.if_icmp .ne 10, 3) := by decide +kernel
theorem dX6_count_48 : decode cX6_count 48 = .ok (.aload_n 0, 1) := by decide +kernel
theorem dX6_count_49 : decode cX6_count 49 = .ok (.getfield 103, 3) := by decide +kernel
theorem dX6_count_52 : decode cX6_count 52 = .ok (.goto 19, 3) := by decide +kernel
theorem dX6_count_55 : decode cX6_count 55 = .ok (.iload_n 1, 1) := by decide +kernel
theorem dX6_count_56 : decode cX6_count 56 = .ok (.iconst 3, 1) := by decide +kernel
theorem dX6_count_57 : decode cX6_count 57 = .ok (.if_icmp .ne 10, 3) := by decide +kernel
theorem dX6_count_60 : decode cX6_count 60 = .ok (.aload_n 0, 1) := by decide +kernel
theorem dX6_count_61 : decode cX6_count 61 = .ok (.getfield 156, 3) := by decide +kernel
theorem dX6_count_64 : decode cX6_count 64 = .ok (.goto 7, 3) := by decide +kernel
theorem dX6_count_67 : decode cX6_count 67 = .ok (.aload_n 0, 1) := by decide +kernel
theorem dX6_count_68 : decode cX6_count 68 = .ok (.getfield 367, 3) := by decide +kernel
theorem dX6_count_71 : decode cX6_count 71 = .ok (.ireturn, 1) := by decide +kernel
theorem dX6_count_72 : decode cX6_count 72 = .ok (.aload_n 0, 1) := by decide +kernel
theorem dX6_count_73 : decode cX6_count 73 = .ok (.getfield 23, 3) := by decide +kernel
theorem dX6_count_76 : decode cX6_count 76 = .ok (.iconst 0, 1) := by decide +kernel
theorem dX6_count_77 : decode cX6_count 77 = .ok (.iaload, 1) := by decide +kernel
theorem dX6_count_78 : decode cX6_count 78 = .ok (.aload_n 0, 1) := by decide +kernel
theorem dX6_count_79 : decode cX6_count 79 = .ok (.getfield 23, 3) := by decide +kernel
theorem dX6_count_82 : decode cX6_count 82 = .ok (.iconst 1, 1) := by decide +kernel
theorem dX6_count_83 : decode cX6_count 83 = .ok (.iaload, 1) := by decide +kernel
theorem dX6_count_84 : decode cX6_count 84 = .ok (.iadd, 1) := by decide +kernel
theorem dX6_count_85 : decode cX6_count 85 = .ok (.aload_n 0, 1) := by decide +kernel
theorem dX6_count_86 : decode cX6_count 86 = .ok (.getfield 23, 3) := by decide +kernel
theorem dX6_count_89 : decode cX6_count 89 = .ok (.iconst 2, 1) := by decide +kernel
theorem dX6_count_90 : decode cX6_count 90 = .ok (.iaload, 1) := by decide +kernel
theorem dX6_count_91 : decode cX6_count 91 = .ok (.iadd, 1) := by decide +kernel
theorem dX6_count_92 : decode cX6_count 92 = .ok (.aload_n 0, 1) := by decide +kernel
theorem dX6_count_93 : decode cX6_count 93 = .ok (.getfield 23, 3) := by decide +kernel
theorem dX6_count_96 : decode cX6_count 96 = .ok (.iconst 3, 1) := by decide +kernel
theorem dX6_count_97 : decode cX6_count 97 = .ok (.iaload, 1) := by decide +kernel
theorem dX6_count_98 : decode cX6_count 98 = .ok (.iadd, 1) := by decide +kernel
theorem dX6_count_99 : decode cX6_count 99 = .ok (.ireturn, 1) := by decide +kernel
theorem dX6_isSheet_0 : decode cX6_isSheet 0 = .ok (.iload_n 0, 1) := by decide +kernel
theorem dX6_isSheet_1 : decode cX6_isSheet 1 = .ok (.i2l, 1) := by decide +kernel
theorem dX6_isSheet_2 : decode cX6_isSheet 2 = .ok (.lconst 0, 1) := by decide +kernel
theorem dX6_isSheet_3 : decode cX6_isSheet 3 = .ok (.ldc2_w 106, 3) := by decide +kernel
theorem dX6_isSheet_6 : decode cX6_isSheet 6 = .ok (.invokestatic 108, 3) := by decide +kernel
theorem dX6_isSheet_9 : decode cX6_isSheet 9 = .ok (.ireturn, 1) := by decide +kernel
theorem dX6_sheet_0 : decode cX6_sheet 0 = .ok (.iload_n 1, 1) := by decide +kernel
theorem dX6_sheet_1 : decode cX6_sheet 1 = .ok (.invokestatic 435, 3) := by decide +kernel
theorem dX6_sheet_4 : decode cX6_sheet 4 = .ok (.ifCond .eq 27, 3) := by decide +kernel
theorem dX6_sheet_7 : decode cX6_sheet 7 = .ok (.iload_n 2, 1) := by decide +kernel
theorem dX6_sheet_8 : decode cX6_sheet 8 = .ok (.i2l, 1) := by decide +kernel
theorem dX6_sheet_9 : decode cX6_sheet 9 = .ok (.ldc2_w 134, 3) := by decide +kernel
theorem dX6_sheet_12 : decode cX6_sheet 12 = .ok (.ldc2_w 461, 3) := by decide +kernel
theorem dX6_sheet_15 : decode cX6_sheet 15 = .ok (.invokestatic 108, 3) := by decide +kernel
theorem dX6_sheet_18 : decode cX6_sheet 18 = .ok (.ifCond .eq 13, 3) := by decide +kernel
theorem dX6_sheet_21 : decode cX6_sheet 21 = .ok (.iload_n 2, 1) := by decide +kernel
theorem dX6_sheet_22 : decode cX6_sheet 22 = .ok (.ifCond .lt 12, 3) := by decide +kernel
theorem dX6_sheet_25 : decode cX6_sheet 25 = .ok (.iload_n 3, 1) := by decide +kernel
theorem dX6_sheet_26 : decode cX6_sheet 26 = .ok (.bipush 40, 2) := by decide +kernel
theorem dX6_sheet_28 : decode cX6_sheet 28 = .ok (.if_icmp .le 6, 3) := by decide +kernel
theorem dX6_sheet_31 : decode cX6_sheet 31 = .ok (.bipush (-2), 2) := by decide +kernel
theorem dX6_sheet_33 : decode cX6_sheet 33 = .ok (.ireturn, 1) := by decide +kernel
theorem dX6_sheet_34 : decode cX6_sheet 34 = .ok (.iload_n 2, 1) := by decide +kernel
theorem dX6_sheet_35 : decode cX6_sheet 35 = .ok (.ifCond .lt 10, 3) := by decide +kernel
theorem dX6_sheet_38 : decode cX6_sheet 38 = .ok (.iload_n 3, 1) := by decide +kernel
theorem dX6_sheet_39 : decode cX6_sheet 39 = .ok (.ifCond .ge 6, 3) := by decide +kernel
theorem dX6_sheet_42 : decode cX6_sheet 42 = .ok (.bipush (-14), 2) := by decide +kernel
theorem dX6_sheet_44 : decode cX6_sheet 44 = .ok (.ireturn, 1) := by decide +kernel
theorem dX6_sheet_45 : decode cX6_sheet 45 = .ok (.aload_n 0, 1) := by decide +kernel
theorem dX6_sheet_46 : decode cX6_sheet 46 = .ok (.getfield 86, 3) := by decide +kernel
theorem dX6_sheet_49 : decode cX6_sheet 49 = .ok (.iload_n 1, 1) := by decide +kernel
theorem dX6_sheet_50 : decode cX6_sheet 50 = .ok (.iload_n 2, 1) := by decide +kernel
theorem dX6_sheet_51 : decode cX6_sheet 51 = .ok (.ifCond .lt 7, 3) := by decide +kernel
theorem dX6_sheet_54 : decode cX6_sheet 54 = .ok (.iconst 1, 1) := by decide +kernel
theorem dX6_sheet_55 : decode cX6_sheet 55 = .ok (.goto 4, 3) := by decide +kernel
theorem dX6_sheet_58 : decode cX6_sheet 58 = .ok (.iconst 0, 1) := by decide +kernel
theorem dX6_sheet_59 : decode cX6_sheet 59 = .ok (.bastore, 1) := by decide +kernel
theorem dX6_sheet_60 : decode cX6_sheet 60 = .ok (.aload_n 0, 1) := by decide +kernel
theorem dX6_sheet_61 : decode cX6_sheet 61 = .ok (.getfield 90, 3) := by decide +kernel
theorem dX6_sheet_64 : decode cX6_sheet 64 = .ok (.iload_n 1, 1) := by decide +kernel
theorem dX6_sheet_65 : decode cX6_sheet 65 = .ok (.iload_n 2, 1) := by decide +kernel
theorem dX6_sheet_66 : decode cX6_sheet 66 = .ok (.iastore, 1) := by decide +kernel
theorem dX6_sheet_67 : decode cX6_sheet 67 = .ok (.aload_n 0, 1) := by decide +kernel
theorem dX6_sheet_68 : decode cX6_sheet 68 = .ok (.getfield 93, 3) := by decide +kernel
theorem dX6_sheet_71 : decode cX6_sheet 71 = .ok (.iload_n 1, 1) := by decide +kernel
theorem dX6_sheet_72 : decode cX6_sheet 72 = .ok (.iload_n 3, 1) := by decide +kernel
theorem dX6_sheet_73 : decode cX6_sheet 73 = .ok (.iastore, 1) := by decide +kernel
theorem dX6_sheet_74 : decode cX6_sheet 74 = .ok (.iconst 0, 1) := by decide +kernel
theorem dX6_sheet_75 : decode cX6_sheet 75 = .ok (.istore 4, 2) := by decide +kernel
theorem dX6_sheet_77 : decode cX6_sheet 77 = .ok (.iload 4, 2) := by decide +kernel
theorem dX6_sheet_79 : decode cX6_sheet 79 = .ok (.iload_n 3, 1) := by decide +kernel
theorem dX6_sheet_80 : decode cX6_sheet 80 = .ok (.if_icmp .ge 26, 3) := by decide +kernel
theorem dX6_sheet_83 : decode cX6_sheet 83 = .ok (.iload_n 2, 1) := by decide +kernel
theorem dX6_sheet_84 : decode cX6_sheet 84 = .ok (.ifCond .lt 22, 3) := by decide +kernel
theorem dX6_sheet_87 : decode cX6_sheet 87 = .ok (.aload_n 0, 1) := by decide +kernel
theorem dX6_sheet_88 : decode cX6_sheet 88 = .ok (.getfield 96, 3) := by decide +kernel
theorem dX6_sheet_91 : decode cX6_sheet 91 = .ok (.bipush 40, 2) := by decide +kernel
theorem dX6_sheet_93 : decode cX6_sheet 93 = .ok (.iload_n 1, 1) := by decide +kernel
theorem dX6_sheet_94 : decode cX6_sheet 94 = .ok (.imul, 1) := by decide +kernel
theorem dX6_sheet_95 : decode cX6_sheet 95 = .ok (.iload 4, 2) := by decide +kernel
theorem dX6_sheet_97 : decode cX6_sheet 97 = .ok (.iadd, 1) := by decide +kernel
theorem dX6_sheet_98 : decode cX6_sheet 98 = .ok (.iconst 0, 1) := by decide +kernel
theorem dX6_sheet_99 : decode cX6_sheet 99 = .ok (.iastore, 1) := by decide +kernel
theorem dX6_sheet_100 : decode cX6_sheet 100 = .ok (.iinc 4 1, 3) := by decide +kernel
theorem dX6_sheet_103 : decode cX6_sheet 103 = .ok (.goto (-26), 3) := by decide +kernel
theorem dX6_sheet_106 : decode cX6_sheet 106 = .ok (.iconst 1, 1) := by decide +kernel
theorem dX6_sheet_107 : decode cX6_sheet 107 = .ok (.ireturn, 1) := by decide +kernel
theorem dX6_cell_0 : decode cX6_cell 0 = .ok (.iload_n 1, 1) := by decide +kernel
theorem dX6_cell_1 : decode cX6_cell 1 = .ok (.invokestatic 435, 3) := by decide +kernel
theorem dX6_cell_4 : decode cX6_cell 4 = .ok (.ifCond .ne 6, 3) := by decide +kernel
theorem dX6_cell_7 : decode cX6_cell 7 = .ok (.bipush (-2), 2) := by decide +kernel
theorem dX6_cell_9 : decode cX6_cell 9 = .ok (.ireturn, 1) := by decide +kernel
theorem dX6_cell_10 : decode cX6_cell 10 = .ok (.aload_n 0, 1) := by decide +kernel
theorem dX6_cell_11 : decode cX6_cell 11 = .ok (.getfield 86, 3) := by decide +kernel
theorem dX6_cell_14 : decode cX6_cell 14 = .ok (.iload_n 1, 1) := by decide +kernel
theorem dX6_cell_15 : decode cX6_cell 15 = .ok (.baload, 1) := by decide +kernel
theorem dX6_cell_16 : decode cX6_cell 16 = .ok (.ifCond .ne 6, 3) := by decide +kernel
theorem dX6_cell_19 : decode cX6_cell 19 = .ok (.bipush (-11), 2) := by decide +kernel
theorem dX6_cell_21 : decode cX6_cell 21 = .ok (.ireturn, 1) := by decide +kernel
theorem dX6_cell_22 : decode cX6_cell 22 = .ok (.iload_n 2, 1) := by decide +kernel
theorem dX6_cell_23 : decode cX6_cell 23 = .ok (.i2l, 1) := by decide +kernel
theorem dX6_cell_24 : decode cX6_cell 24 = .ok (.lconst 0, 1) := by decide +kernel
theorem dX6_cell_25 : decode cX6_cell 25 = .ok (.aload_n 0, 1) := by decide +kernel
theorem dX6_cell_26 : decode cX6_cell 26 = .ok (.getfield 93, 3) := by decide +kernel
theorem dX6_cell_29 : decode cX6_cell 29 = .ok (.iload_n 1, 1) := by decide +kernel
theorem dX6_cell_30 : decode cX6_cell 30 = .ok (.iaload, 1) := by decide +kernel
theorem dX6_cell_31 : decode cX6_cell 31 = .ok (.iconst 1, 1) := by decide +kernel
theorem dX6_cell_32 : decode cX6_cell 32 = .ok (.isub, 1) := by decide +kernel
theorem dX6_cell_33 : decode cX6_cell 33 = .ok (.i2l, 1) := by decide +kernel
theorem dX6_cell_34 : decode cX6_cell 34 = .ok (.invokestatic 108, 3) := by decide +kernel
theorem dX6_cell_37 : decode cX6_cell 37 = .ok (.ifCond .ne 6, 3) := by decide +kernel
theorem dX6_cell_40 : decode cX6_cell 40 = .ok (.bipush (-12), 2) := by decide +kernel
theorem dX6_cell_42 : decode cX6_cell 42 = .ok (.ireturn, 1) := by decide +kernel
theorem dX6_cell_43 : decode cX6_cell 43 = .ok (.aload_n 0, 1) := by decide +kernel
theorem dX6_cell_44 : decode cX6_cell 44 = .ok (.getfield 96, 3) := by decide +kernel
theorem dX6_cell_47 : decode cX6_cell 47 = .ok (.bipush 40, 2) := by decide +kernel
theorem dX6_cell_49 : decode cX6_cell 49 = .ok (.iload_n 1, 1) := by decide +kernel
theorem dX6_cell_50 : decode cX6_cell 50 = .ok (.imul, 1) := by decide +kernel
theorem dX6_cell_51 : decode cX6_cell 51 = .ok (.iload_n 2, 1) := by decide +kernel
theorem dX6_cell_52 : decode cX6_cell 52 = .ok (.iadd, 1) := by decide +kernel
theorem dX6_cell_53 : decode cX6_cell 53 = .ok (.aload_n 0, 1) := by decide +kernel
theorem dX6_cell_54 : decode cX6_cell 54 = .ok (.getfield 90, 3) := by decide +kernel
theorem dX6_cell_57 : decode cX6_cell 57 = .ok (.iload_n 1, 1) := by decide +kernel
theorem dX6_cell_58 : decode cX6_cell 58 = .ok (.iaload, 1) := by decide +kernel
theorem dX6_cell_59 : decode cX6_cell 59 = .ok (.ifCond .ne 8, 3) := by decide +kernel
theorem dX6_cell_62 : decode cX6_cell 62 = .ok (.iload_n 3, 1) := by decide +kernel
theorem dX6_cell_63 : decode cX6_cell 63 = .ok (.i2b, 1) := by decide +kernel
theorem dX6_cell_64 : decode cX6_cell 64 = .ok (.goto 19, 3) := by decide +kernel
theorem dX6_cell_67 : decode cX6_cell 67 = .ok (.aload_n 0, 1) := by decide +kernel
theorem dX6_cell_68 : decode cX6_cell 68 = .ok (.getfield 90, 3) := by decide +kernel
theorem dX6_cell_71 : decode cX6_cell 71 = .ok (.iload_n 1, 1) := by decide +kernel
theorem dX6_cell_72 : decode cX6_cell 72 = .ok (.iaload, 1) := by decide +kernel
theorem dX6_cell_73 : decode cX6_cell 73 = .ok (.iconst 1, 1) := by decide +kernel
theorem dX6_cell_74 : decode cX6_cell 74 = .ok (.if_icmp .ne 8, 3) := by decide +kernel
theorem dX6_cell_77 : decode cX6_cell 77 = .ok (.iload_n 3, 1) := by decide +kernel
theorem dX6_cell_78 : decode cX6_cell 78 = .ok (.i2s, 1) := by decide +kernel
theorem dX6_cell_79 : decode cX6_cell 79 = .ok (.goto 4, 3) := by decide +kernel
theorem dX6_cell_82 : decode cX6_cell 82 = .ok (.iload_n 3, 1) := by decide +kernel
theorem dX6_cell_83 : decode cX6_cell 83 = .ok (.iastore, 1) := by decide +kernel
theorem dX6_cell_84 : decode cX6_cell 84 = .ok (.iconst 1, 1) := by decide +kernel
theorem dX6_cell_85 : decode cX6_cell 85 = .ok (.ireturn, 1) := by decide +kernel
theorem dX6_copy_0 : decode cX6_copy 0 = .ok (.iload_n 1, 1) := by decide +kernel
theorem dX6_copy_1 : decode cX6_copy 1 = .ok (.invokestatic 435, 3) := by decide +kernel
theorem dX6_copy_4 : decode cX6_copy 4 = .ok (.ifCond .eq 10, 3) := by decide +kernel
theorem dX6_copy_7 : decode cX6_copy 7 = .ok (.iload_n 3, 1) := by decide +kernel
theorem dX6_copy_8 : decode cX6_copy 8 = .ok (.invokestatic 435, 3) := by decide +kernel
theorem dX6_copy_11 : decode cX6_copy 11 = .ok (.ifCond .ne 6, 3) := by decide +kernel
theorem dX6_copy_14 : decode cX6_copy 14 = .ok (.bipush (-2), 2) := by decide +kernel
theorem dX6_copy_16 : decode cX6_copy 16 = .ok (.ireturn, 1) := by decide +kernel
theorem dX6_copy_17 : decode cX6_copy 17 = .ok (.aload_n 0, 1) := by decide +kernel
theorem dX6_copy_18 : decode cX6_copy 18 = .ok (.getfield 86, 3) := by decide +kernel
theorem dX6_copy_21 : decode cX6_copy 21 = .ok (.iload_n 1, 1) := by decide +kernel
theorem dX6_copy_22 : decode cX6_copy 22 = .ok (.baload, 1) := by decide +kernel
theorem dX6_copy_23 : decode cX6_copy 23 = .ok (.ifCond .eq 12, 3) := by decide +kernel
theorem dX6_copy_26 : decode cX6_copy 26 = .ok (.aload_n 0, 1) := by decide +kernel
theorem dX6_copy_27 : decode cX6_copy 27 = .ok (.getfield 86, 3) := by decide +kernel
theorem dX6_copy_30 : decode cX6_copy 30 = .ok (.iload_n 3, 1) := by decide +kernel
theorem dX6_copy_31 : decode cX6_copy 31 = .ok (.baload, 1) := by decide +kernel
theorem dX6_copy_32 : decode cX6_copy 32 = .ok (.ifCond .ne 6, 3) := by decide +kernel
theorem dX6_copy_35 : decode cX6_copy 35 = .ok (.bipush (-11), 2) := by decide +kernel
theorem dX6_copy_37 : decode cX6_copy 37 = .ok (.ireturn, 1) := by decide +kernel
theorem dX6_copy_38 : decode cX6_copy 38 = .ok (.aload_n 0, 1) := by decide +kernel
theorem dX6_copy_39 : decode cX6_copy 39 = .ok (.getfield 90, 3) := by decide +kernel
theorem dX6_copy_42 : decode cX6_copy 42 = .ok (.iload_n 1, 1) := by decide +kernel
theorem dX6_copy_43 : decode cX6_copy 43 = .ok (.iaload, 1) := by decide +kernel
theorem dX6_copy_44 : decode cX6_copy 44 = .ok (.aload_n 0, 1) := by decide +kernel
theorem dX6_copy_45 : decode cX6_copy 45 = .ok (.getfield 90, 3) := by decide +kernel
theorem dX6_copy_48 : decode cX6_copy 48 = .ok (.iload_n 3, 1) := by decide +kernel
theorem dX6_copy_49 : decode cX6_copy 49 = .ok (.iaload, 1) := by decide +kernel
theorem dX6_copy_50 : decode cX6_copy 50 = .ok (.if_icmp .eq 6, 3) := by decide +kernel
theorem dX6_copy_53 : decode cX6_copy 53 = .ok (.bipush (-13), 2) := by decide +kernel
theorem dX6_copy_55 : decode cX6_copy 55 = .ok (.ireturn, 1) := by decide +kernel
theorem dX6_copy_56 : decode cX6_copy 56 = .ok (.iload 5, 2) := by decide +kernel
theorem dX6_copy_58 : decode cX6_copy 58 = .ok (.ifCond .lt 39, 3) := by decide +kernel
theorem dX6_copy_61 : decode cX6_copy 61 = .ok (.iload_n 2, 1) := by decide +kernel
theorem dX6_copy_62 : decode cX6_copy 62 = .ok (.ifCond .lt 35, 3) := by decide +kernel
theorem dX6_copy_65 : decode cX6_copy 65 = .ok (.iload 4, 2) := by decide +kernel
theorem dX6_copy_67 : decode cX6_copy 67 = .ok (.ifCond .lt 30, 3) := by decide +kernel
theorem dX6_copy_70 : decode cX6_copy 70 = .ok (.iload_n 2, 1) := by decide +kernel
theorem dX6_copy_71 : decode cX6_copy 71 = .ok (.aload_n 0, 1) := by decide +kernel
theorem dX6_copy_72 : decode cX6_copy 72 = .ok (.getfield 93, 3) := by decide +kernel
theorem dX6_copy_75 : decode cX6_copy 75 = .ok (.iload_n 1, 1) := by decide +kernel
theorem dX6_copy_76 : decode cX6_copy 76 = .ok (.iaload, 1) := by decide +kernel
theorem dX6_copy_77 : decode cX6_copy 77 = .ok (.iload 5, 2) := by decide +kernel
theorem dX6_copy_79 : decode cX6_copy 79 = .ok (.isub, 1) := by decide +kernel
theorem dX6_copy_80 : decode cX6_copy 80 = .ok (.if_icmp .gt 17, 3) := by decide +kernel
theorem dX6_copy_83 : decode cX6_copy 83 = .ok (.iload 4, 2) := by decide +kernel
theorem dX6_copy_85 : decode cX6_copy 85 = .ok (.aload_n 0, 1) := by decide +kernel
theorem dX6_copy_86 : decode cX6_copy 86 = .ok (.getfield 93, 3) := by decide +kernel
theorem dX6_copy_89 : decode cX6_copy 89 = .ok (.iload_n 3, 1) := by decide +kernel
theorem dX6_copy_90 : decode cX6_copy 90 = .ok (.iaload, 1) := by decide +kernel
theorem dX6_copy_91 : decode cX6_copy 91 = .ok (.iload 5, 2) := by decide +kernel
theorem dX6_copy_93 : decode cX6_copy 93 = .ok (.isub, 1) := by decide +kernel
theorem dX6_copy_94 : decode cX6_copy 94 = .ok (.if_icmp .le 6, 3) := by decide +kernel
theorem dX6_copy_97 : decode cX6_copy 97 = .ok (.bipush (-12), 2) := by decide +kernel
theorem dX6_copy_99 : decode cX6_copy 99 = .ok (.ireturn, 1) := by decide +kernel
theorem dX6_copy_100 : decode cX6_copy 100 = .ok (.iload_n 1, 1) := by decide +kernel
theorem dX6_copy_101 : decode cX6_copy 101 = .ok (.iload_n 3, 1) := by decide +kernel
theorem dX6_copy_102 : decode cX6_copy 102 = .ok (.if_icmp .ne 13, 3) := by decide +kernel
theorem dX6_copy_105 : decode cX6_copy 105 = .ok (.iload_n 2, 1) := by decide +kernel
theorem dX6_copy_106 : decode cX6_copy 106 = .ok (.iload 4, 2) := by decide +kernel
theorem dX6_copy_108 : decode cX6_copy 108 = .ok (.if_icmp .ge 7, 3) := by decide +kernel
theorem dX6_copy_111 : decode cX6_copy 111 = .ok (.iconst 1, 1) := by decide +kernel
theorem dX6_copy_112 : decode cX6_copy 112 = .ok (.goto 4, 3) := by decide +kernel
theorem dX6_copy_115 : decode cX6_copy 115 = .ok (.iconst 0, 1) := by decide +kernel
theorem dX6_copy_116 : decode cX6_copy 116 = .ok (.istore 6, 2) := by decide +kernel
theorem dX6_copy_118 : decode cX6_copy 118 = .ok (.iconst 0, 1) := by decide +kernel
theorem dX6_copy_119 : decode cX6_copy 119 = .ok (.istore 7, 2) := by decide +kernel
theorem dX6_copy_121 : decode cX6_copy 121 = .ok (.iload 7, 2) := by decide +kernel
theorem dX6_copy_123 : decode cX6_copy 123 = .ok (.iload 5, 2) := by decide +kernel
theorem dX6_copy_125 : decode cX6_copy 125 = .ok (.if_icmp .ge 57, 3) := by decide +kernel
theorem dX6_copy_128 : decode cX6_copy 128 = .ok (.iload 6, 2) := by decide +kernel
theorem dX6_copy_130 : decode cX6_copy 130 = .ok (.ifCond .eq 13, 3) := by decide +kernel
theorem dX6_copy_133 : decode cX6_copy 133 = .ok (.iload 5, 2) := by decide +kernel
theorem dX6_copy_135 : decode cX6_copy 135 = .ok (.iconst 1, 1) := by decide +kernel
theorem dX6_copy_136 : decode cX6_copy 136 = .ok (.isub, 1) := by decide +kernel
theorem dX6_copy_137 : decode cX6_copy 137 = .ok (.iload 7, 2) := by decide +kernel
theorem dX6_copy_139 : decode cX6_copy 139 = .ok (.isub, 1) := by decide +kernel
theorem dX6_copy_140 : decode cX6_copy 140 = .ok (.goto 5, 3) := by decide +kernel
theorem dX6_copy_143 : decode cX6_copy 143 = .ok (.iload 7, 2) := by decide +kernel
theorem dX6_copy_145 : decode cX6_copy 145 = .ok (.istore 8, 2) := by decide +kernel
theorem dX6_copy_147 : decode cX6_copy 147 = .ok (.aload_n 0, 1) := by decide +kernel
theorem dX6_copy_148 : decode cX6_copy 148 = .ok (.getfield 96, 3) := by decide +kernel
theorem dX6_copy_151 : decode cX6_copy 151 = .ok (.bipush 40, 2) := by decide +kernel
theorem dX6_copy_153 : decode cX6_copy 153 = .ok (.iload_n 3, 1) := by decide +kernel
theorem dX6_copy_154 : decode cX6_copy 154 = .ok (.imul, 1) := by decide +kernel
theorem dX6_copy_155 : decode cX6_copy 155 = .ok (.iload 4, 2) := by decide +kernel
theorem dX6_copy_157 : decode cX6_copy 157 = .ok (.iadd, 1) := by decide +kernel
theorem dX6_copy_158 : decode cX6_copy 158 = .ok (.iload 8, 2) := by decide +kernel
theorem dX6_copy_160 : decode cX6_copy 160 = .ok (.iadd, 1) := by decide +kernel
theorem dX6_copy_161 : decode cX6_copy 161 = .ok (.aload_n 0, 1) := by decide +kernel
theorem dX6_copy_162 : decode cX6_copy 162 = .ok (.getfield 96, 3) := by decide +kernel
theorem dX6_copy_165 : decode cX6_copy 165 = .ok (.bipush 40, 2) := by decide +kernel
theorem dX6_copy_167 : decode cX6_copy 167 = .ok (.iload_n 1, 1) := by decide +kernel
theorem dX6_copy_168 : decode cX6_copy 168 = .ok (.imul, 1) := by decide +kernel
theorem dX6_copy_169 : decode cX6_copy 169 = .ok (.iload_n 2, 1) := by decide +kernel
theorem dX6_copy_170 : decode cX6_copy 170 = .ok (.iadd, 1) := by decide +kernel
theorem dX6_copy_171 : decode cX6_copy 171 = .ok (.iload 8, 2) := by decide +kernel
theorem dX6_copy_173 : decode cX6_copy 173 = .ok (.iadd, 1) := by decide +kernel
theorem dX6_copy_174 : decode cX6_copy 174 = .ok (.iaload, 1) := by decide +kernel
theorem dX6_copy_175 : decode cX6_copy 175 = .ok (.iastore, 1) := by decide +kernel
theorem dX6_copy_176 : decode cX6_copy 176 = .ok (.iinc 7 1, 3) := by decide +kernel
theorem dX6_copy_179 : decode cX6_copy 179 = .ok (.goto (-58), 3) := by decide +kernel
theorem dX6_copy_182 : decode cX6_copy 182 = .ok (.iload 5, 2) := by decide +kernel
theorem dX6_copy_184 : decode cX6_copy 184 = .ok (.ireturn, 1) := by decide +kernel
theorem dX6_visits_0 : decode cX6_visits 0 = .ok (.iload_n 1, 1) := by decide +kernel
theorem dX6_visits_1 : decode cX6_visits 1 = .ok (.invokestatic 435, 3) := by decide +kernel
theorem dX6_visits_4 : decode cX6_visits 4 = .ok (.ifCond .eq 28, 3) := by decide +kernel
theorem dX6_visits_7 : decode cX6_visits 7 = .ok (.iload_n 2, 1) := by decide +kernel
theorem dX6_visits_8 : decode cX6_visits 8 = .ok (.i2l, 1) := by decide +kernel
theorem dX6_visits_9 : decode cX6_visits 9 = .ok (.lconst 0, 1) := by decide +kernel
theorem dX6_visits_10 : decode cX6_visits 10 = .ok (.ldc2_w 461, 3) := by decide +kernel
theorem dX6_visits_13 : decode cX6_visits 13 = .ok (.invokestatic 108, 3) := by decide +kernel
theorem dX6_visits_16 : decode cX6_visits 16 = .ok (.ifCond .eq 16, 3) := by decide +kernel
theorem dX6_visits_19 : decode cX6_visits 19 = .ok (.iload 4, 2) := by decide +kernel
theorem dX6_visits_21 : decode cX6_visits 21 = .ok (.i2l, 1) := by decide +kernel
theorem dX6_visits_22 : decode cX6_visits 22 = .ok (.lconst 0, 1) := by decide +kernel
theorem dX6_visits_23 : decode cX6_visits 23 = .ok (.ldc2_w 463, 3) := by decide +kernel
theorem dX6_visits_26 : decode cX6_visits 26 = .ok (.invokestatic 108, 3) := by decide +kernel
theorem dX6_visits_29 : decode cX6_visits 29 = .ok (.ifCond .ne 6, 3) := by decide +kernel
theorem dX6_visits_32 : decode cX6_visits 32 = .ok (.bipush (-2), 2) := by decide +kernel
theorem dX6_visits_34 : decode cX6_visits 34 = .ok (.ireturn, 1) := by decide +kernel
theorem dX6_visits_35 : decode cX6_visits 35 = .ok (.aload_n 0, 1) := by decide +kernel
theorem dX6_visits_36 : decode cX6_visits 36 = .ok (.getfield 86, 3) := by decide +kernel
theorem dX6_visits_39 : decode cX6_visits 39 = .ok (.iload_n 1, 1) := by decide +kernel
theorem dX6_visits_40 : decode cX6_visits 40 = .ok (.baload, 1) := by decide +kernel
theorem dX6_visits_41 : decode cX6_visits 41 = .ok (.ifCond .eq 16, 3) := by decide +kernel
theorem dX6_visits_44 : decode cX6_visits 44 = .ok (.aload_n 0, 1) := by decide +kernel
theorem dX6_visits_45 : decode cX6_visits 45 = .ok (.getfield 90, 3) := by decide +kernel
theorem dX6_visits_48 : decode cX6_visits 48 = .ok (.iload_n 1, 1) := by decide +kernel
theorem dX6_visits_49 : decode cX6_visits 49 = .ok (.iaload, 1) := by decide +kernel
theorem dX6_visits_50 : decode cX6_visits 50 = .ok (.iload_n 2, 1) := by decide +kernel
theorem dX6_visits_51 : decode cX6_visits 51 = .ok (.if_icmp .eq 6, 3) := by decide +kernel
theorem dX6_visits_54 : decode cX6_visits 54 = .ok (.bipush (-13), 2) := by decide +kernel
theorem dX6_visits_56 : decode cX6_visits 56 = .ok (.ireturn, 1) := by decide +kernel
theorem dX6_visits_57 : decode cX6_visits 57 = .ok (.aload_n 0, 1) := by decide +kernel
theorem dX6_visits_58 : decode cX6_visits 58 = .ok (.getfield 86, 3) := by decide +kernel
theorem dX6_visits_61 : decode cX6_visits 61 = .ok (.iload_n 1, 1) := by decide +kernel
theorem dX6_visits_62 : decode cX6_visits 62 = .ok (.baload, 1) := by decide +kernel
theorem dX6_visits_63 : decode cX6_visits 63 = .ok (.ifCond .ne 6, 3) := by decide +kernel
theorem dX6_visits_66 : decode cX6_visits 66 = .ok (.bipush (-11), 2) := by decide +kernel
theorem dX6_visits_68 : decode cX6_visits 68 = .ok (.ireturn, 1) := by decide +kernel
theorem dX6_visits_69 : decode cX6_visits 69 = .ok (.iconst 0, 1) := by decide +kernel
theorem dX6_visits_70 : decode cX6_visits 70 = .ok (.istore 5, 2) := by decide +kernel
theorem dX6_visits_72 : decode cX6_visits 72 = .ok (.iconst 0, 1) := by decide +kernel
theorem dX6_visits_73 : decode cX6_visits 73 = .ok (.istore 6, 2) := by decide +kernel
theorem dX6_visits_75 : decode cX6_visits 75 = .ok (.iload 6, 2) := by decide +kernel
theorem dX6_visits_77 : decode cX6_visits 77 = .ok (.iload 4, 2) := by decide +kernel
theorem dX6_visits_79 : decode cX6_visits 79 = .ok (.if_icmp .ge 79, 3) := by decide +kernel
theorem dX6_visits_82 : decode cX6_visits 82 = .ok (.iload_n 3, 1) := by decide +kernel
theorem dX6_visits_83 : decode cX6_visits 83 = .ok (.ifCond .lt 20, 3) := by decide +kernel
theorem dX6_visits_86 : decode cX6_visits 86 = .ok (.iload_n 3, 1) := by decide +kernel
theorem dX6_visits_87 : decode cX6_visits 87 = .ok (.aload_n 0, 1) := by decide +kernel
theorem dX6_visits_88 : decode cX6_visits 88 = .ok (.getfield 93, 3) := by decide +kernel
theorem dX6_visits_91 : decode cX6_visits 91 = .ok (.iload_n 1, 1) := by decide +kernel
theorem dX6_visits_92 : decode cX6_visits 92 = .ok (.iaload, 1) := by decide +kernel
theorem dX6_visits_93 : decode cX6_visits 93 = .ok (.iconst 2, 1) := by decide +kernel
theorem dX6_visits_94 : decode cX6_visits 94 = .ok (.iload 6, 2) := by decide +kernel
theorem dX6_visits_96 : decode cX6_visits 96 = .ok (.imul, 1) := by decide +kernel
theorem dX6_visits_97 : decode cX6_visits 97 = .ok (.isub, 1) := by decide +kernel
theorem dX6_visits_98 : decode cX6_visits 98 = .ok (.iconst 2, 1) := by decide +kernel
theorem dX6_visits_99 : decode cX6_visits 99 = .ok (.isub, 1) := by decide +kernel
theorem dX6_visits_100 : decode cX6_visits 100 = .ok (.if_icmp .le 6, 3) := by decide +kernel
theorem dX6_visits_103 : decode cX6_visits 103 = .ok (.bipush (-12), 2) := by decide +kernel
theorem dX6_visits_105 : decode cX6_visits 105 = .ok (.ireturn, 1) := by decide +kernel
theorem dX6_visits_106 : decode cX6_visits 106 = .ok (.bipush 40, 2) := by decide +kernel
theorem dX6_visits_108 : decode cX6_visits 108 = .ok (.iload_n 1, 1) := by decide +kernel
theorem dX6_visits_109 : decode cX6_visits 109 = .ok (.imul, 1) := by decide +kernel
theorem dX6_visits_110 : decode cX6_visits 110 = .ok (.iload_n 3, 1) := by decide +kernel
theorem dX6_visits_111 : decode cX6_visits 111 = .ok (.iadd, 1) := by decide +kernel
theorem dX6_visits_112 : decode cX6_visits 112 = .ok (.iconst 2, 1) := by decide +kernel
theorem dX6_visits_113 : decode cX6_visits 113 = .ok (.iload 6, 2) := by decide +kernel
theorem dX6_visits_115 : decode cX6_visits 115 = .ok (.imul, 1) := by decide +kernel
theorem dX6_visits_116 : decode cX6_visits 116 = .ok (.iadd, 1) := by decide +kernel
theorem dX6_visits_117 : decode cX6_visits 117 = .ok (.istore 7, 2) := by decide +kernel
theorem dX6_visits_119 : decode cX6_visits 119 = .ok (.iload 5, 2) := by decide +kernel
theorem dX6_visits_121 : decode cX6_visits 121 = .ok (.aload_n 0, 1) := by decide +kernel
theorem dX6_visits_122 : decode cX6_visits 122 = .ok (.aload_n 0, 1) := by decide +kernel
theorem dX6_visits_123 : decode cX6_visits 123 = .ok (.getfield 96, 3) := by decide +kernel
theorem dX6_visits_126 : decode cX6_visits 126 = .ok (.iload 7, 2) := by decide +kernel
theorem dX6_visits_128 : decode cX6_visits 128 = .ok (.iaload, 1) := by decide +kernel
theorem dX6_visits_129 : decode cX6_visits 129 = .ok (.aload_n 0, 1) := by decide +kernel
theorem dX6_visits_130 : decode cX6_visits 130 = .ok (.getfield 96, 3) := by decide +kernel
theorem dX6_visits_133 : decode cX6_visits 133 = .ok (.iload 7, 2) := by decide +kernel
theorem dX6_visits_135 : decode cX6_visits 135 = .ok (.iconst 1, 1) := by decide +kernel
theorem dX6_visits_136 : decode cX6_visits 136 = .ok (.iadd, 1) := by decide +kernel
theorem dX6_visits_137 : decode cX6_visits 137 = .ok (.iaload, 1) := by decide +kernel
theorem dX6_visits_138 : decode cX6_visits 138 = .ok (.invokevirtual 465, 3) := by decide +kernel
theorem dX6_visits_141 : decode cX6_visits 141 = .ok (.ifCond .lt 7, 3) := by decide +kernel
theorem dX6_visits_144 : decode cX6_visits 144 = .ok (.iconst 1, 1) := by decide +kernel
theorem dX6_visits_145 : decode cX6_visits 145 = .ok (.goto 4, 3) := by decide +kernel
theorem dX6_visits_148 : decode cX6_visits 148 = .ok (.iconst 0, 1) := by decide +kernel
theorem dX6_visits_149 : decode cX6_visits 149 = .ok (.iadd, 1) := by decide +kernel
theorem dX6_visits_150 : decode cX6_visits 150 = .ok (.istore 5, 2) := by decide +kernel
theorem dX6_visits_152 : decode cX6_visits 152 = .ok (.iinc 6 1, 3) := by decide +kernel
theorem dX6_visits_155 : decode cX6_visits 155 = .ok (.goto (-80), 3) := by decide +kernel
theorem dX6_visits_158 : decode cX6_visits 158 = .ok (.iload 5, 2) := by decide +kernel
theorem dX6_visits_160 : decode cX6_visits 160 = .ok (.ireturn, 1) := by decide +kernel
theorem dX6_over_0 : decode cX6_over 0 = .ok (.iload_n 0, 1) := by decide +kernel
theorem dX6_over_1 : decode cX6_over 1 = .ok (.ifCond .ne 7, 3) := by decide +kernel
theorem dX6_over_4 : decode cX6_over 4 = .ok (.iconst (-1), 1) := by decide +kernel
theorem dX6_over_5 : decode cX6_over 5 = .ok (.goto 22, 3) := by decide +kernel
theorem dX6_over_8 : decode cX6_over 8 = .ok (.iload_n 0, 1) := by decide +kernel
theorem dX6_over_9 : decode cX6_over 9 = .ok (.iconst 3, 1) := by decide +kernel
theorem dX6_over_10 : decode cX6_over 10 = .ok (.if_icmp .ne 7, 3) := by decide +kernel
theorem dX6_over_13 : decode cX6_over 13 = .ok (.iconst 1, 1) := by decide +kernel
theorem dX6_over_14 : decode cX6_over 14 = .ok (.goto 13, 3) := by decide +kernel
theorem dX6_over_17 : decode cX6_over 17 = .ok (.iload_n 0, 1) := by decide +kernel
theorem dX6_over_18 : decode cX6_over 18 = .ok (.iconst 4, 1) := by decide +kernel
theorem dX6_over_19 : decode cX6_over 19 = .ok (.if_icmp .ne 7, 3) := by decide +kernel
theorem dX6_over_22 : decode cX6_over 22 = .ok (.iconst 2, 1) := by decide +kernel
theorem dX6_over_23 : decode cX6_over 23 = .ok (.goto 4, 3) := by decide +kernel
theorem dX6_over_26 : decode cX6_over 26 = .ok (.iconst 0, 1) := by decide +kernel
theorem dX6_over_27 : decode cX6_over 27 = .ok (.ireturn, 1) := by decide +kernel
theorem dX6_taken_0 : decode cX6_taken 0 = .ok (.iload_n 2, 1) := by decide +kernel
theorem dX6_taken_1 : decode cX6_taken 1 = .ok (.i2l, 1) := by decide +kernel
theorem dX6_taken_2 : decode cX6_taken 2 = .ok (.lconst 0, 1) := by decide +kernel
theorem dX6_taken_3 : decode cX6_taken 3 = .ok (.ldc2_w 144, 3) := by decide +kernel
theorem dX6_taken_6 : decode cX6_taken 6 = .ok (.invokestatic 108, 3) := by decide +kernel
theorem dX6_taken_9 : decode cX6_taken 9 = .ok (.ifCond .ne 6, 3) := by decide +kernel
theorem dX6_taken_12 : decode cX6_taken 12 = .ok (.bipush (-2), 2) := by decide +kernel
theorem dX6_taken_14 : decode cX6_taken 14 = .ok (.ireturn, 1) := by decide +kernel
theorem dX6_taken_15 : decode cX6_taken 15 = .ok (.aload_n 0, 1) := by decide +kernel
theorem dX6_taken_16 : decode cX6_taken 16 = .ok (.iload_n 1, 1) := by decide +kernel
theorem dX6_taken_17 : decode cX6_taken 17 = .ok (.invokevirtual 122, 3) := by decide +kernel
theorem dX6_taken_20 : decode cX6_taken 20 = .ok (.ifCond .ne 6, 3) := by decide +kernel
theorem dX6_taken_23 : decode cX6_taken 23 = .ok (.bipush (-11), 2) := by decide +kernel
theorem dX6_taken_25 : decode cX6_taken 25 = .ok (.ireturn, 1) := by decide +kernel
theorem dX6_taken_26 : decode cX6_taken 26 = .ok (.aload_n 0, 1) := by decide +kernel
theorem dX6_taken_27 : decode cX6_taken 27 = .ok (.getfield 35, 3) := by decide +kernel
theorem dX6_taken_30 : decode cX6_taken 30 = .ok (.iload_n 1, 1) := by decide +kernel
theorem dX6_taken_31 : decode cX6_taken 31 = .ok (.iaload, 1) := by decide +kernel
theorem dX6_taken_32 : decode cX6_taken 32 = .ok (.istore_n 3, 1) := by decide +kernel
theorem dX6_taken_33 : decode cX6_taken 33 = .ok (.iload_n 3, 1) := by decide +kernel
theorem dX6_taken_34 : decode cX6_taken 34 = .ok (.iconst (-1), 1) := by decide +kernel
theorem dX6_taken_35 : decode cX6_taken 35 = .ok (.if_icmp .eq 16, 3) := by decide +kernel
theorem dX6_taken_38 : decode cX6_taken 38 = .ok (.iload_n 3, 1) := by decide +kernel
theorem dX6_taken_39 : decode cX6_taken 39 = .ok (.iload_n 2, 1) := by decide +kernel
theorem dX6_taken_40 : decode cX6_taken 40 = .ok (.if_icmp .eq 11, 3) := by decide +kernel
theorem dX6_taken_43 : decode cX6_taken 43 = .ok (.iload_n 3, 1) := by decide +kernel
theorem dX6_taken_44 : decode cX6_taken 44 = .ok (.invokestatic 468, 3) := by decide +kernel
theorem dX6_taken_47 : decode cX6_taken 47 = .ok (.istore_n 3, 1) := by decide +kernel
theorem dX6_taken_48 : decode cX6_taken 48 = .ok (.goto (-15), 3) := by decide +kernel
theorem dX6_taken_51 : decode cX6_taken 51 = .ok (.iload_n 3, 1) := by decide +kernel
theorem dX6_taken_52 : decode cX6_taken 52 = .ok (.iload_n 2, 1) := by decide +kernel
theorem dX6_taken_53 : decode cX6_taken 53 = .ok (.if_icmp .ne 12, 3) := by decide +kernel
theorem dX6_taken_56 : decode cX6_taken 56 = .ok (.aload_n 0, 1) := by decide +kernel
theorem dX6_taken_57 : decode cX6_taken 57 = .ok (.getfield 38, 3) := by decide +kernel
theorem dX6_taken_60 : decode cX6_taken 60 = .ok (.iload_n 1, 1) := by decide +kernel
theorem dX6_taken_61 : decode cX6_taken 61 = .ok (.iaload, 1) := by decide +kernel
theorem dX6_taken_62 : decode cX6_taken 62 = .ok (.goto 5, 3) := by decide +kernel
theorem dX6_taken_65 : decode cX6_taken 65 = .ok (.bipush (-13), 2) := by decide +kernel
theorem dX6_taken_67 : decode cX6_taken 67 = .ok (.ireturn, 1) := by decide +kernel
