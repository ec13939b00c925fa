theorem dL_sound_613 : decode cL_sound 613 = .ok (.if_icmp .ne 85, 3) := by decide +kernel
theorem dL_sound_616 : decode cL_sound 616 = .ok (.aload_n 0, 1) := by decide +kernel
theorem dL_sound_617 : decode cL_sound 617 = .ok (.iconst 4, 1) := by decide +kernel
theorem dL_sound_618 : decode cL_sound 618 = .ok (.invokestatic 66, 3) := by decide +kernel
theorem dL_sound_621 : decode cL_sound 621 = .ok (.iload 10, 2) := by decide +kernel
theorem dL_sound_623 : decode cL_sound 623 = .ok (.if_icmp .ne 75, 3) := by decide +kernel
theorem dL_sound_626 : decode cL_sound 626 = .ok (.aload_n 0, 1) := by decide +kernel
theorem dL_sound_627 : decode cL_sound 627 = .ok (.iconst 5, 1) := by decide +kernel
theorem dL_sound_628 : decode cL_sound 628 = .ok (.invokestatic 66, 3) := by decide +kernel
theorem dL_sound_631 : decode cL_sound 631 = .ok (.iload 11, 2) := by decide +kernel
theorem dL_sound_633 : decode cL_sound 633 = .ok (.if_icmp .ne 65, 3) := by decide +kernel
theorem dL_sound_636 : decode cL_sound 636 = .ok (.aload_n 0, 1) := by decide +kernel
theorem dL_sound_637 : decode cL_sound 637 = .ok (.bipush 8, 2) := by decide +kernel
theorem dL_sound_639 : decode cL_sound 639 = .ok (.invokestatic 66, 3) := by decide +kernel
theorem dL_sound_642 : decode cL_sound 642 = .ok (.iload 13, 2) := by decide +kernel
theorem dL_sound_644 : decode cL_sound 644 = .ok (.if_icmp .ne 54, 3) := by decide +kernel
theorem dL_sound_647 : decode cL_sound 647 = .ok (.aload_n 0, 1) := by decide +kernel
theorem dL_sound_648 : decode cL_sound 648 = .ok (.bipush 9, 2) := by decide +kernel
theorem dL_sound_650 : decode cL_sound 650 = .ok (.invokestatic 66, 3) := by decide +kernel
theorem dL_sound_653 : decode cL_sound 653 = .ok (.iload 14, 2) := by decide +kernel
theorem dL_sound_655 : decode cL_sound 655 = .ok (.if_icmp .ne 43, 3) := by decide +kernel
theorem dL_sound_658 : decode cL_sound 658 = .ok (.iload 10, 2) := by decide +kernel
theorem dL_sound_660 : decode cL_sound 660 = .ok (.iconst 1, 1) := by decide +kernel
theorem dL_sound_661 : decode cL_sound 661 = .ok (.if_icmp .le 37, 3) := by decide +kernel
theorem dL_sound_664 : decode cL_sound 664 = .ok (.aload_n 0, 1) := by decide +kernel
theorem dL_sound_665 : decode cL_sound 665 = .ok (.bipush 7, 2) := by decide +kernel
theorem dL_sound_667 : decode cL_sound 667 = .ok (.invokestatic 66, 3) := by decide +kernel
theorem dL_sound_670 : decode cL_sound 670 = .ok (.ifCond .le 28, 3) := by decide +kernel
theorem dL_sound_673 : decode cL_sound 673 = .ok (.aload_n 0, 1) := by decide +kernel
theorem dL_sound_674 : decode cL_sound 674 = .ok (.bipush 7, 2) := by decide +kernel
theorem dL_sound_676 : decode cL_sound 676 = .ok (.invokestatic 66, 3) := by decide +kernel
theorem dL_sound_679 : decode cL_sound 679 = .ok (.bipush 31, 2) := by decide +kernel
theorem dL_sound_681 : decode cL_sound 681 = .ok (.if_icmp .ge 17, 3) := by decide +kernel
theorem dL_sound_684 : decode cL_sound 684 = .ok (.aload_n 0, 1) := by decide +kernel
theorem dL_sound_685 : decode cL_sound 685 = .ok (.invokevirtual 77, 3) := by decide +kernel
theorem dL_sound_688 : decode cL_sound 688 = .ok (.dload 19, 2) := by decide +kernel
theorem dL_sound_690 : decode cL_sound 690 = .ok (.dcmp .l, 1) := by decide +kernel
theorem dL_sound_691 : decode cL_sound 691 = .ok (.ifCond .ne 7, 3) := by decide +kernel
theorem dL_sound_694 : decode cL_sound 694 = .ok (.iconst 1, 1) := by decide +kernel
theorem dL_sound_695 : decode cL_sound 695 = .ok (.goto 4, 3) := by decide +kernel
theorem dL_sound_698 : decode cL_sound 698 = .ok (.iconst 0, 1) := by decide +kernel
theorem dL_sound_699 : decode cL_sound 699 = .ok (.ireturn, 1) := by decide +kernel
theorem dL_pulls_0 : decode cL_pulls 0 = .ok (.aload_n 0, 1) := by decide +kernel
theorem dL_pulls_1 : decode cL_pulls 1 = .ok (.iload_n 1, 1) := by decide +kernel
theorem dL_pulls_2 : decode cL_pulls 2 = .ok (.iconst 4, 1) := by decide +kernel
theorem dL_pulls_3 : decode cL_pulls 3 = .ok (.invokestatic 74, 3) := by decide +kernel
theorem dL_pulls_6 : decode cL_pulls 6 = .ok (.istore_n 3, 1) := by decide +kernel
theorem dL_pulls_7 : decode cL_pulls 7 = .ok (.aload_n 0, 1) := by decide +kernel
theorem dL_pulls_8 : decode cL_pulls 8 = .ok (.iconst 3, 1) := by decide +kernel
theorem dL_pulls_9 : decode cL_pulls 9 = .ok (.invokestatic 66, 3) := by decide +kernel
theorem dL_pulls_12 : decode cL_pulls 12 = .ok (.istore 4, 2) := by decide +kernel
theorem dL_pulls_14 : decode cL_pulls 14 = .ok (.aload_n 0, 1) := by decide +kernel
theorem dL_pulls_15 : decode cL_pulls 15 = .ok (.invokevirtual 81, 3) := by decide +kernel
theorem dL_pulls_18 : decode cL_pulls 18 = .ok (.istore 5, 2) := by decide +kernel
theorem dL_pulls_20 : decode cL_pulls 20 = .ok (.aload_n 0, 1) := by decide +kernel
theorem dL_pulls_21 : decode cL_pulls 21 = .ok (.iload_n 2, 1) := by decide +kernel
theorem dL_pulls_22 : decode cL_pulls 22 = .ok (.iload_n 1, 1) := by decide +kernel
theorem dL_pulls_23 : decode cL_pulls 23 = .ok (.invokestatic 84, 3) := by decide +kernel
theorem dL_pulls_26 : decode cL_pulls 26 = .ok (.istore 6, 2) := by decide +kernel
theorem dL_pulls_28 : decode cL_pulls 28 = .ok (.aload_n 0, 1) := by decide +kernel
theorem dL_pulls_29 : decode cL_pulls 29 = .ok (.iload_n 1, 1) := by decide +kernel
theorem dL_pulls_30 : decode cL_pulls 30 = .ok (.invokestatic 86, 3) := by decide +kernel
theorem dL_pulls_33 : decode cL_pulls 33 = .ok (.istore 7, 2) := by decide +kernel
theorem dL_pulls_35 : decode cL_pulls 35 = .ok (.iload 7, 2) := by decide +kernel
theorem dL_pulls_37 : decode cL_pulls 37 = .ok (.ldc 20, 2) := by decide +kernel
theorem dL_pulls_39 : decode cL_pulls 39 = .ok (.if_icmp .ne 28, 3) := by decide +kernel
theorem dL_pulls_42 : decode cL_pulls 42 = .ok (.aload_n 0, 1) := by decide +kernel
theorem dL_pulls_43 : decode cL_pulls 43 = .ok (.iconst 3, 1) := by decide +kernel
theorem dL_pulls_44 : decode cL_pulls 44 = .ok (.invokestatic 66, 3) := by decide +kernel
theorem dL_pulls_47 : decode cL_pulls 47 = .ok (.iload 4, 2) := by decide +kernel
theorem dL_pulls_49 : decode cL_pulls 49 = .ok (.if_icmp .ne 16, 3) := by decide +kernel
theorem dL_pulls_52 : decode cL_pulls 52 = .ok (.aload_n 0, 1) := by decide +kernel
theorem dL_pulls_53 : decode cL_pulls 53 = .ok (.invokevirtual 81, 3) := by decide +kernel
theorem dL_pulls_56 : decode cL_pulls 56 = .ok (.iload 5, 2) := by decide +kernel
theorem dL_pulls_58 : decode cL_pulls 58 = .ok (.if_icmp .ne 7, 3) := by decide +kernel
theorem dL_pulls_61 : decode cL_pulls 61 = .ok (.iconst 1, 1) := by decide +kernel
theorem dL_pulls_62 : decode cL_pulls 62 = .ok (.goto 4, 3) := by decide +kernel
theorem dL_pulls_65 : decode cL_pulls 65 = .ok (.iconst 0, 1) := by decide +kernel
theorem dL_pulls_66 : decode cL_pulls 66 = .ok (.ireturn, 1) := by decide +kernel
theorem dL_pulls_67 : decode cL_pulls 67 = .ok (.iload_n 3, 1) := by decide +kernel
theorem dL_pulls_68 : decode cL_pulls 68 = .ok (.ifCond .ne 110, 3) := by decide +kernel
theorem dL_pulls_71 : decode cL_pulls 71 = .ok (.iload 5, 2) := by decide +kernel
theorem dL_pulls_73 : decode cL_pulls 73 = .ok (.ifCond .le 105, 3) := by decide +kernel
theorem dL_pulls_76 : decode cL_pulls 76 = .ok (.aload_n 0, 1) := by decide +kernel
theorem dL_pulls_77 : decode cL_pulls 77 = .ok (.iconst 3, 1) := by decide +kernel
theorem dL_pulls_78 : decode cL_pulls 78 = .ok (.invokestatic 66, 3) := by decide +kernel
theorem dL_pulls_81 : decode cL_pulls 81 = .ok (.iload 4, 2) := by decide +kernel
theorem dL_pulls_83 : decode cL_pulls 83 = .ok (.iconst 1, 1) := by decide +kernel
theorem dL_pulls_84 : decode cL_pulls 84 = .ok (.isub, 1) := by decide +kernel
theorem dL_pulls_85 : decode cL_pulls 85 = .ok (.if_icmp .ne 93, 3) := by decide +kernel
theorem dL_pulls_88 : decode cL_pulls 88 = .ok (.aload_n 0, 1) := by decide +kernel
theorem dL_pulls_89 : decode cL_pulls 89 = .ok (.iconst 5, 1) := by decide +kernel
theorem dL_pulls_90 : decode cL_pulls 90 = .ok (.invokestatic 66, 3) := by decide +kernel
theorem dL_pulls_93 : decode cL_pulls 93 = .ok (.ifCond .ne 85, 3) := by decide +kernel
theorem dL_pulls_96 : decode cL_pulls 96 = .ok (.aload_n 0, 1) := by decide +kernel
theorem dL_pulls_97 : decode cL_pulls 97 = .ok (.bipush 6, 2) := by decide +kernel
theorem dL_pulls_99 : decode cL_pulls 99 = .ok (.invokestatic 66, 3) := by decide +kernel
theorem dL_pulls_102 : decode cL_pulls 102 = .ok (.iconst 1, 1) := by decide +kernel
theorem dL_pulls_103 : decode cL_pulls 103 = .ok (.if_icmp .ne 75, 3) := by decide +kernel
theorem dL_pulls_106 : decode cL_pulls 106 = .ok (.iload 7, 2) := by decide +kernel
theorem dL_pulls_108 : decode cL_pulls 108 = .ok (.aload_n 0, 1) := by decide +kernel
theorem dL_pulls_109 : decode cL_pulls 109 = .ok (.bipush 8, 2) := by decide +kernel
theorem dL_pulls_111 : decode cL_pulls 111 = .ok (.invokestatic 66, 3) := by decide +kernel
theorem dL_pulls_114 : decode cL_pulls 114 = .ok (.if_icmp .ne 64, 3) := by decide +kernel
theorem dL_pulls_117 : decode cL_pulls 117 = .ok (.aload_n 0, 1) := by decide +kernel
theorem dL_pulls_118 : decode cL_pulls 118 = .ok (.iload_n 2, 1) := by decide +kernel
theorem dL_pulls_119 : decode cL_pulls 119 = .ok (.iconst 5, 1) := by decide +kernel
theorem dL_pulls_120 : decode cL_pulls 120 = .ok (.invokestatic 74, 3) := by decide +kernel
theorem dL_pulls_123 : decode cL_pulls 123 = .ok (.iload 6, 2) := by decide +kernel
theorem dL_pulls_125 : decode cL_pulls 125 = .ok (.if_icmp .ne 53, 3) := by decide +kernel
theorem dL_pulls_128 : decode cL_pulls 128 = .ok (.aload_n 0, 1) := by decide +kernel
theorem dL_pulls_129 : decode cL_pulls 129 = .ok (.iload_n 1, 1) := by decide +kernel
theorem dL_pulls_130 : decode cL_pulls 130 = .ok (.iconst 4, 1) := by decide +kernel
theorem dL_pulls_131 : decode cL_pulls 131 = .ok (.invokestatic 74, 3) := by decide +kernel
theorem dL_pulls_134 : decode cL_pulls 134 = .ok (.iconst 1, 1) := by decide +kernel
theorem dL_pulls_135 : decode cL_pulls 135 = .ok (.if_icmp .ne 43, 3) := by decide +kernel
theorem dL_pulls_138 : decode cL_pulls 138 = .ok (.aload_n 0, 1) := by decide +kernel
theorem dL_pulls_139 : decode cL_pulls 139 = .ok (.iload_n 1, 1) := by decide +kernel
theorem dL_pulls_140 : decode cL_pulls 140 = .ok (.invokestatic 86, 3) := by decide +kernel
theorem dL_pulls_143 : decode cL_pulls 143 = .ok (.ldc 20, 2) := by decide +kernel
theorem dL_pulls_145 : decode cL_pulls 145 = .ok (.if_icmp .ne 33, 3) := by decide +kernel
theorem dL_pulls_148 : decode cL_pulls 148 = .ok (.aload_n 0, 1) := by decide +kernel
theorem dL_pulls_149 : decode cL_pulls 149 = .ok (.invokestatic 88, 3) := by decide +kernel
theorem dL_pulls_152 : decode cL_pulls 152 = .ok (.ifCond .lt 26, 3) := by decide +kernel
theorem dL_pulls_155 : decode cL_pulls 155 = .ok (.aload_n 0, 1) := by decide +kernel
theorem dL_pulls_156 : decode cL_pulls 156 = .ok (.iload_n 1, 1) := by decide +kernel
theorem dL_pulls_157 : decode cL_pulls 157 = .ok (.iconst 4, 1) := by decide +kernel
theorem dL_pulls_158 : decode cL_pulls 158 = .ok (.invokestatic 74, 3) := by decide +kernel
theorem dL_pulls_161 : decode cL_pulls 161 = .ok (.ifCond .ne 17, 3) := by decide +kernel
theorem dL_pulls_164 : decode cL_pulls 164 = .ok (.aload_n 0, 1) := by decide +kernel
theorem dL_pulls_165 : decode cL_pulls 165 = .ok (.iload_n 1, 1) := by decide +kernel
theorem dL_pulls_166 : decode cL_pulls 166 = .ok (.invokestatic 86, 3) := by decide +kernel
theorem dL_pulls_169 : decode cL_pulls 169 = .ok (.iload 7, 2) := by decide +kernel
theorem dL_pulls_171 : decode cL_pulls 171 = .ok (.if_icmp .ne 7, 3) := by decide +kernel
theorem dL_pulls_174 : decode cL_pulls 174 = .ok (.iconst 1, 1) := by decide +kernel
theorem dL_pulls_175 : decode cL_pulls 175 = .ok (.goto 4, 3) := by decide +kernel
theorem dL_pulls_178 : decode cL_pulls 178 = .ok (.iconst 0, 1) := by decide +kernel
theorem dL_pulls_179 : decode cL_pulls 179 = .ok (.ireturn, 1) := by decide +kernel
theorem dL_cascades_0 : decode cL_cascades 0 = .ok (.aload_n 0, 1) := by decide +kernel
theorem dL_cascades_1 : decode cL_cascades 1 = .ok (.invokevirtual 91, 3) := by decide +kernel
theorem dL_cascades_4 : decode cL_cascades 4 = .ok (.istore_n 1, 1) := by decide +kernel
theorem dL_cascades_5 : decode cL_cascades 5 = .ok (.aload_n 0, 1) := by decide +kernel
theorem dL_cascades_6 : decode cL_cascades 6 = .ok (.invokevirtual 94, 3) := by decide +kernel
theorem dL_cascades_9 : decode cL_cascades 9 = .ok (.istore_n 2, 1) := by decide +kernel
theorem dL_cascades_10 : decode cL_cascades 10 = .ok (.aload_n 0, 1) := by decide +kernel
theorem dL_cascades_11 : decode cL_cascades 11 = .ok (.iconst 5, 1) := by decide +kernel
theorem dL_cascades_12 : decode cL_cascades 12 = .ok (.invokestatic 66, 3) := by decide +kernel
theorem dL_cascades_15 : decode cL_cascades 15 = .ok (.istore_n 3, 1) := by decide +kernel
theorem dL_cascades_16 : decode cL_cascades 16 = .ok (.aload_n 0, 1) := by decide +kernel
theorem dL_cascades_17 : decode cL_cascades 17 = .ok (.iconst 3, 1) := by decide +kernel
theorem dL_cascades_18 : decode cL_cascades 18 = .ok (.invokestatic 66, 3) := by decide +kernel
theorem dL_cascades_21 : decode cL_cascades 21 = .ok (.istore 4, 2) := by decide +kernel
theorem dL_cascades_23 : decode cL_cascades 23 = .ok (.aload_n 0, 1) := by decide +kernel
theorem dL_cascades_24 : decode cL_cascades 24 = .ok (.invokevirtual 98, 3) := by decide +kernel
theorem dL_cascades_27 : decode cL_cascades 27 = .ok (.istore 5, 2) := by decide +kernel
theorem dL_cascades_29 : decode cL_cascades 29 = .ok (.iload_n 1, 1) := by decide +kernel
theorem dL_cascades_30 : decode cL_cascades 30 = .ok (.ifCond .ne 7, 3) := by decide +kernel
theorem dL_cascades_33 : decode cL_cascades 33 = .ok (.iconst 1, 1) := by decide +kernel
theorem dL_cascades_34 : decode cL_cascades 34 = .ok (.goto 4, 3) := by decide +kernel
theorem dL_cascades_37 : decode cL_cascades 37 = .ok (.iconst 0, 1) := by decide +kernel
theorem dL_cascades_38 : decode cL_cascades 38 = .ok (.iload_n 3, 1) := by decide +kernel
theorem dL_cascades_39 : decode cL_cascades 39 = .ok (.ifCond .ne 7, 3) := by decide +kernel
theorem dL_cascades_42 : decode cL_cascades 42 = .ok (.iconst 1, 1) := by decide +kernel
theorem dL_cascades_43 : decode cL_cascades 43 = .ok (.goto 4, 3) := by decide +kernel
theorem dL_cascades_46 : decode cL_cascades 46 = .ok (.iconst 0, 1) := by decide +kernel
theorem dL_cascades_47 : decode cL_cascades 47 = .ok (.if_icmp .ne 100, 3) := by decide +kernel
theorem dL_cascades_50 : decode cL_cascades 50 = .ok (.iload 5, 2) := by decide +kernel
theorem dL_cascades_52 : decode cL_cascades 52 = .ok (.iload_n 3, 1) := by decide +kernel
theorem dL_cascades_53 : decode cL_cascades 53 = .ok (.if_icmp .lt 94, 3) := by decide +kernel
theorem dL_cascades_56 : decode cL_cascades 56 = .ok (.iload 5, 2) := by decide +kernel
theorem dL_cascades_58 : decode cL_cascades 58 = .ok (.iload_n 1, 1) := by decide +kernel
theorem dL_cascades_59 : decode cL_cascades 59 = .ok (.if_icmp .lt 88, 3) := by decide +kernel
theorem dL_cascades_62 : decode cL_cascades 62 = .ok (.aload_n 0, 1) := by decide +kernel
theorem dL_cascades_63 : decode cL_cascades 63 = .ok (.iconst 3, 1) := by decide +kernel
theorem dL_cascades_64 : decode cL_cascades 64 = .ok (.invokestatic 66, 3) := by decide +kernel
theorem dL_cascades_67 : decode cL_cascades 67 = .ok (.iload 4, 2) := by decide +kernel
theorem dL_cascades_69 : decode cL_cascades 69 = .ok (.iload 5, 2) := by decide +kernel
theorem dL_cascades_71 : decode cL_cascades 71 = .ok (.isub, 1) := by decide +kernel
theorem dL_cascades_72 : decode cL_cascades 72 = .ok (.if_icmp .ne 75, 3) := by decide +kernel
theorem dL_cascades_75 : decode cL_cascades 75 = .ok (.aload_n 0, 1) := by decide +kernel
theorem dL_cascades_76 : decode cL_cascades 76 = .ok (.iconst 5, 1) := by decide +kernel
theorem dL_cascades_77 : decode cL_cascades 77 = .ok (.invokestatic 66, 3) := by decide +kernel
theorem dL_cascades_80 : decode cL_cascades 80 = .ok (.ifCond .ne 67, 3) := by decide +kernel
theorem dL_cascades_83 : decode cL_cascades 83 = .ok (.aload_n 0, 1) := by decide +kernel
theorem dL_cascades_84 : decode cL_cascades 84 = .ok (.bipush 6, 2) := by decide +kernel
theorem dL_cascades_86 : decode cL_cascades 86 = .ok (.invokestatic 66, 3) := by decide +kernel
theorem dL_cascades_89 : decode cL_cascades 89 = .ok (.iconst 1, 1) := by decide +kernel
theorem dL_cascades_90 : decode cL_cascades 90 = .ok (.if_icmp .ne 7, 3) := by decide +kernel
theorem dL_cascades_93 : decode cL_cascades 93 = .ok (.iconst 1, 1) := by decide +kernel
theorem dL_cascades_94 : decode cL_cascades 94 = .ok (.goto 4, 3) := by decide +kernel
theorem dL_cascades_97 : decode cL_cascades 97 = .ok (.iconst 0, 1) := by decide +kernel
theorem dL_cascades_98 : decode cL_cascades 98 = .ok (.iload_n 2, 1) := by decide +kernel
theorem dL_cascades_99 : decode cL_cascades 99 = .ok (.if_icmp .ne 48, 3) := by decide +kernel
theorem dL_cascades_102 : decode cL_cascades 102 = .ok (.aload_n 0, 1) := by decide +kernel
theorem dL_cascades_103 : decode cL_cascades 103 = .ok (.invokevirtual 91, 3) := by decide +kernel
theorem dL_cascades_106 : decode cL_cascades 106 = .ok (.ifCond .ne 41, 3) := by decide +kernel
theorem dL_cascades_109 : decode cL_cascades 109 = .ok (.aload_n 0, 1) := by decide +kernel
theorem dL_cascades_110 : decode cL_cascades 110 = .ok (.invokestatic 88, 3) := by decide +kernel
theorem dL_cascades_113 : decode cL_cascades 113 = .ok (.ifCond .lt 34, 3) := by decide +kernel
theorem dL_cascades_116 : decode cL_cascades 116 = .ok (.aload_n 0, 1) := by decide +kernel
theorem dL_cascades_117 : decode cL_cascades 117 = .ok (.iconst 3, 1) := by decide +kernel
theorem dL_cascades_118 : decode cL_cascades 118 = .ok (.invokestatic 66, 3) := by decide +kernel
theorem dL_cascades_121 : decode cL_cascades 121 = .ok (.iload 4, 2) := by decide +kernel
theorem dL_cascades_123 : decode cL_cascades 123 = .ok (.if_icmp .ne 24, 3) := by decide +kernel
theorem dL_cascades_126 : decode cL_cascades 126 = .ok (.aload_n 0, 1) := by decide +kernel
theorem dL_cascades_127 : decode cL_cascades 127 = .ok (.iconst 5, 1) := by decide +kernel
theorem dL_cascades_128 : decode cL_cascades 128 = .ok (.invokestatic 66, 3) := by decide +kernel
theorem dL_cascades_131 : decode cL_cascades 131 = .ok (.iload_n 3, 1) := by decide +kernel
theorem dL_cascades_132 : decode cL_cascades 132 = .ok (.if_icmp .ne 15, 3) := by decide +kernel
theorem dL_cascades_135 : decode cL_cascades 135 = .ok (.aload_n 0, 1) := by decide +kernel
theorem dL_cascades_136 : decode cL_cascades 136 = .ok (.invokevirtual 91, 3) := by decide +kernel
theorem dL_cascades_139 : decode cL_cascades 139 = .ok (.iload_n 1, 1) := by decide +kernel
theorem dL_cascades_140 : decode cL_cascades 140 = .ok (.if_icmp .ne 7, 3) := by decide +kernel
theorem dL_cascades_143 : decode cL_cascades 143 = .ok (.iconst 1, 1) := by decide +kernel
theorem dL_cascades_144 : decode cL_cascades 144 = .ok (.goto 4, 3) := by decide +kernel
theorem dL_cascades_147 : decode cL_cascades 147 = .ok (.iconst 0, 1) := by decide +kernel
theorem dL_cascades_148 : decode cL_cascades 148 = .ok (.ireturn, 1) := by decide +kernel
theorem dL_shaving_0 : decode cL_shaving 0 = .ok (.aload_n 0, 1) := by decide +kernel
theorem dL_shaving_1 : decode cL_shaving 1 = .ok (.invokevirtual 101, 3) := by decide +kernel
theorem dL_shaving_4 : decode cL_shaving 4 = .ok (.istore_n 1, 1) := by decide +kernel
theorem dL_shaving_5 : decode cL_shaving 5 = .ok (.iconst 0, 1) := by decide +kernel
theorem dL_shaving_6 : decode cL_shaving 6 = .ok (.istore_n 2, 1) := by decide +kernel
theorem dL_shaving_7 : decode cL_shaving 7 = .ok (.iconst 0, 1) := by decide +kernel
theorem dL_shaving_8 : decode cL_shaving 8 = .ok (.istore_n 3, 1) := by decide +kernel
theorem dL_shaving_9 : decode cL_shaving 9 = .ok (.aload_n 0, 1) := by decide +kernel
theorem dL_shaving_10 : decode cL_shaving 10 = .ok (.iconst 2, 1) := by decide +kernel
theorem dL_shaving_11 : decode cL_shaving 11 = .ok (.invokestatic 66, 3) := by decide +kernel
theorem dL_shaving_14 : decode cL_shaving 14 = .ok (.istore 4, 2) := by decide +kernel
theorem dL_shaving_16 : decode cL_shaving 16 = .ok (.iconst 0, 1) := by decide +kernel
theorem dL_shaving_17 : decode cL_shaving 17 = .ok (.istore 5, 2) := by decide +kernel
theorem dL_shaving_19 : decode cL_shaving 19 = .ok (.iload 5, 2) := by decide +kernel
theorem dL_shaving_21 : decode cL_shaving 21 = .ok (.iload 4, 2) := by decide +kernel
theorem dL_shaving_23 : decode cL_shaving 23 = .ok (.if_icmp .ge 30, 3) := by decide +kernel
theorem dL_shaving_26 : decode cL_shaving 26 = .ok (.iload_n 2, 1) := by decide +kernel
theorem dL_shaving_27 : decode cL_shaving 27 = .ok (.aload_n 0, 1) := by decide +kernel
theorem dL_shaving_28 : decode cL_shaving 28 = .ok (.iload 5, 2) := by decide +kernel
theorem dL_shaving_30 : decode cL_shaving 30 = .ok (.iconst 2, 1) := by decide +kernel
theorem dL_shaving_31 : decode cL_shaving 31 = .ok (.invokestatic 74, 3) := by decide +kernel
theorem dL_shaving_34 : decode cL_shaving 34 = .ok (.iadd, 1) := by decide +kernel
theorem dL_shaving_35 : decode cL_shaving 35 = .ok (.istore_n 2, 1) := by decide +kernel
theorem dL_shaving_36 : decode cL_shaving 36 = .ok (.iload_n 3, 1) := by decide +kernel
theorem dL_shaving_37 : decode cL_shaving 37 = .ok (.aload_n 0, 1) := by decide +kernel
theorem dL_shaving_38 : decode cL_shaving 38 = .ok (.iload 5, 2) := by decide +kernel
theorem dL_shaving_40 : decode cL_shaving 40 = .ok (.bipush 8, 2) := by decide +kernel
theorem dL_shaving_42 : decode cL_shaving 42 = .ok (.invokestatic 74, 3) := by decide +kernel
theorem dL_shaving_45 : decode cL_shaving 45 = .ok (.iadd, 1) := by decide +kernel
theorem dL_shaving_46 : decode cL_shaving 46 = .ok (.istore_n 3, 1) := by decide +kernel
theorem dL_shaving_47 : decode cL_shaving 47 = .ok (.iinc 5 1, 3) := by decide +kernel
theorem dL_shaving_50 : decode cL_shaving 50 = .ok (.goto (-31), 3) := by decide +kernel
theorem dL_shaving_53 : decode cL_shaving 53 = .ok (.aload_n 0, 1) := by decide +kernel
theorem dL_shaving_54 : decode cL_shaving 54 = .ok (.invokevirtual 104, 3) := by decide +kernel
theorem dL_shaving_57 : decode cL_shaving 57 = .ok (.istore 5, 2) := by decide +kernel
theorem dL_shaving_59 : decode cL_shaving 59 = .ok (.iconst 0, 1) := by decide +kernel
theorem dL_shaving_60 : decode cL_shaving 60 = .ok (.istore 6, 2) := by decide +kernel
theorem dL_shaving_62 : decode cL_shaving 62 = .ok (.iload 6, 2) := by decide +kernel
theorem dL_shaving_64 : decode cL_shaving 64 = .ok (.iload 4, 2) := by decide +kernel
theorem dL_shaving_66 : decode cL_shaving 66 = .ok (.if_icmp .ge 30, 3) := by decide +kernel
theorem dL_shaving_69 : decode cL_shaving 69 = .ok (.iload_n 2, 1) := by decide +kernel
theorem dL_shaving_70 : decode cL_shaving 70 = .ok (.aload_n 0, 1) := by decide +kernel
theorem dL_shaving_71 : decode cL_shaving 71 = .ok (.iload 6, 2) := by decide +kernel
theorem dL_shaving_73 : decode cL_shaving 73 = .ok (.iconst 2, 1) := by decide +kernel
theorem dL_shaving_74 : decode cL_shaving 74 = .ok (.invokestatic 74, 3) := by decide +kernel
theorem dL_shaving_77 : decode cL_shaving 77 = .ok (.isub, 1) := by decide +kernel
theorem dL_shaving_78 : decode cL_shaving 78 = .ok (.istore_n 2, 1) := by decide +kernel
theorem dL_shaving_79 : decode cL_shaving 79 = .ok (.iload_n 3, 1) := by decide +kernel
theorem dL_shaving_80 : decode cL_shaving 80 = .ok (.aload_n 0, 1) := by decide +kernel
theorem dL_shaving_81 : decode cL_shaving 81 = .ok (.iload 6, 2) := by decide +kernel
theorem dL_shaving_83 : decode cL_shaving 83 = .ok (.bipush 8, 2) := by decide +kernel
theorem dL_shaving_85 : decode cL_shaving 85 = .ok (.invokestatic 74, 3) := by decide +kernel
theorem dL_shaving_88 : decode cL_shaving 88 = .ok (.isub, 1) := by decide +kernel
theorem dL_shaving_89 : decode cL_shaving 89 = .ok (.istore_n 3, 1) := by decide +kernel
theorem dL_shaving_90 : decode cL_shaving 90 = .ok (.iinc 6 1, 3) := by decide +kernel
theorem dL_shaving_93 : decode cL_shaving 93 = .ok (.goto (-31), 3) := by decide +kernel
theorem dL_shaving_96 : decode cL_shaving 96 = .ok (.aload_n 0, 1) := by decide +kernel
theorem dL_shaving_97 : decode cL_shaving 97 = .ok (.bipush 6, 2) := by decide +kernel
theorem dL_shaving_99 : decode cL_shaving 99 = .ok (.invokestatic 66, 3) := by decide +kernel
theorem dL_shaving_102 : decode cL_shaving 102 = .ok (.iconst 1, 1) := by decide +kernel
theorem dL_shaving_103 : decode cL_shaving 103 = .ok (.if_icmp .ne 15, 3) := by decide +kernel
theorem dL_shaving_106 : decode cL_shaving 106 = .ok (.aload_n 0, 1) := by decide +kernel
theorem dL_shaving_107 : decode cL_shaving 107 = .ok (.iconst 5, 1) := by decide +kernel
theorem dL_shaving_108 : decode cL_shaving 108 = .ok (.invokestatic 66, 3) := by decide +kernel
theorem dL_shaving_111 : decode cL_shaving 111 = .ok (.ifCond .ne 7, 3) := by decide +kernel
theorem dL_shaving_114 : decode cL_shaving 114 = .ok (.iconst 1, 1) := by decide +kernel
theorem dL_shaving_115 : decode cL_shaving 115 = .ok (.goto 4, 3) := by decide +kernel
theorem dL_shaving_118 : decode cL_shaving 118 = .ok (.iconst 0, 1) := by decide +kernel
theorem dL_shaving_119 : decode cL_shaving 119 = .ok (.istore 6, 2) := by decide +kernel
theorem dL_shaving_121 : decode cL_shaving 121 = .ok (.iload 5, 2) := by decide +kernel
theorem dL_shaving_123 : decode cL_shaving 123 = .ok (.ifCond .lt 47, 3) := by decide +kernel
theorem dL_shaving_126 : decode cL_shaving 126 = .ok (.iload 5, 2) := by decide +kernel
theorem dL_shaving_128 : decode cL_shaving 128 = .ok (.bipush 101, 2) := by decide +kernel
theorem dL_shaving_130 : decode cL_shaving 130 = .ok (.if_icmp .ge 40, 3) := by decide +kernel
theorem dL_shaving_133 : decode cL_shaving 133 = .ok (.iload_n 1, 1) := by decide +kernel
theorem dL_shaving_134 : decode cL_shaving 134 = .ok (.iload 6, 2) := by decide +kernel
theorem dL_shaving_136 : decode cL_shaving 136 = .ok (.ifCond .eq 8, 3) := by decide +kernel
theorem dL_shaving_139 : decode cL_shaving 139 = .ok (.iload 5, 2) := by decide +kernel
theorem dL_shaving_141 : decode cL_shaving 141 = .ok (.goto 9, 3) := by decide +kernel
theorem dL_shaving_144 : decode cL_shaving 144 = .ok (.sipush (-1000), 3) := by decide +kernel
theorem dL_shaving_147 : decode cL_shaving 147 = .ok (.iload 5, 2) := by decide +kernel
theorem dL_shaving_149 : decode cL_shaving 149 = .ok (.isub, 1) := by decide +kernel
theorem dL_shaving_150 : decode cL_shaving 150 = .ok (.if_icmp .ne 20, 3) := by decide +kernel
theorem dL_shaving_153 : decode cL_shaving 153 = .ok (.iload_n 2, 1) := by decide +kernel
theorem dL_shaving_154 : decode cL_shaving 154 = .ok (.iload 5, 2) := by decide +kernel
theorem dL_shaving_156 : decode cL_shaving 156 = .ok (.if_icmp .ne 14, 3) := by decide +kernel
theorem dL_shaving_159 : decode cL_shaving 159 = .ok (.iload_n 3, 1) := by decide +kernel
theorem dL_shaving_160 : decode cL_shaving 160 = .ok (.iload 5, 2) := by decide +kernel
theorem dL_shaving_162 : decode cL_shaving 162 = .ok (.ineg, 1) := by decide +kernel
theorem dL_shaving_163 : decode cL_shaving 163 = .ok (.if_icmp .ne 7, 3) := by decide +kernel
theorem dL_shaving_166 : decode cL_shaving 166 = .ok (.iconst 1, 1) := by decide +kernel
theorem dL_shaving_167 : decode cL_shaving 167 = .ok (.goto 4, 3) := by decide +kernel
theorem dL_shaving_170 : decode cL_shaving 170 = .ok (.iconst 0, 1) := by decide +kernel
theorem dL_shaving_171 : decode cL_shaving 171 = .ok (.ireturn, 1) := by decide +kernel
theorem dL_bests_0 : decode cL_bests 0 = .ok (.aload_n 0, 1) := by decide +kernel
theorem dL_bests_1 : decode cL_bests 1 = .ok (.invokevirtual 107, 3) := by decide +kernel
theorem dL_bests_4 : decode cL_bests 4 = .ok (.lstore_n 2, 1) := by decide +kernel
theorem dL_bests_5 : decode cL_bests 5 = .ok (.aload_n 0, 1) := by decide +kernel
theorem dL_bests_6 : decode cL_bests 6 = .ok (.invokevirtual 111, 3) := by decide +kernel
theorem dL_bests_9 : decode cL_bests 9 = .ok (.istore 4, 2) := by decide +kernel
theorem dL_bests_11 : decode cL_bests 11 = .ok (.aload_n 0, 1) := by decide +kernel
theorem dL_bests_12 : decode cL_bests 12 = .ok (.invokevirtual 114, 3) := by decide +kernel
theorem dL_bests_15 : decode cL_bests 15 = .ok (.istore 5, 2) := by decide +kernel
theorem dL_bests_17 : decode cL_bests 17 = .ok (.iconst 1, 1) := by decide +kernel
theorem dL_bests_18 : decode cL_bests 18 = .ok (.iload_n 1, 1) := by decide +kernel
theorem dL_bests_19 : decode cL_bests 19 = .ok (.bipush 100, 2) := by decide +kernel
theorem dL_bests_21 : decode cL_bests 21 = .ok (.invokestatic 117, 3) := by decide +kernel
theorem dL_bests_24 : decode cL_bests 24 = .ok (.iadd, 1) := by decide +kernel
theorem dL_bests_25 : decode cL_bests 25 = .ok (.istore 6, 2) := by decide +kernel
theorem dL_bests_27 : decode cL_bests 27 = .ok (.aload_n 0, 1) := by decide +kernel
theorem dL_bests_28 : decode cL_bests 28 = .ok (.iload 6, 2) := by decide +kernel
theorem dL_bests_30 : decode cL_bests 30 = .ok (.invokestatic 120, 3) := by decide +kernel
theorem dL_bests_33 : decode cL_bests 33 = .ok (.istore 7, 2) := by decide +kernel
theorem dL_bests_35 : decode cL_bests 35 = .ok (.aload_n 0, 1) := by decide +kernel
theorem dL_bests_36 : decode cL_bests 36 = .ok (.invokevirtual 107, 3) := by decide +kernel
theorem dL_bests_39 : decode cL_bests 39 = .ok (.lload_n 2, 1) := by decide +kernel
theorem dL_bests_40 : decode cL_bests 40 = .ok (.lcmp, 1) := by decide +kernel
theorem dL_bests_41 : decode cL_bests 41 = .ok (.ifCond .ne 76, 3) := by decide +kernel
theorem dL_bests_44 : decode cL_bests 44 = .ok (.iload 4, 2) := by decide +kernel
theorem dL_bests_46 : decode cL_bests 46 = .ok (.iconst (-1), 1) := by decide +kernel
theorem dL_bests_47 : decode cL_bests 47 = .ok (.if_icmp .eq 27, 3) := by decide +kernel
theorem dL_bests_50 : decode cL_bests 50 = .ok (.iload 4, 2) := by decide +kernel
theorem dL_bests_52 : decode cL_bests 52 = .ok (.sipush 1000, 3) := by decide +kernel
theorem dL_bests_55 : decode cL_bests 55 = .ok (.irem, 1) := by decide +kernel
theorem dL_bests_56 : decode cL_bests 56 = .ok (.ifCond .ne 61, 3) := by decide +kernel
theorem dL_bests_59 : decode cL_bests 59 = .ok (.iload 4, 2) := by decide +kernel
theorem dL_bests_61 : decode cL_bests 61 = .ok (.sipush 1000, 3) := by decide +kernel
theorem dL_bests_64 : decode cL_bests 64 = .ok (.if_icmp .lt 53, 3) := by decide +kernel
theorem dL_bests_67 : decode cL_bests 67 = .ok (.iload 4, 2) := by decide +kernel
theorem dL_bests_69 : decode cL_bests 69 = .ok (.ldc 122, 2) := by decide +kernel
theorem dL_bests_71 : decode cL_bests 71 = .ok (.if_icmp .gt 46, 3) := by decide +kernel
theorem dL_bests_74 : decode cL_bests 74 = .ok (.iload 5, 2) := by decide +kernel
theorem dL_bests_76 : decode cL_bests 76 = .ok (.iconst (-1), 1) := by decide +kernel
theorem dL_bests_77 : decode cL_bests 77 = .ok (.if_icmp .eq 18, 3) := by decide +kernel
theorem dL_bests_80 : decode cL_bests 80 = .ok (.iload 5, 2) := by decide +kernel
theorem dL_bests_82 : decode cL_bests 82 = .ok (.iconst 5, 1) := by decide +kernel
theorem dL_bests_83 : decode cL_bests 83 = .ok (.irem, 1) := by decide +kernel
theorem dL_bests_84 : decode cL_bests 84 = .ok (.ifCond .ne 33, 3) := by decide +kernel
theorem dL_bests_87 : decode cL_bests 87 = .ok (.iload 5, 2) := by decide +kernel
theorem dL_bests_89 : decode cL_bests 89 = .ok (.sipush 400, 3) := by decide +kernel
theorem dL_bests_92 : decode cL_bests 92 = .ok (.if_icmp .gt 25, 3) := by decide +kernel
theorem dL_bests_95 : decode cL_bests 95 = .ok (.iload 7, 2) := by decide +kernel
theorem dL_bests_97 : decode cL_bests 97 = .ok (.iconst (-1), 1) := by decide +kernel
theorem dL_bests_98 : decode cL_bests 98 = .ok (.if_icmp .eq 21, 3) := by decide +kernel
theorem dL_bests_101 : decode cL_bests 101 = .ok (.iload 7, 2) := by decide +kernel
theorem dL_bests_103 : decode cL_bests 103 = .ok (.bipush 10, 2) := by decide +kernel
theorem dL_bests_105 : decode cL_bests 105 = .ok (.irem, 1) := by decide +kernel
theorem dL_bests_106 : decode cL_bests 106 = .ok (.ifCond .ne 11, 3) := by decide +kernel
theorem dL_bests_109 : decode cL_bests 109 = .ok (.iload 7, 2) := by decide +kernel
theorem dL_bests_111 : decode cL_bests 111 = .ok (.sipush 400, 3) := by decide +kernel
theorem dL_bests_114 : decode cL_bests 114 = .ok (.if_icmp .le 5, 3) := by decide +kernel
theorem dL_bests_117 : decode cL_bests 117 = .ok (.iconst 0, 1) := by decide +kernel
theorem dL_bests_118 : decode cL_bests 118 = .ok (.ireturn, 1) := by decide +kernel
theorem dL_bests_119 : decode cL_bests 119 = .ok (.aload_n 0, 1) := by decide +kernel
theorem dL_bests_120 : decode cL_bests 120 = .ok (.iconst 0, 1) := by decide +kernel
theorem dL_bests_121 : decode cL_bests 121 = .ok (.invokestatic 66, 3) := by decide +kernel
theorem dL_bests_124 : decode cL_bests 124 = .ok (.istore 8, 2) := by decide +kernel
theorem dL_bests_126 : decode cL_bests 126 = .ok (.aload_n 0, 1) := by decide +kernel
theorem dL_bests_127 : decode cL_bests 127 = .ok (.iconst 1, 1) := by decide +kernel
theorem dL_bests_128 : decode cL_bests 128 = .ok (.invokestatic 66, 3) := by decide +kernel
theorem dL_bests_131 : decode cL_bests 131 = .ok (.istore 9, 2) := by decide +kernel
theorem dL_bests_133 : decode cL_bests 133 = .ok (.iload 4, 2) := by decide +kernel
theorem dL_bests_135 : decode cL_bests 135 = .ok (.iconst (-1), 1) := by decide +kernel
theorem dL_bests_136 : decode cL_bests 136 = .ok (.if_icmp .eq 43, 3) := by decide +kernel
theorem dL_bests_139 : decode cL_bests 139 = .ok (.aload_n 0, 1) := by decide +kernel
theorem dL_bests_140 : decode cL_bests 140 = .ok (.iload 4, 2) := by decide +kernel
theorem dL_bests_142 : decode cL_bests 142 = .ok (.iload 9, 2) := by decide +kernel
theorem dL_bests_144 : decode cL_bests 144 = .ok (.invokestatic 123, 3) := by decide +kernel
theorem dL_bests_147 : decode cL_bests 147 = .ok (.iload 8, 2) := by decide +kernel
theorem dL_bests_149 : decode cL_bests 149 = .ok (.if_icmp .ne 28, 3) := by decide +kernel
theorem dL_bests_152 : decode cL_bests 152 = .ok (.aload_n 0, 1) := by decide +kernel
theorem dL_bests_153 : decode cL_bests 153 = .ok (.bipush 6, 2) := by decide +kernel
theorem dL_bests_155 : decode cL_bests 155 = .ok (.invokestatic 66, 3) := by decide +kernel
theorem dL_bests_158 : decode cL_bests 158 = .ok (.iconst 1, 1) := by decide +kernel
theorem dL_bests_159 : decode cL_bests 159 = .ok (.if_icmp .ne 18, 3) := by decide +kernel
theorem dL_bests_162 : decode cL_bests 162 = .ok (.aload_n 0, 1) := by decide +kernel
theorem dL_bests_163 : decode cL_bests 163 = .ok (.iconst 5, 1) := by decide +kernel
theorem dL_bests_164 : decode cL_bests 164 = .ok (.invokestatic 66, 3) := by decide +kernel
theorem dL_bests_167 : decode cL_bests 167 = .ok (.ifCond .ne 10, 3) := by decide +kernel
theorem dL_bests_170 : decode cL_bests 170 = .ok (.aload_n 0, 1) := by decide +kernel
theorem dL_bests_171 : decode cL_bests 171 = .ok (.invokestatic 88, 3) := by decide +kernel
theorem dL_bests_174 : decode cL_bests 174 = .ok (.ifCond .ge 5, 3) := by decide +kernel
theorem dL_bests_177 : decode cL_bests 177 = .ok (.iconst 0, 1) := by decide +kernel
theorem dL_bests_178 : decode cL_bests 178 = .ok (.ireturn, 1) := by decide +kernel
theorem dL_bests_179 : decode cL_bests 179 = .ok (.iload 5, 2) := by decide +kernel
theorem dL_bests_181 : decode cL_bests 181 = .ok (.iconst (-1), 1) := by decide +kernel
theorem dL_bests_182 : decode cL_bests 182 = .ok (.if_icmp .eq 117, 3) := by decide +kernel
theorem dL_bests_185 : decode cL_bests 185 = .ok (.iconst 5, 1) := by decide +kernel
theorem dL_bests_186 : decode cL_bests 186 = .ok (.iload_n 1, 1) := by decide +kernel
theorem dL_bests_187 : decode cL_bests 187 = .ok (.bipush 7, 2) := by decide +kernel
theorem dL_bests_189 : decode cL_bests 189 = .ok (.ishr, 1) := by decide +kernel
theorem dL_bests_190 : decode cL_bests 190 = .ok (.bipush 81, 2) := by decide +kernel
theorem dL_bests_192 : decode cL_bests 192 = .ok (.invokestatic 117, 3) := by decide +kernel
theorem dL_bests_195 : decode cL_bests 195 = .ok (.imul, 1) := by decide +kernel
theorem dL_bests_196 : decode cL_bests 196 = .ok (.istore 10, 2) := by decide +kernel
theorem dL_bests_198 : decode cL_bests 198 = .ok (.aload_n 0, 1) := by decide +kernel
theorem dL_bests_199 : decode cL_bests 199 = .ok (.iload 8, 2) := by decide +kernel
theorem dL_bests_201 : decode cL_bests 201 = .ok (.iload 5, 2) := by decide +kernel
theorem dL_bests_203 : decode cL_bests 203 = .ok (.invokestatic 123, 3) := by decide +kernel
theorem dL_bests_206 : decode cL_bests 206 = .ok (.iload 8, 2) := by decide +kernel
theorem dL_bests_208 : decode cL_bests 208 = .ok (.if_icmp .ne 13, 3) := by decide +kernel
theorem dL_bests_211 : decode cL_bests 211 = .ok (.aload_n 0, 1) := by decide +kernel
theorem dL_bests_212 : decode cL_bests 212 = .ok (.bipush 6, 2) := by decide +kernel
theorem dL_bests_214 : decode cL_bests 214 = .ok (.invokestatic 66, 3) := by decide +kernel
theorem dL_bests_217 : decode cL_bests 217 = .ok (.iconst 1, 1) := by decide +kernel
theorem dL_bests_218 : decode cL_bests 218 = .ok (.if_icmp .eq 5, 3) := by decide +kernel
theorem dL_bests_221 : decode cL_bests 221 = .ok (.iconst 0, 1) := by decide +kernel
theorem dL_bests_222 : decode cL_bests 222 = .ok (.ireturn, 1) := by decide +kernel
theorem dL_bests_223 : decode cL_bests 223 = .ok (.aload_n 0, 1) := by decide +kernel
theorem dL_bests_224 : decode cL_bests 224 = .ok (.bipush 8, 2) := by decide +kernel
theorem dL_bests_226 : decode cL_bests 226 = .ok (.invokestatic 66, 3) := by decide +kernel
theorem dL_bests_229 : decode cL_bests 229 = .ok (.istore 11, 2) := by decide +kernel
theorem dL_bests_231 : decode cL_bests 231 = .ok (.aload_n 0, 1) := by decide +kernel
theorem dL_bests_232 : decode cL_bests 232 = .ok (.iload 8, 2) := by decide +kernel
theorem dL_bests_234 : decode cL_bests 234 = .ok (.iload 10, 2) := by decide +kernel
theorem dL_bests_236 : decode cL_bests 236 = .ok (.invokestatic 123, 3) := by decide +kernel
theorem dL_bests_239 : decode cL_bests 239 = .ok (.iload 8, 2) := by decide +kernel
theorem dL_bests_241 : decode cL_bests 241 = .ok (.if_icmp .ne 56, 3) := by decide +kernel
theorem dL_bests_244 : decode cL_bests 244 = .ok (.aload_n 0, 1) := by decide +kernel
theorem dL_bests_245 : decode cL_bests 245 = .ok (.bipush 6, 2) := by decide +kernel
theorem dL_bests_247 : decode cL_bests 247 = .ok (.invokestatic 66, 3) := by decide +kernel
theorem dL_bests_250 : decode cL_bests 250 = .ok (.iconst 1, 1) := by decide +kernel
theorem dL_bests_251 : decode cL_bests 251 = .ok (.if_icmp .ne 32, 3) := by decide +kernel
theorem dL_bests_254 : decode cL_bests 254 = .ok (.aload_n 0, 1) := by decide +kernel
theorem dL_bests_255 : decode cL_bests 255 = .ok (.bipush 8, 2) := by decide +kernel
theorem dL_bests_257 : decode cL_bests 257 = .ok (.invokestatic 66, 3) := by decide +kernel
theorem dL_bests_260 : decode cL_bests 260 = .ok (.iload 11, 2) := by decide +kernel
theorem dL_bests_262 : decode cL_bests 262 = .ok (.if_icmp .lt 35, 3) := by decide +kernel
theorem dL_bests_265 : decode cL_bests 265 = .ok (.aload_n 0, 1) := by decide +kernel
theorem dL_bests_266 : decode cL_bests 266 = .ok (.bipush 8, 2) := by decide +kernel
theorem dL_bests_268 : decode cL_bests 268 = .ok (.invokestatic 66, 3) := by decide +kernel
theorem dL_bests_271 : decode cL_bests 271 = .ok (.iload 11, 2) := by decide +kernel
theorem dL_bests_273 : decode cL_bests 273 = .ok (.if_icmp .ne 10, 3) := by decide +kernel
theorem dL_bests_276 : decode cL_bests 276 = .ok (.iload 10, 2) := by decide +kernel
theorem dL_bests_278 : decode cL_bests 278 = .ok (.iload 5, 2) := by decide +kernel
theorem dL_bests_280 : decode cL_bests 280 = .ok (.if_icmp .lt 17, 3) := by decide +kernel
theorem dL_bests_283 : decode cL_bests 283 = .ok (.aload_n 0, 1) := by decide +kernel
theorem dL_bests_284 : decode cL_bests 284 = .ok (.invokestatic 88, 3) := by decide +kernel
theorem dL_bests_287 : decode cL_bests 287 = .ok (.ifCond .lt 10, 3) := by decide +kernel
theorem dL_bests_290 : decode cL_bests 290 = .ok (.aload_n 0, 1) := by decide +kernel
theorem dL_bests_291 : decode cL_bests 291 = .ok (.invokestatic 88, 3) := by decide +kernel
theorem dL_bests_294 : decode cL_bests 294 = .ok (.ifCond .ge 5, 3) := by decide +kernel
theorem dL_bests_297 : decode cL_bests 297 = .ok (.iconst 0, 1) := by decide +kernel
theorem dL_bests_298 : decode cL_bests 298 = .ok (.ireturn, 1) := by decide +kernel
theorem dL_bests_299 : decode cL_bests 299 = .ok (.iload 7, 2) := by decide +kernel
theorem dL_bests_301 : decode cL_bests 301 = .ok (.iconst (-1), 1) := by decide +kernel
theorem dL_bests_302 : decode cL_bests 302 = .ok (.if_icmp .eq 43, 3) := by decide +kernel
theorem dL_bests_305 : decode cL_bests 305 = .ok (.aload_n 0, 1) := by decide +kernel
theorem dL_bests_306 : decode cL_bests 306 = .ok (.iload 7, 2) := by decide +kernel
theorem dL_bests_308 : decode cL_bests 308 = .ok (.iload 6, 2) := by decide +kernel
theorem dL_bests_310 : decode cL_bests 310 = .ok (.iconst 0, 1) := by decide +kernel
theorem dL_bests_311 : decode cL_bests 311 = .ok (.ldc 125, 2) := by decide +kernel
theorem dL_bests_313 : decode cL_bests 313 = .ok (.invokestatic 126, 3) := by decide +kernel
theorem dL_bests_316 : decode cL_bests 316 = .ok (.aload_n 0, 1) := by decide +kernel
theorem dL_bests_317 : decode cL_bests 317 = .ok (.iconst 2, 1) := by decide +kernel
theorem dL_bests_318 : decode cL_bests 318 = .ok (.invokestatic 66, 3) := by decide +kernel
theorem dL_bests_321 : decode cL_bests 321 = .ok (.iconst 1, 1) := by decide +kernel
theorem dL_bests_322 : decode cL_bests 322 = .ok (.isub, 1) := by decide +kernel
theorem dL_bests_323 : decode cL_bests 323 = .ok (.if_icmp .ne 20, 3) := by decide +kernel
theorem dL_bests_326 : decode cL_bests 326 = .ok (.aload_n 0, 1) := by decide +kernel
theorem dL_bests_327 : decode cL_bests 327 = .ok (.bipush 6, 2) := by decide +kernel
theorem dL_bests_329 : decode cL_bests 329 = .ok (.invokestatic 66, 3) := by decide +kernel
theorem dL_bests_332 : decode cL_bests 332 = .ok (.iconst 1, 1) := by decide +kernel
theorem dL_bests_333 : decode cL_bests 333 = .ok (.if_icmp .ne 10, 3) := by decide +kernel
theorem dL_bests_336 : decode cL_bests 336 = .ok (.aload_n 0, 1) := by decide +kernel
theorem dL_bests_337 : decode cL_bests 337 = .ok (.invokestatic 88, 3) := by decide +kernel
theorem dL_bests_340 : decode cL_bests 340 = .ok (.ifCond .ge 5, 3) := by decide +kernel
theorem dL_bests_343 : decode cL_bests 343 = .ok (.iconst 0, 1) := by decide +kernel
theorem dL_bests_344 : decode cL_bests 344 = .ok (.ireturn, 1) := by decide +kernel
theorem dL_bests_345 : decode cL_bests 345 = .ok (.aload_n 0, 1) := by decide +kernel
theorem dL_bests_346 : decode cL_bests 346 = .ok (.iconst 0, 1) := by decide +kernel
theorem dL_bests_347 : decode cL_bests 347 = .ok (.invokestatic 66, 3) := by decide +kernel
theorem dL_bests_350 : decode cL_bests 350 = .ok (.iload 8, 2) := by decide +kernel
theorem dL_bests_352 : decode cL_bests 352 = .ok (.if_icmp .ne 17, 3) := by decide +kernel
theorem dL_bests_355 : decode cL_bests 355 = .ok (.aload_n 0, 1) := by decide +kernel
theorem dL_bests_356 : decode cL_bests 356 = .ok (.iconst 1, 1) := by decide +kernel
theorem dL_bests_357 : decode cL_bests 357 = .ok (.invokestatic 66, 3) := by decide +kernel
theorem dL_bests_360 : decode cL_bests 360 = .ok (.iload 9, 2) := by decide +kernel
theorem dL_bests_362 : decode cL_bests 362 = .ok (.if_icmp .ne 7, 3) := by decide +kernel
theorem dL_bests_365 : decode cL_bests 365 = .ok (.iconst 1, 1) := by decide +kernel
theorem dL_bests_366 : decode cL_bests 366 = .ok (.goto 4, 3) := by decide +kernel
theorem dL_bests_369 : decode cL_bests 369 = .ok (.iconst 0, 1) := by decide +kernel
theorem dL_bests_370 : decode cL_bests 370 = .ok (.ireturn, 1) := by decide +kernel
theorem dL_refuses_0 : decode cL_refuses 0 = .ok (.aload_n 0, 1) := by decide +kernel
theorem dL_refuses_1 : decode cL_refuses 1 = .ok (.invokevirtual 107, 3) := by decide +kernel
theorem dL_refuses_4 : decode cL_refuses 4 = .ok (.lstore_n 1, 1) := by decide +kernel
theorem dL_refuses_5 : decode cL_refuses 5 = .ok (.aload_n 0, 1) := by decide +kernel
theorem dL_refuses_6 : decode cL_refuses 6 = .ok (.iconst 2, 1) := by decide +kernel
theorem dL_refuses_7 : decode cL_refuses 7 = .ok (.invokestatic 66, 3) := by decide +kernel
theorem dL_refuses_10 : decode cL_refuses 10 = .ok (.istore_n 3, 1) := by decide +kernel
theorem dL_refuses_11 : decode cL_refuses 11 = .ok (.aload_n 0, 1) := by decide +kernel
theorem dL_refuses_12 : decode cL_refuses 12 = .ok (.iconst (-1), 1) := by decide +kernel
theorem dL_refuses_13 : decode cL_refuses 13 = .ok (.iconst 1, 1) := by decide +kernel
theorem dL_refuses_14 : decode cL_refuses 14 = .ok (.iconst 0, 1) := by decide +kernel
theorem dL_refuses_15 : decode cL_refuses 15 = .ok (.iconst 1, 1) := by decide +kernel
theorem dL_refuses_16 : decode cL_refuses 16 = .ok (.invokestatic 126, 3) := by decide +kernel
theorem dL_refuses_19 : decode cL_refuses 19 = .ok (.ldc 17, 2) := by decide +kernel
theorem dL_refuses_21 : decode cL_refuses 21 = .ok (.if_icmp .ne 202, 3) := by decide +kernel
theorem dL_refuses_24 : decode cL_refuses 24 = .ok (.aload_n 0, 1) := by decide +kernel
theorem dL_refuses_25 : decode cL_refuses 25 = .ok (.iconst 0, 1) := by decide +kernel
theorem dL_refuses_26 : decode cL_refuses 26 = .ok (.iconst 0, 1) := by decide +kernel
theorem dL_refuses_27 : decode cL_refuses 27 = .ok (.iconst 0, 1) := by decide +kernel
theorem dL_refuses_28 : decode cL_refuses 28 = .ok (.iconst 1, 1) := by decide +kernel
theorem dL_refuses_29 : decode cL_refuses 29 = .ok (.invokestatic 126, 3) := by decide +kernel
theorem dL_refuses_32 : decode cL_refuses 32 = .ok (.ldc 17, 2) := by decide +kernel
theorem dL_refuses_34 : decode cL_refuses 34 = .ok (.if_icmp .ne 189, 3) := by decide +kernel
theorem dL_refuses_37 : decode cL_refuses 37 = .ok (.aload_n 0, 1) := by decide +kernel
theorem dL_refuses_38 : decode cL_refuses 38 = .ok (.iconst 0, 1) := by decide +kernel
theorem dL_refuses_39 : decode cL_refuses 39 = .ok (.iconst 1, 1) := by decide +kernel
theorem dL_refuses_40 : decode cL_refuses 40 = .ok (.bipush (-51), 2) := by decide +kernel
theorem dL_refuses_42 : decode cL_refuses 42 = .ok (.iconst 1, 1) := by decide +kernel
theorem dL_refuses_43 : decode cL_refuses 43 = .ok (.invokestatic 126, 3) := by decide +kernel
theorem dL_refuses_46 : decode cL_refuses 46 = .ok (.ldc 17, 2) := by decide +kernel
theorem dL_refuses_48 : decode cL_refuses 48 = .ok (.if_icmp .ne 175, 3) := by decide +kernel
theorem dL_refuses_51 : decode cL_refuses 51 = .ok (.aload_n 0, 1) := by decide +kernel
theorem dL_refuses_52 : decode cL_refuses 52 = .ok (.iconst 0, 1) := by decide +kernel
theorem dL_refuses_53 : decode cL_refuses 53 = .ok (.iconst 1, 1) := by decide +kernel
theorem dL_refuses_54 : decode cL_refuses 54 = .ok (.iconst 0, 1) := by decide +kernel
theorem dL_refuses_55 : decode cL_refuses 55 = .ok (.ldc 122, 2) := by decide +kernel
theorem dL_refuses_57 : decode cL_refuses 57 = .ok (.invokestatic 126, 3) := by decide +kernel
theorem dL_refuses_60 : decode cL_refuses 60 = .ok (.ldc 17, 2) := by decide +kernel
theorem dL_refuses_62 : decode cL_refuses 62 = .ok (.if_icmp .ne 161, 3) := by decide +kernel
theorem dL_refuses_65 : decode cL_refuses 65 = .ok (.aload_n 0, 1) := by decide +kernel
theorem dL_refuses_66 : decode cL_refuses 66 = .ok (.iload_n 3, 1) := by decide +kernel
theorem dL_refuses_67 : decode cL_refuses 67 = .ok (.bipush 99, 2) := by decide +kernel
theorem dL_refuses_69 : decode cL_refuses 69 = .ok (.invokestatic 129, 3) := by decide +kernel
theorem dL_refuses_72 : decode cL_refuses 72 = .ok (.ldc 27, 2) := by decide +kernel
theorem dL_refuses_74 : decode cL_refuses 74 = .ok (.if_icmp .ne 149, 3) := by decide +kernel
theorem dL_refuses_77 : decode cL_refuses 77 = .ok (.aload_n 0, 1) := by decide +kernel
theorem dL_refuses_78 : decode cL_refuses 78 = .ok (.iconst (-1), 1) := by decide +kernel
theorem dL_refuses_79 : decode cL_refuses 79 = .ok (.iconst 0, 1) := by decide +kernel
theorem dL_refuses_80 : decode cL_refuses 80 = .ok (.invokestatic 129, 3) := by decide +kernel
theorem dL_refuses_83 : decode cL_refuses 83 = .ok (.ldc 27, 2) := by decide +kernel
theorem dL_refuses_85 : decode cL_refuses 85 = .ok (.if_icmp .ne 138, 3) := by decide +kernel
theorem dL_refuses_88 : decode cL_refuses 88 = .ok (.aload_n 0, 1) := by decide +kernel
theorem dL_refuses_89 : decode cL_refuses 89 = .ok (.iload_n 3, 1) := by decide +kernel
theorem dL_refuses_90 : decode cL_refuses 90 = .ok (.iconst 0, 1) := by decide +kernel
theorem dL_refuses_91 : decode cL_refuses 91 = .ok (.invokestatic 131, 3) := by decide +kernel
theorem dL_refuses_94 : decode cL_refuses 94 = .ok (.ldc 27, 2) := by decide +kernel
theorem dL_refuses_96 : decode cL_refuses 96 = .ok (.if_icmp .ne 127, 3) := by decide +kernel
theorem dL_refuses_99 : decode cL_refuses 99 = .ok (.aload_n 0, 1) := by decide +kernel
theorem dL_refuses_100 : decode cL_refuses 100 = .ok (.iconst 0, 1) := by decide +kernel
theorem dL_refuses_101 : decode cL_refuses 101 = .ok (.iconst 0, 1) := by decide +kernel
theorem dL_refuses_102 : decode cL_refuses 102 = .ok (.invokestatic 123, 3) := by decide +kernel
theorem dL_refuses_105 : decode cL_refuses 105 = .ok (.ldc 17, 2) := by decide +kernel
theorem dL_refuses_107 : decode cL_refuses 107 = .ok (.if_icmp .ne 116, 3) := by decide +kernel
theorem dL_refuses_110 : decode cL_refuses 110 = .ok (.aload_n 0, 1) := by decide +kernel
theorem dL_refuses_111 : decode cL_refuses 111 = .ok (.iconst 1, 1) := by decide +kernel
theorem dL_refuses_112 : decode cL_refuses 112 = .ok (.iconst (-1), 1) := by decide +kernel
theorem dL_refuses_113 : decode cL_refuses 113 = .ok (.invokestatic 123, 3) := by decide +kernel
theorem dL_refuses_116 : decode cL_refuses 116 = .ok (.ldc 17, 2) := by decide +kernel
theorem dL_refuses_118 : decode cL_refuses 118 = .ok (.if_icmp .ne 105, 3) := by decide +kernel
theorem dL_refuses_121 : decode cL_refuses 121 = .ok (.aload_n 0, 1) := by decide +kernel
theorem dL_refuses_122 : decode cL_refuses 122 = .ok (.iload_n 3, 1) := by decide +kernel
theorem dL_refuses_123 : decode cL_refuses 123 = .ok (.invokestatic 86, 3) := by decide +kernel
theorem dL_refuses_126 : decode cL_refuses 126 = .ok (.ldc 27, 2) := by decide +kernel
theorem dL_refuses_128 : decode cL_refuses 128 = .ok (.if_icmp .ne 95, 3) := by decide +kernel
theorem dL_refuses_131 : decode cL_refuses 131 = .ok (.aload_n 0, 1) := by decide +kernel
theorem dL_refuses_132 : decode cL_refuses 132 = .ok (.iconst (-1), 1) := by decide +kernel
theorem dL_refuses_133 : decode cL_refuses 133 = .ok (.invokestatic 133, 3) := by decide +kernel
theorem dL_refuses_136 : decode cL_refuses 136 = .ok (.ldc 27, 2) := by decide +kernel
theorem dL_refuses_138 : decode cL_refuses 138 = .ok (.if_icmp .ne 85, 3) := by decide +kernel
theorem dL_refuses_141 : decode cL_refuses 141 = .ok (.aload_n 0, 1) := by decide +kernel
theorem dL_refuses_142 : decode cL_refuses 142 = .ok (.iload_n 3, 1) := by decide +kernel
theorem dL_refuses_143 : decode cL_refuses 143 = .ok (.bipush 99, 2) := by decide +kernel
theorem dL_refuses_145 : decode cL_refuses 145 = .ok (.invokestatic 74, 3) := by decide +kernel
theorem dL_refuses_148 : decode cL_refuses 148 = .ok (.ldc 27, 2) := by decide +kernel
theorem dL_refuses_150 : decode cL_refuses 150 = .ok (.if_icmp .ne 73, 3) := by decide +kernel
theorem dL_refuses_153 : decode cL_refuses 153 = .ok (.aload_n 0, 1) := by decide +kernel
theorem dL_refuses_154 : decode cL_refuses 154 = .ok (.iconst (-1), 1) := by decide +kernel
theorem dL_refuses_155 : decode cL_refuses 155 = .ok (.invokestatic 66, 3) := by decide +kernel
theorem dL_refuses_158 : decode cL_refuses 158 = .ok (.ldc 17, 2) := by decide +kernel
theorem dL_refuses_160 : decode cL_refuses 160 = .ok (.if_icmp .ne 63, 3) := by decide +kernel
theorem dL_refuses_163 : decode cL_refuses 163 = .ok (.aload_n 0, 1) := by decide +kernel
theorem dL_refuses_164 : decode cL_refuses 164 = .ok (.iconst 3, 1) := by decide +kernel
theorem dL_refuses_165 : decode cL_refuses 165 = .ok (.invokestatic 71, 3) := by decide +kernel
theorem dL_refuses_168 : decode cL_refuses 168 = .ok (.ldc2_w 51, 3) := by decide +kernel
theorem dL_refuses_171 : decode cL_refuses 171 = .ok (.lcmp, 1) := by decide +kernel
theorem dL_refuses_172 : decode cL_refuses 172 = .ok (.ifCond .ne 51, 3) := by decide +kernel
theorem dL_refuses_175 : decode cL_refuses 175 = .ok (.aload_n 0, 1) := by decide +kernel
theorem dL_refuses_176 : decode cL_refuses 176 = .ok (.iload_n 3, 1) := by decide +kernel
theorem dL_refuses_177 : decode cL_refuses 177 = .ok (.iconst 0, 1) := by decide +kernel
theorem dL_refuses_178 : decode cL_refuses 178 = .ok (.invokestatic 84, 3) := by decide +kernel
theorem dL_refuses_181 : decode cL_refuses 181 = .ok (.ldc 27, 2) := by decide +kernel
theorem dL_refuses_183 : decode cL_refuses 183 = .ok (.if_icmp .ne 40, 3) := by decide +kernel
theorem dL_refuses_186 : decode cL_refuses 186 = .ok (.aload_n 0, 1) := by decide +kernel
theorem dL_refuses_187 : decode cL_refuses 187 = .ok (.iconst 0, 1) := by decide +kernel
theorem dL_refuses_188 : decode cL_refuses 188 = .ok (.iconst (-1), 1) := by decide +kernel
theorem dL_refuses_189 : decode cL_refuses 189 = .ok (.invokestatic 84, 3) := by decide +kernel
theorem dL_refuses_192 : decode cL_refuses 192 = .ok (.ldc 27, 2) := by decide +kernel
theorem dL_refuses_194 : decode cL_refuses 194 = .ok (.if_icmp .ne 29, 3) := by decide +kernel
theorem dL_refuses_197 : decode cL_refuses 197 = .ok (.aload_n 0, 1) := by decide +kernel
theorem dL_refuses_198 : decode cL_refuses 198 = .ok (.iconst 0, 1) := by decide +kernel
theorem dL_refuses_199 : decode cL_refuses 199 = .ok (.invokestatic 120, 3) := by decide +kernel
theorem dL_refuses_202 : decode cL_refuses 202 = .ok (.ldc 17, 2) := by decide +kernel
theorem dL_refuses_204 : decode cL_refuses 204 = .ok (.if_icmp .ne 19, 3) := by decide +kernel
theorem dL_refuses_207 : decode cL_refuses 207 = .ok (.aload_n 0, 1) := by decide +kernel
theorem dL_refuses_208 : decode cL_refuses 208 = .ok (.sipush 128, 3) := by decide +kernel
theorem dL_refuses_211 : decode cL_refuses 211 = .ok (.invokestatic 135, 3) := by decide +kernel
theorem dL_refuses_214 : decode cL_refuses 214 = .ok (.ldc 17, 2) := by decide +kernel
theorem dL_refuses_216 : decode cL_refuses 216 = .ok (.if_icmp .ne 7, 3) := by decide +kernel
theorem dL_refuses_219 : decode cL_refuses 219 = .ok (.iconst 1, 1) := by decide +kernel
theorem dL_refuses_220 : decode cL_refuses 220 = .ok (.goto 4, 3) := by decide +kernel
theorem dL_refuses_223 : decode cL_refuses 223 = .ok (.iconst 0, 1) := by decide +kernel
theorem dL_refuses_224 : decode cL_refuses 224 = .ok (.istore 4, 2) := by decide +kernel
theorem dL_refuses_226 : decode cL_refuses 226 = .ok (.iload 4, 2) := by decide +kernel
theorem dL_refuses_228 : decode cL_refuses 228 = .ok (.ifCond .eq 16, 3) := by decide +kernel
theorem dL_refuses_231 : decode cL_refuses 231 = .ok (.aload_n 0, 1) := by decide +kernel
theorem dL_refuses_232 : decode cL_refuses 232 = .ok (.invokevirtual 107, 3) := by decide +kernel
theorem dL_refuses_235 : decode cL_refuses 235 = .ok (.lload_n 1, 1) := by decide +kernel
theorem dL_refuses_236 : decode cL_refuses 236 = .ok (.lcmp, 1) := by decide +kernel
theorem dL_refuses_237 : decode cL_refuses 237 = .ok (.ifCond .ne 7, 3) := by decide +kernel
theorem dL_refuses_240 : decode cL_refuses 240 = .ok (.iconst 1, 1) := by decide +kernel
theorem dL_refuses_241 : decode cL_refuses 241 = .ok (.goto 4, 3) := by decide +kernel
theorem dL_refuses_244 : decode cL_refuses 244 = .ok (.iconst 0, 1) := by decide +kernel
theorem dL_refuses_245 : decode cL_refuses 245 = .ok (.ireturn, 1) := by decide +kernel
theorem dL_law_0 : decode cL_law 0 = .ok (.new 10, 3) := by decide +kernel
theorem dL_law_3 : decode cL_law 3 = .ok (.dup, 1) := by decide +kernel
theorem dL_law_4 : decode cL_law 4 = .ok (.invokespecial 137, 3) := by decide +kernel
theorem dL_law_7 : decode cL_law 7 = .ok (.astore_n 1, 1) := by decide +kernel
theorem dL_law_8 : decode cL_law 8 = .ok (.aload_n 1, 1) := by decide +kernel
theorem dL_law_9 : decode cL_law 9 = .ok (.invokestatic 138, 3) := by decide +kernel
theorem dL_law_12 : decode cL_law 12 = .ok (.ifCond .eq 41, 3) := by decide +kernel
theorem dL_law_15 : decode cL_law 15 = .ok (.aload_n 1, 1) := by decide +kernel
theorem dL_law_16 : decode cL_law 16 = .ok (.invokestatic 88, 3) := by decide +kernel
theorem dL_law_19 : decode cL_law 19 = .ok (.ldc 20, 2) := by decide +kernel
theorem dL_law_21 : decode cL_law 21 = .ok (.if_icmp .ne 32, 3) := by decide +kernel
theorem dL_law_24 : decode cL_law 24 = .ok (.aload_n 1, 1) := by decide +kernel
theorem dL_law_25 : decode cL_law 25 = .ok (.invokestatic 142, 3) := by decide +kernel
theorem dL_law_28 : decode cL_law 28 = .ok (.ifCond .eq 25, 3) := by decide +kernel
theorem dL_law_31 : decode cL_law 31 = .ok (.aload_n 1, 1) := by decide +kernel
theorem dL_law_32 : decode cL_law 32 = .ok (.iconst 0, 1) := by decide +kernel
theorem dL_law_33 : decode cL_law 33 = .ok (.invokestatic 66, 3) := by decide +kernel
theorem dL_law_36 : decode cL_law 36 = .ok (.sipush 1000, 3) := by decide +kernel
theorem dL_law_39 : decode cL_law 39 = .ok (.if_icmp .ne 14, 3) := by decide +kernel
theorem dL_law_42 : decode cL_law 42 = .ok (.aload_n 1, 1) := by decide +kernel
theorem dL_law_43 : decode cL_law 43 = .ok (.iconst 1, 1) := by decide +kernel
theorem dL_law_44 : decode cL_law 44 = .ok (.invokestatic 66, 3) := by decide +kernel
theorem dL_law_47 : decode cL_law 47 = .ok (.sipush 200, 3) := by decide +kernel
theorem dL_law_50 : decode cL_law 50 = .ok (.if_icmp .eq 5, 3) := by decide +kernel
theorem dL_law_53 : decode cL_law 53 = .ok (.iconst 0, 1) := by decide +kernel
theorem dL_law_54 : decode cL_law 54 = .ok (.ireturn, 1) := by decide +kernel
theorem dL_law_55 : decode cL_law 55 = .ok (.iconst 0, 1) := by decide +kernel
theorem dL_law_56 : decode cL_law 56 = .ok (.istore_n 2, 1) := by decide +kernel
theorem dL_law_57 : decode cL_law 57 = .ok (.iload_n 2, 1) := by decide +kernel
theorem dL_law_58 : decode cL_law 58 = .ok (.bipush 36, 2) := by decide +kernel
theorem dL_law_60 : decode cL_law 60 = .ok (.if_icmp .ge 640, 3) := by decide +kernel
theorem dL_law_63 : decode cL_law 63 = .ok (.aload_n 0, 1) := by decide +kernel
theorem dL_law_64 : decode cL_law 64 = .ok (.iconst 2, 1) := by decide +kernel
theorem dL_law_65 : decode cL_law 65 = .ok (.iload_n 2, 1) := by decide +kernel
theorem dL_law_66 : decode cL_law 66 = .ok (.imul, 1) := by decide +kernel
theorem dL_law_67 : decode cL_law 67 = .ok (.invokestatic 145, 3) := by decide +kernel
theorem dL_law_70 : decode cL_law 70 = .ok (.istore_n 3, 1) := by decide +kernel
theorem dL_law_71 : decode cL_law 71 = .ok (.aload_n 0, 1) := by decide +kernel
theorem dL_law_72 : decode cL_law 72 = .ok (.iconst 2, 1) := by decide +kernel
theorem dL_law_73 : decode cL_law 73 = .ok (.iload_n 2, 1) := by decide +kernel
theorem dL_law_74 : decode cL_law 74 = .ok (.imul, 1) := by decide +kernel
theorem dL_law_75 : decode cL_law 75 = .ok (.iconst 1, 1) := by decide +kernel
theorem dL_law_76 : decode cL_law 76 = .ok (.iadd, 1) := by decide +kernel
theorem dL_law_77 : decode cL_law 77 = .ok (.invokestatic 145, 3) := by decide +kernel
theorem dL_law_80 : decode cL_law 80 = .ok (.istore 4, 2) := by decide +kernel
theorem dL_law_82 : decode cL_law 82 = .ok (.aload_n 1, 1) := by decide +kernel
theorem dL_law_83 : decode cL_law 83 = .ok (.iconst 2, 1) := by decide +kernel
theorem dL_law_84 : decode cL_law 84 = .ok (.invokestatic 66, 3) := by decide +kernel
theorem dL_law_87 : decode cL_law 87 = .ok (.istore 5, 2) := by decide +kernel
theorem dL_law_89 : decode cL_law 89 = .ok (.iload_n 2, 1) := by decide +kernel
theorem dL_law_90 : decode cL_law 90 = .ok (.iconst 5, 1) := by decide +kernel
theorem dL_law_91 : decode cL_law 91 = .ok (.if_icmp .ge 7, 3) := by decide +kernel
theorem dL_law_94 : decode cL_law 94 = .ok (.iconst 0, 1) := by decide +kernel
theorem dL_law_95 : decode cL_law 95 = .ok (.goto 9, 3) := by decide +kernel
theorem dL_law_98 : decode cL_law 98 = .ok (.iload_n 3, 1) := by decide +kernel
theorem dL_law_99 : decode cL_law 99 = .ok (.bipush 14, 2) := by decide +kernel
theorem dL_law_101 : decode cL_law 101 = .ok (.invokestatic 117, 3) := by decide +kernel
theorem dL_law_104 : decode cL_law 104 = .ok (.istore 6, 2) := by decide +kernel
theorem dL_law_106 : decode cL_law 106 = .ok (.iload 5, 2) := by decide +kernel
theorem dL_law_108 : decode cL_law 108 = .ok (.ifCond .ne 7, 3) := by decide +kernel
theorem dL_law_111 : decode cL_law 111 = .ok (.iconst 0, 1) := by decide +kernel
theorem dL_law_112 : decode cL_law 112 = .ok (.goto 11, 3) := by decide +kernel
theorem dL_law_115 : decode cL_law 115 = .ok (.iload_n 3, 1) := by decide +kernel
theorem dL_law_116 : decode cL_law 116 = .ok (.iconst 5, 1) := by decide +kernel
theorem dL_law_117 : decode cL_law 117 = .ok (.ishr, 1) := by decide +kernel
theorem dL_law_118 : decode cL_law 118 = .ok (.iload 5, 2) := by decide +kernel
theorem dL_law_120 : decode cL_law 120 = .ok (.invokestatic 117, 3) := by decide +kernel
theorem dL_law_123 : decode cL_law 123 = .ok (.istore 7, 2) := by decide +kernel
theorem dL_law_125 : decode cL_law 125 = .ok (.iload 6, 2) := by decide +kernel
theorem dL_law_127 : decode cL_law 127 = .ok (.iconst 2, 1) := by decide +kernel
theorem dL_law_128 : decode cL_law 128 = .ok (.if_icmp .ge 184, 3) := by decide +kernel
theorem dL_law_131 : decode cL_law 131 = .ok (.iload 4, 2) := by decide +kernel
theorem dL_law_133 : decode cL_law 133 = .ok (.sipush 401, 3) := by decide +kernel
theorem dL_law_136 : decode cL_law 136 = .ok (.invokestatic 117, 3) := by decide +kernel
theorem dL_law_139 : decode cL_law 139 = .ok (.istore 8, 2) := by decide +kernel
theorem dL_law_141 : decode cL_law 141 = .ok (.iconst 1, 1) := by decide +kernel
theorem dL_law_142 : decode cL_law 142 = .ok (.iload 4, 2) := by decide +kernel
theorem dL_law_144 : decode cL_law 144 = .ok (.iconst 4, 1) := by decide +kernel
theorem dL_law_145 : decode cL_law 145 = .ok (.ishr, 1) := by decide +kernel
theorem dL_law_146 : decode cL_law 146 = .ok (.bipush 100, 2) := by decide +kernel
theorem dL_law_148 : decode cL_law 148 = .ok (.invokestatic 117, 3) := by decide +kernel
theorem dL_law_151 : decode cL_law 151 = .ok (.iadd, 1) := by decide +kernel
theorem dL_law_152 : decode cL_law 152 = .ok (.istore 9, 2) := by decide +kernel
theorem dL_law_154 : decode cL_law 154 = .ok (.iload 4, 2) := by decide +kernel
theorem dL_law_156 : decode cL_law 156 = .ok (.bipush 8, 2) := by decide +kernel
theorem dL_law_158 : decode cL_law 158 = .ok (.ishr, 1) := by decide +kernel
theorem dL_law_159 : decode cL_law 159 = .ok (.bipush 9, 2) := by decide +kernel
theorem dL_law_161 : decode cL_law 161 = .ok (.invokestatic 117, 3) := by decide +kernel
theorem dL_law_164 : decode cL_law 164 = .ok (.iconst 4, 1) := by decide +kernel
theorem dL_law_165 : decode cL_law 165 = .ok (.isub, 1) := by decide +kernel
theorem dL_law_166 : decode cL_law 166 = .ok (.istore 10, 2) := by decide +kernel
theorem dL_law_168 : decode cL_law 168 = .ok (.iconst 1, 1) := by decide +kernel
theorem dL_law_169 : decode cL_law 169 = .ok (.iload 4, 2) := by decide +kernel
theorem dL_law_171 : decode cL_law 171 = .ok (.bipush 11, 2) := by decide +kernel
theorem dL_law_173 : decode cL_law 173 = .ok (.ishr, 1) := by decide +kernel
theorem dL_law_174 : decode cL_law 174 = .ok (.iload 4, 2) := by decide +kernel
theorem dL_law_176 : decode cL_law 176 = .ok (.bipush 20, 2) := by decide +kernel
theorem dL_law_178 : decode cL_law 178 = .ok (.ishr, 1) := by decide +kernel
theorem dL_law_179 : decode cL_law 179 = .ok (.iconst 3, 1) := by decide +kernel
theorem dL_law_180 : decode cL_law 180 = .ok (.invokestatic 117, 3) := by decide +kernel
theorem dL_law_183 : decode cL_law 183 = .ok (.ifCond .ne 8, 3) := by decide +kernel
theorem dL_law_186 : decode cL_law 186 = .ok (.ldc 125, 2) := by decide +kernel
theorem dL_law_188 : decode cL_law 188 = .ok (.goto 6, 3) := by decide +kernel
theorem dL_law_191 : decode cL_law 191 = .ok (.sipush 900, 3) := by decide +kernel
theorem dL_law_194 : decode cL_law 194 = .ok (.invokestatic 117, 3) := by decide +kernel
theorem dL_law_197 : decode cL_law 197 = .ok (.iadd, 1) := by decide +kernel
theorem dL_law_198 : decode cL_law 198 = .ok (.istore 11, 2) := by decide +kernel
theorem dL_law_200 : decode cL_law 200 = .ok (.aload_n 1, 1) := by decide +kernel
theorem dL_law_201 : decode cL_law 201 = .ok (.iload 8, 2) := by decide +kernel
theorem dL_law_203 : decode cL_law 203 = .ok (.iload 9, 2) := by decide +kernel
theorem dL_law_205 : decode cL_law 205 = .ok (.iload 10, 2) := by decide +kernel
theorem dL_law_207 : decode cL_law 207 = .ok (.iload 11, 2) := by decide +kernel
theorem dL_law_209 : decode cL_law 209 = .ok (.invokestatic 126, 3) := by decide +kernel
theorem dL_law_212 : decode cL_law 212 = .ok (.istore 12, 2) := by decide +kernel
theorem dL_law_214 : decode cL_law 214 = .ok (.iload 12, 2) := by decide +kernel
theorem dL_law_216 : decode cL_law 216 = .ok (.iload 5, 2) := by decide +kernel
theorem dL_law_218 : decode cL_law 218 = .ok (.bipush 16, 2) := by decide +kernel
theorem dL_law_220 : decode cL_law 220 = .ok (.if_icmp .ne 8, 3) := by decide +kernel
theorem dL_law_223 : decode cL_law 223 = .ok (.ldc 20, 2) := by decide +kernel
theorem dL_law_225 : decode cL_law 225 = .ok (.goto 5, 3) := by decide +kernel
theorem dL_law_228 : decode cL_law 228 = .ok (.iload 5, 2) := by decide +kernel
theorem dL_law_230 : decode cL_law 230 = .ok (.if_icmp .ne 77, 3) := by decide +kernel
theorem dL_law_233 : decode cL_law 233 = .ok (.iload 12, 2) := by decide +kernel
theorem dL_law_235 : decode cL_law 235 = .ok (.ifCond .lt 74, 3) := by decide +kernel
theorem dL_law_238 : decode cL_law 238 = .ok (.aload_n 1, 1) := by decide +kernel
theorem dL_law_239 : decode cL_law 239 = .ok (.iload 12, 2) := by decide +kernel
theorem dL_law_241 : decode cL_law 241 = .ok (.iconst 0, 1) := by decide +kernel
theorem dL_law_242 : decode cL_law 242 = .ok (.invokestatic 74, 3) := by decide +kernel
theorem dL_law_245 : decode cL_law 245 = .ok (.iload 8, 2) := by decide +kernel
theorem dL_law_247 : decode cL_law 247 = .ok (.if_icmp .ne 60, 3) := by decide +kernel
theorem dL_law_250 : decode cL_law 250 = .ok (.aload_n 1, 1) := by decide +kernel
theorem dL_law_251 : decode cL_law 251 = .ok (.iload 12, 2) := by decide +kernel
theorem dL_law_253 : decode cL_law 253 = .ok (.iconst 1, 1) := by decide +kernel
theorem dL_law_254 : decode cL_law 254 = .ok (.invokestatic 74, 3) := by decide +kernel
theorem dL_law_257 : decode cL_law 257 = .ok (.iload 9, 2) := by decide +kernel
theorem dL_law_259 : decode cL_law 259 = .ok (.if_icmp .ne 48, 3) := by decide +kernel
theorem dL_law_262 : decode cL_law 262 = .ok (.aload_n 1, 1) := by decide +kernel
theorem dL_law_263 : decode cL_law 263 = .ok (.iload 12, 2) := by decide +kernel
theorem dL_law_265 : decode cL_law 265 = .ok (.iconst 2, 1) := by decide +kernel
theorem dL_law_266 : decode cL_law 266 = .ok (.invokestatic 74, 3) := by decide +kernel
theorem dL_law_269 : decode cL_law 269 = .ok (.iload 10, 2) := by decide +kernel
theorem dL_law_271 : decode cL_law 271 = .ok (.if_icmp .ne 36, 3) := by decide +kernel
theorem dL_law_274 : decode cL_law 274 = .ok (.aload_n 1, 1) := by decide +kernel
theorem dL_law_275 : decode cL_law 275 = .ok (.iload 12, 2) := by decide +kernel
theorem dL_law_277 : decode cL_law 277 = .ok (.iconst 3, 1) := by decide +kernel
theorem dL_law_278 : decode cL_law 278 = .ok (.invokestatic 74, 3) := by decide +kernel
theorem dL_law_281 : decode cL_law 281 = .ok (.iload 11, 2) := by decide +kernel
theorem dL_law_283 : decode cL_law 283 = .ok (.if_icmp .ne 24, 3) := by decide +kernel
theorem dL_law_286 : decode cL_law 286 = .ok (.aload_n 1, 1) := by decide +kernel
theorem dL_law_287 : decode cL_law 287 = .ok (.iload 12, 2) := by decide +kernel
theorem dL_law_289 : decode cL_law 289 = .ok (.iconst 4, 1) := by decide +kernel
theorem dL_law_290 : decode cL_law 290 = .ok (.invokestatic 74, 3) := by decide +kernel
theorem dL_law_293 : decode cL_law 293 = .ok (.ifCond .ne 14, 3) := by decide +kernel
theorem dL_law_296 : decode cL_law 296 = .ok (.aload_n 1, 1) := by decide +kernel
theorem dL_law_297 : decode cL_law 297 = .ok (.iload 12, 2) := by decide +kernel
theorem dL_law_299 : decode cL_law 299 = .ok (.bipush 8, 2) := by decide +kernel
theorem dL_law_301 : decode cL_law 301 = .ok (.invokestatic 74, 3) := by decide +kernel
theorem dL_law_304 : decode cL_law 304 = .ok (.ifCond .eq 5, 3) := by decide +kernel
theorem dL_law_307 : decode cL_law 307 = .ok (.iconst 0, 1) := by decide +kernel
theorem dL_law_308 : decode cL_law 308 = .ok (.ireturn, 1) := by decide +kernel
theorem dL_law_309 : decode cL_law 309 = .ok (.goto 376, 3) := by decide +kernel
theorem dL_law_312 : decode cL_law 312 = .ok (.iload 6, 2) := by decide +kernel
theorem dL_law_314 : decode cL_law 314 = .ok (.iconst 4, 1) := by decide +kernel
theorem dL_law_315 : decode cL_law 315 = .ok (.if_icmp .ge 92, 3) := by decide +kernel
theorem dL_law_318 : decode cL_law 318 = .ok (.aload_n 1, 1) := by decide +kernel
theorem dL_law_319 : decode cL_law 319 = .ok (.iconst 0, 1) := by decide +kernel
theorem dL_law_320 : decode cL_law 320 = .ok (.invokestatic 66, 3) := by decide +kernel
theorem dL_law_323 : decode cL_law 323 = .ok (.istore 8, 2) := by decide +kernel
theorem dL_law_325 : decode cL_law 325 = .ok (.iconst 1, 1) := by decide +kernel
theorem dL_law_326 : decode cL_law 326 = .ok (.iload 4, 2) := by decide +kernel
theorem dL_law_328 : decode cL_law 328 = .ok (.iload 4, 2) := by decide +kernel
theorem dL_law_330 : decode cL_law 330 = .ok (.bipush 20, 2) := by decide +kernel
theorem dL_law_332 : decode cL_law 332 = .ok (.ishr, 1) := by decide +kernel
theorem dL_law_333 : decode cL_law 333 = .ok (.iconst 4, 1) := by decide +kernel
theorem dL_law_334 : decode cL_law 334 = .ok (.invokestatic 117, 3) := by decide +kernel
theorem dL_law_337 : decode cL_law 337 = .ok (.ifCond .ne 8, 3) := by decide +kernel
theorem dL_law_340 : decode cL_law 340 = .ok (.ldc 122, 2) := by decide +kernel
theorem dL_law_342 : decode cL_law 342 = .ok (.goto 6, 3) := by decide +kernel
theorem dL_law_345 : decode cL_law 345 = .ok (.sipush 2500, 3) := by decide +kernel
theorem dL_law_348 : decode cL_law 348 = .ok (.invokestatic 117, 3) := by decide +kernel
theorem dL_law_351 : decode cL_law 351 = .ok (.iadd, 1) := by decide +kernel
theorem dL_law_352 : decode cL_law 352 = .ok (.istore 9, 2) := by decide +kernel
theorem dL_law_354 : decode cL_law 354 = .ok (.bipush 80, 2) := by decide +kernel
theorem dL_law_356 : decode cL_law 356 = .ok (.iload 4, 2) := by decide +kernel
theorem dL_law_358 : decode cL_law 358 = .ok (.iconst 5, 1) := by decide +kernel
theorem dL_law_359 : decode cL_law 359 = .ok (.ishr, 1) := by decide +kernel
theorem dL_law_360 : decode cL_law 360 = .ok (.sipush 240, 3) := by decide +kernel
theorem dL_law_363 : decode cL_law 363 = .ok (.invokestatic 117, 3) := by decide +kernel
theorem dL_law_366 : decode cL_law 366 = .ok (.iadd, 1) := by decide +kernel
theorem dL_law_367 : decode cL_law 367 = .ok (.istore 10, 2) := by decide +kernel
theorem dL_law_369 : decode cL_law 369 = .ok (.aload_n 1, 1) := by decide +kernel
theorem dL_law_370 : decode cL_law 370 = .ok (.iload 9, 2) := by decide +kernel
theorem dL_law_372 : decode cL_law 372 = .ok (.iload 10, 2) := by decide +kernel
theorem dL_law_374 : decode cL_law 374 = .ok (.invokestatic 123, 3) := by decide +kernel
theorem dL_law_377 : decode cL_law 377 = .ok (.iload 8, 2) := by decide +kernel
theorem dL_law_379 : decode cL_law 379 = .ok (.if_icmp .ne 23, 3) := by decide +kernel
theorem dL_law_382 : decode cL_law 382 = .ok (.aload_n 1, 1) := by decide +kernel
theorem dL_law_383 : decode cL_law 383 = .ok (.iconst 0, 1) := by decide +kernel
theorem dL_law_384 : decode cL_law 384 = .ok (.invokestatic 66, 3) := by decide +kernel
theorem dL_law_387 : decode cL_law 387 = .ok (.iload 9, 2) := by decide +kernel
theorem dL_law_389 : decode cL_law 389 = .ok (.if_icmp .ne 13, 3) := by decide +kernel
theorem dL_law_392 : decode cL_law 392 = .ok (.aload_n 1, 1) := by decide +kernel
theorem dL_law_393 : decode cL_law 393 = .ok (.iconst 1, 1) := by decide +kernel
theorem dL_law_394 : decode cL_law 394 = .ok (.invokestatic 66, 3) := by decide +kernel
theorem dL_law_397 : decode cL_law 397 = .ok (.iload 10, 2) := by decide +kernel
theorem dL_law_399 : decode cL_law 399 = .ok (.if_icmp .eq 5, 3) := by decide +kernel
theorem dL_law_402 : decode cL_law 402 = .ok (.iconst 0, 1) := by decide +kernel
theorem dL_law_403 : decode cL_law 403 = .ok (.ireturn, 1) := by decide +kernel
theorem dL_law_404 : decode cL_law 404 = .ok (.goto 281, 3) := by decide +kernel
theorem dL_law_407 : decode cL_law 407 = .ok (.iload 6, 2) := by decide +kernel
theorem dL_law_409 : decode cL_law 409 = .ok (.bipush 6, 2) := by decide +kernel
theorem dL_law_411 : decode cL_law 411 = .ok (.if_icmp .ge 103, 3) := by decide +kernel
theorem dL_law_414 : decode cL_law 414 = .ok (.aload_n 1, 1) := by decide +kernel
theorem dL_law_415 : decode cL_law 415 = .ok (.iload 7, 2) := by decide +kernel
theorem dL_law_417 : decode cL_law 417 = .ok (.iconst 2, 1) := by decide +kernel
theorem dL_law_418 : decode cL_law 418 = .ok (.invokestatic 74, 3) := by decide +kernel
theorem dL_law_421 : decode cL_law 421 = .ok (.istore 8, 2) := by decide +kernel
theorem dL_law_423 : decode cL_law 423 = .ok (.aload_n 1, 1) := by decide +kernel
theorem dL_law_424 : decode cL_law 424 = .ok (.iload 7, 2) := by decide +kernel
theorem dL_law_426 : decode cL_law 426 = .ok (.iconst 3, 1) := by decide +kernel
theorem dL_law_427 : decode cL_law 427 = .ok (.invokestatic 74, 3) := by decide +kernel
theorem dL_law_430 : decode cL_law 430 = .ok (.istore 9, 2) := by decide +kernel
theorem dL_law_432 : decode cL_law 432 = .ok (.iload 4, 2) := by decide +kernel
theorem dL_law_434 : decode cL_law 434 = .ok (.bipush 31, 2) := by decide +kernel
theorem dL_law_436 : decode cL_law 436 = .ok (.invokestatic 117, 3) := by decide +kernel
theorem dL_law_439 : decode cL_law 439 = .ok (.bipush 15, 2) := by decide +kernel
theorem dL_law_441 : decode cL_law 441 = .ok (.isub, 1) := by decide +kernel
theorem dL_law_442 : decode cL_law 442 = .ok (.istore 10, 2) := by decide +kernel
theorem dL_law_444 : decode cL_law 444 = .ok (.iconst 1, 1) := by decide +kernel
theorem dL_law_445 : decode cL_law 445 = .ok (.iload 4, 2) := by decide +kernel
theorem dL_law_447 : decode cL_law 447 = .ok (.bipush 6, 2) := by decide +kernel
theorem dL_law_449 : decode cL_law 449 = .ok (.ishr, 1) := by decide +kernel
theorem dL_law_450 : decode cL_law 450 = .ok (.sipush 1200, 3) := by decide +kernel
theorem dL_law_453 : decode cL_law 453 = .ok (.invokestatic 117, 3) := by decide +kernel
theorem dL_law_456 : decode cL_law 456 = .ok (.iadd, 1) := by decide +kernel
theorem dL_law_457 : decode cL_law 457 = .ok (.istore 11, 2) := by decide +kernel
theorem dL_law_459 : decode cL_law 459 = .ok (.aload_n 1, 1) := by decide +kernel
theorem dL_law_460 : decode cL_law 460 = .ok (.iload 7, 2) := by decide +kernel
theorem dL_law_462 : decode cL_law 462 = .ok (.iload 10, 2) := by decide +kernel
theorem dL_law_464 : decode cL_law 464 = .ok (.invokestatic 129, 3) := by decide +kernel
theorem dL_law_467 : decode cL_law 467 = .ok (.iload 8, 2) := by decide +kernel
theorem dL_law_469 : decode cL_law 469 = .ok (.if_icmp .ne 40, 3) := by decide +kernel
theorem dL_law_472 : decode cL_law 472 = .ok (.aload_n 1, 1) := by decide +kernel
theorem dL_law_473 : decode cL_law 473 = .ok (.iload 7, 2) := by decide +kernel
theorem dL_law_475 : decode cL_law 475 = .ok (.iconst 2, 1) := by decide +kernel
theorem dL_law_476 : decode cL_law 476 = .ok (.invokestatic 74, 3) := by decide +kernel
theorem dL_law_479 : decode cL_law 479 = .ok (.iload 10, 2) := by decide +kernel
theorem dL_law_481 : decode cL_law 481 = .ok (.if_icmp .ne 28, 3) := by decide +kernel
theorem dL_law_484 : decode cL_law 484 = .ok (.aload_n 1, 1) := by decide +kernel
theorem dL_law_485 : decode cL_law 485 = .ok (.iload 7, 2) := by decide +kernel
theorem dL_law_487 : decode cL_law 487 = .ok (.iload 11, 2) := by decide +kernel
theorem dL_law_489 : decode cL_law 489 = .ok (.invokestatic 131, 3) := by decide +kernel
theorem dL_law_492 : decode cL_law 492 = .ok (.iload 9, 2) := by decide +kernel
theorem dL_law_494 : decode cL_law 494 = .ok (.if_icmp .ne 15, 3) := by decide +kernel
theorem dL_law_497 : decode cL_law 497 = .ok (.aload_n 1, 1) := by decide +kernel
theorem dL_law_498 : decode cL_law 498 = .ok (.iload 7, 2) := by decide +kernel
theorem dL_law_500 : decode cL_law 500 = .ok (.iconst 3, 1) := by decide +kernel
theorem dL_law_501 : decode cL_law 501 = .ok (.invokestatic 74, 3) := by decide +kernel
theorem dL_law_504 : decode cL_law 504 = .ok (.iload 11, 2) := by decide +kernel
theorem dL_law_506 : decode cL_law 506 = .ok (.if_icmp .eq 5, 3) := by decide +kernel
theorem dL_law_509 : decode cL_law 509 = .ok (.iconst 0, 1) := by decide +kernel
theorem dL_law_510 : decode cL_law 510 = .ok (.ireturn, 1) := by decide +kernel
theorem dL_law_511 : decode cL_law 511 = .ok (.goto 174, 3) := by decide +kernel
theorem dL_law_514 : decode cL_law 514 = .ok (.iload 6, 2) := by decide +kernel
theorem dL_law_516 : decode cL_law 516 = .ok (.bipush 9, 2) := by decide +kernel
theorem dL_law_518 : decode cL_law 518 = .ok (.if_icmp .ge 21, 3) := by decide +kernel
theorem dL_law_521 : decode cL_law 521 = .ok (.aload_n 1, 1) := by decide +kernel
theorem dL_law_522 : decode cL_law 522 = .ok (.iload 7, 2) := by decide +kernel
theorem dL_law_524 : decode cL_law 524 = .ok (.iload 4, 2) := by decide +kernel
theorem dL_law_526 : decode cL_law 526 = .ok (.iload 5, 2) := by decide +kernel
theorem dL_law_528 : decode cL_law 528 = .ok (.invokestatic 117, 3) := by decide +kernel
theorem dL_law_531 : decode cL_law 531 = .ok (.invokestatic 149, 3) := by decide +kernel
theorem dL_law_534 : decode cL_law 534 = .ok (.ifCond .ne 151, 3) := by decide +kernel
theorem dL_law_537 : decode cL_law 537 = .ok (.iconst 0, 1) := by decide +kernel
theorem dL_law_538 : decode cL_law 538 = .ok (.ireturn, 1) := by decide +kernel
theorem dL_law_539 : decode cL_law 539 = .ok (.iload 6, 2) := by decide +kernel
theorem dL_law_541 : decode cL_law 541 = .ok (.bipush 9, 2) := by decide +kernel
theorem dL_law_543 : decode cL_law 543 = .ok (.if_icmp .ne 76, 3) := by decide +kernel
theorem dL_law_546 : decode cL_law 546 = .ok (.aload_n 1, 1) := by decide +kernel
theorem dL_law_547 : decode cL_law 547 = .ok (.iload 7, 2) := by decide +kernel
theorem dL_law_549 : decode cL_law 549 = .ok (.iconst 4, 1) := by decide +kernel
theorem dL_law_550 : decode cL_law 550 = .ok (.invokestatic 74, 3) := by decide +kernel
theorem dL_law_553 : decode cL_law 553 = .ok (.istore 8, 2) := by decide +kernel
theorem dL_law_555 : decode cL_law 555 = .ok (.aload_n 1, 1) := by decide +kernel
theorem dL_law_556 : decode cL_law 556 = .ok (.iload 7, 2) := by decide +kernel
theorem dL_law_558 : decode cL_law 558 = .ok (.invokestatic 133, 3) := by decide +kernel
theorem dL_law_561 : decode cL_law 561 = .ok (.istore 9, 2) := by decide +kernel
theorem dL_law_563 : decode cL_law 563 = .ok (.iload 8, 2) := by decide +kernel
theorem dL_law_565 : decode cL_law 565 = .ok (.ifCond .ne 13, 3) := by decide +kernel
theorem dL_law_568 : decode cL_law 568 = .ok (.iload 9, 2) := by decide +kernel
theorem dL_law_570 : decode cL_law 570 = .ok (.ldc 20, 2) := by decide +kernel
theorem dL_law_572 : decode cL_law 572 = .ok (.if_icmp .eq 44, 3) := by decide +kernel
theorem dL_law_575 : decode cL_law 575 = .ok (.goto 39, 3) := by decide +kernel
theorem dL_law_578 : decode cL_law 578 = .ok (.aload_n 1, 1) := by decide +kernel
theorem dL_law_579 : decode cL_law 579 = .ok (.iload 7, 2) := by decide +kernel
theorem dL_law_581 : decode cL_law 581 = .ok (.iconst 4, 1) := by decide +kernel
theorem dL_law_582 : decode cL_law 582 = .ok (.invokestatic 74, 3) := by decide +kernel
theorem dL_law_585 : decode cL_law 585 = .ok (.ifCond .ne 29, 3) := by decide +kernel
theorem dL_law_588 : decode cL_law 588 = .ok (.iload 9, 2) := by decide +kernel
theorem dL_law_590 : decode cL_law 590 = .ok (.aload_n 1, 1) := by decide +kernel
theorem dL_law_591 : decode cL_law 591 = .ok (.bipush 6, 2) := by decide +kernel
theorem dL_law_593 : decode cL_law 593 = .ok (.invokestatic 66, 3) := by decide +kernel
theorem dL_law_596 : decode cL_law 596 = .ok (.iconst 1, 1) := by decide +kernel
theorem dL_law_597 : decode cL_law 597 = .ok (.if_icmp .ne 13, 3) := by decide +kernel
theorem dL_law_600 : decode cL_law 600 = .ok (.aload_n 1, 1) := by decide +kernel
theorem dL_law_601 : decode cL_law 601 = .ok (.iload 7, 2) := by decide +kernel
theorem dL_law_603 : decode cL_law 603 = .ok (.iconst 5, 1) := by decide +kernel
theorem dL_law_604 : decode cL_law 604 = .ok (.invokestatic 74, 3) := by decide +kernel
theorem dL_law_607 : decode cL_law 607 = .ok (.goto 4, 3) := by decide +kernel
theorem dL_law_610 : decode cL_law 610 = .ok (.iconst (-1), 1) := by decide +kernel
theorem dL_law_611 : decode cL_law 611 = .ok (.if_icmp .eq 5, 3) := by decide +kernel
theorem dL_law_614 : decode cL_law 614 = .ok (.iconst 0, 1) := by decide +kernel
theorem dL_law_615 : decode cL_law 615 = .ok (.ireturn, 1) := by decide +kernel
theorem dL_law_616 : decode cL_law 616 = .ok (.goto 69, 3) := by decide +kernel
theorem dL_law_619 : decode cL_law 619 = .ok (.iload 6, 2) := by decide +kernel
theorem dL_law_621 : decode cL_law 621 = .ok (.bipush 10, 2) := by decide +kernel
theorem dL_law_623 : decode cL_law 623 = .ok (.if_icmp .ne 28, 3) := by decide +kernel
