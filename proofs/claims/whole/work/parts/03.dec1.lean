theorem dX1_init_0 : decode cX1_init 0 = .ok (.aload_n 0, 1) := by decide +kernel
theorem dX1_init_1 : decode cX1_init 1 = .ok (.invokespecial 1, 3) := by decide +kernel
theorem dX1_init_4 : decode cX1_init 4 = .ok (.aload_n 0, 1) := by decide +kernel
theorem dX1_init_5 : decode cX1_init 5 = .ok (.sipush 432, 3) := by decide +kernel
theorem dX1_init_8 : decode cX1_init 8 = .ok (.newarray .int, 2) := by decide +kernel
theorem dX1_init_10 : decode cX1_init 10 = .ok (.putfield 7, 3) := by decide +kernel
theorem dX1_init_13 : decode cX1_init 13 = .ok (.aload_n 0, 1) := by decide +kernel
theorem dX1_init_14 : decode cX1_init 14 = .ok (.bipush 32, 2) := by decide +kernel
theorem dX1_init_16 : decode cX1_init 16 = .ok (.newarray .int, 2) := by decide +kernel
theorem dX1_init_18 : decode cX1_init 18 = .ok (.putfield 13, 3) := by decide +kernel
theorem dX1_init_21 : decode cX1_init 21 = .ok (.aload_n 0, 1) := by decide +kernel
theorem dX1_init_22 : decode cX1_init 22 = .ok (.bipush 96, 2) := by decide +kernel
theorem dX1_init_24 : decode cX1_init 24 = .ok (.newarray .int, 2) := by decide +kernel
theorem dX1_init_26 : decode cX1_init 26 = .ok (.putfield 16, 3) := by decide +kernel
theorem dX1_init_29 : decode cX1_init 29 = .ok (.aload_n 0, 1) := by decide +kernel
theorem dX1_init_30 : decode cX1_init 30 = .ok (.bipush 32, 2) := by decide +kernel
theorem dX1_init_32 : decode cX1_init 32 = .ok (.newarray .int, 2) := by decide +kernel
theorem dX1_init_34 : decode cX1_init 34 = .ok (.putfield 19, 3) := by decide +kernel
theorem dX1_init_37 : decode cX1_init 37 = .ok (.aload_n 0, 1) := by decide +kernel
theorem dX1_init_38 : decode cX1_init 38 = .ok (.bipush 32, 2) := by decide +kernel
theorem dX1_init_40 : decode cX1_init 40 = .ok (.newarray .int, 2) := by decide +kernel
theorem dX1_init_42 : decode cX1_init 42 = .ok (.putfield 22, 3) := by decide +kernel
theorem dX1_init_45 : decode cX1_init 45 = .ok (.aload_n 0, 1) := by decide +kernel
theorem dX1_init_46 : decode cX1_init 46 = .ok (.bipush 32, 2) := by decide +kernel
theorem dX1_init_48 : decode cX1_init 48 = .ok (.newarray .int, 2) := by decide +kernel
theorem dX1_init_50 : decode cX1_init 50 = .ok (.putfield 25, 3) := by decide +kernel
theorem dX1_init_53 : decode cX1_init 53 = .ok (.aload_n 0, 1) := by decide +kernel
theorem dX1_init_54 : decode cX1_init 54 = .ok (.bipush 32, 2) := by decide +kernel
theorem dX1_init_56 : decode cX1_init 56 = .ok (.newarray .int, 2) := by decide +kernel
theorem dX1_init_58 : decode cX1_init 58 = .ok (.putfield 28, 3) := by decide +kernel
theorem dX1_init_61 : decode cX1_init 61 = .ok (.aload_n 0, 1) := by decide +kernel
theorem dX1_init_62 : decode cX1_init 62 = .ok (.sipush 1024, 3) := by decide +kernel
theorem dX1_init_65 : decode cX1_init 65 = .ok (.newarray .int, 2) := by decide +kernel
theorem dX1_init_67 : decode cX1_init 67 = .ok (.putfield 31, 3) := by decide +kernel
theorem dX1_init_70 : decode cX1_init 70 = .ok (.aload_n 0, 1) := by decide +kernel
theorem dX1_init_71 : decode cX1_init 71 = .ok (.sipush 3072, 3) := by decide +kernel
theorem dX1_init_74 : decode cX1_init 74 = .ok (.newarray .int, 2) := by decide +kernel
theorem dX1_init_76 : decode cX1_init 76 = .ok (.putfield 34, 3) := by decide +kernel
theorem dX1_init_79 : decode cX1_init 79 = .ok (.aload_n 0, 1) := by decide +kernel
theorem dX1_init_80 : decode cX1_init 80 = .ok (.iload_n 1, 1) := by decide +kernel
theorem dX1_init_81 : decode cX1_init 81 = .ok (.iconst 1, 1) := by decide +kernel
theorem dX1_init_82 : decode cX1_init 82 = .ok (.if_icmp .ge 7, 3) := by decide +kernel
theorem dX1_init_85 : decode cX1_init 85 = .ok (.iconst 1, 1) := by decide +kernel
theorem dX1_init_86 : decode cX1_init 86 = .ok (.goto 15, 3) := by decide +kernel
theorem dX1_init_89 : decode cX1_init 89 = .ok (.iload_n 1, 1) := by decide +kernel
theorem dX1_init_90 : decode cX1_init 90 = .ok (.bipush 48, 2) := by decide +kernel
theorem dX1_init_92 : decode cX1_init 92 = .ok (.if_icmp .le 8, 3) := by decide +kernel
theorem dX1_init_95 : decode cX1_init 95 = .ok (.bipush 48, 2) := by decide +kernel
theorem dX1_init_97 : decode cX1_init 97 = .ok (.goto 4, 3) := by decide +kernel
theorem dX1_init_100 : decode cX1_init 100 = .ok (.iload_n 1, 1) := by decide +kernel
theorem dX1_init_101 : decode cX1_init 101 = .ok (.putfield 37, 3) := by decide +kernel
theorem dX1_init_104 : decode cX1_init 104 = .ok (.iconst 0, 1) := by decide +kernel
theorem dX1_init_105 : decode cX1_init 105 = .ok (.istore_n 2, 1) := by decide +kernel
theorem dX1_init_106 : decode cX1_init 106 = .ok (.iload_n 2, 1) := by decide +kernel
theorem dX1_init_107 : decode cX1_init 107 = .ok (.aload_n 0, 1) := by decide +kernel
theorem dX1_init_108 : decode cX1_init 108 = .ok (.getfield 37, 3) := by decide +kernel
theorem dX1_init_111 : decode cX1_init 111 = .ok (.if_icmp .ge 37, 3) := by decide +kernel
theorem dX1_init_114 : decode cX1_init 114 = .ok (.bipush 6, 2) := by decide +kernel
theorem dX1_init_116 : decode cX1_init 116 = .ok (.istore_n 3, 1) := by decide +kernel
theorem dX1_init_117 : decode cX1_init 117 = .ok (.iload_n 3, 1) := by decide +kernel
theorem dX1_init_118 : decode cX1_init 118 = .ok (.bipush 9, 2) := by decide +kernel
theorem dX1_init_120 : decode cX1_init 120 = .ok (.if_icmp .ge 22, 3) := by decide +kernel
theorem dX1_init_123 : decode cX1_init 123 = .ok (.aload_n 0, 1) := by decide +kernel
theorem dX1_init_124 : decode cX1_init 124 = .ok (.getfield 7, 3) := by decide +kernel
theorem dX1_init_127 : decode cX1_init 127 = .ok (.bipush 9, 2) := by decide +kernel
theorem dX1_init_129 : decode cX1_init 129 = .ok (.iload_n 2, 1) := by decide +kernel
theorem dX1_init_130 : decode cX1_init 130 = .ok (.imul, 1) := by decide +kernel
theorem dX1_init_131 : decode cX1_init 131 = .ok (.iload_n 3, 1) := by decide +kernel
theorem dX1_init_132 : decode cX1_init 132 = .ok (.iadd, 1) := by decide +kernel
theorem dX1_init_133 : decode cX1_init 133 = .ok (.ldc 41, 2) := by decide +kernel
theorem dX1_init_135 : decode cX1_init 135 = .ok (.iastore, 1) := by decide +kernel
theorem dX1_init_136 : decode cX1_init 136 = .ok (.iinc 3 1, 3) := by decide +kernel
theorem dX1_init_139 : decode cX1_init 139 = .ok (.goto (-22), 3) := by decide +kernel
theorem dX1_init_142 : decode cX1_init 142 = .ok (.iinc 2 1, 3) := by decide +kernel
theorem dX1_init_145 : decode cX1_init 145 = .ok (.goto (-39), 3) := by decide +kernel
theorem dX1_init_148 : decode cX1_init 148 = .ok (.return_, 1) := by decide +kernel
theorem dX1_key_0 : decode cX1_key 0 = .ok (.aload_n 0, 1) := by decide +kernel
theorem dX1_key_1 : decode cX1_key 1 = .ok (.iconst 0, 1) := by decide +kernel
theorem dX1_key_2 : decode cX1_key 2 = .ok (.putfield 42, 3) := by decide +kernel
theorem dX1_key_5 : decode cX1_key 5 = .ok (.iload_n 1, 1) := by decide +kernel
theorem dX1_key_6 : decode cX1_key 6 = .ok (.ifCond .lt 35, 3) := by decide +kernel
theorem dX1_key_9 : decode cX1_key 9 = .ok (.iload_n 1, 1) := by decide +kernel
theorem dX1_key_10 : decode cX1_key 10 = .ok (.ldc 47, 2) := by decide +kernel
theorem dX1_key_12 : decode cX1_key 12 = .ok (.if_icmp .gt 29, 3) := by decide +kernel
theorem dX1_key_15 : decode cX1_key 15 = .ok (.aload_n 0, 1) := by decide +kernel
theorem dX1_key_16 : decode cX1_key 16 = .ok (.getfield 48, 3) := by decide +kernel
theorem dX1_key_19 : decode cX1_key 19 = .ok (.ifCond .eq 18, 3) := by decide +kernel
theorem dX1_key_22 : decode cX1_key 22 = .ok (.iload_n 1, 1) := by decide +kernel
theorem dX1_key_23 : decode cX1_key 23 = .ok (.aload_n 0, 1) := by decide +kernel
theorem dX1_key_24 : decode cX1_key 24 = .ok (.getfield 13, 3) := by decide +kernel
theorem dX1_key_27 : decode cX1_key 27 = .ok (.aload_n 0, 1) := by decide +kernel
theorem dX1_key_28 : decode cX1_key 28 = .ok (.getfield 48, 3) := by decide +kernel
theorem dX1_key_31 : decode cX1_key 31 = .ok (.iconst 1, 1) := by decide +kernel
theorem dX1_key_32 : decode cX1_key 32 = .ok (.isub, 1) := by decide +kernel
theorem dX1_key_33 : decode cX1_key 33 = .ok (.iaload, 1) := by decide +kernel
theorem dX1_key_34 : decode cX1_key 34 = .ok (.if_icmp .le 7, 3) := by decide +kernel
theorem dX1_key_37 : decode cX1_key 37 = .ok (.iconst 1, 1) := by decide +kernel
theorem dX1_key_38 : decode cX1_key 38 = .ok (.goto 4, 3) := by decide +kernel
theorem dX1_key_41 : decode cX1_key 41 = .ok (.iconst 0, 1) := by decide +kernel
theorem dX1_key_42 : decode cX1_key 42 = .ok (.istore 5, 2) := by decide +kernel
theorem dX1_key_44 : decode cX1_key 44 = .ok (.aload_n 0, 1) := by decide +kernel
theorem dX1_key_45 : decode cX1_key 45 = .ok (.getfield 48, 3) := by decide +kernel
theorem dX1_key_48 : decode cX1_key 48 = .ok (.bipush 32, 2) := by decide +kernel
theorem dX1_key_50 : decode cX1_key 50 = .ok (.if_icmp .eq 33, 3) := by decide +kernel
theorem dX1_key_53 : decode cX1_key 53 = .ok (.iload 5, 2) := by decide +kernel
theorem dX1_key_55 : decode cX1_key 55 = .ok (.ifCond .eq 28, 3) := by decide +kernel
theorem dX1_key_58 : decode cX1_key 58 = .ok (.iconst 0, 1) := by decide +kernel
theorem dX1_key_59 : decode cX1_key 59 = .ok (.iload_n 2, 1) := by decide +kernel
theorem dX1_key_60 : decode cX1_key 60 = .ok (.invokestatic 51, 3) := by decide +kernel
theorem dX1_key_63 : decode cX1_key 63 = .ok (.ifCond .eq 20, 3) := by decide +kernel
theorem dX1_key_66 : decode cX1_key 66 = .ok (.iconst 0, 1) := by decide +kernel
theorem dX1_key_67 : decode cX1_key 67 = .ok (.iload_n 3, 1) := by decide +kernel
theorem dX1_key_68 : decode cX1_key 68 = .ok (.invokestatic 51, 3) := by decide +kernel
theorem dX1_key_71 : decode cX1_key 71 = .ok (.ifCond .eq 12, 3) := by decide +kernel
theorem dX1_key_74 : decode cX1_key 74 = .ok (.iconst 0, 1) := by decide +kernel
theorem dX1_key_75 : decode cX1_key 75 = .ok (.iload 4, 2) := by decide +kernel
theorem dX1_key_77 : decode cX1_key 77 = .ok (.invokestatic 51, 3) := by decide +kernel
theorem dX1_key_80 : decode cX1_key 80 = .ok (.ifCond .ne 5, 3) := by decide +kernel
theorem dX1_key_83 : decode cX1_key 83 = .ok (.iconst (-1), 1) := by decide +kernel
theorem dX1_key_84 : decode cX1_key 84 = .ok (.ireturn, 1) := by decide +kernel
theorem dX1_key_85 : decode cX1_key 85 = .ok (.aload_n 0, 1) := by decide +kernel
theorem dX1_key_86 : decode cX1_key 86 = .ok (.getfield 13, 3) := by decide +kernel
theorem dX1_key_89 : decode cX1_key 89 = .ok (.aload_n 0, 1) := by decide +kernel
theorem dX1_key_90 : decode cX1_key 90 = .ok (.getfield 48, 3) := by decide +kernel
theorem dX1_key_93 : decode cX1_key 93 = .ok (.iload_n 1, 1) := by decide +kernel
theorem dX1_key_94 : decode cX1_key 94 = .ok (.iastore, 1) := by decide +kernel
theorem dX1_key_95 : decode cX1_key 95 = .ok (.aload_n 0, 1) := by decide +kernel
theorem dX1_key_96 : decode cX1_key 96 = .ok (.getfield 16, 3) := by decide +kernel
theorem dX1_key_99 : decode cX1_key 99 = .ok (.iconst 3, 1) := by decide +kernel
theorem dX1_key_100 : decode cX1_key 100 = .ok (.aload_n 0, 1) := by decide +kernel
theorem dX1_key_101 : decode cX1_key 101 = .ok (.getfield 48, 3) := by decide +kernel
theorem dX1_key_104 : decode cX1_key 104 = .ok (.imul, 1) := by decide +kernel
theorem dX1_key_105 : decode cX1_key 105 = .ok (.iload_n 2, 1) := by decide +kernel
theorem dX1_key_106 : decode cX1_key 106 = .ok (.iastore, 1) := by decide +kernel
theorem dX1_key_107 : decode cX1_key 107 = .ok (.aload_n 0, 1) := by decide +kernel
theorem dX1_key_108 : decode cX1_key 108 = .ok (.getfield 16, 3) := by decide +kernel
theorem dX1_key_111 : decode cX1_key 111 = .ok (.iconst 3, 1) := by decide +kernel
theorem dX1_key_112 : decode cX1_key 112 = .ok (.aload_n 0, 1) := by decide +kernel
theorem dX1_key_113 : decode cX1_key 113 = .ok (.getfield 48, 3) := by decide +kernel
theorem dX1_key_116 : decode cX1_key 116 = .ok (.imul, 1) := by decide +kernel
theorem dX1_key_117 : decode cX1_key 117 = .ok (.iconst 1, 1) := by decide +kernel
theorem dX1_key_118 : decode cX1_key 118 = .ok (.iadd, 1) := by decide +kernel
theorem dX1_key_119 : decode cX1_key 119 = .ok (.iload_n 3, 1) := by decide +kernel
theorem dX1_key_120 : decode cX1_key 120 = .ok (.iastore, 1) := by decide +kernel
theorem dX1_key_121 : decode cX1_key 121 = .ok (.aload_n 0, 1) := by decide +kernel
theorem dX1_key_122 : decode cX1_key 122 = .ok (.getfield 16, 3) := by decide +kernel
theorem dX1_key_125 : decode cX1_key 125 = .ok (.iconst 3, 1) := by decide +kernel
theorem dX1_key_126 : decode cX1_key 126 = .ok (.aload_n 0, 1) := by decide +kernel
theorem dX1_key_127 : decode cX1_key 127 = .ok (.getfield 48, 3) := by decide +kernel
theorem dX1_key_130 : decode cX1_key 130 = .ok (.imul, 1) := by decide +kernel
theorem dX1_key_131 : decode cX1_key 131 = .ok (.iconst 2, 1) := by decide +kernel
theorem dX1_key_132 : decode cX1_key 132 = .ok (.iadd, 1) := by decide +kernel
theorem dX1_key_133 : decode cX1_key 133 = .ok (.iload 4, 2) := by decide +kernel
theorem dX1_key_135 : decode cX1_key 135 = .ok (.iastore, 1) := by decide +kernel
theorem dX1_key_136 : decode cX1_key 136 = .ok (.aload_n 0, 1) := by decide +kernel
theorem dX1_key_137 : decode cX1_key 137 = .ok (.dup, 1) := by decide +kernel
theorem dX1_key_138 : decode cX1_key 138 = .ok (.getfield 48, 3) := by decide +kernel
theorem dX1_key_141 : decode cX1_key 141 = .ok (.iconst 1, 1) := by decide +kernel
theorem dX1_key_142 : decode cX1_key 142 = .ok (.iadd, 1) := by decide +kernel
theorem dX1_key_143 : decode cX1_key 143 = .ok (.putfield 48, 3) := by decide +kernel
theorem dX1_key_146 : decode cX1_key 146 = .ok (.aload_n 0, 1) := by decide +kernel
theorem dX1_key_147 : decode cX1_key 147 = .ok (.getfield 48, 3) := by decide +kernel
theorem dX1_key_150 : decode cX1_key 150 = .ok (.ireturn, 1) := by decide +kernel
theorem dX1_fits_0 : decode cX1_fits 0 = .ok (.iload_n 0, 1) := by decide +kernel
theorem dX1_fits_1 : decode cX1_fits 1 = .ok (.ifCond .ne 8, 3) := by decide +kernel
theorem dX1_fits_4 : decode cX1_fits 4 = .ok (.ldc 45, 2) := by decide +kernel
theorem dX1_fits_6 : decode cX1_fits 6 = .ok (.goto 5, 3) := by decide +kernel
theorem dX1_fits_9 : decode cX1_fits 9 = .ok (.ldc 46, 2) := by decide +kernel
theorem dX1_fits_11 : decode cX1_fits 11 = .ok (.istore_n 2, 1) := by decide +kernel
theorem dX1_fits_12 : decode cX1_fits 12 = .ok (.iload_n 1, 1) := by decide +kernel
theorem dX1_fits_13 : decode cX1_fits 13 = .ok (.iload_n 2, 1) := by decide +kernel
theorem dX1_fits_14 : decode cX1_fits 14 = .ok (.ineg, 1) := by decide +kernel
theorem dX1_fits_15 : decode cX1_fits 15 = .ok (.if_icmp .lt 12, 3) := by decide +kernel
theorem dX1_fits_18 : decode cX1_fits 18 = .ok (.iload_n 1, 1) := by decide +kernel
theorem dX1_fits_19 : decode cX1_fits 19 = .ok (.iload_n 2, 1) := by decide +kernel
theorem dX1_fits_20 : decode cX1_fits 20 = .ok (.if_icmp .gt 7, 3) := by decide +kernel
theorem dX1_fits_23 : decode cX1_fits 23 = .ok (.iconst 1, 1) := by decide +kernel
theorem dX1_fits_24 : decode cX1_fits 24 = .ok (.goto 4, 3) := by decide +kernel
theorem dX1_fits_27 : decode cX1_fits 27 = .ok (.iconst 0, 1) := by decide +kernel
theorem dX1_fits_28 : decode cX1_fits 28 = .ok (.ireturn, 1) := by decide +kernel
theorem dX1_track_0 : decode cX1_track 0 = .ok (.aload_n 0, 1) := by decide +kernel
theorem dX1_track_1 : decode cX1_track 1 = .ok (.iconst 0, 1) := by decide +kernel
theorem dX1_track_2 : decode cX1_track 2 = .ok (.putfield 42, 3) := by decide +kernel
theorem dX1_track_5 : decode cX1_track 5 = .ok (.aload_n 0, 1) := by decide +kernel
theorem dX1_track_6 : decode cX1_track 6 = .ok (.getfield 48, 3) := by decide +kernel
theorem dX1_track_9 : decode cX1_track 9 = .ok (.istore 4, 2) := by decide +kernel
theorem dX1_track_11 : decode cX1_track 11 = .ok (.aload_n 0, 1) := by decide +kernel
theorem dX1_track_12 : decode cX1_track 12 = .ok (.iconst 0, 1) := by decide +kernel
theorem dX1_track_13 : decode cX1_track 13 = .ok (.putfield 48, 3) := by decide +kernel
theorem dX1_track_16 : decode cX1_track 16 = .ok (.iload 4, 2) := by decide +kernel
theorem dX1_track_18 : decode cX1_track 18 = .ok (.ifCond .le 34, 3) := by decide +kernel
theorem dX1_track_21 : decode cX1_track 21 = .ok (.aload_n 0, 1) := by decide +kernel
theorem dX1_track_22 : decode cX1_track 22 = .ok (.iload_n 1, 1) := by decide +kernel
theorem dX1_track_23 : decode cX1_track 23 = .ok (.iload_n 2, 1) := by decide +kernel
theorem dX1_track_24 : decode cX1_track 24 = .ok (.invokevirtual 55, 3) := by decide +kernel
theorem dX1_track_27 : decode cX1_track 27 = .ok (.ifCond .eq 25, 3) := by decide +kernel
theorem dX1_track_30 : decode cX1_track 30 = .ok (.iload_n 3, 1) := by decide +kernel
theorem dX1_track_31 : decode cX1_track 31 = .ok (.ifCond .lt 21, 3) := by decide +kernel
theorem dX1_track_34 : decode cX1_track 34 = .ok (.iload_n 3, 1) := by decide +kernel
theorem dX1_track_35 : decode cX1_track 35 = .ok (.iconst 2, 1) := by decide +kernel
theorem dX1_track_36 : decode cX1_track 36 = .ok (.if_icmp .gt 16, 3) := by decide +kernel
theorem dX1_track_39 : decode cX1_track 39 = .ok (.aload_n 0, 1) := by decide +kernel
theorem dX1_track_40 : decode cX1_track 40 = .ok (.getfield 58, 3) := by decide +kernel
theorem dX1_track_43 : decode cX1_track 43 = .ok (.bipush 32, 2) := by decide +kernel
theorem dX1_track_45 : decode cX1_track 45 = .ok (.if_icmp .ge 7, 3) := by decide +kernel
theorem dX1_track_48 : decode cX1_track 48 = .ok (.iconst 1, 1) := by decide +kernel
theorem dX1_track_49 : decode cX1_track 49 = .ok (.goto 4, 3) := by decide +kernel
theorem dX1_track_52 : decode cX1_track 52 = .ok (.iconst 0, 1) := by decide +kernel
theorem dX1_track_53 : decode cX1_track 53 = .ok (.istore 5, 2) := by decide +kernel
theorem dX1_track_55 : decode cX1_track 55 = .ok (.iconst 0, 1) := by decide +kernel
theorem dX1_track_56 : decode cX1_track 56 = .ok (.istore 6, 2) := by decide +kernel
theorem dX1_track_58 : decode cX1_track 58 = .ok (.iload 6, 2) := by decide +kernel
theorem dX1_track_60 : decode cX1_track 60 = .ok (.iconst 3, 1) := by decide +kernel
theorem dX1_track_61 : decode cX1_track 61 = .ok (.iload 4, 2) := by decide +kernel
theorem dX1_track_63 : decode cX1_track 63 = .ok (.imul, 1) := by decide +kernel
theorem dX1_track_64 : decode cX1_track 64 = .ok (.if_icmp .ge 35, 3) := by decide +kernel
theorem dX1_track_67 : decode cX1_track 67 = .ok (.iload 5, 2) := by decide +kernel
theorem dX1_track_69 : decode cX1_track 69 = .ok (.ifCond .eq 21, 3) := by decide +kernel
theorem dX1_track_72 : decode cX1_track 72 = .ok (.iload_n 2, 1) := by decide +kernel
theorem dX1_track_73 : decode cX1_track 73 = .ok (.aload_n 0, 1) := by decide +kernel
theorem dX1_track_74 : decode cX1_track 74 = .ok (.getfield 16, 3) := by decide +kernel
theorem dX1_track_77 : decode cX1_track 77 = .ok (.iload 6, 2) := by decide +kernel
theorem dX1_track_79 : decode cX1_track 79 = .ok (.iaload, 1) := by decide +kernel
theorem dX1_track_80 : decode cX1_track 80 = .ok (.invokestatic 51, 3) := by decide +kernel
theorem dX1_track_83 : decode cX1_track 83 = .ok (.ifCond .eq 7, 3) := by decide +kernel
theorem dX1_track_86 : decode cX1_track 86 = .ok (.iconst 1, 1) := by decide +kernel
theorem dX1_track_87 : decode cX1_track 87 = .ok (.goto 4, 3) := by decide +kernel
theorem dX1_track_90 : decode cX1_track 90 = .ok (.iconst 0, 1) := by decide +kernel
theorem dX1_track_91 : decode cX1_track 91 = .ok (.istore 5, 2) := by decide +kernel
theorem dX1_track_93 : decode cX1_track 93 = .ok (.iinc 6 1, 3) := by decide +kernel
theorem dX1_track_96 : decode cX1_track 96 = .ok (.goto (-38), 3) := by decide +kernel
theorem dX1_track_99 : decode cX1_track 99 = .ok (.iload 5, 2) := by decide +kernel
theorem dX1_track_101 : decode cX1_track 101 = .ok (.ifCond .ne 5, 3) := by decide +kernel
theorem dX1_track_104 : decode cX1_track 104 = .ok (.iconst (-1), 1) := by decide +kernel
theorem dX1_track_105 : decode cX1_track 105 = .ok (.ireturn, 1) := by decide +kernel
theorem dX1_track_106 : decode cX1_track 106 = .ok (.aload_n 0, 1) := by decide +kernel
theorem dX1_track_107 : decode cX1_track 107 = .ok (.getfield 19, 3) := by decide +kernel
theorem dX1_track_110 : decode cX1_track 110 = .ok (.aload_n 0, 1) := by decide +kernel
theorem dX1_track_111 : decode cX1_track 111 = .ok (.getfield 58, 3) := by decide +kernel
theorem dX1_track_114 : decode cX1_track 114 = .ok (.iload_n 1, 1) := by decide +kernel
theorem dX1_track_115 : decode cX1_track 115 = .ok (.iastore, 1) := by decide +kernel
theorem dX1_track_116 : decode cX1_track 116 = .ok (.aload_n 0, 1) := by decide +kernel
theorem dX1_track_117 : decode cX1_track 117 = .ok (.getfield 22, 3) := by decide +kernel
theorem dX1_track_120 : decode cX1_track 120 = .ok (.aload_n 0, 1) := by decide +kernel
theorem dX1_track_121 : decode cX1_track 121 = .ok (.getfield 58, 3) := by decide +kernel
theorem dX1_track_124 : decode cX1_track 124 = .ok (.iload_n 2, 1) := by decide +kernel
theorem dX1_track_125 : decode cX1_track 125 = .ok (.iastore, 1) := by decide +kernel
theorem dX1_track_126 : decode cX1_track 126 = .ok (.aload_n 0, 1) := by decide +kernel
theorem dX1_track_127 : decode cX1_track 127 = .ok (.getfield 25, 3) := by decide +kernel
theorem dX1_track_130 : decode cX1_track 130 = .ok (.aload_n 0, 1) := by decide +kernel
theorem dX1_track_131 : decode cX1_track 131 = .ok (.getfield 58, 3) := by decide +kernel
theorem dX1_track_134 : decode cX1_track 134 = .ok (.iload_n 3, 1) := by decide +kernel
theorem dX1_track_135 : decode cX1_track 135 = .ok (.iastore, 1) := by decide +kernel
theorem dX1_track_136 : decode cX1_track 136 = .ok (.aload_n 0, 1) := by decide +kernel
theorem dX1_track_137 : decode cX1_track 137 = .ok (.getfield 28, 3) := by decide +kernel
theorem dX1_track_140 : decode cX1_track 140 = .ok (.aload_n 0, 1) := by decide +kernel
theorem dX1_track_141 : decode cX1_track 141 = .ok (.getfield 58, 3) := by decide +kernel
theorem dX1_track_144 : decode cX1_track 144 = .ok (.iload 4, 2) := by decide +kernel
theorem dX1_track_146 : decode cX1_track 146 = .ok (.iastore, 1) := by decide +kernel
theorem dX1_track_147 : decode cX1_track 147 = .ok (.iconst 0, 1) := by decide +kernel
theorem dX1_track_148 : decode cX1_track 148 = .ok (.istore 6, 2) := by decide +kernel
theorem dX1_track_150 : decode cX1_track 150 = .ok (.iload 6, 2) := by decide +kernel
theorem dX1_track_152 : decode cX1_track 152 = .ok (.iload 4, 2) := by decide +kernel
theorem dX1_track_154 : decode cX1_track 154 = .ok (.if_icmp .ge 31, 3) := by decide +kernel
theorem dX1_track_157 : decode cX1_track 157 = .ok (.aload_n 0, 1) := by decide +kernel
theorem dX1_track_158 : decode cX1_track 158 = .ok (.getfield 31, 3) := by decide +kernel
theorem dX1_track_161 : decode cX1_track 161 = .ok (.bipush 32, 2) := by decide +kernel
theorem dX1_track_163 : decode cX1_track 163 = .ok (.aload_n 0, 1) := by decide +kernel
theorem dX1_track_164 : decode cX1_track 164 = .ok (.getfield 58, 3) := by decide +kernel
theorem dX1_track_167 : decode cX1_track 167 = .ok (.imul, 1) := by decide +kernel
theorem dX1_track_168 : decode cX1_track 168 = .ok (.iload 6, 2) := by decide +kernel
theorem dX1_track_170 : decode cX1_track 170 = .ok (.iadd, 1) := by decide +kernel
theorem dX1_track_171 : decode cX1_track 171 = .ok (.aload_n 0, 1) := by decide +kernel
theorem dX1_track_172 : decode cX1_track 172 = .ok (.getfield 13, 3) := by decide +kernel
theorem dX1_track_175 : decode cX1_track 175 = .ok (.iload 6, 2) := by decide +kernel
theorem dX1_track_177 : decode cX1_track 177 = .ok (.iaload, 1) := by decide +kernel
theorem dX1_track_178 : decode cX1_track 178 = .ok (.iastore, 1) := by decide +kernel
theorem dX1_track_179 : decode cX1_track 179 = .ok (.iinc 6 1, 3) := by decide +kernel
theorem dX1_track_182 : decode cX1_track 182 = .ok (.goto (-32), 3) := by decide +kernel
theorem dX1_track_185 : decode cX1_track 185 = .ok (.iconst 0, 1) := by decide +kernel
theorem dX1_track_186 : decode cX1_track 186 = .ok (.istore 6, 2) := by decide +kernel
theorem dX1_track_188 : decode cX1_track 188 = .ok (.iload 6, 2) := by decide +kernel
theorem dX1_track_190 : decode cX1_track 190 = .ok (.iconst 3, 1) := by decide +kernel
theorem dX1_track_191 : decode cX1_track 191 = .ok (.iload 4, 2) := by decide +kernel
theorem dX1_track_193 : decode cX1_track 193 = .ok (.imul, 1) := by decide +kernel
theorem dX1_track_194 : decode cX1_track 194 = .ok (.if_icmp .ge 31, 3) := by decide +kernel
theorem dX1_track_197 : decode cX1_track 197 = .ok (.aload_n 0, 1) := by decide +kernel
theorem dX1_track_198 : decode cX1_track 198 = .ok (.getfield 34, 3) := by decide +kernel
theorem dX1_track_201 : decode cX1_track 201 = .ok (.bipush 96, 2) := by decide +kernel
theorem dX1_track_203 : decode cX1_track 203 = .ok (.aload_n 0, 1) := by decide +kernel
theorem dX1_track_204 : decode cX1_track 204 = .ok (.getfield 58, 3) := by decide +kernel
theorem dX1_track_207 : decode cX1_track 207 = .ok (.imul, 1) := by decide +kernel
theorem dX1_track_208 : decode cX1_track 208 = .ok (.iload 6, 2) := by decide +kernel
theorem dX1_track_210 : decode cX1_track 210 = .ok (.iadd, 1) := by decide +kernel
theorem dX1_track_211 : decode cX1_track 211 = .ok (.aload_n 0, 1) := by decide +kernel
theorem dX1_track_212 : decode cX1_track 212 = .ok (.getfield 16, 3) := by decide +kernel
theorem dX1_track_215 : decode cX1_track 215 = .ok (.iload 6, 2) := by decide +kernel
theorem dX1_track_217 : decode cX1_track 217 = .ok (.iaload, 1) := by decide +kernel
theorem dX1_track_218 : decode cX1_track 218 = .ok (.iastore, 1) := by decide +kernel
theorem dX1_track_219 : decode cX1_track 219 = .ok (.iinc 6 1, 3) := by decide +kernel
theorem dX1_track_222 : decode cX1_track 222 = .ok (.goto (-34), 3) := by decide +kernel
theorem dX1_track_225 : decode cX1_track 225 = .ok (.aload_n 0, 1) := by decide +kernel
theorem dX1_track_226 : decode cX1_track 226 = .ok (.dup, 1) := by decide +kernel
theorem dX1_track_227 : decode cX1_track 227 = .ok (.getfield 58, 3) := by decide +kernel
theorem dX1_track_230 : decode cX1_track 230 = .ok (.iconst 1, 1) := by decide +kernel
theorem dX1_track_231 : decode cX1_track 231 = .ok (.iadd, 1) := by decide +kernel
theorem dX1_track_232 : decode cX1_track 232 = .ok (.putfield 58, 3) := by decide +kernel
theorem dX1_track_235 : decode cX1_track 235 = .ok (.aload_n 0, 1) := by decide +kernel
theorem dX1_track_236 : decode cX1_track 236 = .ok (.getfield 58, 3) := by decide +kernel
theorem dX1_track_239 : decode cX1_track 239 = .ok (.iconst 1, 1) := by decide +kernel
theorem dX1_track_240 : decode cX1_track 240 = .ok (.isub, 1) := by decide +kernel
theorem dX1_track_241 : decode cX1_track 241 = .ok (.ireturn, 1) := by decide +kernel
theorem dX1_there_0 : decode cX1_there 0 = .ok (.iload_n 1, 1) := by decide +kernel
theorem dX1_there_1 : decode cX1_there 1 = .ok (.ifCond .lt 24, 3) := by decide +kernel
theorem dX1_there_4 : decode cX1_there 4 = .ok (.iload_n 1, 1) := by decide +kernel
theorem dX1_there_5 : decode cX1_there 5 = .ok (.aload_n 0, 1) := by decide +kernel
theorem dX1_there_6 : decode cX1_there 6 = .ok (.getfield 37, 3) := by decide +kernel
theorem dX1_there_9 : decode cX1_there 9 = .ok (.if_icmp .ge 16, 3) := by decide +kernel
theorem dX1_there_12 : decode cX1_there 12 = .ok (.iload_n 2, 1) := by decide +kernel
theorem dX1_there_13 : decode cX1_there 13 = .ok (.ifCond .lt 12, 3) := by decide +kernel
theorem dX1_there_16 : decode cX1_there 16 = .ok (.iload_n 2, 1) := by decide +kernel
theorem dX1_there_17 : decode cX1_there 17 = .ok (.iconst 3, 1) := by decide +kernel
theorem dX1_there_18 : decode cX1_there 18 = .ok (.if_icmp .ge 7, 3) := by decide +kernel
theorem dX1_there_21 : decode cX1_there 21 = .ok (.iconst 1, 1) := by decide +kernel
theorem dX1_there_22 : decode cX1_there 22 = .ok (.goto 4, 3) := by decide +kernel
theorem dX1_there_25 : decode cX1_there 25 = .ok (.iconst 0, 1) := by decide +kernel
theorem dX1_there_26 : decode cX1_there 26 = .ok (.ireturn, 1) := by decide +kernel
theorem dX1_set_0 : decode cX1_set 0 = .ok (.aload_n 0, 1) := by decide +kernel
theorem dX1_set_1 : decode cX1_set 1 = .ok (.iconst 0, 1) := by decide +kernel
theorem dX1_set_2 : decode cX1_set 2 = .ok (.putfield 42, 3) := by decide +kernel
theorem dX1_set_5 : decode cX1_set 5 = .ok (.aload_n 0, 1) := by decide +kernel
theorem dX1_set_6 : decode cX1_set 6 = .ok (.iload_n 1, 1) := by decide +kernel
theorem dX1_set_7 : decode cX1_set 7 = .ok (.iload_n 2, 1) := by decide +kernel
theorem dX1_set_8 : decode cX1_set 8 = .ok (.invokevirtual 55, 3) := by decide +kernel
theorem dX1_set_11 : decode cX1_set 11 = .ok (.ifCond .eq 29, 3) := by decide +kernel
theorem dX1_set_14 : decode cX1_set 14 = .ok (.iload_n 2, 1) := by decide +kernel
theorem dX1_set_15 : decode cX1_set 15 = .ok (.iload_n 3, 1) := by decide +kernel
theorem dX1_set_16 : decode cX1_set 16 = .ok (.invokestatic 51, 3) := by decide +kernel
theorem dX1_set_19 : decode cX1_set 19 = .ok (.ifCond .eq 21, 3) := by decide +kernel
theorem dX1_set_22 : decode cX1_set 22 = .ok (.iload_n 2, 1) := by decide +kernel
theorem dX1_set_23 : decode cX1_set 23 = .ok (.iload 4, 2) := by decide +kernel
theorem dX1_set_25 : decode cX1_set 25 = .ok (.invokestatic 51, 3) := by decide +kernel
theorem dX1_set_28 : decode cX1_set 28 = .ok (.ifCond .eq 12, 3) := by decide +kernel
theorem dX1_set_31 : decode cX1_set 31 = .ok (.iload_n 2, 1) := by decide +kernel
theorem dX1_set_32 : decode cX1_set 32 = .ok (.iload 5, 2) := by decide +kernel
theorem dX1_set_34 : decode cX1_set 34 = .ok (.invokestatic 51, 3) := by decide +kernel
theorem dX1_set_37 : decode cX1_set 37 = .ok (.ifCond .ne 5, 3) := by decide +kernel
theorem dX1_set_40 : decode cX1_set 40 = .ok (.iconst 0, 1) := by decide +kernel
theorem dX1_set_41 : decode cX1_set 41 = .ok (.ireturn, 1) := by decide +kernel
theorem dX1_set_42 : decode cX1_set 42 = .ok (.aload_n 0, 1) := by decide +kernel
theorem dX1_set_43 : decode cX1_set 43 = .ok (.getfield 7, 3) := by decide +kernel
theorem dX1_set_46 : decode cX1_set 46 = .ok (.bipush 9, 2) := by decide +kernel
theorem dX1_set_48 : decode cX1_set 48 = .ok (.iload_n 1, 1) := by decide +kernel
theorem dX1_set_49 : decode cX1_set 49 = .ok (.imul, 1) := by decide +kernel
theorem dX1_set_50 : decode cX1_set 50 = .ok (.iconst 3, 1) := by decide +kernel
theorem dX1_set_51 : decode cX1_set 51 = .ok (.iload_n 2, 1) := by decide +kernel
theorem dX1_set_52 : decode cX1_set 52 = .ok (.imul, 1) := by decide +kernel
theorem dX1_set_53 : decode cX1_set 53 = .ok (.iadd, 1) := by decide +kernel
theorem dX1_set_54 : decode cX1_set 54 = .ok (.iload_n 3, 1) := by decide +kernel
theorem dX1_set_55 : decode cX1_set 55 = .ok (.iastore, 1) := by decide +kernel
theorem dX1_set_56 : decode cX1_set 56 = .ok (.aload_n 0, 1) := by decide +kernel
theorem dX1_set_57 : decode cX1_set 57 = .ok (.getfield 7, 3) := by decide +kernel
theorem dX1_set_60 : decode cX1_set 60 = .ok (.bipush 9, 2) := by decide +kernel
theorem dX1_set_62 : decode cX1_set 62 = .ok (.iload_n 1, 1) := by decide +kernel
theorem dX1_set_63 : decode cX1_set 63 = .ok (.imul, 1) := by decide +kernel
theorem dX1_set_64 : decode cX1_set 64 = .ok (.iconst 3, 1) := by decide +kernel
theorem dX1_set_65 : decode cX1_set 65 = .ok (.iload_n 2, 1) := by decide +kernel
theorem dX1_set_66 : decode cX1_set 66 = .ok (.imul, 1) := by decide +kernel
theorem dX1_set_67 : decode cX1_set 67 = .ok (.iadd, 1) := by decide +kernel
theorem dX1_set_68 : decode cX1_set 68 = .ok (.iconst 1, 1) := by decide +kernel
theorem dX1_set_69 : decode cX1_set 69 = .ok (.iadd, 1) := by decide +kernel
theorem dX1_set_70 : decode cX1_set 70 = .ok (.iload 4, 2) := by decide +kernel
theorem dX1_set_72 : decode cX1_set 72 = .ok (.iastore, 1) := by decide +kernel
theorem dX1_set_73 : decode cX1_set 73 = .ok (.aload_n 0, 1) := by decide +kernel
theorem dX1_set_74 : decode cX1_set 74 = .ok (.getfield 7, 3) := by decide +kernel
theorem dX1_set_77 : decode cX1_set 77 = .ok (.bipush 9, 2) := by decide +kernel
theorem dX1_set_79 : decode cX1_set 79 = .ok (.iload_n 1, 1) := by decide +kernel
theorem dX1_set_80 : decode cX1_set 80 = .ok (.imul, 1) := by decide +kernel
theorem dX1_set_81 : decode cX1_set 81 = .ok (.iconst 3, 1) := by decide +kernel
theorem dX1_set_82 : decode cX1_set 82 = .ok (.iload_n 2, 1) := by decide +kernel
theorem dX1_set_83 : decode cX1_set 83 = .ok (.imul, 1) := by decide +kernel
theorem dX1_set_84 : decode cX1_set 84 = .ok (.iadd, 1) := by decide +kernel
theorem dX1_set_85 : decode cX1_set 85 = .ok (.iconst 2, 1) := by decide +kernel
theorem dX1_set_86 : decode cX1_set 86 = .ok (.iadd, 1) := by decide +kernel
theorem dX1_set_87 : decode cX1_set 87 = .ok (.iload 5, 2) := by decide +kernel
theorem dX1_set_89 : decode cX1_set 89 = .ok (.iastore, 1) := by decide +kernel
theorem dX1_set_90 : decode cX1_set 90 = .ok (.iconst 1, 1) := by decide +kernel
theorem dX1_set_91 : decode cX1_set 91 = .ok (.ireturn, 1) := by decide +kernel
theorem dX1_time_0 : decode cX1_time 0 = .ok (.aload_n 0, 1) := by decide +kernel
theorem dX1_time_1 : decode cX1_time 1 = .ok (.iconst 0, 1) := by decide +kernel
theorem dX1_time_2 : decode cX1_time 2 = .ok (.putfield 42, 3) := by decide +kernel
theorem dX1_time_5 : decode cX1_time 5 = .ok (.iload_n 1, 1) := by decide +kernel
theorem dX1_time_6 : decode cX1_time 6 = .ok (.ifCond .lt 9, 3) := by decide +kernel
theorem dX1_time_9 : decode cX1_time 9 = .ok (.iload_n 1, 1) := by decide +kernel
theorem dX1_time_10 : decode cX1_time 10 = .ok (.ldc 47, 2) := by decide +kernel
theorem dX1_time_12 : decode cX1_time 12 = .ok (.if_icmp .le 5, 3) := by decide +kernel
theorem dX1_time_15 : decode cX1_time 15 = .ok (.iconst 0, 1) := by decide +kernel
theorem dX1_time_16 : decode cX1_time 16 = .ok (.ireturn, 1) := by decide +kernel
theorem dX1_time_17 : decode cX1_time 17 = .ok (.aload_n 0, 1) := by decide +kernel
theorem dX1_time_18 : decode cX1_time 18 = .ok (.iload_n 1, 1) := by decide +kernel
theorem dX1_time_19 : decode cX1_time 19 = .ok (.putfield 74, 3) := by decide +kernel
theorem dX1_time_22 : decode cX1_time 22 = .ok (.iconst 0, 1) := by decide +kernel
theorem dX1_time_23 : decode cX1_time 23 = .ok (.istore_n 2, 1) := by decide +kernel
theorem dX1_time_24 : decode cX1_time 24 = .ok (.iload_n 2, 1) := by decide +kernel
theorem dX1_time_25 : decode cX1_time 25 = .ok (.aload_n 0, 1) := by decide +kernel
theorem dX1_time_26 : decode cX1_time 26 = .ok (.getfield 58, 3) := by decide +kernel
theorem dX1_time_29 : decode cX1_time 29 = .ok (.if_icmp .ge 54, 3) := by decide +kernel
theorem dX1_time_32 : decode cX1_time 32 = .ok (.iconst 0, 1) := by decide +kernel
theorem dX1_time_33 : decode cX1_time 33 = .ok (.istore_n 3, 1) := by decide +kernel
theorem dX1_time_34 : decode cX1_time 34 = .ok (.iload_n 3, 1) := by decide +kernel
theorem dX1_time_35 : decode cX1_time 35 = .ok (.iconst 3, 1) := by decide +kernel
theorem dX1_time_36 : decode cX1_time 36 = .ok (.if_icmp .ge 41, 3) := by decide +kernel
theorem dX1_time_39 : decode cX1_time 39 = .ok (.aload_n 0, 1) := by decide +kernel
theorem dX1_time_40 : decode cX1_time 40 = .ok (.getfield 7, 3) := by decide +kernel
theorem dX1_time_43 : decode cX1_time 43 = .ok (.bipush 9, 2) := by decide +kernel
theorem dX1_time_45 : decode cX1_time 45 = .ok (.aload_n 0, 1) := by decide +kernel
theorem dX1_time_46 : decode cX1_time 46 = .ok (.getfield 19, 3) := by decide +kernel
theorem dX1_time_49 : decode cX1_time 49 = .ok (.iload_n 2, 1) := by decide +kernel
theorem dX1_time_50 : decode cX1_time 50 = .ok (.iaload, 1) := by decide +kernel
theorem dX1_time_51 : decode cX1_time 51 = .ok (.imul, 1) := by decide +kernel
theorem dX1_time_52 : decode cX1_time 52 = .ok (.iconst 3, 1) := by decide +kernel
theorem dX1_time_53 : decode cX1_time 53 = .ok (.aload_n 0, 1) := by decide +kernel
theorem dX1_time_54 : decode cX1_time 54 = .ok (.getfield 22, 3) := by decide +kernel
theorem dX1_time_57 : decode cX1_time 57 = .ok (.iload_n 2, 1) := by decide +kernel
theorem dX1_time_58 : decode cX1_time 58 = .ok (.iaload, 1) := by decide +kernel
theorem dX1_time_59 : decode cX1_time 59 = .ok (.imul, 1) := by decide +kernel
theorem dX1_time_60 : decode cX1_time 60 = .ok (.iadd, 1) := by decide +kernel
theorem dX1_time_61 : decode cX1_time 61 = .ok (.iload_n 3, 1) := by decide +kernel
theorem dX1_time_62 : decode cX1_time 62 = .ok (.iadd, 1) := by decide +kernel
theorem dX1_time_63 : decode cX1_time 63 = .ok (.aload_n 0, 1) := by decide +kernel
theorem dX1_time_64 : decode cX1_time 64 = .ok (.iload_n 2, 1) := by decide +kernel
theorem dX1_time_65 : decode cX1_time 65 = .ok (.iload_n 3, 1) := by decide +kernel
theorem dX1_time_66 : decode cX1_time 66 = .ok (.iload_n 1, 1) := by decide +kernel
theorem dX1_time_67 : decode cX1_time 67 = .ok (.invokevirtual 77, 3) := by decide +kernel
theorem dX1_time_70 : decode cX1_time 70 = .ok (.iastore, 1) := by decide +kernel
theorem dX1_time_71 : decode cX1_time 71 = .ok (.iinc 3 1, 3) := by decide +kernel
theorem dX1_time_74 : decode cX1_time 74 = .ok (.goto (-40), 3) := by decide +kernel
theorem dX1_time_77 : decode cX1_time 77 = .ok (.iinc 2 1, 3) := by decide +kernel
theorem dX1_time_80 : decode cX1_time 80 = .ok (.goto (-56), 3) := by decide +kernel
theorem dX1_time_83 : decode cX1_time 83 = .ok (.iconst 1, 1) := by decide +kernel
theorem dX1_time_84 : decode cX1_time 84 = .ok (.ireturn, 1) := by decide +kernel
theorem dX1_at_0 : decode cX1_at 0 = .ok (.bipush 32, 2) := by decide +kernel
theorem dX1_at_2 : decode cX1_at 2 = .ok (.iload_n 1, 1) := by decide +kernel
theorem dX1_at_3 : decode cX1_at 3 = .ok (.imul, 1) := by decide +kernel
theorem dX1_at_4 : decode cX1_at 4 = .ok (.istore 4, 2) := by decide +kernel
theorem dX1_at_6 : decode cX1_at 6 = .ok (.aload_n 0, 1) := by decide +kernel
theorem dX1_at_7 : decode cX1_at 7 = .ok (.getfield 28, 3) := by decide +kernel
theorem dX1_at_10 : decode cX1_at 10 = .ok (.iload_n 1, 1) := by decide +kernel
theorem dX1_at_11 : decode cX1_at 11 = .ok (.iaload, 1) := by decide +kernel
theorem dX1_at_12 : decode cX1_at 12 = .ok (.iconst 1, 1) := by decide +kernel
theorem dX1_at_13 : decode cX1_at 13 = .ok (.isub, 1) := by decide +kernel
theorem dX1_at_14 : decode cX1_at 14 = .ok (.istore 5, 2) := by decide +kernel
theorem dX1_at_16 : decode cX1_at 16 = .ok (.iload_n 3, 1) := by decide +kernel
theorem dX1_at_17 : decode cX1_at 17 = .ok (.aload_n 0, 1) := by decide +kernel
theorem dX1_at_18 : decode cX1_at 18 = .ok (.getfield 31, 3) := by decide +kernel
theorem dX1_at_21 : decode cX1_at 21 = .ok (.iload 4, 2) := by decide +kernel
theorem dX1_at_23 : decode cX1_at 23 = .ok (.iaload, 1) := by decide +kernel
theorem dX1_at_24 : decode cX1_at 24 = .ok (.if_icmp .ge 15, 3) := by decide +kernel
theorem dX1_at_27 : decode cX1_at 27 = .ok (.aload_n 0, 1) := by decide +kernel
theorem dX1_at_28 : decode cX1_at 28 = .ok (.getfield 34, 3) := by decide +kernel
theorem dX1_at_31 : decode cX1_at 31 = .ok (.bipush 96, 2) := by decide +kernel
theorem dX1_at_33 : decode cX1_at 33 = .ok (.iload_n 1, 1) := by decide +kernel
theorem dX1_at_34 : decode cX1_at 34 = .ok (.imul, 1) := by decide +kernel
theorem dX1_at_35 : decode cX1_at 35 = .ok (.iload_n 2, 1) := by decide +kernel
theorem dX1_at_36 : decode cX1_at 36 = .ok (.iadd, 1) := by decide +kernel
theorem dX1_at_37 : decode cX1_at 37 = .ok (.iaload, 1) := by decide +kernel
theorem dX1_at_38 : decode cX1_at 38 = .ok (.ireturn, 1) := by decide +kernel
theorem dX1_at_39 : decode cX1_at 39 = .ok (.iload_n 3, 1) := by decide +kernel
theorem dX1_at_40 : decode cX1_at 40 = .ok (.aload_n 0, 1) := by decide +kernel
theorem dX1_at_41 : decode cX1_at 41 = .ok (.getfield 31, 3) := by decide +kernel
theorem dX1_at_44 : decode cX1_at 44 = .ok (.iload 4, 2) := by decide +kernel
theorem dX1_at_46 : decode cX1_at 46 = .ok (.iload 5, 2) := by decide +kernel
theorem dX1_at_48 : decode cX1_at 48 = .ok (.iadd, 1) := by decide +kernel
theorem dX1_at_49 : decode cX1_at 49 = .ok (.iaload, 1) := by decide +kernel
theorem dX1_at_50 : decode cX1_at 50 = .ok (.if_icmp .lt 20, 3) := by decide +kernel
theorem dX1_at_53 : decode cX1_at 53 = .ok (.aload_n 0, 1) := by decide +kernel
theorem dX1_at_54 : decode cX1_at 54 = .ok (.getfield 34, 3) := by decide +kernel
theorem dX1_at_57 : decode cX1_at 57 = .ok (.bipush 96, 2) := by decide +kernel
theorem dX1_at_59 : decode cX1_at 59 = .ok (.iload_n 1, 1) := by decide +kernel
theorem dX1_at_60 : decode cX1_at 60 = .ok (.imul, 1) := by decide +kernel
theorem dX1_at_61 : decode cX1_at 61 = .ok (.iconst 3, 1) := by decide +kernel
theorem dX1_at_62 : decode cX1_at 62 = .ok (.iload 5, 2) := by decide +kernel
theorem dX1_at_64 : decode cX1_at 64 = .ok (.imul, 1) := by decide +kernel
theorem dX1_at_65 : decode cX1_at 65 = .ok (.iadd, 1) := by decide +kernel
theorem dX1_at_66 : decode cX1_at 66 = .ok (.iload_n 2, 1) := by decide +kernel
theorem dX1_at_67 : decode cX1_at 67 = .ok (.iadd, 1) := by decide +kernel
theorem dX1_at_68 : decode cX1_at 68 = .ok (.iaload, 1) := by decide +kernel
theorem dX1_at_69 : decode cX1_at 69 = .ok (.ireturn, 1) := by decide +kernel
theorem dX1_at_70 : decode cX1_at 70 = .ok (.iconst 0, 1) := by decide +kernel
theorem dX1_at_71 : decode cX1_at 71 = .ok (.istore 6, 2) := by decide +kernel
theorem dX1_at_73 : decode cX1_at 73 = .ok (.iload_n 3, 1) := by decide +kernel
theorem dX1_at_74 : decode cX1_at 74 = .ok (.aload_n 0, 1) := by decide +kernel
theorem dX1_at_75 : decode cX1_at 75 = .ok (.getfield 31, 3) := by decide +kernel
theorem dX1_at_78 : decode cX1_at 78 = .ok (.iload 4, 2) := by decide +kernel
theorem dX1_at_80 : decode cX1_at 80 = .ok (.iload 6, 2) := by decide +kernel
theorem dX1_at_82 : decode cX1_at 82 = .ok (.iadd, 1) := by decide +kernel
theorem dX1_at_83 : decode cX1_at 83 = .ok (.iconst 1, 1) := by decide +kernel
theorem dX1_at_84 : decode cX1_at 84 = .ok (.iadd, 1) := by decide +kernel
theorem dX1_at_85 : decode cX1_at 85 = .ok (.iaload, 1) := by decide +kernel
theorem dX1_at_86 : decode cX1_at 86 = .ok (.if_icmp .lt 9, 3) := by decide +kernel
theorem dX1_at_89 : decode cX1_at 89 = .ok (.iinc 6 1, 3) := by decide +kernel
theorem dX1_at_92 : decode cX1_at 92 = .ok (.goto (-19), 3) := by decide +kernel
theorem dX1_at_95 : decode cX1_at 95 = .ok (.aload_n 0, 1) := by decide +kernel
theorem dX1_at_96 : decode cX1_at 96 = .ok (.getfield 31, 3) := by decide +kernel
theorem dX1_at_99 : decode cX1_at 99 = .ok (.iload 4, 2) := by decide +kernel
theorem dX1_at_101 : decode cX1_at 101 = .ok (.iload 6, 2) := by decide +kernel
theorem dX1_at_103 : decode cX1_at 103 = .ok (.iadd, 1) := by decide +kernel
theorem dX1_at_104 : decode cX1_at 104 = .ok (.iaload, 1) := by decide +kernel
theorem dX1_at_105 : decode cX1_at 105 = .ok (.i2l, 1) := by decide +kernel
theorem dX1_at_106 : decode cX1_at 106 = .ok (.lstore 7, 2) := by decide +kernel
theorem dX1_at_108 : decode cX1_at 108 = .ok (.aload_n 0, 1) := by decide +kernel
theorem dX1_at_109 : decode cX1_at 109 = .ok (.getfield 31, 3) := by decide +kernel
theorem dX1_at_112 : decode cX1_at 112 = .ok (.iload 4, 2) := by decide +kernel
theorem dX1_at_114 : decode cX1_at 114 = .ok (.iload 6, 2) := by decide +kernel
theorem dX1_at_116 : decode cX1_at 116 = .ok (.iadd, 1) := by decide +kernel
theorem dX1_at_117 : decode cX1_at 117 = .ok (.iconst 1, 1) := by decide +kernel
theorem dX1_at_118 : decode cX1_at 118 = .ok (.iadd, 1) := by decide +kernel
theorem dX1_at_119 : decode cX1_at 119 = .ok (.iaload, 1) := by decide +kernel
theorem dX1_at_120 : decode cX1_at 120 = .ok (.i2l, 1) := by decide +kernel
theorem dX1_at_121 : decode cX1_at 121 = .ok (.lstore 9, 2) := by decide +kernel
theorem dX1_at_123 : decode cX1_at 123 = .ok (.aload_n 0, 1) := by decide +kernel
theorem dX1_at_124 : decode cX1_at 124 = .ok (.getfield 34, 3) := by decide +kernel
theorem dX1_at_127 : decode cX1_at 127 = .ok (.bipush 96, 2) := by decide +kernel
theorem dX1_at_129 : decode cX1_at 129 = .ok (.iload_n 1, 1) := by decide +kernel
theorem dX1_at_130 : decode cX1_at 130 = .ok (.imul, 1) := by decide +kernel
theorem dX1_at_131 : decode cX1_at 131 = .ok (.iconst 3, 1) := by decide +kernel
theorem dX1_at_132 : decode cX1_at 132 = .ok (.iload 6, 2) := by decide +kernel
theorem dX1_at_134 : decode cX1_at 134 = .ok (.imul, 1) := by decide +kernel
theorem dX1_at_135 : decode cX1_at 135 = .ok (.iadd, 1) := by decide +kernel
theorem dX1_at_136 : decode cX1_at 136 = .ok (.iload_n 2, 1) := by decide +kernel
theorem dX1_at_137 : decode cX1_at 137 = .ok (.iadd, 1) := by decide +kernel
theorem dX1_at_138 : decode cX1_at 138 = .ok (.iaload, 1) := by decide +kernel
theorem dX1_at_139 : decode cX1_at 139 = .ok (.i2l, 1) := by decide +kernel
theorem dX1_at_140 : decode cX1_at 140 = .ok (.lstore 11, 2) := by decide +kernel
theorem dX1_at_142 : decode cX1_at 142 = .ok (.aload_n 0, 1) := by decide +kernel
theorem dX1_at_143 : decode cX1_at 143 = .ok (.getfield 34, 3) := by decide +kernel
theorem dX1_at_146 : decode cX1_at 146 = .ok (.bipush 96, 2) := by decide +kernel
theorem dX1_at_148 : decode cX1_at 148 = .ok (.iload_n 1, 1) := by decide +kernel
theorem dX1_at_149 : decode cX1_at 149 = .ok (.imul, 1) := by decide +kernel
theorem dX1_at_150 : decode cX1_at 150 = .ok (.iconst 3, 1) := by decide +kernel
theorem dX1_at_151 : decode cX1_at 151 = .ok (.iload 6, 2) := by decide +kernel
theorem dX1_at_153 : decode cX1_at 153 = .ok (.imul, 1) := by decide +kernel
theorem dX1_at_154 : decode cX1_at 154 = .ok (.iadd, 1) := by decide +kernel
theorem dX1_at_155 : decode cX1_at 155 = .ok (.iconst 3, 1) := by decide +kernel
theorem dX1_at_156 : decode cX1_at 156 = .ok (.iadd, 1) := by decide +kernel
theorem dX1_at_157 : decode cX1_at 157 = .ok (.iload_n 2, 1) := by decide +kernel
theorem dX1_at_158 : decode cX1_at 158 = .ok (.iadd, 1) := by decide +kernel
theorem dX1_at_159 : decode cX1_at 159 = .ok (.iaload, 1) := by decide +kernel
theorem dX1_at_160 : decode cX1_at 160 = .ok (.i2l, 1) := by decide +kernel
theorem dX1_at_161 : decode cX1_at 161 = .ok (.lstore 13, 2) := by decide +kernel
theorem dX1_at_163 : decode cX1_at 163 = .ok (.aload_n 0, 1) := by decide +kernel
theorem dX1_at_164 : decode cX1_at 164 = .ok (.getfield 25, 3) := by decide +kernel
theorem dX1_at_167 : decode cX1_at 167 = .ok (.iload_n 1, 1) := by decide +kernel
theorem dX1_at_168 : decode cX1_at 168 = .ok (.iaload, 1) := by decide +kernel
theorem dX1_at_169 : decode cX1_at 169 = .ok (.ifCond .ne 7, 3) := by decide +kernel
theorem dX1_at_172 : decode cX1_at 172 = .ok (.lload 11, 2) := by decide +kernel
theorem dX1_at_174 : decode cX1_at 174 = .ok (.l2i, 1) := by decide +kernel
theorem dX1_at_175 : decode cX1_at 175 = .ok (.ireturn, 1) := by decide +kernel
theorem dX1_at_176 : decode cX1_at 176 = .ok (.aload_n 0, 1) := by decide +kernel
theorem dX1_at_177 : decode cX1_at 177 = .ok (.getfield 25, 3) := by decide +kernel
theorem dX1_at_180 : decode cX1_at 180 = .ok (.iload_n 1, 1) := by decide +kernel
theorem dX1_at_181 : decode cX1_at 181 = .ok (.iaload, 1) := by decide +kernel
theorem dX1_at_182 : decode cX1_at 182 = .ok (.iconst 1, 1) := by decide +kernel
theorem dX1_at_183 : decode cX1_at 183 = .ok (.if_icmp .ne 27, 3) := by decide +kernel
theorem dX1_at_186 : decode cX1_at 186 = .ok (.lload 11, 2) := by decide +kernel
theorem dX1_at_188 : decode cX1_at 188 = .ok (.lload 13, 2) := by decide +kernel
theorem dX1_at_190 : decode cX1_at 190 = .ok (.lload 11, 2) := by decide +kernel
theorem dX1_at_192 : decode cX1_at 192 = .ok (.lsub, 1) := by decide +kernel
theorem dX1_at_193 : decode cX1_at 193 = .ok (.iload_n 3, 1) := by decide +kernel
theorem dX1_at_194 : decode cX1_at 194 = .ok (.i2l, 1) := by decide +kernel
theorem dX1_at_195 : decode cX1_at 195 = .ok (.lload 7, 2) := by decide +kernel
theorem dX1_at_197 : decode cX1_at 197 = .ok (.lsub, 1) := by decide +kernel
theorem dX1_at_198 : decode cX1_at 198 = .ok (.lmul, 1) := by decide +kernel
theorem dX1_at_199 : decode cX1_at 199 = .ok (.lload 9, 2) := by decide +kernel
theorem dX1_at_201 : decode cX1_at 201 = .ok (.lload 7, 2) := by decide +kernel
theorem dX1_at_203 : decode cX1_at 203 = .ok (.lsub, 1) := by decide +kernel
theorem dX1_at_204 : decode cX1_at 204 = .ok (.invokestatic 63, 3) := by decide +kernel
theorem dX1_at_207 : decode cX1_at 207 = .ok (.ladd, 1) := by decide +kernel
theorem dX1_at_208 : decode cX1_at 208 = .ok (.l2i, 1) := by decide +kernel
theorem dX1_at_209 : decode cX1_at 209 = .ok (.ireturn, 1) := by decide +kernel
theorem dX1_at_210 : decode cX1_at 210 = .ok (.iload_n 3, 1) := by decide +kernel
theorem dX1_at_211 : decode cX1_at 211 = .ok (.i2l, 1) := by decide +kernel
theorem dX1_at_212 : decode cX1_at 212 = .ok (.lload 7, 2) := by decide +kernel
theorem dX1_at_214 : decode cX1_at 214 = .ok (.lsub, 1) := by decide +kernel
theorem dX1_at_215 : decode cX1_at 215 = .ok (.ldc2_w 61, 3) := by decide +kernel
theorem dX1_at_218 : decode cX1_at 218 = .ok (.lmul, 1) := by decide +kernel
theorem dX1_at_219 : decode cX1_at 219 = .ok (.lload 9, 2) := by decide +kernel
theorem dX1_at_221 : decode cX1_at 221 = .ok (.lload 7, 2) := by decide +kernel
theorem dX1_at_223 : decode cX1_at 223 = .ok (.lsub, 1) := by decide +kernel
theorem dX1_at_224 : decode cX1_at 224 = .ok (.invokestatic 63, 3) := by decide +kernel
theorem dX1_at_227 : decode cX1_at 227 = .ok (.lstore 15, 2) := by decide +kernel
theorem dX1_at_229 : decode cX1_at 229 = .ok (.lload 15, 2) := by decide +kernel
theorem dX1_at_231 : decode cX1_at 231 = .ok (.lload 15, 2) := by decide +kernel
theorem dX1_at_233 : decode cX1_at 233 = .ok (.invokestatic 67, 3) := by decide +kernel
theorem dX1_at_236 : decode cX1_at 236 = .ok (.ldc2_w 70, 3) := by decide +kernel
theorem dX1_at_239 : decode cX1_at 239 = .ok (.ldc2_w 72, 3) := by decide +kernel
theorem dX1_at_242 : decode cX1_at 242 = .ok (.lload 15, 2) := by decide +kernel
theorem dX1_at_244 : decode cX1_at 244 = .ok (.lmul, 1) := by decide +kernel
theorem dX1_at_245 : decode cX1_at 245 = .ok (.lsub, 1) := by decide +kernel
theorem dX1_at_246 : decode cX1_at 246 = .ok (.invokestatic 67, 3) := by decide +kernel
theorem dX1_at_249 : decode cX1_at 249 = .ok (.lstore 17, 2) := by decide +kernel
theorem dX1_at_251 : decode cX1_at 251 = .ok (.lload 11, 2) := by decide +kernel
theorem dX1_at_253 : decode cX1_at 253 = .ok (.lload 13, 2) := by decide +kernel
theorem dX1_at_255 : decode cX1_at 255 = .ok (.lload 11, 2) := by decide +kernel
theorem dX1_at_257 : decode cX1_at 257 = .ok (.lsub, 1) := by decide +kernel
theorem dX1_at_258 : decode cX1_at 258 = .ok (.lload 17, 2) := by decide +kernel
theorem dX1_at_260 : decode cX1_at 260 = .ok (.invokestatic 67, 3) := by decide +kernel
theorem dX1_at_263 : decode cX1_at 263 = .ok (.ladd, 1) := by decide +kernel
theorem dX1_at_264 : decode cX1_at 264 = .ok (.l2i, 1) := by decide +kernel
theorem dX1_at_265 : decode cX1_at 265 = .ok (.ireturn, 1) := by decide +kernel
theorem dX1_div_0 : decode cX1_div 0 = .ok (.lload_n 0, 1) := by decide +kernel
theorem dX1_div_1 : decode cX1_div 1 = .ok (.lload_n 2, 1) := by decide +kernel
theorem dX1_div_2 : decode cX1_div 2 = .ok (.ldiv, 1) := by decide +kernel
theorem dX1_div_3 : decode cX1_div 3 = .ok (.lstore 4, 2) := by decide +kernel
theorem dX1_div_5 : decode cX1_div 5 = .ok (.lload 4, 2) := by decide +kernel
theorem dX1_div_7 : decode cX1_div 7 = .ok (.lload_n 2, 1) := by decide +kernel
theorem dX1_div_8 : decode cX1_div 8 = .ok (.lmul, 1) := by decide +kernel
theorem dX1_div_9 : decode cX1_div 9 = .ok (.lload_n 0, 1) := by decide +kernel
theorem dX1_div_10 : decode cX1_div 10 = .ok (.lcmp, 1) := by decide +kernel
theorem dX1_div_11 : decode cX1_div 11 = .ok (.ifCond .le 10, 3) := by decide +kernel
theorem dX1_div_14 : decode cX1_div 14 = .ok (.lload 4, 2) := by decide +kernel
theorem dX1_div_16 : decode cX1_div 16 = .ok (.lconst 1, 1) := by decide +kernel
theorem dX1_div_17 : decode cX1_div 17 = .ok (.lsub, 1) := by decide +kernel
theorem dX1_div_18 : decode cX1_div 18 = .ok (.goto 5, 3) := by decide +kernel
theorem dX1_div_21 : decode cX1_div 21 = .ok (.lload 4, 2) := by decide +kernel
theorem dX1_div_23 : decode cX1_div 23 = .ok (.lreturn, 1) := by decide +kernel
theorem dX1_mul_0 : decode cX1_mul 0 = .ok (.lload_n 0, 1) := by decide +kernel
theorem dX1_mul_1 : decode cX1_mul 1 = .ok (.lload_n 2, 1) := by decide +kernel
theorem dX1_mul_2 : decode cX1_mul 2 = .ok (.lmul, 1) := by decide +kernel
theorem dX1_mul_3 : decode cX1_mul 3 = .ok (.ldc2_w 61, 3) := by decide +kernel
theorem dX1_mul_6 : decode cX1_mul 6 = .ok (.invokestatic 63, 3) := by decide +kernel
theorem dX1_mul_9 : decode cX1_mul 9 = .ok (.lreturn, 1) := by decide +kernel
theorem dX1_value_0 : decode cX1_value 0 = .ok (.aload_n 0, 1) := by decide +kernel
theorem dX1_value_1 : decode cX1_value 1 = .ok (.iconst 0, 1) := by decide +kernel
theorem dX1_value_2 : decode cX1_value 2 = .ok (.putfield 42, 3) := by decide +kernel
theorem dX1_value_5 : decode cX1_value 5 = .ok (.aload_n 0, 1) := by decide +kernel
theorem dX1_value_6 : decode cX1_value 6 = .ok (.iload_n 1, 1) := by decide +kernel
theorem dX1_value_7 : decode cX1_value 7 = .ok (.iload_n 2, 1) := by decide +kernel
theorem dX1_value_8 : decode cX1_value 8 = .ok (.invokevirtual 55, 3) := by decide +kernel
theorem dX1_value_11 : decode cX1_value 11 = .ok (.ifCond .eq 30, 3) := by decide +kernel
theorem dX1_value_14 : decode cX1_value 14 = .ok (.iload_n 3, 1) := by decide +kernel
theorem dX1_value_15 : decode cX1_value 15 = .ok (.ifCond .lt 26, 3) := by decide +kernel
theorem dX1_value_18 : decode cX1_value 18 = .ok (.iload_n 3, 1) := by decide +kernel
theorem dX1_value_19 : decode cX1_value 19 = .ok (.iconst 3, 1) := by decide +kernel
theorem dX1_value_20 : decode cX1_value 20 = .ok (.if_icmp .ge 21, 3) := by decide +kernel
theorem dX1_value_23 : decode cX1_value 23 = .ok (.aload_n 0, 1) := by decide +kernel
theorem dX1_value_24 : decode cX1_value 24 = .ok (.getfield 7, 3) := by decide +kernel
theorem dX1_value_27 : decode cX1_value 27 = .ok (.bipush 9, 2) := by decide +kernel
theorem dX1_value_29 : decode cX1_value 29 = .ok (.iload_n 1, 1) := by decide +kernel
theorem dX1_value_30 : decode cX1_value 30 = .ok (.imul, 1) := by decide +kernel
theorem dX1_value_31 : decode cX1_value 31 = .ok (.iconst 3, 1) := by decide +kernel
theorem dX1_value_32 : decode cX1_value 32 = .ok (.iload_n 2, 1) := by decide +kernel
theorem dX1_value_33 : decode cX1_value 33 = .ok (.imul, 1) := by decide +kernel
theorem dX1_value_34 : decode cX1_value 34 = .ok (.iadd, 1) := by decide +kernel
theorem dX1_value_35 : decode cX1_value 35 = .ok (.iload_n 3, 1) := by decide +kernel
theorem dX1_value_36 : decode cX1_value 36 = .ok (.iadd, 1) := by decide +kernel
theorem dX1_value_37 : decode cX1_value 37 = .ok (.iaload, 1) := by decide +kernel
theorem dX1_value_38 : decode cX1_value 38 = .ok (.goto 4, 3) := by decide +kernel
theorem dX1_value_41 : decode cX1_value 41 = .ok (.iconst 0, 1) := by decide +kernel
theorem dX1_value_42 : decode cX1_value 42 = .ok (.ireturn, 1) := by decide +kernel
theorem dX1_count_0 : decode cX1_count 0 = .ok (.aload_n 0, 1) := by decide +kernel
theorem dX1_count_1 : decode cX1_count 1 = .ok (.iconst 0, 1) := by decide +kernel
theorem dX1_count_2 : decode cX1_count 2 = .ok (.putfield 42, 3) := by decide +kernel
theorem dX1_count_5 : decode cX1_count 5 = .ok (.iconst 0, 1) := by decide +kernel
theorem dX1_count_6 : decode cX1_count 6 = .ok (.istore_n 2, 1) := by decide +kernel
theorem dX1_count_7 : decode cX1_count 7 = .ok (.iconst 0, 1) := by decide +kernel
theorem dX1_count_8 : decode cX1_count 8 = .ok (.istore_n 3, 1) := by decide +kernel
theorem dX1_count_9 : decode cX1_count 9 = .ok (.iload_n 3, 1) := by decide +kernel
theorem dX1_count_10 : decode cX1_count 10 = .ok (.aload_n 0, 1) := by decide +kernel
theorem dX1_count_11 : decode cX1_count 11 = .ok (.getfield 58, 3) := by decide +kernel
theorem dX1_count_14 : decode cX1_count 14 = .ok (.if_icmp .ge 18, 3) := by decide +kernel
theorem dX1_count_17 : decode cX1_count 17 = .ok (.iload_n 2, 1) := by decide +kernel
theorem dX1_count_18 : decode cX1_count 18 = .ok (.aload_n 0, 1) := by decide +kernel
theorem dX1_count_19 : decode cX1_count 19 = .ok (.getfield 28, 3) := by decide +kernel
theorem dX1_count_22 : decode cX1_count 22 = .ok (.iload_n 3, 1) := by decide +kernel
theorem dX1_count_23 : decode cX1_count 23 = .ok (.iaload, 1) := by decide +kernel
theorem dX1_count_24 : decode cX1_count 24 = .ok (.iadd, 1) := by decide +kernel
theorem dX1_count_25 : decode cX1_count 25 = .ok (.istore_n 2, 1) := by decide +kernel
theorem dX1_count_26 : decode cX1_count 26 = .ok (.iinc 3 1, 3) := by decide +kernel
theorem dX1_count_29 : decode cX1_count 29 = .ok (.goto (-20), 3) := by decide +kernel
theorem dX1_count_32 : decode cX1_count 32 = .ok (.iload_n 1, 1) := by decide +kernel
theorem dX1_count_33 : decode cX1_count 33 = .ok (.tableswitch 57 0 4 #[35, 40, 45, 47, 52], 35) := by decide +kernel
theorem dX1_count_68 : decode cX1_count 68 = .ok (.aload_n 0, 1) := by decide +kernel
theorem dX1_count_69 : decode cX1_count 69 = .ok (.getfield 37, 3) := by decide +kernel
theorem dX1_count_72 : decode cX1_count 72 = .ok (.ireturn, 1) := by decide +kernel
theorem dX1_count_73 : decode cX1_count 73 = .ok (.aload_n 0, 1) := by decide +kernel
theorem dX1_count_74 : decode cX1_count 74 = .ok (.getfield 58, 3) := by decide +kernel
theorem dX1_count_77 : decode cX1_count 77 = .ok (.ireturn, 1) := by decide +kernel
theorem dX1_count_78 : decode cX1_count 78 = .ok (.iload_n 2, 1) := by decide +kernel
theorem dX1_count_79 : decode cX1_count 79 = .ok (.ireturn, 1) := by decide +kernel
theorem dX1_count_80 : decode cX1_count 80 = .ok (.aload_n 0, 1) := by decide +kernel
theorem dX1_count_81 : decode cX1_count 81 = .ok (.getfield 74, 3) := by decide +kernel
theorem dX1_count_84 : decode cX1_count 84 = .ok (.ireturn, 1) := by decide +kernel
theorem dX1_count_85 : decode cX1_count 85 = .ok (.aload_n 0, 1) := by decide +kernel
theorem dX1_count_86 : decode cX1_count 86 = .ok (.getfield 48, 3) := by decide +kernel
theorem dX1_count_89 : decode cX1_count 89 = .ok (.ireturn, 1) := by decide +kernel
theorem dX1_count_90 : decode cX1_count 90 = .ok (.iconst (-1), 1) := by decide +kernel
theorem dX1_count_91 : decode cX1_count 91 = .ok (.ireturn, 1) := by decide +kernel
theorem dX1_about_0 : decode cX1_about 0 = .ok (.aload_n 0, 1) := by decide +kernel
theorem dX1_about_1 : decode cX1_about 1 = .ok (.iconst 0, 1) := by decide +kernel
theorem dX1_about_2 : decode cX1_about 2 = .ok (.putfield 42, 3) := by decide +kernel
theorem dX1_about_5 : decode cX1_about 5 = .ok (.iload_n 1, 1) := by decide +kernel
theorem dX1_about_6 : decode cX1_about 6 = .ok (.ifCond .lt 11, 3) := by decide +kernel
theorem dX1_about_9 : decode cX1_about 9 = .ok (.iload_n 1, 1) := by decide +kernel
theorem dX1_about_10 : decode cX1_about 10 = .ok (.aload_n 0, 1) := by decide +kernel
theorem dX1_about_11 : decode cX1_about 11 = .ok (.getfield 58, 3) := by decide +kernel
theorem dX1_about_14 : decode cX1_about 14 = .ok (.if_icmp .lt 5, 3) := by decide +kernel
theorem dX1_about_17 : decode cX1_about 17 = .ok (.iconst (-1), 1) := by decide +kernel
theorem dX1_about_18 : decode cX1_about 18 = .ok (.ireturn, 1) := by decide +kernel
theorem dX1_about_19 : decode cX1_about 19 = .ok (.iload_n 2, 1) := by decide +kernel
theorem dX1_about_20 : decode cX1_about 20 = .ok (.ifCond .ne 12, 3) := by decide +kernel
theorem dX1_about_23 : decode cX1_about 23 = .ok (.aload_n 0, 1) := by decide +kernel
theorem dX1_about_24 : decode cX1_about 24 = .ok (.getfield 19, 3) := by decide +kernel
theorem dX1_about_27 : decode cX1_about 27 = .ok (.iload_n 1, 1) := by decide +kernel
theorem dX1_about_28 : decode cX1_about 28 = .ok (.iaload, 1) := by decide +kernel
theorem dX1_about_29 : decode cX1_about 29 = .ok (.goto 46, 3) := by decide +kernel
theorem dX1_about_32 : decode cX1_about 32 = .ok (.iload_n 2, 1) := by decide +kernel
theorem dX1_about_33 : decode cX1_about 33 = .ok (.iconst 1, 1) := by decide +kernel
theorem dX1_about_34 : decode cX1_about 34 = .ok (.if_icmp .ne 12, 3) := by decide +kernel
theorem dX1_about_37 : decode cX1_about 37 = .ok (.aload_n 0, 1) := by decide +kernel
theorem dX1_about_38 : decode cX1_about 38 = .ok (.getfield 22, 3) := by decide +kernel
theorem dX1_about_41 : decode cX1_about 41 = .ok (.iload_n 1, 1) := by decide +kernel
theorem dX1_about_42 : decode cX1_about 42 = .ok (.iaload, 1) := by decide +kernel
theorem dX1_about_43 : decode cX1_about 43 = .ok (.goto 32, 3) := by decide +kernel
theorem dX1_about_46 : decode cX1_about 46 = .ok (.iload_n 2, 1) := by decide +kernel
theorem dX1_about_47 : decode cX1_about 47 = .ok (.iconst 2, 1) := by decide +kernel
theorem dX1_about_48 : decode cX1_about 48 = .ok (.if_icmp .ne 12, 3) := by decide +kernel
theorem dX1_about_51 : decode cX1_about 51 = .ok (.aload_n 0, 1) := by decide +kernel
theorem dX1_about_52 : decode cX1_about 52 = .ok (.getfield 25, 3) := by decide +kernel
theorem dX1_about_55 : decode cX1_about 55 = .ok (.iload_n 1, 1) := by decide +kernel
theorem dX1_about_56 : decode cX1_about 56 = .ok (.iaload, 1) := by decide +kernel
theorem dX1_about_57 : decode cX1_about 57 = .ok (.goto 18, 3) := by decide +kernel
theorem dX1_about_60 : decode cX1_about 60 = .ok (.iload_n 2, 1) := by decide +kernel
theorem dX1_about_61 : decode cX1_about 61 = .ok (.iconst 3, 1) := by decide +kernel
theorem dX1_about_62 : decode cX1_about 62 = .ok (.if_icmp .ne 12, 3) := by decide +kernel
theorem dX1_about_65 : decode cX1_about 65 = .ok (.aload_n 0, 1) := by decide +kernel
theorem dX1_about_66 : decode cX1_about 66 = .ok (.getfield 28, 3) := by decide +kernel
theorem dX1_about_69 : decode cX1_about 69 = .ok (.iload_n 1, 1) := by decide +kernel
theorem dX1_about_70 : decode cX1_about 70 = .ok (.iaload, 1) := by decide +kernel
theorem dX1_about_71 : decode cX1_about 71 = .ok (.goto 4, 3) := by decide +kernel
theorem dX1_about_74 : decode cX1_about 74 = .ok (.iconst (-1), 1) := by decide +kernel
theorem dX1_about_75 : decode cX1_about 75 = .ok (.ireturn, 1) := by decide +kernel
theorem dX1_clear_0 : decode cX1_clear 0 = .ok (.aload_n 0, 1) := by decide +kernel
theorem dX1_clear_1 : decode cX1_clear 1 = .ok (.iconst 0, 1) := by decide +kernel
theorem dX1_clear_2 : decode cX1_clear 2 = .ok (.putfield 42, 3) := by decide +kernel
theorem dX1_clear_5 : decode cX1_clear 5 = .ok (.aload_n 0, 1) := by decide +kernel
theorem dX1_clear_6 : decode cX1_clear 6 = .ok (.iconst 0, 1) := by decide +kernel
theorem dX1_clear_7 : decode cX1_clear 7 = .ok (.putfield 58, 3) := by decide +kernel
theorem dX1_clear_10 : decode cX1_clear 10 = .ok (.return_, 1) := by decide +kernel
theorem dL_cell_0 : decode cL_cell 0 = .ok (.iload_n 1, 1) := by decide +kernel
theorem dL_cell_1 : decode cL_cell 1 = .ok (.aload_n 0, 1) := by decide +kernel
theorem dL_cell_2 : decode cL_cell 2 = .ok (.arraylength, 1) := by decide +kernel
theorem dL_cell_3 : decode cL_cell 3 = .ok (.if_icmp .ge 9, 3) := by decide +kernel
theorem dL_cell_6 : decode cL_cell 6 = .ok (.aload_n 0, 1) := by decide +kernel
theorem dL_cell_7 : decode cL_cell 7 = .ok (.iload_n 1, 1) := by decide +kernel
theorem dL_cell_8 : decode cL_cell 8 = .ok (.iaload, 1) := by decide +kernel
theorem dL_cell_9 : decode cL_cell 9 = .ok (.goto 4, 3) := by decide +kernel
theorem dL_cell_12 : decode cL_cell 12 = .ok (.iconst 0, 1) := by decide +kernel
theorem dL_cell_13 : decode cL_cell 13 = .ok (.ireturn, 1) := by decide +kernel
theorem dL_law_0 : decode cL_law 0 = .ok (.new 7, 3) := by decide +kernel
theorem dL_law_3 : decode cL_law 3 = .ok (.dup, 1) := by decide +kernel
theorem dL_law_4 : decode cL_law 4 = .ok (.aload_n 0, 1) := by decide +kernel
theorem dL_law_5 : decode cL_law 5 = .ok (.iconst 0, 1) := by decide +kernel
theorem dL_law_6 : decode cL_law 6 = .ok (.invokestatic 9, 3) := by decide +kernel
theorem dL_law_9 : decode cL_law 9 = .ok (.invokespecial 15, 3) := by decide +kernel
theorem dL_law_12 : decode cL_law 12 = .ok (.astore_n 1, 1) := by decide +kernel
theorem dL_law_13 : decode cL_law 13 = .ok (.new 18, 3) := by decide +kernel
theorem dL_law_16 : decode cL_law 16 = .ok (.dup, 1) := by decide +kernel
theorem dL_law_17 : decode cL_law 17 = .ok (.aload_n 0, 1) := by decide +kernel
theorem dL_law_18 : decode cL_law 18 = .ok (.iconst 0, 1) := by decide +kernel
theorem dL_law_19 : decode cL_law 19 = .ok (.invokestatic 9, 3) := by decide +kernel
theorem dL_law_22 : decode cL_law 22 = .ok (.invokespecial 20, 3) := by decide +kernel
theorem dL_law_25 : decode cL_law 25 = .ok (.astore_n 2, 1) := by decide +kernel
theorem dL_law_26 : decode cL_law 26 = .ok (.iconst 1, 1) := by decide +kernel
theorem dL_law_27 : decode cL_law 27 = .ok (.istore_n 3, 1) := by decide +kernel
theorem dL_law_28 : decode cL_law 28 = .ok (.iload_n 3, 1) := by decide +kernel
theorem dL_law_29 : decode cL_law 29 = .ok (.aload_n 0, 1) := by decide +kernel
theorem dL_law_30 : decode cL_law 30 = .ok (.arraylength, 1) := by decide +kernel
theorem dL_law_31 : decode cL_law 31 = .ok (.bipush 6, 2) := by decide +kernel
theorem dL_law_33 : decode cL_law 33 = .ok (.isub, 1) := by decide +kernel
theorem dL_law_34 : decode cL_law 34 = .ok (.if_icmp .gt 352, 3) := by decide +kernel
theorem dL_law_37 : decode cL_law 37 = .ok (.aload_n 0, 1) := by decide +kernel
theorem dL_law_38 : decode cL_law 38 = .ok (.iload_n 3, 1) := by decide +kernel
theorem dL_law_39 : decode cL_law 39 = .ok (.iaload, 1) := by decide +kernel
theorem dL_law_40 : decode cL_law 40 = .ok (.bipush 7, 2) := by decide +kernel
theorem dL_law_42 : decode cL_law 42 = .ok (.iand, 1) := by decide +kernel
theorem dL_law_43 : decode cL_law 43 = .ok (.tableswitch 337 0 7 #[45, 98, 141, 204, 227, 270, 293, 326], 45) := by decide +kernel
theorem dL_law_88 : decode cL_law 88 = .ok (.aload_n 1, 1) := by decide +kernel
theorem dL_law_89 : decode cL_law 89 = .ok (.aload_n 0, 1) := by decide +kernel
theorem dL_law_90 : decode cL_law 90 = .ok (.iload_n 3, 1) := by decide +kernel
theorem dL_law_91 : decode cL_law 91 = .ok (.iconst 1, 1) := by decide +kernel
theorem dL_law_92 : decode cL_law 92 = .ok (.iadd, 1) := by decide +kernel
theorem dL_law_93 : decode cL_law 93 = .ok (.iaload, 1) := by decide +kernel
theorem dL_law_94 : decode cL_law 94 = .ok (.aload_n 0, 1) := by decide +kernel
theorem dL_law_95 : decode cL_law 95 = .ok (.iload_n 3, 1) := by decide +kernel
theorem dL_law_96 : decode cL_law 96 = .ok (.iconst 2, 1) := by decide +kernel
theorem dL_law_97 : decode cL_law 97 = .ok (.iadd, 1) := by decide +kernel
theorem dL_law_98 : decode cL_law 98 = .ok (.iaload, 1) := by decide +kernel
theorem dL_law_99 : decode cL_law 99 = .ok (.aload_n 0, 1) := by decide +kernel
theorem dL_law_100 : decode cL_law 100 = .ok (.iload_n 3, 1) := by decide +kernel
theorem dL_law_101 : decode cL_law 101 = .ok (.iconst 3, 1) := by decide +kernel
theorem dL_law_102 : decode cL_law 102 = .ok (.iadd, 1) := by decide +kernel
theorem dL_law_103 : decode cL_law 103 = .ok (.iaload, 1) := by decide +kernel
theorem dL_law_104 : decode cL_law 104 = .ok (.aload_n 0, 1) := by decide +kernel
theorem dL_law_105 : decode cL_law 105 = .ok (.iload_n 3, 1) := by decide +kernel
theorem dL_law_106 : decode cL_law 106 = .ok (.iconst 4, 1) := by decide +kernel
theorem dL_law_107 : decode cL_law 107 = .ok (.iadd, 1) := by decide +kernel
theorem dL_law_108 : decode cL_law 108 = .ok (.iaload, 1) := by decide +kernel
theorem dL_law_109 : decode cL_law 109 = .ok (.invokevirtual 21, 3) := by decide +kernel
theorem dL_law_112 : decode cL_law 112 = .ok (.aload_n 2, 1) := by decide +kernel
theorem dL_law_113 : decode cL_law 113 = .ok (.aload_n 0, 1) := by decide +kernel
theorem dL_law_114 : decode cL_law 114 = .ok (.iload_n 3, 1) := by decide +kernel
theorem dL_law_115 : decode cL_law 115 = .ok (.iconst 1, 1) := by decide +kernel
theorem dL_law_116 : decode cL_law 116 = .ok (.iadd, 1) := by decide +kernel
theorem dL_law_117 : decode cL_law 117 = .ok (.iaload, 1) := by decide +kernel
theorem dL_law_118 : decode cL_law 118 = .ok (.aload_n 0, 1) := by decide +kernel
theorem dL_law_119 : decode cL_law 119 = .ok (.iload_n 3, 1) := by decide +kernel
theorem dL_law_120 : decode cL_law 120 = .ok (.iconst 2, 1) := by decide +kernel
theorem dL_law_121 : decode cL_law 121 = .ok (.iadd, 1) := by decide +kernel
theorem dL_law_122 : decode cL_law 122 = .ok (.iaload, 1) := by decide +kernel
theorem dL_law_123 : decode cL_law 123 = .ok (.aload_n 0, 1) := by decide +kernel
theorem dL_law_124 : decode cL_law 124 = .ok (.iload_n 3, 1) := by decide +kernel
theorem dL_law_125 : decode cL_law 125 = .ok (.iconst 3, 1) := by decide +kernel
theorem dL_law_126 : decode cL_law 126 = .ok (.iadd, 1) := by decide +kernel
theorem dL_law_127 : decode cL_law 127 = .ok (.iaload, 1) := by decide +kernel
theorem dL_law_128 : decode cL_law 128 = .ok (.aload_n 0, 1) := by decide +kernel
theorem dL_law_129 : decode cL_law 129 = .ok (.iload_n 3, 1) := by decide +kernel
theorem dL_law_130 : decode cL_law 130 = .ok (.iconst 4, 1) := by decide +kernel
theorem dL_law_131 : decode cL_law 131 = .ok (.iadd, 1) := by decide +kernel
theorem dL_law_132 : decode cL_law 132 = .ok (.iaload, 1) := by decide +kernel
theorem dL_law_133 : decode cL_law 133 = .ok (.invokevirtual 25, 3) := by decide +kernel
theorem dL_law_136 : decode cL_law 136 = .ok (.if_icmp .eq 244, 3) := by decide +kernel
theorem dL_law_139 : decode cL_law 139 = .ok (.iconst 0, 1) := by decide +kernel
theorem dL_law_140 : decode cL_law 140 = .ok (.ireturn, 1) := by decide +kernel
theorem dL_law_141 : decode cL_law 141 = .ok (.aload_n 1, 1) := by decide +kernel
theorem dL_law_142 : decode cL_law 142 = .ok (.aload_n 0, 1) := by decide +kernel
theorem dL_law_143 : decode cL_law 143 = .ok (.iload_n 3, 1) := by decide +kernel
theorem dL_law_144 : decode cL_law 144 = .ok (.iconst 1, 1) := by decide +kernel
theorem dL_law_145 : decode cL_law 145 = .ok (.iadd, 1) := by decide +kernel
theorem dL_law_146 : decode cL_law 146 = .ok (.iaload, 1) := by decide +kernel
theorem dL_law_147 : decode cL_law 147 = .ok (.aload_n 0, 1) := by decide +kernel
theorem dL_law_148 : decode cL_law 148 = .ok (.iload_n 3, 1) := by decide +kernel
theorem dL_law_149 : decode cL_law 149 = .ok (.iconst 2, 1) := by decide +kernel
theorem dL_law_150 : decode cL_law 150 = .ok (.iadd, 1) := by decide +kernel
theorem dL_law_151 : decode cL_law 151 = .ok (.iaload, 1) := by decide +kernel
theorem dL_law_152 : decode cL_law 152 = .ok (.aload_n 0, 1) := by decide +kernel
theorem dL_law_153 : decode cL_law 153 = .ok (.iload_n 3, 1) := by decide +kernel
theorem dL_law_154 : decode cL_law 154 = .ok (.iconst 3, 1) := by decide +kernel
theorem dL_law_155 : decode cL_law 155 = .ok (.iadd, 1) := by decide +kernel
theorem dL_law_156 : decode cL_law 156 = .ok (.iaload, 1) := by decide +kernel
theorem dL_law_157 : decode cL_law 157 = .ok (.invokevirtual 26, 3) := by decide +kernel
theorem dL_law_160 : decode cL_law 160 = .ok (.aload_n 2, 1) := by decide +kernel
theorem dL_law_161 : decode cL_law 161 = .ok (.aload_n 0, 1) := by decide +kernel
theorem dL_law_162 : decode cL_law 162 = .ok (.iload_n 3, 1) := by decide +kernel
theorem dL_law_163 : decode cL_law 163 = .ok (.iconst 1, 1) := by decide +kernel
theorem dL_law_164 : decode cL_law 164 = .ok (.iadd, 1) := by decide +kernel
theorem dL_law_165 : decode cL_law 165 = .ok (.iaload, 1) := by decide +kernel
theorem dL_law_166 : decode cL_law 166 = .ok (.aload_n 0, 1) := by decide +kernel
theorem dL_law_167 : decode cL_law 167 = .ok (.iload_n 3, 1) := by decide +kernel
theorem dL_law_168 : decode cL_law 168 = .ok (.iconst 2, 1) := by decide +kernel
theorem dL_law_169 : decode cL_law 169 = .ok (.iadd, 1) := by decide +kernel
theorem dL_law_170 : decode cL_law 170 = .ok (.iaload, 1) := by decide +kernel
theorem dL_law_171 : decode cL_law 171 = .ok (.aload_n 0, 1) := by decide +kernel
theorem dL_law_172 : decode cL_law 172 = .ok (.iload_n 3, 1) := by decide +kernel
theorem dL_law_173 : decode cL_law 173 = .ok (.iconst 3, 1) := by decide +kernel
theorem dL_law_174 : decode cL_law 174 = .ok (.iadd, 1) := by decide +kernel
theorem dL_law_175 : decode cL_law 175 = .ok (.iaload, 1) := by decide +kernel
theorem dL_law_176 : decode cL_law 176 = .ok (.invokevirtual 30, 3) := by decide +kernel
theorem dL_law_179 : decode cL_law 179 = .ok (.if_icmp .eq 201, 3) := by decide +kernel
theorem dL_law_182 : decode cL_law 182 = .ok (.iconst 0, 1) := by decide +kernel
theorem dL_law_183 : decode cL_law 183 = .ok (.ireturn, 1) := by decide +kernel
theorem dL_law_184 : decode cL_law 184 = .ok (.aload_n 1, 1) := by decide +kernel
theorem dL_law_185 : decode cL_law 185 = .ok (.aload_n 0, 1) := by decide +kernel
theorem dL_law_186 : decode cL_law 186 = .ok (.iload_n 3, 1) := by decide +kernel
theorem dL_law_187 : decode cL_law 187 = .ok (.iconst 1, 1) := by decide +kernel
theorem dL_law_188 : decode cL_law 188 = .ok (.iadd, 1) := by decide +kernel
theorem dL_law_189 : decode cL_law 189 = .ok (.iaload, 1) := by decide +kernel
theorem dL_law_190 : decode cL_law 190 = .ok (.aload_n 0, 1) := by decide +kernel
theorem dL_law_191 : decode cL_law 191 = .ok (.iload_n 3, 1) := by decide +kernel
theorem dL_law_192 : decode cL_law 192 = .ok (.iconst 2, 1) := by decide +kernel
theorem dL_law_193 : decode cL_law 193 = .ok (.iadd, 1) := by decide +kernel
theorem dL_law_194 : decode cL_law 194 = .ok (.iaload, 1) := by decide +kernel
theorem dL_law_195 : decode cL_law 195 = .ok (.aload_n 0, 1) := by decide +kernel
theorem dL_law_196 : decode cL_law 196 = .ok (.iload_n 3, 1) := by decide +kernel
theorem dL_law_197 : decode cL_law 197 = .ok (.iconst 3, 1) := by decide +kernel
theorem dL_law_198 : decode cL_law 198 = .ok (.iadd, 1) := by decide +kernel
theorem dL_law_199 : decode cL_law 199 = .ok (.iaload, 1) := by decide +kernel
theorem dL_law_200 : decode cL_law 200 = .ok (.aload_n 0, 1) := by decide +kernel
theorem dL_law_201 : decode cL_law 201 = .ok (.iload_n 3, 1) := by decide +kernel
theorem dL_law_202 : decode cL_law 202 = .ok (.iconst 4, 1) := by decide +kernel
theorem dL_law_203 : decode cL_law 203 = .ok (.iadd, 1) := by decide +kernel
theorem dL_law_204 : decode cL_law 204 = .ok (.iaload, 1) := by decide +kernel
theorem dL_law_205 : decode cL_law 205 = .ok (.aload_n 0, 1) := by decide +kernel
theorem dL_law_206 : decode cL_law 206 = .ok (.iload_n 3, 1) := by decide +kernel
theorem dL_law_207 : decode cL_law 207 = .ok (.iconst 5, 1) := by decide +kernel
theorem dL_law_208 : decode cL_law 208 = .ok (.iadd, 1) := by decide +kernel
theorem dL_law_209 : decode cL_law 209 = .ok (.iaload, 1) := by decide +kernel
theorem dL_law_210 : decode cL_law 210 = .ok (.invokevirtual 31, 3) := by decide +kernel
theorem dL_law_213 : decode cL_law 213 = .ok (.aload_n 2, 1) := by decide +kernel
theorem dL_law_214 : decode cL_law 214 = .ok (.aload_n 0, 1) := by decide +kernel
theorem dL_law_215 : decode cL_law 215 = .ok (.iload_n 3, 1) := by decide +kernel
theorem dL_law_216 : decode cL_law 216 = .ok (.iconst 1, 1) := by decide +kernel
theorem dL_law_217 : decode cL_law 217 = .ok (.iadd, 1) := by decide +kernel
theorem dL_law_218 : decode cL_law 218 = .ok (.iaload, 1) := by decide +kernel
theorem dL_law_219 : decode cL_law 219 = .ok (.aload_n 0, 1) := by decide +kernel
theorem dL_law_220 : decode cL_law 220 = .ok (.iload_n 3, 1) := by decide +kernel
theorem dL_law_221 : decode cL_law 221 = .ok (.iconst 2, 1) := by decide +kernel
theorem dL_law_222 : decode cL_law 222 = .ok (.iadd, 1) := by decide +kernel
theorem dL_law_223 : decode cL_law 223 = .ok (.iaload, 1) := by decide +kernel
theorem dL_law_224 : decode cL_law 224 = .ok (.aload_n 0, 1) := by decide +kernel
theorem dL_law_225 : decode cL_law 225 = .ok (.iload_n 3, 1) := by decide +kernel
theorem dL_law_226 : decode cL_law 226 = .ok (.iconst 3, 1) := by decide +kernel
theorem dL_law_227 : decode cL_law 227 = .ok (.iadd, 1) := by decide +kernel
theorem dL_law_228 : decode cL_law 228 = .ok (.iaload, 1) := by decide +kernel
theorem dL_law_229 : decode cL_law 229 = .ok (.aload_n 0, 1) := by decide +kernel
theorem dL_law_230 : decode cL_law 230 = .ok (.iload_n 3, 1) := by decide +kernel
theorem dL_law_231 : decode cL_law 231 = .ok (.iconst 4, 1) := by decide +kernel
theorem dL_law_232 : decode cL_law 232 = .ok (.iadd, 1) := by decide +kernel
theorem dL_law_233 : decode cL_law 233 = .ok (.iaload, 1) := by decide +kernel
theorem dL_law_234 : decode cL_law 234 = .ok (.aload_n 0, 1) := by decide +kernel
theorem dL_law_235 : decode cL_law 235 = .ok (.iload_n 3, 1) := by decide +kernel
theorem dL_law_236 : decode cL_law 236 = .ok (.iconst 5, 1) := by decide +kernel
theorem dL_law_237 : decode cL_law 237 = .ok (.iadd, 1) := by decide +kernel
theorem dL_law_238 : decode cL_law 238 = .ok (.iaload, 1) := by decide +kernel
theorem dL_law_239 : decode cL_law 239 = .ok (.invokevirtual 35, 3) := by decide +kernel
theorem dL_law_242 : decode cL_law 242 = .ok (.if_icmp .eq 138, 3) := by decide +kernel
theorem dL_law_245 : decode cL_law 245 = .ok (.iconst 0, 1) := by decide +kernel
theorem dL_law_246 : decode cL_law 246 = .ok (.ireturn, 1) := by decide +kernel
theorem dL_law_247 : decode cL_law 247 = .ok (.aload_n 1, 1) := by decide +kernel
theorem dL_law_248 : decode cL_law 248 = .ok (.aload_n 0, 1) := by decide +kernel
theorem dL_law_249 : decode cL_law 249 = .ok (.iload_n 3, 1) := by decide +kernel
theorem dL_law_250 : decode cL_law 250 = .ok (.iconst 1, 1) := by decide +kernel
theorem dL_law_251 : decode cL_law 251 = .ok (.iadd, 1) := by decide +kernel
theorem dL_law_252 : decode cL_law 252 = .ok (.iaload, 1) := by decide +kernel
theorem dL_law_253 : decode cL_law 253 = .ok (.invokevirtual 36, 3) := by decide +kernel
theorem dL_law_256 : decode cL_law 256 = .ok (.aload_n 2, 1) := by decide +kernel
theorem dL_law_257 : decode cL_law 257 = .ok (.aload_n 0, 1) := by decide +kernel
theorem dL_law_258 : decode cL_law 258 = .ok (.iload_n 3, 1) := by decide +kernel
theorem dL_law_259 : decode cL_law 259 = .ok (.iconst 1, 1) := by decide +kernel
theorem dL_law_260 : decode cL_law 260 = .ok (.iadd, 1) := by decide +kernel
theorem dL_law_261 : decode cL_law 261 = .ok (.iaload, 1) := by decide +kernel
theorem dL_law_262 : decode cL_law 262 = .ok (.invokevirtual 40, 3) := by decide +kernel
theorem dL_law_265 : decode cL_law 265 = .ok (.if_icmp .eq 115, 3) := by decide +kernel
theorem dL_law_268 : decode cL_law 268 = .ok (.iconst 0, 1) := by decide +kernel
theorem dL_law_269 : decode cL_law 269 = .ok (.ireturn, 1) := by decide +kernel
theorem dL_law_270 : decode cL_law 270 = .ok (.aload_n 1, 1) := by decide +kernel
theorem dL_law_271 : decode cL_law 271 = .ok (.aload_n 0, 1) := by decide +kernel
theorem dL_law_272 : decode cL_law 272 = .ok (.iload_n 3, 1) := by decide +kernel
theorem dL_law_273 : decode cL_law 273 = .ok (.iconst 1, 1) := by decide +kernel
theorem dL_law_274 : decode cL_law 274 = .ok (.iadd, 1) := by decide +kernel
theorem dL_law_275 : decode cL_law 275 = .ok (.iaload, 1) := by decide +kernel
theorem dL_law_276 : decode cL_law 276 = .ok (.aload_n 0, 1) := by decide +kernel
theorem dL_law_277 : decode cL_law 277 = .ok (.iload_n 3, 1) := by decide +kernel
theorem dL_law_278 : decode cL_law 278 = .ok (.iconst 2, 1) := by decide +kernel
theorem dL_law_279 : decode cL_law 279 = .ok (.iadd, 1) := by decide +kernel
theorem dL_law_280 : decode cL_law 280 = .ok (.iaload, 1) := by decide +kernel
theorem dL_law_281 : decode cL_law 281 = .ok (.aload_n 0, 1) := by decide +kernel
theorem dL_law_282 : decode cL_law 282 = .ok (.iload_n 3, 1) := by decide +kernel
theorem dL_law_283 : decode cL_law 283 = .ok (.iconst 3, 1) := by decide +kernel
theorem dL_law_284 : decode cL_law 284 = .ok (.iadd, 1) := by decide +kernel
theorem dL_law_285 : decode cL_law 285 = .ok (.iaload, 1) := by decide +kernel
theorem dL_law_286 : decode cL_law 286 = .ok (.invokevirtual 41, 3) := by decide +kernel
theorem dL_law_289 : decode cL_law 289 = .ok (.aload_n 2, 1) := by decide +kernel
theorem dL_law_290 : decode cL_law 290 = .ok (.aload_n 0, 1) := by decide +kernel
theorem dL_law_291 : decode cL_law 291 = .ok (.iload_n 3, 1) := by decide +kernel
theorem dL_law_292 : decode cL_law 292 = .ok (.iconst 1, 1) := by decide +kernel
theorem dL_law_293 : decode cL_law 293 = .ok (.iadd, 1) := by decide +kernel
theorem dL_law_294 : decode cL_law 294 = .ok (.iaload, 1) := by decide +kernel
theorem dL_law_295 : decode cL_law 295 = .ok (.aload_n 0, 1) := by decide +kernel
theorem dL_law_296 : decode cL_law 296 = .ok (.iload_n 3, 1) := by decide +kernel
theorem dL_law_297 : decode cL_law 297 = .ok (.iconst 2, 1) := by decide +kernel
theorem dL_law_298 : decode cL_law 298 = .ok (.iadd, 1) := by decide +kernel
theorem dL_law_299 : decode cL_law 299 = .ok (.iaload, 1) := by decide +kernel
theorem dL_law_300 : decode cL_law 300 = .ok (.aload_n 0, 1) := by decide +kernel
theorem dL_law_301 : decode cL_law 301 = .ok (.iload_n 3, 1) := by decide +kernel
theorem dL_law_302 : decode cL_law 302 = .ok (.iconst 3, 1) := by decide +kernel
theorem dL_law_303 : decode cL_law 303 = .ok (.iadd, 1) := by decide +kernel
theorem dL_law_304 : decode cL_law 304 = .ok (.iaload, 1) := by decide +kernel
theorem dL_law_305 : decode cL_law 305 = .ok (.invokevirtual 44, 3) := by decide +kernel
theorem dL_law_308 : decode cL_law 308 = .ok (.if_icmp .eq 72, 3) := by decide +kernel
theorem dL_law_311 : decode cL_law 311 = .ok (.iconst 0, 1) := by decide +kernel
theorem dL_law_312 : decode cL_law 312 = .ok (.ireturn, 1) := by decide +kernel
theorem dL_law_313 : decode cL_law 313 = .ok (.aload_n 1, 1) := by decide +kernel
theorem dL_law_314 : decode cL_law 314 = .ok (.aload_n 0, 1) := by decide +kernel
theorem dL_law_315 : decode cL_law 315 = .ok (.iload_n 3, 1) := by decide +kernel
theorem dL_law_316 : decode cL_law 316 = .ok (.iconst 1, 1) := by decide +kernel
theorem dL_law_317 : decode cL_law 317 = .ok (.iadd, 1) := by decide +kernel
theorem dL_law_318 : decode cL_law 318 = .ok (.iaload, 1) := by decide +kernel
theorem dL_law_319 : decode cL_law 319 = .ok (.invokevirtual 45, 3) := by decide +kernel
theorem dL_law_322 : decode cL_law 322 = .ok (.aload_n 2, 1) := by decide +kernel
theorem dL_law_323 : decode cL_law 323 = .ok (.aload_n 0, 1) := by decide +kernel
theorem dL_law_324 : decode cL_law 324 = .ok (.iload_n 3, 1) := by decide +kernel
theorem dL_law_325 : decode cL_law 325 = .ok (.iconst 1, 1) := by decide +kernel
theorem dL_law_326 : decode cL_law 326 = .ok (.iadd, 1) := by decide +kernel
theorem dL_law_327 : decode cL_law 327 = .ok (.iaload, 1) := by decide +kernel
theorem dL_law_328 : decode cL_law 328 = .ok (.invokevirtual 49, 3) := by decide +kernel
theorem dL_law_331 : decode cL_law 331 = .ok (.if_icmp .eq 49, 3) := by decide +kernel
theorem dL_law_334 : decode cL_law 334 = .ok (.iconst 0, 1) := by decide +kernel
theorem dL_law_335 : decode cL_law 335 = .ok (.ireturn, 1) := by decide +kernel
theorem dL_law_336 : decode cL_law 336 = .ok (.aload_n 1, 1) := by decide +kernel
theorem dL_law_337 : decode cL_law 337 = .ok (.aload_n 0, 1) := by decide +kernel
theorem dL_law_338 : decode cL_law 338 = .ok (.iload_n 3, 1) := by decide +kernel
theorem dL_law_339 : decode cL_law 339 = .ok (.iconst 1, 1) := by decide +kernel
theorem dL_law_340 : decode cL_law 340 = .ok (.iadd, 1) := by decide +kernel
theorem dL_law_341 : decode cL_law 341 = .ok (.iaload, 1) := by decide +kernel
theorem dL_law_342 : decode cL_law 342 = .ok (.aload_n 0, 1) := by decide +kernel
theorem dL_law_343 : decode cL_law 343 = .ok (.iload_n 3, 1) := by decide +kernel
theorem dL_law_344 : decode cL_law 344 = .ok (.iconst 2, 1) := by decide +kernel
theorem dL_law_345 : decode cL_law 345 = .ok (.iadd, 1) := by decide +kernel
theorem dL_law_346 : decode cL_law 346 = .ok (.iaload, 1) := by decide +kernel
theorem dL_law_347 : decode cL_law 347 = .ok (.invokevirtual 50, 3) := by decide +kernel
theorem dL_law_350 : decode cL_law 350 = .ok (.aload_n 2, 1) := by decide +kernel
theorem dL_law_351 : decode cL_law 351 = .ok (.aload_n 0, 1) := by decide +kernel
theorem dL_law_352 : decode cL_law 352 = .ok (.iload_n 3, 1) := by decide +kernel
theorem dL_law_353 : decode cL_law 353 = .ok (.iconst 1, 1) := by decide +kernel
theorem dL_law_354 : decode cL_law 354 = .ok (.iadd, 1) := by decide +kernel
theorem dL_law_355 : decode cL_law 355 = .ok (.iaload, 1) := by decide +kernel
theorem dL_law_356 : decode cL_law 356 = .ok (.aload_n 0, 1) := by decide +kernel
theorem dL_law_357 : decode cL_law 357 = .ok (.iload_n 3, 1) := by decide +kernel
theorem dL_law_358 : decode cL_law 358 = .ok (.iconst 2, 1) := by decide +kernel
theorem dL_law_359 : decode cL_law 359 = .ok (.iadd, 1) := by decide +kernel
theorem dL_law_360 : decode cL_law 360 = .ok (.iaload, 1) := by decide +kernel
theorem dL_law_361 : decode cL_law 361 = .ok (.invokevirtual 54, 3) := by decide +kernel
theorem dL_law_364 : decode cL_law 364 = .ok (.if_icmp .eq 16, 3) := by decide +kernel
theorem dL_law_367 : decode cL_law 367 = .ok (.iconst 0, 1) := by decide +kernel
theorem dL_law_368 : decode cL_law 368 = .ok (.ireturn, 1) := by decide +kernel
theorem dL_law_369 : decode cL_law 369 = .ok (.aload_n 1, 1) := by decide +kernel
theorem dL_law_370 : decode cL_law 370 = .ok (.invokevirtual 55, 3) := by decide +kernel
theorem dL_law_373 : decode cL_law 373 = .ok (.aload_n 2, 1) := by decide +kernel
theorem dL_law_374 : decode cL_law 374 = .ok (.invokevirtual 58, 3) := by decide +kernel
theorem dL_law_377 : decode cL_law 377 = .ok (.goto 3, 3) := by decide +kernel
theorem dL_law_380 : decode cL_law 380 = .ok (.iinc 3 6, 3) := by decide +kernel
theorem dL_law_383 : decode cL_law 383 = .ok (.goto (-355), 3) := by decide +kernel
theorem dL_law_386 : decode cL_law 386 = .ok (.iconst 1, 1) := by decide +kernel
theorem dL_law_387 : decode cL_law 387 = .ok (.ireturn, 1) := by decide +kernel
