theorem dX0_init_0 : decode cX0_init 0 = .ok (.aload_n 0, 1) := by decide +kernel
theorem dX0_init_1 : decode cX0_init 1 = .ok (.invokespecial 1, 3) := by decide +kernel
theorem dX0_init_4 : decode cX0_init 4 = .ok (.aload_n 0, 1) := by decide +kernel
theorem dX0_init_5 : decode cX0_init 5 = .ok (.iconst 1, 1) := by decide +kernel
theorem dX0_init_6 : decode cX0_init 6 = .ok (.bipush 48, 2) := by decide +kernel
theorem dX0_init_8 : decode cX0_init 8 = .ok (.iload_n 1, 1) := by decide +kernel
theorem dX0_init_9 : decode cX0_init 9 = .ok (.invokestatic 9, 3) := by decide +kernel
theorem dX0_init_12 : decode cX0_init 12 = .ok (.invokestatic 15, 3) := by decide +kernel
theorem dX0_init_15 : decode cX0_init 15 = .ok (.putfield 18, 3) := by decide +kernel
theorem dX0_init_18 : decode cX0_init 18 = .ok (.aload_n 0, 1) := by decide +kernel
theorem dX0_init_19 : decode cX0_init 19 = .ok (.aload_n 0, 1) := by decide +kernel
theorem dX0_init_20 : decode cX0_init 20 = .ok (.getfield 18, 3) := by decide +kernel
theorem dX0_init_23 : decode cX0_init 23 = .ok (.iconst 3, 1) := by decide +kernel
theorem dX0_init_24 : decode cX0_init 24 = .ok (.imul, 1) := by decide +kernel
theorem dX0_init_25 : decode cX0_init 25 = .ok (.iconst 3, 1) := by decide +kernel
theorem dX0_init_26 : decode cX0_init 26 = .ok (.imul, 1) := by decide +kernel
theorem dX0_init_27 : decode cX0_init 27 = .ok (.newarray .int, 2) := by decide +kernel
theorem dX0_init_29 : decode cX0_init 29 = .ok (.putfield 22, 3) := by decide +kernel
theorem dX0_init_32 : decode cX0_init 32 = .ok (.iconst 0, 1) := by decide +kernel
theorem dX0_init_33 : decode cX0_init 33 = .ok (.istore_n 2, 1) := by decide +kernel
theorem dX0_init_34 : decode cX0_init 34 = .ok (.iload_n 2, 1) := by decide +kernel
theorem dX0_init_35 : decode cX0_init 35 = .ok (.aload_n 0, 1) := by decide +kernel
theorem dX0_init_36 : decode cX0_init 36 = .ok (.getfield 18, 3) := by decide +kernel
theorem dX0_init_39 : decode cX0_init 39 = .ok (.if_icmp .ge 36, 3) := by decide +kernel
theorem dX0_init_42 : decode cX0_init 42 = .ok (.iconst 0, 1) := by decide +kernel
theorem dX0_init_43 : decode cX0_init 43 = .ok (.istore_n 3, 1) := by decide +kernel
theorem dX0_init_44 : decode cX0_init 44 = .ok (.iload_n 3, 1) := by decide +kernel
theorem dX0_init_45 : decode cX0_init 45 = .ok (.iconst 3, 1) := by decide +kernel
theorem dX0_init_46 : decode cX0_init 46 = .ok (.if_icmp .ge 23, 3) := by decide +kernel
theorem dX0_init_49 : decode cX0_init 49 = .ok (.aload_n 0, 1) := by decide +kernel
theorem dX0_init_50 : decode cX0_init 50 = .ok (.getfield 22, 3) := by decide +kernel
theorem dX0_init_53 : decode cX0_init 53 = .ok (.iload_n 2, 1) := by decide +kernel
theorem dX0_init_54 : decode cX0_init 54 = .ok (.iconst 2, 1) := by decide +kernel
theorem dX0_init_55 : decode cX0_init 55 = .ok (.invokestatic 26, 3) := by decide +kernel
theorem dX0_init_58 : decode cX0_init 58 = .ok (.iload_n 3, 1) := by decide +kernel
theorem dX0_init_59 : decode cX0_init 59 = .ok (.iadd, 1) := by decide +kernel
theorem dX0_init_60 : decode cX0_init 60 = .ok (.ldc 29, 2) := by decide +kernel
theorem dX0_init_62 : decode cX0_init 62 = .ok (.iastore, 1) := by decide +kernel
theorem dX0_init_63 : decode cX0_init 63 = .ok (.iinc 3 1, 3) := by decide +kernel
theorem dX0_init_66 : decode cX0_init 66 = .ok (.goto (-22), 3) := by decide +kernel
theorem dX0_init_69 : decode cX0_init 69 = .ok (.iinc 2 1, 3) := by decide +kernel
theorem dX0_init_72 : decode cX0_init 72 = .ok (.goto (-38), 3) := by decide +kernel
theorem dX0_init_75 : decode cX0_init 75 = .ok (.aload_n 0, 1) := by decide +kernel
theorem dX0_init_76 : decode cX0_init 76 = .ok (.bipush 32, 2) := by decide +kernel
theorem dX0_init_78 : decode cX0_init 78 = .ok (.newarray .int, 2) := by decide +kernel
theorem dX0_init_80 : decode cX0_init 80 = .ok (.putfield 30, 3) := by decide +kernel
theorem dX0_init_83 : decode cX0_init 83 = .ok (.aload_n 0, 1) := by decide +kernel
theorem dX0_init_84 : decode cX0_init 84 = .ok (.bipush 32, 2) := by decide +kernel
theorem dX0_init_86 : decode cX0_init 86 = .ok (.newarray .int, 2) := by decide +kernel
theorem dX0_init_88 : decode cX0_init 88 = .ok (.putfield 33, 3) := by decide +kernel
theorem dX0_init_91 : decode cX0_init 91 = .ok (.aload_n 0, 1) := by decide +kernel
theorem dX0_init_92 : decode cX0_init 92 = .ok (.bipush 32, 2) := by decide +kernel
theorem dX0_init_94 : decode cX0_init 94 = .ok (.newarray .int, 2) := by decide +kernel
theorem dX0_init_96 : decode cX0_init 96 = .ok (.putfield 36, 3) := by decide +kernel
theorem dX0_init_99 : decode cX0_init 99 = .ok (.aload_n 0, 1) := by decide +kernel
theorem dX0_init_100 : decode cX0_init 100 = .ok (.bipush 32, 2) := by decide +kernel
theorem dX0_init_102 : decode cX0_init 102 = .ok (.newarray .int, 2) := by decide +kernel
theorem dX0_init_104 : decode cX0_init 104 = .ok (.putfield 39, 3) := by decide +kernel
theorem dX0_init_107 : decode cX0_init 107 = .ok (.aload_n 0, 1) := by decide +kernel
theorem dX0_init_108 : decode cX0_init 108 = .ok (.sipush 1024, 3) := by decide +kernel
theorem dX0_init_111 : decode cX0_init 111 = .ok (.newarray .int, 2) := by decide +kernel
theorem dX0_init_113 : decode cX0_init 113 = .ok (.putfield 42, 3) := by decide +kernel
theorem dX0_init_116 : decode cX0_init 116 = .ok (.aload_n 0, 1) := by decide +kernel
theorem dX0_init_117 : decode cX0_init 117 = .ok (.sipush 3072, 3) := by decide +kernel
theorem dX0_init_120 : decode cX0_init 120 = .ok (.newarray .int, 2) := by decide +kernel
theorem dX0_init_122 : decode cX0_init 122 = .ok (.putfield 45, 3) := by decide +kernel
theorem dX0_init_125 : decode cX0_init 125 = .ok (.aload_n 0, 1) := by decide +kernel
theorem dX0_init_126 : decode cX0_init 126 = .ok (.bipush 32, 2) := by decide +kernel
theorem dX0_init_128 : decode cX0_init 128 = .ok (.newarray .int, 2) := by decide +kernel
theorem dX0_init_130 : decode cX0_init 130 = .ok (.putfield 48, 3) := by decide +kernel
theorem dX0_init_133 : decode cX0_init 133 = .ok (.aload_n 0, 1) := by decide +kernel
theorem dX0_init_134 : decode cX0_init 134 = .ok (.bipush 96, 2) := by decide +kernel
theorem dX0_init_136 : decode cX0_init 136 = .ok (.newarray .int, 2) := by decide +kernel
theorem dX0_init_138 : decode cX0_init 138 = .ok (.putfield 51, 3) := by decide +kernel
theorem dX0_init_141 : decode cX0_init 141 = .ok (.return_, 1) := by decide +kernel
theorem dX0_key_0 : decode cX0_key 0 = .ok (.aload_n 0, 1) := by decide +kernel
theorem dX0_key_1 : decode cX0_key 1 = .ok (.getfield 54, 3) := by decide +kernel
theorem dX0_key_4 : decode cX0_key 4 = .ok (.bipush 32, 2) := by decide +kernel
theorem dX0_key_6 : decode cX0_key 6 = .ok (.if_icmp .ge 21, 3) := by decide +kernel
theorem dX0_key_9 : decode cX0_key 9 = .ok (.iload_n 1, 1) := by decide +kernel
theorem dX0_key_10 : decode cX0_key 10 = .ok (.invokestatic 57, 3) := by decide +kernel
theorem dX0_key_13 : decode cX0_key 13 = .ok (.ifCond .eq 14, 3) := by decide +kernel
theorem dX0_key_16 : decode cX0_key 16 = .ok (.iconst 0, 1) := by decide +kernel
theorem dX0_key_17 : decode cX0_key 17 = .ok (.iload_n 2, 1) := by decide +kernel
theorem dX0_key_18 : decode cX0_key 18 = .ok (.iload_n 3, 1) := by decide +kernel
theorem dX0_key_19 : decode cX0_key 19 = .ok (.iload 4, 2) := by decide +kernel
theorem dX0_key_21 : decode cX0_key 21 = .ok (.invokestatic 61, 3) := by decide +kernel
theorem dX0_key_24 : decode cX0_key 24 = .ok (.ifCond .ne 5, 3) := by decide +kernel
theorem dX0_key_27 : decode cX0_key 27 = .ok (.iconst (-1), 1) := by decide +kernel
theorem dX0_key_28 : decode cX0_key 28 = .ok (.ireturn, 1) := by decide +kernel
theorem dX0_key_29 : decode cX0_key 29 = .ok (.aload_n 0, 1) := by decide +kernel
theorem dX0_key_30 : decode cX0_key 30 = .ok (.getfield 54, 3) := by decide +kernel
theorem dX0_key_33 : decode cX0_key 33 = .ok (.ifCond .le 20, 3) := by decide +kernel
theorem dX0_key_36 : decode cX0_key 36 = .ok (.iload_n 1, 1) := by decide +kernel
theorem dX0_key_37 : decode cX0_key 37 = .ok (.aload_n 0, 1) := by decide +kernel
theorem dX0_key_38 : decode cX0_key 38 = .ok (.getfield 48, 3) := by decide +kernel
theorem dX0_key_41 : decode cX0_key 41 = .ok (.aload_n 0, 1) := by decide +kernel
theorem dX0_key_42 : decode cX0_key 42 = .ok (.getfield 54, 3) := by decide +kernel
theorem dX0_key_45 : decode cX0_key 45 = .ok (.iconst 1, 1) := by decide +kernel
theorem dX0_key_46 : decode cX0_key 46 = .ok (.isub, 1) := by decide +kernel
theorem dX0_key_47 : decode cX0_key 47 = .ok (.iaload, 1) := by decide +kernel
theorem dX0_key_48 : decode cX0_key 48 = .ok (.if_icmp .gt 5, 3) := by decide +kernel
theorem dX0_key_51 : decode cX0_key 51 = .ok (.iconst (-1), 1) := by decide +kernel
theorem dX0_key_52 : decode cX0_key 52 = .ok (.ireturn, 1) := by decide +kernel
theorem dX0_key_53 : decode cX0_key 53 = .ok (.aload_n 0, 1) := by decide +kernel
theorem dX0_key_54 : decode cX0_key 54 = .ok (.getfield 48, 3) := by decide +kernel
theorem dX0_key_57 : decode cX0_key 57 = .ok (.aload_n 0, 1) := by decide +kernel
theorem dX0_key_58 : decode cX0_key 58 = .ok (.getfield 54, 3) := by decide +kernel
theorem dX0_key_61 : decode cX0_key 61 = .ok (.iload_n 1, 1) := by decide +kernel
theorem dX0_key_62 : decode cX0_key 62 = .ok (.iastore, 1) := by decide +kernel
theorem dX0_key_63 : decode cX0_key 63 = .ok (.aload_n 0, 1) := by decide +kernel
theorem dX0_key_64 : decode cX0_key 64 = .ok (.getfield 51, 3) := by decide +kernel
theorem dX0_key_67 : decode cX0_key 67 = .ok (.aload_n 0, 1) := by decide +kernel
theorem dX0_key_68 : decode cX0_key 68 = .ok (.getfield 54, 3) := by decide +kernel
theorem dX0_key_71 : decode cX0_key 71 = .ok (.iconst 3, 1) := by decide +kernel
theorem dX0_key_72 : decode cX0_key 72 = .ok (.imul, 1) := by decide +kernel
theorem dX0_key_73 : decode cX0_key 73 = .ok (.iload_n 2, 1) := by decide +kernel
theorem dX0_key_74 : decode cX0_key 74 = .ok (.iload_n 3, 1) := by decide +kernel
theorem dX0_key_75 : decode cX0_key 75 = .ok (.iload 4, 2) := by decide +kernel
theorem dX0_key_77 : decode cX0_key 77 = .ok (.invokestatic 65, 3) := by decide +kernel
theorem dX0_key_80 : decode cX0_key 80 = .ok (.aload_n 0, 1) := by decide +kernel
theorem dX0_key_81 : decode cX0_key 81 = .ok (.dup, 1) := by decide +kernel
theorem dX0_key_82 : decode cX0_key 82 = .ok (.getfield 54, 3) := by decide +kernel
theorem dX0_key_85 : decode cX0_key 85 = .ok (.iconst 1, 1) := by decide +kernel
theorem dX0_key_86 : decode cX0_key 86 = .ok (.iadd, 1) := by decide +kernel
theorem dX0_key_87 : decode cX0_key 87 = .ok (.putfield 54, 3) := by decide +kernel
theorem dX0_key_90 : decode cX0_key 90 = .ok (.aload_n 0, 1) := by decide +kernel
theorem dX0_key_91 : decode cX0_key 91 = .ok (.getfield 54, 3) := by decide +kernel
theorem dX0_key_94 : decode cX0_key 94 = .ok (.ireturn, 1) := by decide +kernel
theorem dX0_track_0 : decode cX0_track 0 = .ok (.aload_n 0, 1) := by decide +kernel
theorem dX0_track_1 : decode cX0_track 1 = .ok (.getfield 54, 3) := by decide +kernel
theorem dX0_track_4 : decode cX0_track 4 = .ok (.istore 4, 2) := by decide +kernel
theorem dX0_track_6 : decode cX0_track 6 = .ok (.aload_n 0, 1) := by decide +kernel
theorem dX0_track_7 : decode cX0_track 7 = .ok (.iconst 0, 1) := by decide +kernel
theorem dX0_track_8 : decode cX0_track 8 = .ok (.putfield 54, 3) := by decide +kernel
theorem dX0_track_11 : decode cX0_track 11 = .ok (.iload 4, 2) := by decide +kernel
theorem dX0_track_13 : decode cX0_track 13 = .ok (.ifCond .eq 12, 3) := by decide +kernel
theorem dX0_track_16 : decode cX0_track 16 = .ok (.aload_n 0, 1) := by decide +kernel
theorem dX0_track_17 : decode cX0_track 17 = .ok (.getfield 69, 3) := by decide +kernel
theorem dX0_track_20 : decode cX0_track 20 = .ok (.bipush 32, 2) := by decide +kernel
theorem dX0_track_22 : decode cX0_track 22 = .ok (.if_icmp .lt 5, 3) := by decide +kernel
theorem dX0_track_25 : decode cX0_track 25 = .ok (.iconst (-1), 1) := by decide +kernel
theorem dX0_track_26 : decode cX0_track 26 = .ok (.ireturn, 1) := by decide +kernel
theorem dX0_track_27 : decode cX0_track 27 = .ok (.aload_n 0, 1) := by decide +kernel
theorem dX0_track_28 : decode cX0_track 28 = .ok (.iload_n 1, 1) := by decide +kernel
theorem dX0_track_29 : decode cX0_track 29 = .ok (.invokevirtual 72, 3) := by decide +kernel
theorem dX0_track_32 : decode cX0_track 32 = .ok (.ifCond .eq 27, 3) := by decide +kernel
theorem dX0_track_35 : decode cX0_track 35 = .ok (.iload_n 2, 1) := by decide +kernel
theorem dX0_track_36 : decode cX0_track 36 = .ok (.invokestatic 75, 3) := by decide +kernel
theorem dX0_track_39 : decode cX0_track 39 = .ok (.ifCond .eq 20, 3) := by decide +kernel
theorem dX0_track_42 : decode cX0_track 42 = .ok (.iload_n 3, 1) := by decide +kernel
theorem dX0_track_43 : decode cX0_track 43 = .ok (.invokestatic 78, 3) := by decide +kernel
theorem dX0_track_46 : decode cX0_track 46 = .ok (.ifCond .eq 13, 3) := by decide +kernel
theorem dX0_track_49 : decode cX0_track 49 = .ok (.aload_n 0, 1) := by decide +kernel
theorem dX0_track_50 : decode cX0_track 50 = .ok (.iload 4, 2) := by decide +kernel
theorem dX0_track_52 : decode cX0_track 52 = .ok (.iload_n 2, 1) := by decide +kernel
theorem dX0_track_53 : decode cX0_track 53 = .ok (.invokevirtual 81, 3) := by decide +kernel
theorem dX0_track_56 : decode cX0_track 56 = .ok (.ifCond .ne 5, 3) := by decide +kernel
theorem dX0_track_59 : decode cX0_track 59 = .ok (.iconst (-1), 1) := by decide +kernel
theorem dX0_track_60 : decode cX0_track 60 = .ok (.ireturn, 1) := by decide +kernel
theorem dX0_track_61 : decode cX0_track 61 = .ok (.aload_n 0, 1) := by decide +kernel
theorem dX0_track_62 : decode cX0_track 62 = .ok (.getfield 69, 3) := by decide +kernel
theorem dX0_track_65 : decode cX0_track 65 = .ok (.istore 5, 2) := by decide +kernel
theorem dX0_track_67 : decode cX0_track 67 = .ok (.aload_n 0, 1) := by decide +kernel
theorem dX0_track_68 : decode cX0_track 68 = .ok (.getfield 30, 3) := by decide +kernel
theorem dX0_track_71 : decode cX0_track 71 = .ok (.iload 5, 2) := by decide +kernel
theorem dX0_track_73 : decode cX0_track 73 = .ok (.iload_n 1, 1) := by decide +kernel
theorem dX0_track_74 : decode cX0_track 74 = .ok (.iastore, 1) := by decide +kernel
theorem dX0_track_75 : decode cX0_track 75 = .ok (.aload_n 0, 1) := by decide +kernel
theorem dX0_track_76 : decode cX0_track 76 = .ok (.getfield 33, 3) := by decide +kernel
theorem dX0_track_79 : decode cX0_track 79 = .ok (.iload 5, 2) := by decide +kernel
theorem dX0_track_81 : decode cX0_track 81 = .ok (.iload_n 2, 1) := by decide +kernel
theorem dX0_track_82 : decode cX0_track 82 = .ok (.iastore, 1) := by decide +kernel
theorem dX0_track_83 : decode cX0_track 83 = .ok (.aload_n 0, 1) := by decide +kernel
theorem dX0_track_84 : decode cX0_track 84 = .ok (.getfield 36, 3) := by decide +kernel
theorem dX0_track_87 : decode cX0_track 87 = .ok (.iload 5, 2) := by decide +kernel
theorem dX0_track_89 : decode cX0_track 89 = .ok (.iload_n 3, 1) := by decide +kernel
theorem dX0_track_90 : decode cX0_track 90 = .ok (.iastore, 1) := by decide +kernel
theorem dX0_track_91 : decode cX0_track 91 = .ok (.aload_n 0, 1) := by decide +kernel
theorem dX0_track_92 : decode cX0_track 92 = .ok (.getfield 39, 3) := by decide +kernel
theorem dX0_track_95 : decode cX0_track 95 = .ok (.iload 5, 2) := by decide +kernel
theorem dX0_track_97 : decode cX0_track 97 = .ok (.iload 4, 2) := by decide +kernel
theorem dX0_track_99 : decode cX0_track 99 = .ok (.iastore, 1) := by decide +kernel
theorem dX0_track_100 : decode cX0_track 100 = .ok (.iload 5, 2) := by decide +kernel
theorem dX0_track_102 : decode cX0_track 102 = .ok (.bipush 32, 2) := by decide +kernel
theorem dX0_track_104 : decode cX0_track 104 = .ok (.imul, 1) := by decide +kernel
theorem dX0_track_105 : decode cX0_track 105 = .ok (.istore 6, 2) := by decide +kernel
theorem dX0_track_107 : decode cX0_track 107 = .ok (.aload_n 0, 1) := by decide +kernel
theorem dX0_track_108 : decode cX0_track 108 = .ok (.getfield 48, 3) := by decide +kernel
theorem dX0_track_111 : decode cX0_track 111 = .ok (.iconst 0, 1) := by decide +kernel
theorem dX0_track_112 : decode cX0_track 112 = .ok (.aload_n 0, 1) := by decide +kernel
theorem dX0_track_113 : decode cX0_track 113 = .ok (.getfield 42, 3) := by decide +kernel
theorem dX0_track_116 : decode cX0_track 116 = .ok (.iload 6, 2) := by decide +kernel
theorem dX0_track_118 : decode cX0_track 118 = .ok (.iload 4, 2) := by decide +kernel
theorem dX0_track_120 : decode cX0_track 120 = .ok (.invokestatic 85, 3) := by decide +kernel
theorem dX0_track_123 : decode cX0_track 123 = .ok (.aload_n 0, 1) := by decide +kernel
theorem dX0_track_124 : decode cX0_track 124 = .ok (.getfield 51, 3) := by decide +kernel
theorem dX0_track_127 : decode cX0_track 127 = .ok (.iconst 0, 1) := by decide +kernel
theorem dX0_track_128 : decode cX0_track 128 = .ok (.aload_n 0, 1) := by decide +kernel
theorem dX0_track_129 : decode cX0_track 129 = .ok (.getfield 45, 3) := by decide +kernel
theorem dX0_track_132 : decode cX0_track 132 = .ok (.iload 6, 2) := by decide +kernel
theorem dX0_track_134 : decode cX0_track 134 = .ok (.iconst 3, 1) := by decide +kernel
theorem dX0_track_135 : decode cX0_track 135 = .ok (.imul, 1) := by decide +kernel
theorem dX0_track_136 : decode cX0_track 136 = .ok (.iload 4, 2) := by decide +kernel
theorem dX0_track_138 : decode cX0_track 138 = .ok (.iconst 3, 1) := by decide +kernel
theorem dX0_track_139 : decode cX0_track 139 = .ok (.imul, 1) := by decide +kernel
theorem dX0_track_140 : decode cX0_track 140 = .ok (.invokestatic 85, 3) := by decide +kernel
theorem dX0_track_143 : decode cX0_track 143 = .ok (.aload_n 0, 1) := by decide +kernel
theorem dX0_track_144 : decode cX0_track 144 = .ok (.dup, 1) := by decide +kernel
theorem dX0_track_145 : decode cX0_track 145 = .ok (.getfield 69, 3) := by decide +kernel
theorem dX0_track_148 : decode cX0_track 148 = .ok (.iconst 1, 1) := by decide +kernel
theorem dX0_track_149 : decode cX0_track 149 = .ok (.iadd, 1) := by decide +kernel
theorem dX0_track_150 : decode cX0_track 150 = .ok (.putfield 69, 3) := by decide +kernel
theorem dX0_track_153 : decode cX0_track 153 = .ok (.iload 5, 2) := by decide +kernel
theorem dX0_track_155 : decode cX0_track 155 = .ok (.ireturn, 1) := by decide +kernel
theorem dX0_set_0 : decode cX0_set 0 = .ok (.aload_n 0, 1) := by decide +kernel
theorem dX0_set_1 : decode cX0_set 1 = .ok (.iload_n 1, 1) := by decide +kernel
theorem dX0_set_2 : decode cX0_set 2 = .ok (.invokevirtual 72, 3) := by decide +kernel
theorem dX0_set_5 : decode cX0_set 5 = .ok (.ifCond .eq 22, 3) := by decide +kernel
theorem dX0_set_8 : decode cX0_set 8 = .ok (.iload_n 2, 1) := by decide +kernel
theorem dX0_set_9 : decode cX0_set 9 = .ok (.invokestatic 75, 3) := by decide +kernel
theorem dX0_set_12 : decode cX0_set 12 = .ok (.ifCond .eq 15, 3) := by decide +kernel
theorem dX0_set_15 : decode cX0_set 15 = .ok (.iload_n 2, 1) := by decide +kernel
theorem dX0_set_16 : decode cX0_set 16 = .ok (.iload_n 3, 1) := by decide +kernel
theorem dX0_set_17 : decode cX0_set 17 = .ok (.iload 4, 2) := by decide +kernel
theorem dX0_set_19 : decode cX0_set 19 = .ok (.iload 5, 2) := by decide +kernel
theorem dX0_set_21 : decode cX0_set 21 = .ok (.invokestatic 61, 3) := by decide +kernel
theorem dX0_set_24 : decode cX0_set 24 = .ok (.ifCond .ne 5, 3) := by decide +kernel
theorem dX0_set_27 : decode cX0_set 27 = .ok (.iconst 0, 1) := by decide +kernel
theorem dX0_set_28 : decode cX0_set 28 = .ok (.ireturn, 1) := by decide +kernel
theorem dX0_set_29 : decode cX0_set 29 = .ok (.aload_n 0, 1) := by decide +kernel
theorem dX0_set_30 : decode cX0_set 30 = .ok (.getfield 22, 3) := by decide +kernel
theorem dX0_set_33 : decode cX0_set 33 = .ok (.iload_n 1, 1) := by decide +kernel
theorem dX0_set_34 : decode cX0_set 34 = .ok (.iload_n 2, 1) := by decide +kernel
theorem dX0_set_35 : decode cX0_set 35 = .ok (.invokestatic 26, 3) := by decide +kernel
theorem dX0_set_38 : decode cX0_set 38 = .ok (.iload_n 3, 1) := by decide +kernel
theorem dX0_set_39 : decode cX0_set 39 = .ok (.iload 4, 2) := by decide +kernel
theorem dX0_set_41 : decode cX0_set 41 = .ok (.iload 5, 2) := by decide +kernel
theorem dX0_set_43 : decode cX0_set 43 = .ok (.invokestatic 65, 3) := by decide +kernel
theorem dX0_set_46 : decode cX0_set 46 = .ok (.iconst 1, 1) := by decide +kernel
theorem dX0_set_47 : decode cX0_set 47 = .ok (.ireturn, 1) := by decide +kernel
theorem dX0_time_0 : decode cX0_time 0 = .ok (.iload_n 1, 1) := by decide +kernel
theorem dX0_time_1 : decode cX0_time 1 = .ok (.invokestatic 57, 3) := by decide +kernel
theorem dX0_time_4 : decode cX0_time 4 = .ok (.ifCond .ne 5, 3) := by decide +kernel
theorem dX0_time_7 : decode cX0_time 7 = .ok (.iconst 0, 1) := by decide +kernel
theorem dX0_time_8 : decode cX0_time 8 = .ok (.ireturn, 1) := by decide +kernel
theorem dX0_time_9 : decode cX0_time 9 = .ok (.aload_n 0, 1) := by decide +kernel
theorem dX0_time_10 : decode cX0_time 10 = .ok (.iload_n 1, 1) := by decide +kernel
theorem dX0_time_11 : decode cX0_time 11 = .ok (.putfield 91, 3) := by decide +kernel
theorem dX0_time_14 : decode cX0_time 14 = .ok (.iconst 0, 1) := by decide +kernel
theorem dX0_time_15 : decode cX0_time 15 = .ok (.istore_n 2, 1) := by decide +kernel
theorem dX0_time_16 : decode cX0_time 16 = .ok (.iload_n 2, 1) := by decide +kernel
theorem dX0_time_17 : decode cX0_time 17 = .ok (.aload_n 0, 1) := by decide +kernel
theorem dX0_time_18 : decode cX0_time 18 = .ok (.getfield 69, 3) := by decide +kernel
theorem dX0_time_21 : decode cX0_time 21 = .ok (.if_icmp .ge 14, 3) := by decide +kernel
theorem dX0_time_24 : decode cX0_time 24 = .ok (.aload_n 0, 1) := by decide +kernel
theorem dX0_time_25 : decode cX0_time 25 = .ok (.iload_n 2, 1) := by decide +kernel
theorem dX0_time_26 : decode cX0_time 26 = .ok (.invokevirtual 94, 3) := by decide +kernel
theorem dX0_time_29 : decode cX0_time 29 = .ok (.iinc 2 1, 3) := by decide +kernel
theorem dX0_time_32 : decode cX0_time 32 = .ok (.goto (-16), 3) := by decide +kernel
theorem dX0_time_35 : decode cX0_time 35 = .ok (.iconst 1, 1) := by decide +kernel
theorem dX0_time_36 : decode cX0_time 36 = .ok (.ireturn, 1) := by decide +kernel
theorem dX0_value_0 : decode cX0_value 0 = .ok (.aload_n 0, 1) := by decide +kernel
theorem dX0_value_1 : decode cX0_value 1 = .ok (.iload_n 1, 1) := by decide +kernel
theorem dX0_value_2 : decode cX0_value 2 = .ok (.invokevirtual 72, 3) := by decide +kernel
theorem dX0_value_5 : decode cX0_value 5 = .ok (.ifCond .eq 19, 3) := by decide +kernel
theorem dX0_value_8 : decode cX0_value 8 = .ok (.iload_n 2, 1) := by decide +kernel
theorem dX0_value_9 : decode cX0_value 9 = .ok (.invokestatic 75, 3) := by decide +kernel
theorem dX0_value_12 : decode cX0_value 12 = .ok (.ifCond .eq 12, 3) := by decide +kernel
theorem dX0_value_15 : decode cX0_value 15 = .ok (.iload_n 3, 1) := by decide +kernel
theorem dX0_value_16 : decode cX0_value 16 = .ok (.ifCond .lt 8, 3) := by decide +kernel
theorem dX0_value_19 : decode cX0_value 19 = .ok (.iload_n 3, 1) := by decide +kernel
theorem dX0_value_20 : decode cX0_value 20 = .ok (.iconst 3, 1) := by decide +kernel
theorem dX0_value_21 : decode cX0_value 21 = .ok (.if_icmp .lt 5, 3) := by decide +kernel
theorem dX0_value_24 : decode cX0_value 24 = .ok (.iconst 0, 1) := by decide +kernel
theorem dX0_value_25 : decode cX0_value 25 = .ok (.ireturn, 1) := by decide +kernel
theorem dX0_value_26 : decode cX0_value 26 = .ok (.aload_n 0, 1) := by decide +kernel
theorem dX0_value_27 : decode cX0_value 27 = .ok (.getfield 22, 3) := by decide +kernel
theorem dX0_value_30 : decode cX0_value 30 = .ok (.iload_n 1, 1) := by decide +kernel
theorem dX0_value_31 : decode cX0_value 31 = .ok (.iload_n 2, 1) := by decide +kernel
theorem dX0_value_32 : decode cX0_value 32 = .ok (.invokestatic 26, 3) := by decide +kernel
theorem dX0_value_35 : decode cX0_value 35 = .ok (.iload_n 3, 1) := by decide +kernel
theorem dX0_value_36 : decode cX0_value 36 = .ok (.iadd, 1) := by decide +kernel
theorem dX0_value_37 : decode cX0_value 37 = .ok (.iaload, 1) := by decide +kernel
theorem dX0_value_38 : decode cX0_value 38 = .ok (.ireturn, 1) := by decide +kernel
theorem dX0_count_0 : decode cX0_count 0 = .ok (.iload_n 1, 1) := by decide +kernel
theorem dX0_count_1 : decode cX0_count 1 = .ok (.tableswitch 60 0 4 #[35, 40, 45, 50, 55], 35) := by decide +kernel
theorem dX0_count_36 : decode cX0_count 36 = .ok (.aload_n 0, 1) := by decide +kernel
theorem dX0_count_37 : decode cX0_count 37 = .ok (.getfield 18, 3) := by decide +kernel
theorem dX0_count_40 : decode cX0_count 40 = .ok (.ireturn, 1) := by decide +kernel
theorem dX0_count_41 : decode cX0_count 41 = .ok (.aload_n 0, 1) := by decide +kernel
theorem dX0_count_42 : decode cX0_count 42 = .ok (.getfield 69, 3) := by decide +kernel
theorem dX0_count_45 : decode cX0_count 45 = .ok (.ireturn, 1) := by decide +kernel
theorem dX0_count_46 : decode cX0_count 46 = .ok (.aload_n 0, 1) := by decide +kernel
theorem dX0_count_47 : decode cX0_count 47 = .ok (.invokevirtual 98, 3) := by decide +kernel
theorem dX0_count_50 : decode cX0_count 50 = .ok (.ireturn, 1) := by decide +kernel
theorem dX0_count_51 : decode cX0_count 51 = .ok (.aload_n 0, 1) := by decide +kernel
theorem dX0_count_52 : decode cX0_count 52 = .ok (.getfield 91, 3) := by decide +kernel
theorem dX0_count_55 : decode cX0_count 55 = .ok (.ireturn, 1) := by decide +kernel
theorem dX0_count_56 : decode cX0_count 56 = .ok (.aload_n 0, 1) := by decide +kernel
theorem dX0_count_57 : decode cX0_count 57 = .ok (.getfield 54, 3) := by decide +kernel
theorem dX0_count_60 : decode cX0_count 60 = .ok (.ireturn, 1) := by decide +kernel
theorem dX0_count_61 : decode cX0_count 61 = .ok (.iconst (-1), 1) := by decide +kernel
theorem dX0_count_62 : decode cX0_count 62 = .ok (.ireturn, 1) := by decide +kernel
theorem dX0_about_0 : decode cX0_about 0 = .ok (.iload_n 1, 1) := by decide +kernel
theorem dX0_about_1 : decode cX0_about 1 = .ok (.ifCond .lt 11, 3) := by decide +kernel
theorem dX0_about_4 : decode cX0_about 4 = .ok (.iload_n 1, 1) := by decide +kernel
theorem dX0_about_5 : decode cX0_about 5 = .ok (.aload_n 0, 1) := by decide +kernel
theorem dX0_about_6 : decode cX0_about 6 = .ok (.getfield 69, 3) := by decide +kernel
theorem dX0_about_9 : decode cX0_about 9 = .ok (.if_icmp .lt 5, 3) := by decide +kernel
theorem dX0_about_12 : decode cX0_about 12 = .ok (.iconst (-1), 1) := by decide +kernel
theorem dX0_about_13 : decode cX0_about 13 = .ok (.ireturn, 1) := by decide +kernel
theorem dX0_about_14 : decode cX0_about 14 = .ok (.iload_n 2, 1) := by decide +kernel
theorem dX0_about_15 : decode cX0_about 15 = .ok (.tableswitch 57 0 3 #[29, 36, 43, 50], 29) := by decide +kernel
theorem dX0_about_44 : decode cX0_about 44 = .ok (.aload_n 0, 1) := by decide +kernel
theorem dX0_about_45 : decode cX0_about 45 = .ok (.getfield 30, 3) := by decide +kernel
theorem dX0_about_48 : decode cX0_about 48 = .ok (.iload_n 1, 1) := by decide +kernel
theorem dX0_about_49 : decode cX0_about 49 = .ok (.iaload, 1) := by decide +kernel
theorem dX0_about_50 : decode cX0_about 50 = .ok (.ireturn, 1) := by decide +kernel
theorem dX0_about_51 : decode cX0_about 51 = .ok (.aload_n 0, 1) := by decide +kernel
theorem dX0_about_52 : decode cX0_about 52 = .ok (.getfield 33, 3) := by decide +kernel
theorem dX0_about_55 : decode cX0_about 55 = .ok (.iload_n 1, 1) := by decide +kernel
theorem dX0_about_56 : decode cX0_about 56 = .ok (.iaload, 1) := by decide +kernel
theorem dX0_about_57 : decode cX0_about 57 = .ok (.ireturn, 1) := by decide +kernel
theorem dX0_about_58 : decode cX0_about 58 = .ok (.aload_n 0, 1) := by decide +kernel
theorem dX0_about_59 : decode cX0_about 59 = .ok (.getfield 36, 3) := by decide +kernel
theorem dX0_about_62 : decode cX0_about 62 = .ok (.iload_n 1, 1) := by decide +kernel
theorem dX0_about_63 : decode cX0_about 63 = .ok (.iaload, 1) := by decide +kernel
theorem dX0_about_64 : decode cX0_about 64 = .ok (.ireturn, 1) := by decide +kernel
theorem dX0_about_65 : decode cX0_about 65 = .ok (.aload_n 0, 1) := by decide +kernel
theorem dX0_about_66 : decode cX0_about 66 = .ok (.getfield 39, 3) := by decide +kernel
theorem dX0_about_69 : decode cX0_about 69 = .ok (.iload_n 1, 1) := by decide +kernel
theorem dX0_about_70 : decode cX0_about 70 = .ok (.iaload, 1) := by decide +kernel
theorem dX0_about_71 : decode cX0_about 71 = .ok (.ireturn, 1) := by decide +kernel
theorem dX0_about_72 : decode cX0_about 72 = .ok (.iconst (-1), 1) := by decide +kernel
theorem dX0_about_73 : decode cX0_about 73 = .ok (.ireturn, 1) := by decide +kernel
theorem dX0_clear_0 : decode cX0_clear 0 = .ok (.aload_n 0, 1) := by decide +kernel
theorem dX0_clear_1 : decode cX0_clear 1 = .ok (.iconst 0, 1) := by decide +kernel
theorem dX0_clear_2 : decode cX0_clear 2 = .ok (.putfield 69, 3) := by decide +kernel
theorem dX0_clear_5 : decode cX0_clear 5 = .ok (.return_, 1) := by decide +kernel
theorem dX0_isNode_0 : decode cX0_isNode 0 = .ok (.iload_n 1, 1) := by decide +kernel
theorem dX0_isNode_1 : decode cX0_isNode 1 = .ok (.ifCond .lt 15, 3) := by decide +kernel
theorem dX0_isNode_4 : decode cX0_isNode 4 = .ok (.iload_n 1, 1) := by decide +kernel
theorem dX0_isNode_5 : decode cX0_isNode 5 = .ok (.aload_n 0, 1) := by decide +kernel
theorem dX0_isNode_6 : decode cX0_isNode 6 = .ok (.getfield 18, 3) := by decide +kernel
theorem dX0_isNode_9 : decode cX0_isNode 9 = .ok (.if_icmp .ge 7, 3) := by decide +kernel
theorem dX0_isNode_12 : decode cX0_isNode 12 = .ok (.iconst 1, 1) := by decide +kernel
theorem dX0_isNode_13 : decode cX0_isNode 13 = .ok (.goto 4, 3) := by decide +kernel
theorem dX0_isNode_16 : decode cX0_isNode 16 = .ok (.iconst 0, 1) := by decide +kernel
theorem dX0_isNode_17 : decode cX0_isNode 17 = .ok (.ireturn, 1) := by decide +kernel
theorem dX0_isWhat_0 : decode cX0_isWhat 0 = .ok (.iload_n 0, 1) := by decide +kernel
theorem dX0_isWhat_1 : decode cX0_isWhat 1 = .ok (.ifCond .lt 12, 3) := by decide +kernel
theorem dX0_isWhat_4 : decode cX0_isWhat 4 = .ok (.iload_n 0, 1) := by decide +kernel
theorem dX0_isWhat_5 : decode cX0_isWhat 5 = .ok (.iconst 3, 1) := by decide +kernel
theorem dX0_isWhat_6 : decode cX0_isWhat 6 = .ok (.if_icmp .ge 7, 3) := by decide +kernel
theorem dX0_isWhat_9 : decode cX0_isWhat 9 = .ok (.iconst 1, 1) := by decide +kernel
theorem dX0_isWhat_10 : decode cX0_isWhat 10 = .ok (.goto 4, 3) := by decide +kernel
theorem dX0_isWhat_13 : decode cX0_isWhat 13 = .ok (.iconst 0, 1) := by decide +kernel
theorem dX0_isWhat_14 : decode cX0_isWhat 14 = .ok (.ireturn, 1) := by decide +kernel
theorem dX0_isHow_0 : decode cX0_isHow 0 = .ok (.iload_n 0, 1) := by decide +kernel
theorem dX0_isHow_1 : decode cX0_isHow 1 = .ok (.ifCond .lt 12, 3) := by decide +kernel
theorem dX0_isHow_4 : decode cX0_isHow 4 = .ok (.iload_n 0, 1) := by decide +kernel
theorem dX0_isHow_5 : decode cX0_isHow 5 = .ok (.iconst 2, 1) := by decide +kernel
theorem dX0_isHow_6 : decode cX0_isHow 6 = .ok (.if_icmp .gt 7, 3) := by decide +kernel
theorem dX0_isHow_9 : decode cX0_isHow 9 = .ok (.iconst 1, 1) := by decide +kernel
theorem dX0_isHow_10 : decode cX0_isHow 10 = .ok (.goto 4, 3) := by decide +kernel
theorem dX0_isHow_13 : decode cX0_isHow 13 = .ok (.iconst 0, 1) := by decide +kernel
theorem dX0_isHow_14 : decode cX0_isHow 14 = .ok (.ireturn, 1) := by decide +kernel
theorem dX0_isTime_0 : decode cX0_isTime 0 = .ok (.iload_n 0, 1) := by decide +kernel
theorem dX0_isTime_1 : decode cX0_isTime 1 = .ok (.ifCond .lt 13, 3) := by decide +kernel
theorem dX0_isTime_4 : decode cX0_isTime 4 = .ok (.iload_n 0, 1) := by decide +kernel
theorem dX0_isTime_5 : decode cX0_isTime 5 = .ok (.ldc 102, 2) := by decide +kernel
theorem dX0_isTime_7 : decode cX0_isTime 7 = .ok (.if_icmp .gt 7, 3) := by decide +kernel
theorem dX0_isTime_10 : decode cX0_isTime 10 = .ok (.iconst 1, 1) := by decide +kernel
theorem dX0_isTime_11 : decode cX0_isTime 11 = .ok (.goto 4, 3) := by decide +kernel
theorem dX0_isTime_14 : decode cX0_isTime 14 = .ok (.iconst 0, 1) := by decide +kernel
theorem dX0_isTime_15 : decode cX0_isTime 15 = .ok (.ireturn, 1) := by decide +kernel
theorem dX0_canHave_0 : decode cX0_canHave 0 = .ok (.iload_n 0, 1) := by decide +kernel
theorem dX0_canHave_1 : decode cX0_canHave 1 = .ok (.ifCond .ne 8, 3) := by decide +kernel
theorem dX0_canHave_4 : decode cX0_canHave 4 = .ok (.ldc 103, 2) := by decide +kernel
theorem dX0_canHave_6 : decode cX0_canHave 6 = .ok (.goto 5, 3) := by decide +kernel
theorem dX0_canHave_9 : decode cX0_canHave 9 = .ok (.ldc 104, 2) := by decide +kernel
theorem dX0_canHave_11 : decode cX0_canHave 11 = .ok (.istore 4, 2) := by decide +kernel
theorem dX0_canHave_13 : decode cX0_canHave 13 = .ok (.iload_n 1, 1) := by decide +kernel
theorem dX0_canHave_14 : decode cX0_canHave 14 = .ok (.iload 4, 2) := by decide +kernel
theorem dX0_canHave_16 : decode cX0_canHave 16 = .ok (.invokestatic 105, 3) := by decide +kernel
theorem dX0_canHave_19 : decode cX0_canHave 19 = .ok (.ifCond .eq 25, 3) := by decide +kernel
theorem dX0_canHave_22 : decode cX0_canHave 22 = .ok (.iload_n 2, 1) := by decide +kernel
theorem dX0_canHave_23 : decode cX0_canHave 23 = .ok (.iload 4, 2) := by decide +kernel
theorem dX0_canHave_25 : decode cX0_canHave 25 = .ok (.invokestatic 105, 3) := by decide +kernel
theorem dX0_canHave_28 : decode cX0_canHave 28 = .ok (.ifCond .eq 16, 3) := by decide +kernel
theorem dX0_canHave_31 : decode cX0_canHave 31 = .ok (.iload_n 3, 1) := by decide +kernel
theorem dX0_canHave_32 : decode cX0_canHave 32 = .ok (.iload 4, 2) := by decide +kernel
theorem dX0_canHave_34 : decode cX0_canHave 34 = .ok (.invokestatic 105, 3) := by decide +kernel
theorem dX0_canHave_37 : decode cX0_canHave 37 = .ok (.ifCond .eq 7, 3) := by decide +kernel
theorem dX0_canHave_40 : decode cX0_canHave 40 = .ok (.iconst 1, 1) := by decide +kernel
theorem dX0_canHave_41 : decode cX0_canHave 41 = .ok (.goto 4, 3) := by decide +kernel
theorem dX0_canHave_44 : decode cX0_canHave 44 = .ok (.iconst 0, 1) := by decide +kernel
theorem dX0_canHave_45 : decode cX0_canHave 45 = .ok (.ireturn, 1) := by decide +kernel
theorem dX0_isWithin_0 : decode cX0_isWithin 0 = .ok (.iload_n 0, 1) := by decide +kernel
theorem dX0_isWithin_1 : decode cX0_isWithin 1 = .ok (.iload_n 1, 1) := by decide +kernel
theorem dX0_isWithin_2 : decode cX0_isWithin 2 = .ok (.ineg, 1) := by decide +kernel
theorem dX0_isWithin_3 : decode cX0_isWithin 3 = .ok (.if_icmp .lt 12, 3) := by decide +kernel
theorem dX0_isWithin_6 : decode cX0_isWithin 6 = .ok (.iload_n 0, 1) := by decide +kernel
theorem dX0_isWithin_7 : decode cX0_isWithin 7 = .ok (.iload_n 1, 1) := by decide +kernel
theorem dX0_isWithin_8 : decode cX0_isWithin 8 = .ok (.if_icmp .gt 7, 3) := by decide +kernel
theorem dX0_isWithin_11 : decode cX0_isWithin 11 = .ok (.iconst 1, 1) := by decide +kernel
theorem dX0_isWithin_12 : decode cX0_isWithin 12 = .ok (.goto 4, 3) := by decide +kernel
theorem dX0_isWithin_15 : decode cX0_isWithin 15 = .ok (.iconst 0, 1) := by decide +kernel
theorem dX0_isWithin_16 : decode cX0_isWithin 16 = .ok (.ireturn, 1) := by decide +kernel
theorem dX0_textFits_0 : decode cX0_textFits 0 = .ok (.iconst 0, 1) := by decide +kernel
theorem dX0_textFits_1 : decode cX0_textFits 1 = .ok (.istore_n 3, 1) := by decide +kernel
theorem dX0_textFits_2 : decode cX0_textFits 2 = .ok (.iload_n 3, 1) := by decide +kernel
theorem dX0_textFits_3 : decode cX0_textFits 3 = .ok (.iload_n 1, 1) := by decide +kernel
theorem dX0_textFits_4 : decode cX0_textFits 4 = .ok (.if_icmp .ge 48, 3) := by decide +kernel
theorem dX0_textFits_7 : decode cX0_textFits 7 = .ok (.iload_n 3, 1) := by decide +kernel
theorem dX0_textFits_8 : decode cX0_textFits 8 = .ok (.iconst 3, 1) := by decide +kernel
theorem dX0_textFits_9 : decode cX0_textFits 9 = .ok (.imul, 1) := by decide +kernel
theorem dX0_textFits_10 : decode cX0_textFits 10 = .ok (.istore 4, 2) := by decide +kernel
theorem dX0_textFits_12 : decode cX0_textFits 12 = .ok (.iload_n 2, 1) := by decide +kernel
theorem dX0_textFits_13 : decode cX0_textFits 13 = .ok (.aload_n 0, 1) := by decide +kernel
theorem dX0_textFits_14 : decode cX0_textFits 14 = .ok (.getfield 51, 3) := by decide +kernel
theorem dX0_textFits_17 : decode cX0_textFits 17 = .ok (.iload 4, 2) := by decide +kernel
theorem dX0_textFits_19 : decode cX0_textFits 19 = .ok (.iaload, 1) := by decide +kernel
theorem dX0_textFits_20 : decode cX0_textFits 20 = .ok (.aload_n 0, 1) := by decide +kernel
theorem dX0_textFits_21 : decode cX0_textFits 21 = .ok (.getfield 51, 3) := by decide +kernel
theorem dX0_textFits_24 : decode cX0_textFits 24 = .ok (.iload 4, 2) := by decide +kernel
theorem dX0_textFits_26 : decode cX0_textFits 26 = .ok (.iconst 1, 1) := by decide +kernel
theorem dX0_textFits_27 : decode cX0_textFits 27 = .ok (.iadd, 1) := by decide +kernel
theorem dX0_textFits_28 : decode cX0_textFits 28 = .ok (.iaload, 1) := by decide +kernel
theorem dX0_textFits_29 : decode cX0_textFits 29 = .ok (.aload_n 0, 1) := by decide +kernel
theorem dX0_textFits_30 : decode cX0_textFits 30 = .ok (.getfield 51, 3) := by decide +kernel
theorem dX0_textFits_33 : decode cX0_textFits 33 = .ok (.iload 4, 2) := by decide +kernel
theorem dX0_textFits_35 : decode cX0_textFits 35 = .ok (.iconst 2, 1) := by decide +kernel
theorem dX0_textFits_36 : decode cX0_textFits 36 = .ok (.iadd, 1) := by decide +kernel
theorem dX0_textFits_37 : decode cX0_textFits 37 = .ok (.iaload, 1) := by decide +kernel
theorem dX0_textFits_38 : decode cX0_textFits 38 = .ok (.invokestatic 61, 3) := by decide +kernel
theorem dX0_textFits_41 : decode cX0_textFits 41 = .ok (.ifCond .ne 5, 3) := by decide +kernel
theorem dX0_textFits_44 : decode cX0_textFits 44 = .ok (.iconst 0, 1) := by decide +kernel
theorem dX0_textFits_45 : decode cX0_textFits 45 = .ok (.ireturn, 1) := by decide +kernel
theorem dX0_textFits_46 : decode cX0_textFits 46 = .ok (.iinc 3 1, 3) := by decide +kernel
theorem dX0_textFits_49 : decode cX0_textFits 49 = .ok (.goto (-47), 3) := by decide +kernel
theorem dX0_textFits_52 : decode cX0_textFits 52 = .ok (.iconst 1, 1) := by decide +kernel
theorem dX0_textFits_53 : decode cX0_textFits 53 = .ok (.ireturn, 1) := by decide +kernel
theorem dX0_placeOf_0 : decode cX0_placeOf 0 = .ok (.iload_n 0, 1) := by decide +kernel
theorem dX0_placeOf_1 : decode cX0_placeOf 1 = .ok (.iconst 3, 1) := by decide +kernel
theorem dX0_placeOf_2 : decode cX0_placeOf 2 = .ok (.imul, 1) := by decide +kernel
theorem dX0_placeOf_3 : decode cX0_placeOf 3 = .ok (.iload_n 1, 1) := by decide +kernel
theorem dX0_placeOf_4 : decode cX0_placeOf 4 = .ok (.iadd, 1) := by decide +kernel
theorem dX0_placeOf_5 : decode cX0_placeOf 5 = .ok (.iconst 3, 1) := by decide +kernel
theorem dX0_placeOf_6 : decode cX0_placeOf 6 = .ok (.imul, 1) := by decide +kernel
theorem dX0_placeOf_7 : decode cX0_placeOf 7 = .ok (.ireturn, 1) := by decide +kernel
theorem dX0_putThree_0 : decode cX0_putThree 0 = .ok (.aload_n 0, 1) := by decide +kernel
theorem dX0_putThree_1 : decode cX0_putThree 1 = .ok (.iload_n 1, 1) := by decide +kernel
theorem dX0_putThree_2 : decode cX0_putThree 2 = .ok (.iload_n 2, 1) := by decide +kernel
theorem dX0_putThree_3 : decode cX0_putThree 3 = .ok (.iastore, 1) := by decide +kernel
theorem dX0_putThree_4 : decode cX0_putThree 4 = .ok (.aload_n 0, 1) := by decide +kernel
theorem dX0_putThree_5 : decode cX0_putThree 5 = .ok (.iload_n 1, 1) := by decide +kernel
theorem dX0_putThree_6 : decode cX0_putThree 6 = .ok (.iconst 1, 1) := by decide +kernel
theorem dX0_putThree_7 : decode cX0_putThree 7 = .ok (.iadd, 1) := by decide +kernel
theorem dX0_putThree_8 : decode cX0_putThree 8 = .ok (.iload_n 3, 1) := by decide +kernel
theorem dX0_putThree_9 : decode cX0_putThree 9 = .ok (.iastore, 1) := by decide +kernel
theorem dX0_putThree_10 : decode cX0_putThree 10 = .ok (.aload_n 0, 1) := by decide +kernel
theorem dX0_putThree_11 : decode cX0_putThree 11 = .ok (.iload_n 1, 1) := by decide +kernel
theorem dX0_putThree_12 : decode cX0_putThree 12 = .ok (.iconst 2, 1) := by decide +kernel
theorem dX0_putThree_13 : decode cX0_putThree 13 = .ok (.iadd, 1) := by decide +kernel
theorem dX0_putThree_14 : decode cX0_putThree 14 = .ok (.iload 4, 2) := by decide +kernel
theorem dX0_putThree_16 : decode cX0_putThree 16 = .ok (.iastore, 1) := by decide +kernel
theorem dX0_putThree_17 : decode cX0_putThree 17 = .ok (.return_, 1) := by decide +kernel
theorem dX0_keysOfAllTracks_0 : decode cX0_keysOfAllTracks 0 = .ok (.iconst 0, 1) := by decide +kernel
theorem dX0_keysOfAllTracks_1 : decode cX0_keysOfAllTracks 1 = .ok (.istore_n 1, 1) := by decide +kernel
theorem dX0_keysOfAllTracks_2 : decode cX0_keysOfAllTracks 2 = .ok (.iconst 0, 1) := by decide +kernel
theorem dX0_keysOfAllTracks_3 : decode cX0_keysOfAllTracks 3 = .ok (.istore_n 2, 1) := by decide +kernel
theorem dX0_keysOfAllTracks_4 : decode cX0_keysOfAllTracks 4 = .ok (.iload_n 2, 1) := by decide +kernel
theorem dX0_keysOfAllTracks_5 : decode cX0_keysOfAllTracks 5 = .ok (.aload_n 0, 1) := by decide +kernel
theorem dX0_keysOfAllTracks_6 : decode cX0_keysOfAllTracks 6 = .ok (.getfield 69, 3) := by decide +kernel
theorem dX0_keysOfAllTracks_9 : decode cX0_keysOfAllTracks 9 = .ok (.if_icmp .ge 18, 3) := by decide +kernel
theorem dX0_keysOfAllTracks_12 : decode cX0_keysOfAllTracks 12 = .ok (.iload_n 1, 1) := by decide +kernel
theorem dX0_keysOfAllTracks_13 : decode cX0_keysOfAllTracks 13 = .ok (.aload_n 0, 1) := by decide +kernel
theorem dX0_keysOfAllTracks_14 : decode cX0_keysOfAllTracks 14 = .ok (.getfield 39, 3) := by decide +kernel
theorem dX0_keysOfAllTracks_17 : decode cX0_keysOfAllTracks 17 = .ok (.iload_n 2, 1) := by decide +kernel
theorem dX0_keysOfAllTracks_18 : decode cX0_keysOfAllTracks 18 = .ok (.iaload, 1) := by decide +kernel
theorem dX0_keysOfAllTracks_19 : decode cX0_keysOfAllTracks 19 = .ok (.iadd, 1) := by decide +kernel
theorem dX0_keysOfAllTracks_20 : decode cX0_keysOfAllTracks 20 = .ok (.istore_n 1, 1) := by decide +kernel
theorem dX0_keysOfAllTracks_21 : decode cX0_keysOfAllTracks 21 = .ok (.iinc 2 1, 3) := by decide +kernel
theorem dX0_keysOfAllTracks_24 : decode cX0_keysOfAllTracks 24 = .ok (.goto (-20), 3) := by decide +kernel
theorem dX0_keysOfAllTracks_27 : decode cX0_keysOfAllTracks 27 = .ok (.iload_n 1, 1) := by decide +kernel
theorem dX0_keysOfAllTracks_28 : decode cX0_keysOfAllTracks 28 = .ok (.ireturn, 1) := by decide +kernel
theorem dX0_play_0 : decode cX0_play 0 = .ok (.iload_n 1, 1) := by decide +kernel
theorem dX0_play_1 : decode cX0_play 1 = .ok (.bipush 32, 2) := by decide +kernel
theorem dX0_play_3 : decode cX0_play 3 = .ok (.imul, 1) := by decide +kernel
theorem dX0_play_4 : decode cX0_play 4 = .ok (.aload_n 0, 1) := by decide +kernel
theorem dX0_play_5 : decode cX0_play 5 = .ok (.getfield 39, 3) := by decide +kernel
theorem dX0_play_8 : decode cX0_play 8 = .ok (.iload_n 1, 1) := by decide +kernel
theorem dX0_play_9 : decode cX0_play 9 = .ok (.iaload, 1) := by decide +kernel
theorem dX0_play_10 : decode cX0_play 10 = .ok (.iadd, 1) := by decide +kernel
theorem dX0_play_11 : decode cX0_play 11 = .ok (.iconst 1, 1) := by decide +kernel
theorem dX0_play_12 : decode cX0_play 12 = .ok (.isub, 1) := by decide +kernel
theorem dX0_play_13 : decode cX0_play 13 = .ok (.istore_n 2, 1) := by decide +kernel
theorem dX0_play_14 : decode cX0_play 14 = .ok (.aload_n 0, 1) := by decide +kernel
theorem dX0_play_15 : decode cX0_play 15 = .ok (.iload_n 1, 1) := by decide +kernel
theorem dX0_play_16 : decode cX0_play 16 = .ok (.bipush 32, 2) := by decide +kernel
theorem dX0_play_18 : decode cX0_play 18 = .ok (.imul, 1) := by decide +kernel
theorem dX0_play_19 : decode cX0_play 19 = .ok (.iload_n 2, 1) := by decide +kernel
theorem dX0_play_20 : decode cX0_play 20 = .ok (.invokevirtual 108, 3) := by decide +kernel
theorem dX0_play_23 : decode cX0_play 23 = .ok (.istore_n 3, 1) := by decide +kernel
theorem dX0_play_24 : decode cX0_play 24 = .ok (.aload_n 0, 1) := by decide +kernel
theorem dX0_play_25 : decode cX0_play 25 = .ok (.getfield 30, 3) := by decide +kernel
theorem dX0_play_28 : decode cX0_play 28 = .ok (.iload_n 1, 1) := by decide +kernel
theorem dX0_play_29 : decode cX0_play 29 = .ok (.iaload, 1) := by decide +kernel
theorem dX0_play_30 : decode cX0_play 30 = .ok (.aload_n 0, 1) := by decide +kernel
theorem dX0_play_31 : decode cX0_play 31 = .ok (.getfield 33, 3) := by decide +kernel
theorem dX0_play_34 : decode cX0_play 34 = .ok (.iload_n 1, 1) := by decide +kernel
theorem dX0_play_35 : decode cX0_play 35 = .ok (.iaload, 1) := by decide +kernel
theorem dX0_play_36 : decode cX0_play 36 = .ok (.invokestatic 26, 3) := by decide +kernel
theorem dX0_play_39 : decode cX0_play 39 = .ok (.istore 4, 2) := by decide +kernel
theorem dX0_play_41 : decode cX0_play 41 = .ok (.iload_n 3, 1) := by decide +kernel
theorem dX0_play_42 : decode cX0_play 42 = .ok (.iload_n 2, 1) := by decide +kernel
theorem dX0_play_43 : decode cX0_play 43 = .ok (.if_icmp .eq 16, 3) := by decide +kernel
theorem dX0_play_46 : decode cX0_play 46 = .ok (.aload_n 0, 1) := by decide +kernel
theorem dX0_play_47 : decode cX0_play 47 = .ok (.getfield 91, 3) := by decide +kernel
theorem dX0_play_50 : decode cX0_play 50 = .ok (.aload_n 0, 1) := by decide +kernel
theorem dX0_play_51 : decode cX0_play 51 = .ok (.getfield 42, 3) := by decide +kernel
theorem dX0_play_54 : decode cX0_play 54 = .ok (.iload_n 3, 1) := by decide +kernel
theorem dX0_play_55 : decode cX0_play 55 = .ok (.iaload, 1) := by decide +kernel
theorem dX0_play_56 : decode cX0_play 56 = .ok (.if_icmp .ge 7, 3) := by decide +kernel
theorem dX0_play_59 : decode cX0_play 59 = .ok (.iconst 1, 1) := by decide +kernel
theorem dX0_play_60 : decode cX0_play 60 = .ok (.goto 4, 3) := by decide +kernel
theorem dX0_play_63 : decode cX0_play 63 = .ok (.iconst 0, 1) := by decide +kernel
theorem dX0_play_64 : decode cX0_play 64 = .ok (.istore 5, 2) := by decide +kernel
theorem dX0_play_66 : decode cX0_play 66 = .ok (.iconst 0, 1) := by decide +kernel
theorem dX0_play_67 : decode cX0_play 67 = .ok (.istore 6, 2) := by decide +kernel
theorem dX0_play_69 : decode cX0_play 69 = .ok (.iload 6, 2) := by decide +kernel
theorem dX0_play_71 : decode cX0_play 71 = .ok (.iconst 3, 1) := by decide +kernel
theorem dX0_play_72 : decode cX0_play 72 = .ok (.if_icmp .ge 51, 3) := by decide +kernel
theorem dX0_play_75 : decode cX0_play 75 = .ok (.aload_n 0, 1) := by decide +kernel
theorem dX0_play_76 : decode cX0_play 76 = .ok (.getfield 22, 3) := by decide +kernel
theorem dX0_play_79 : decode cX0_play 79 = .ok (.iload 4, 2) := by decide +kernel
theorem dX0_play_81 : decode cX0_play 81 = .ok (.iload 6, 2) := by decide +kernel
theorem dX0_play_83 : decode cX0_play 83 = .ok (.iadd, 1) := by decide +kernel
theorem dX0_play_84 : decode cX0_play 84 = .ok (.iload 5, 2) := by decide +kernel
theorem dX0_play_86 : decode cX0_play 86 = .ok (.ifCond .eq 17, 3) := by decide +kernel
theorem dX0_play_89 : decode cX0_play 89 = .ok (.aload_n 0, 1) := by decide +kernel
theorem dX0_play_90 : decode cX0_play 90 = .ok (.getfield 45, 3) := by decide +kernel
theorem dX0_play_93 : decode cX0_play 93 = .ok (.iload_n 3, 1) := by decide +kernel
theorem dX0_play_94 : decode cX0_play 94 = .ok (.iconst 3, 1) := by decide +kernel
theorem dX0_play_95 : decode cX0_play 95 = .ok (.imul, 1) := by decide +kernel
theorem dX0_play_96 : decode cX0_play 96 = .ok (.iload 6, 2) := by decide +kernel
theorem dX0_play_98 : decode cX0_play 98 = .ok (.iadd, 1) := by decide +kernel
theorem dX0_play_99 : decode cX0_play 99 = .ok (.iaload, 1) := by decide +kernel
theorem dX0_play_100 : decode cX0_play 100 = .ok (.goto 16, 3) := by decide +kernel
theorem dX0_play_103 : decode cX0_play 103 = .ok (.aload_n 0, 1) := by decide +kernel
theorem dX0_play_104 : decode cX0_play 104 = .ok (.aload_n 0, 1) := by decide +kernel
theorem dX0_play_105 : decode cX0_play 105 = .ok (.getfield 36, 3) := by decide +kernel
theorem dX0_play_108 : decode cX0_play 108 = .ok (.iload_n 1, 1) := by decide +kernel
theorem dX0_play_109 : decode cX0_play 109 = .ok (.iaload, 1) := by decide +kernel
theorem dX0_play_110 : decode cX0_play 110 = .ok (.iload_n 3, 1) := by decide +kernel
theorem dX0_play_111 : decode cX0_play 111 = .ok (.iload 6, 2) := by decide +kernel
theorem dX0_play_113 : decode cX0_play 113 = .ok (.invokevirtual 111, 3) := by decide +kernel
theorem dX0_play_116 : decode cX0_play 116 = .ok (.iastore, 1) := by decide +kernel
theorem dX0_play_117 : decode cX0_play 117 = .ok (.iinc 6 1, 3) := by decide +kernel
theorem dX0_play_120 : decode cX0_play 120 = .ok (.goto (-51), 3) := by decide +kernel
theorem dX0_play_123 : decode cX0_play 123 = .ok (.return_, 1) := by decide +kernel
theorem dX0_keyInForce_0 : decode cX0_keyInForce 0 = .ok (.iload_n 1, 1) := by decide +kernel
theorem dX0_keyInForce_1 : decode cX0_keyInForce 1 = .ok (.istore_n 3, 1) := by decide +kernel
theorem dX0_keyInForce_2 : decode cX0_keyInForce 2 = .ok (.iload_n 3, 1) := by decide +kernel
theorem dX0_keyInForce_3 : decode cX0_keyInForce 3 = .ok (.iload_n 2, 1) := by decide +kernel
theorem dX0_keyInForce_4 : decode cX0_keyInForce 4 = .ok (.if_icmp .ge 24, 3) := by decide +kernel
theorem dX0_keyInForce_7 : decode cX0_keyInForce 7 = .ok (.aload_n 0, 1) := by decide +kernel
theorem dX0_keyInForce_8 : decode cX0_keyInForce 8 = .ok (.getfield 42, 3) := by decide +kernel
theorem dX0_keyInForce_11 : decode cX0_keyInForce 11 = .ok (.iload_n 3, 1) := by decide +kernel
theorem dX0_keyInForce_12 : decode cX0_keyInForce 12 = .ok (.iconst 1, 1) := by decide +kernel
theorem dX0_keyInForce_13 : decode cX0_keyInForce 13 = .ok (.iadd, 1) := by decide +kernel
theorem dX0_keyInForce_14 : decode cX0_keyInForce 14 = .ok (.iaload, 1) := by decide +kernel
theorem dX0_keyInForce_15 : decode cX0_keyInForce 15 = .ok (.aload_n 0, 1) := by decide +kernel
theorem dX0_keyInForce_16 : decode cX0_keyInForce 16 = .ok (.getfield 91, 3) := by decide +kernel
theorem dX0_keyInForce_19 : decode cX0_keyInForce 19 = .ok (.if_icmp .gt 9, 3) := by decide +kernel
theorem dX0_keyInForce_22 : decode cX0_keyInForce 22 = .ok (.iinc 3 1, 3) := by decide +kernel
theorem dX0_keyInForce_25 : decode cX0_keyInForce 25 = .ok (.goto (-23), 3) := by decide +kernel
theorem dX0_keyInForce_28 : decode cX0_keyInForce 28 = .ok (.iload_n 3, 1) := by decide +kernel
theorem dX0_keyInForce_29 : decode cX0_keyInForce 29 = .ok (.ireturn, 1) := by decide +kernel
theorem dX0_between_0 : decode cX0_between 0 = .ok (.aload_n 0, 1) := by decide +kernel
theorem dX0_between_1 : decode cX0_between 1 = .ok (.getfield 45, 3) := by decide +kernel
theorem dX0_between_4 : decode cX0_between 4 = .ok (.iload_n 2, 1) := by decide +kernel
theorem dX0_between_5 : decode cX0_between 5 = .ok (.iconst 3, 1) := by decide +kernel
theorem dX0_between_6 : decode cX0_between 6 = .ok (.imul, 1) := by decide +kernel
theorem dX0_between_7 : decode cX0_between 7 = .ok (.iload_n 3, 1) := by decide +kernel
theorem dX0_between_8 : decode cX0_between 8 = .ok (.iadd, 1) := by decide +kernel
theorem dX0_between_9 : decode cX0_between 9 = .ok (.iaload, 1) := by decide +kernel
theorem dX0_between_10 : decode cX0_between 10 = .ok (.i2l, 1) := by decide +kernel
theorem dX0_between_11 : decode cX0_between 11 = .ok (.lstore 4, 2) := by decide +kernel
theorem dX0_between_13 : decode cX0_between 13 = .ok (.aload_n 0, 1) := by decide +kernel
theorem dX0_between_14 : decode cX0_between 14 = .ok (.getfield 45, 3) := by decide +kernel
theorem dX0_between_17 : decode cX0_between 17 = .ok (.iload_n 2, 1) := by decide +kernel
theorem dX0_between_18 : decode cX0_between 18 = .ok (.iconst 1, 1) := by decide +kernel
theorem dX0_between_19 : decode cX0_between 19 = .ok (.iadd, 1) := by decide +kernel
theorem dX0_between_20 : decode cX0_between 20 = .ok (.iconst 3, 1) := by decide +kernel
theorem dX0_between_21 : decode cX0_between 21 = .ok (.imul, 1) := by decide +kernel
theorem dX0_between_22 : decode cX0_between 22 = .ok (.iload_n 3, 1) := by decide +kernel
theorem dX0_between_23 : decode cX0_between 23 = .ok (.iadd, 1) := by decide +kernel
theorem dX0_between_24 : decode cX0_between 24 = .ok (.iaload, 1) := by decide +kernel
theorem dX0_between_25 : decode cX0_between 25 = .ok (.i2l, 1) := by decide +kernel
theorem dX0_between_26 : decode cX0_between 26 = .ok (.lload 4, 2) := by decide +kernel
theorem dX0_between_28 : decode cX0_between 28 = .ok (.lsub, 1) := by decide +kernel
theorem dX0_between_29 : decode cX0_between 29 = .ok (.lstore 6, 2) := by decide +kernel
theorem dX0_between_31 : decode cX0_between 31 = .ok (.aload_n 0, 1) := by decide +kernel
theorem dX0_between_32 : decode cX0_between 32 = .ok (.getfield 91, 3) := by decide +kernel
theorem dX0_between_35 : decode cX0_between 35 = .ok (.aload_n 0, 1) := by decide +kernel
theorem dX0_between_36 : decode cX0_between 36 = .ok (.getfield 42, 3) := by decide +kernel
theorem dX0_between_39 : decode cX0_between 39 = .ok (.iload_n 2, 1) := by decide +kernel
theorem dX0_between_40 : decode cX0_between 40 = .ok (.iaload, 1) := by decide +kernel
theorem dX0_between_41 : decode cX0_between 41 = .ok (.isub, 1) := by decide +kernel
theorem dX0_between_42 : decode cX0_between 42 = .ok (.i2l, 1) := by decide +kernel
theorem dX0_between_43 : decode cX0_between 43 = .ok (.lstore 8, 2) := by decide +kernel
theorem dX0_between_45 : decode cX0_between 45 = .ok (.aload_n 0, 1) := by decide +kernel
theorem dX0_between_46 : decode cX0_between 46 = .ok (.getfield 42, 3) := by decide +kernel
theorem dX0_between_49 : decode cX0_between 49 = .ok (.iload_n 2, 1) := by decide +kernel
theorem dX0_between_50 : decode cX0_between 50 = .ok (.iconst 1, 1) := by decide +kernel
theorem dX0_between_51 : decode cX0_between 51 = .ok (.iadd, 1) := by decide +kernel
theorem dX0_between_52 : decode cX0_between 52 = .ok (.iaload, 1) := by decide +kernel
theorem dX0_between_53 : decode cX0_between 53 = .ok (.aload_n 0, 1) := by decide +kernel
theorem dX0_between_54 : decode cX0_between 54 = .ok (.getfield 42, 3) := by decide +kernel
theorem dX0_between_57 : decode cX0_between 57 = .ok (.iload_n 2, 1) := by decide +kernel
theorem dX0_between_58 : decode cX0_between 58 = .ok (.iaload, 1) := by decide +kernel
theorem dX0_between_59 : decode cX0_between 59 = .ok (.isub, 1) := by decide +kernel
theorem dX0_between_60 : decode cX0_between 60 = .ok (.i2l, 1) := by decide +kernel
theorem dX0_between_61 : decode cX0_between 61 = .ok (.lstore 10, 2) := by decide +kernel
theorem dX0_between_63 : decode cX0_between 63 = .ok (.iload_n 1, 1) := by decide +kernel
theorem dX0_between_64 : decode cX0_between 64 = .ok (.iconst 1, 1) := by decide +kernel
theorem dX0_between_65 : decode cX0_between 65 = .ok (.if_icmp .ne 18, 3) := by decide +kernel
theorem dX0_between_68 : decode cX0_between 68 = .ok (.lload 4, 2) := by decide +kernel
theorem dX0_between_70 : decode cX0_between 70 = .ok (.lload 6, 2) := by decide +kernel
theorem dX0_between_72 : decode cX0_between 72 = .ok (.lload 8, 2) := by decide +kernel
theorem dX0_between_74 : decode cX0_between 74 = .ok (.lmul, 1) := by decide +kernel
theorem dX0_between_75 : decode cX0_between 75 = .ok (.lload 10, 2) := by decide +kernel
theorem dX0_between_77 : decode cX0_between 77 = .ok (.invokestatic 115, 3) := by decide +kernel
theorem dX0_between_80 : decode cX0_between 80 = .ok (.ladd, 1) := by decide +kernel
theorem dX0_between_81 : decode cX0_between 81 = .ok (.l2i, 1) := by decide +kernel
theorem dX0_between_82 : decode cX0_between 82 = .ok (.ireturn, 1) := by decide +kernel
theorem dX0_between_83 : decode cX0_between 83 = .ok (.iload_n 1, 1) := by decide +kernel
theorem dX0_between_84 : decode cX0_between 84 = .ok (.iconst 2, 1) := by decide +kernel
theorem dX0_between_85 : decode cX0_between 85 = .ok (.if_icmp .ne 27, 3) := by decide +kernel
theorem dX0_between_88 : decode cX0_between 88 = .ok (.lload 4, 2) := by decide +kernel
theorem dX0_between_90 : decode cX0_between 90 = .ok (.lload 6, 2) := by decide +kernel
theorem dX0_between_92 : decode cX0_between 92 = .ok (.lload 8, 2) := by decide +kernel
theorem dX0_between_94 : decode cX0_between 94 = .ok (.ldc2_w 119, 3) := by decide +kernel
theorem dX0_between_97 : decode cX0_between 97 = .ok (.lmul, 1) := by decide +kernel
theorem dX0_between_98 : decode cX0_between 98 = .ok (.lload 10, 2) := by decide +kernel
theorem dX0_between_100 : decode cX0_between 100 = .ok (.invokestatic 115, 3) := by decide +kernel
theorem dX0_between_103 : decode cX0_between 103 = .ok (.invokestatic 121, 3) := by decide +kernel
theorem dX0_between_106 : decode cX0_between 106 = .ok (.invokestatic 125, 3) := by decide +kernel
theorem dX0_between_109 : decode cX0_between 109 = .ok (.ladd, 1) := by decide +kernel
theorem dX0_between_110 : decode cX0_between 110 = .ok (.l2i, 1) := by decide +kernel
theorem dX0_between_111 : decode cX0_between 111 = .ok (.ireturn, 1) := by decide +kernel
theorem dX0_between_112 : decode cX0_between 112 = .ok (.lload 4, 2) := by decide +kernel
theorem dX0_between_114 : decode cX0_between 114 = .ok (.l2i, 1) := by decide +kernel
theorem dX0_between_115 : decode cX0_between 115 = .ok (.ireturn, 1) := by decide +kernel
theorem dX0_smoothed_0 : decode cX0_smoothed 0 = .ok (.lload_n 0, 1) := by decide +kernel
theorem dX0_smoothed_1 : decode cX0_smoothed 1 = .ok (.lload_n 0, 1) := by decide +kernel
theorem dX0_smoothed_2 : decode cX0_smoothed 2 = .ok (.invokestatic 125, 3) := by decide +kernel
theorem dX0_smoothed_5 : decode cX0_smoothed 5 = .ok (.ldc2_w 128, 3) := by decide +kernel
theorem dX0_smoothed_8 : decode cX0_smoothed 8 = .ok (.ldc2_w 130, 3) := by decide +kernel
theorem dX0_smoothed_11 : decode cX0_smoothed 11 = .ok (.lload_n 0, 1) := by decide +kernel
theorem dX0_smoothed_12 : decode cX0_smoothed 12 = .ok (.lmul, 1) := by decide +kernel
theorem dX0_smoothed_13 : decode cX0_smoothed 13 = .ok (.lsub, 1) := by decide +kernel
theorem dX0_smoothed_14 : decode cX0_smoothed 14 = .ok (.invokestatic 125, 3) := by decide +kernel
theorem dX0_smoothed_17 : decode cX0_smoothed 17 = .ok (.lreturn, 1) := by decide +kernel
theorem dX0_mul_0 : decode cX0_mul 0 = .ok (.lload_n 0, 1) := by decide +kernel
theorem dX0_mul_1 : decode cX0_mul 1 = .ok (.lload_n 2, 1) := by decide +kernel
theorem dX0_mul_2 : decode cX0_mul 2 = .ok (.lmul, 1) := by decide +kernel
theorem dX0_mul_3 : decode cX0_mul 3 = .ok (.ldc2_w 119, 3) := by decide +kernel
theorem dX0_mul_6 : decode cX0_mul 6 = .ok (.invokestatic 115, 3) := by decide +kernel
theorem dX0_mul_9 : decode cX0_mul 9 = .ok (.lreturn, 1) := by decide +kernel
theorem dX0_div_0 : decode cX0_div 0 = .ok (.lload_n 2, 1) := by decide +kernel
theorem dX0_div_1 : decode cX0_div 1 = .ok (.lconst 0, 1) := by decide +kernel
theorem dX0_div_2 : decode cX0_div 2 = .ok (.lcmp, 1) := by decide +kernel
theorem dX0_div_3 : decode cX0_div 3 = .ok (.ifCond .ne 7, 3) := by decide +kernel
theorem dX0_div_6 : decode cX0_div 6 = .ok (.lconst 0, 1) := by decide +kernel
theorem dX0_div_7 : decode cX0_div 7 = .ok (.goto 8, 3) := by decide +kernel
theorem dX0_div_10 : decode cX0_div 10 = .ok (.lload_n 0, 1) := by decide +kernel
theorem dX0_div_11 : decode cX0_div 11 = .ok (.lload_n 2, 1) := by decide +kernel
theorem dX0_div_12 : decode cX0_div 12 = .ok (.invokestatic 132, 3) := by decide +kernel
theorem dX0_div_15 : decode cX0_div 15 = .ok (.lreturn, 1) := by decide +kernel
theorem dJ9_floorDiv_f86c9_0 : decode cJ9_floorDiv_f86c9 0 = .ok (.lload_n 0, 1) := by decide +kernel
theorem dJ9_floorDiv_f86c9_1 : decode cJ9_floorDiv_f86c9 1 = .ok (.lload_n 2, 1) := by decide +kernel
theorem dJ9_floorDiv_f86c9_2 : decode cJ9_floorDiv_f86c9 2 = .ok (.ldiv, 1) := by decide +kernel
theorem dJ9_floorDiv_f86c9_3 : decode cJ9_floorDiv_f86c9 3 = .ok (.lstore 4, 2) := by decide +kernel
theorem dJ9_floorDiv_f86c9_5 : decode cJ9_floorDiv_f86c9 5 = .ok (.lload_n 0, 1) := by decide +kernel
theorem dJ9_floorDiv_f86c9_6 : decode cJ9_floorDiv_f86c9 6 = .ok (.lload_n 2, 1) := by decide +kernel
theorem dJ9_floorDiv_f86c9_7 : decode cJ9_floorDiv_f86c9 7 = .ok (.lxor, 1) := by decide +kernel
theorem dJ9_floorDiv_f86c9_8 : decode cJ9_floorDiv_f86c9 8 = .ok (.lconst 0, 1) := by decide +kernel
theorem dJ9_floorDiv_f86c9_9 : decode cJ9_floorDiv_f86c9 9 = .ok (.lcmp, 1) := by decide +kernel
theorem dJ9_floorDiv_f86c9_10 : decode cJ9_floorDiv_f86c9 10 = .ok (.ifCond .ge 17, 3) := by decide +kernel
theorem dJ9_floorDiv_f86c9_13 : decode cJ9_floorDiv_f86c9 13 = .ok (.lload 4, 2) := by decide +kernel
theorem dJ9_floorDiv_f86c9_15 : decode cJ9_floorDiv_f86c9 15 = .ok (.lload_n 2, 1) := by decide +kernel
theorem dJ9_floorDiv_f86c9_16 : decode cJ9_floorDiv_f86c9 16 = .ok (.lmul, 1) := by decide +kernel
theorem dJ9_floorDiv_f86c9_17 : decode cJ9_floorDiv_f86c9 17 = .ok (.lload_n 0, 1) := by decide +kernel
theorem dJ9_floorDiv_f86c9_18 : decode cJ9_floorDiv_f86c9 18 = .ok (.lcmp, 1) := by decide +kernel
theorem dJ9_floorDiv_f86c9_19 : decode cJ9_floorDiv_f86c9 19 = .ok (.ifCond .eq 8, 3) := by decide +kernel
theorem dJ9_floorDiv_f86c9_22 : decode cJ9_floorDiv_f86c9 22 = .ok (.lload 4, 2) := by decide +kernel
theorem dJ9_floorDiv_f86c9_24 : decode cJ9_floorDiv_f86c9 24 = .ok (.lconst 1, 1) := by decide +kernel
theorem dJ9_floorDiv_f86c9_25 : decode cJ9_floorDiv_f86c9 25 = .ok (.lsub, 1) := by decide +kernel
theorem dJ9_floorDiv_f86c9_26 : decode cJ9_floorDiv_f86c9 26 = .ok (.lreturn, 1) := by decide +kernel
theorem dJ9_floorDiv_f86c9_27 : decode cJ9_floorDiv_f86c9 27 = .ok (.lload 4, 2) := by decide +kernel
theorem dJ9_floorDiv_f86c9_29 : decode cJ9_floorDiv_f86c9 29 = .ok (.lreturn, 1) := by decide +kernel
theorem dJ9_max_7cf53_0 : decode cJ9_max_7cf53 0 = .ok (.iload_n 0, 1) := by decide +kernel
theorem dJ9_max_7cf53_1 : decode cJ9_max_7cf53 1 = .ok (.iload_n 1, 1) := by decide +kernel
theorem dJ9_max_7cf53_2 : decode cJ9_max_7cf53 2 = .ok (.if_icmp .lt 7, 3) := by decide +kernel
theorem dJ9_max_7cf53_5 : decode cJ9_max_7cf53 5 = .ok (.iload_n 0, 1) := by decide +kernel
theorem dJ9_max_7cf53_6 : decode cJ9_max_7cf53 6 = .ok (.goto 4, 3) := by decide +kernel
theorem dJ9_max_7cf53_9 : decode cJ9_max_7cf53 9 = .ok (.iload_n 1, 1) := by decide +kernel
theorem dJ9_max_7cf53_10 : decode cJ9_max_7cf53 10 = .ok (.ireturn, 1) := by decide +kernel
theorem dJ9_min_7cf53_0 : decode cJ9_min_7cf53 0 = .ok (.iload_n 0, 1) := by decide +kernel
theorem dJ9_min_7cf53_1 : decode cJ9_min_7cf53 1 = .ok (.iload_n 1, 1) := by decide +kernel
theorem dJ9_min_7cf53_2 : decode cJ9_min_7cf53 2 = .ok (.if_icmp .gt 7, 3) := by decide +kernel
theorem dJ9_min_7cf53_5 : decode cJ9_min_7cf53 5 = .ok (.iload_n 0, 1) := by decide +kernel
theorem dJ9_min_7cf53_6 : decode cJ9_min_7cf53 6 = .ok (.goto 4, 3) := by decide +kernel
theorem dJ9_min_7cf53_9 : decode cJ9_min_7cf53 9 = .ok (.iload_n 1, 1) := by decide +kernel
theorem dJ9_min_7cf53_10 : decode cJ9_min_7cf53 10 = .ok (.ireturn, 1) := by decide +kernel
