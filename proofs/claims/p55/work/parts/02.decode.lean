theorem dX0_init_0 : decode cX0_init 0 = .ok (.aload_n 0, 1) := by decide +kernel
theorem dX0_init_1 : decode cX0_init 1 = .ok (.invokespecial 3, 3) := by decide +kernel
theorem dX0_init_4 : decode cX0_init 4 = .ok (.aload_n 0, 1) := by decide +kernel
theorem dX0_init_5 : decode cX0_init 5 = .ok (.lconst 1, 1) := by decide +kernel
theorem dX0_init_6 : decode cX0_init 6 = .ok (.putfield 9, 3) := by decide +kernel
theorem dX0_init_9 : decode cX0_init 9 = .ok (.return_, 1) := by decide +kernel
theorem dX0_measure_0 : decode cX0_measure 0 = .ok (.iload_n 1, 1) := by decide +kernel
theorem dX0_measure_1 : decode cX0_measure 1 = .ok (.iload_n 3, 1) := by decide +kernel
theorem dX0_measure_2 : decode cX0_measure 2 = .ok (.imul, 1) := by decide +kernel
theorem dX0_measure_3 : decode cX0_measure 3 = .ok (.iload_n 2, 1) := by decide +kernel
theorem dX0_measure_4 : decode cX0_measure 4 = .ok (.iload 4, 2) := by decide +kernel
theorem dX0_measure_6 : decode cX0_measure 6 = .ok (.imul, 1) := by decide +kernel
theorem dX0_measure_7 : decode cX0_measure 7 = .ok (.iadd, 1) := by decide +kernel
theorem dX0_measure_8 : decode cX0_measure 8 = .ok (.istore 5, 2) := by decide +kernel
theorem dX0_measure_10 : decode cX0_measure 10 = .ok (.iload_n 3, 1) := by decide +kernel
theorem dX0_measure_11 : decode cX0_measure 11 = .ok (.iload_n 3, 1) := by decide +kernel
theorem dX0_measure_12 : decode cX0_measure 12 = .ok (.imul, 1) := by decide +kernel
theorem dX0_measure_13 : decode cX0_measure 13 = .ok (.iload 4, 2) := by decide +kernel
theorem dX0_measure_15 : decode cX0_measure 15 = .ok (.iload 4, 2) := by decide +kernel
theorem dX0_measure_17 : decode cX0_measure 17 = .ok (.imul, 1) := by decide +kernel
theorem dX0_measure_18 : decode cX0_measure 18 = .ok (.iadd, 1) := by decide +kernel
theorem dX0_measure_19 : decode cX0_measure 19 = .ok (.istore 6, 2) := by decide +kernel
theorem dX0_measure_21 : decode cX0_measure 21 = .ok (.aload_n 0, 1) := by decide +kernel
theorem dX0_measure_22 : decode cX0_measure 22 = .ok (.lconst 1, 1) := by decide +kernel
theorem dX0_measure_23 : decode cX0_measure 23 = .ok (.putfield 9, 3) := by decide +kernel
theorem dX0_measure_26 : decode cX0_measure 26 = .ok (.iload 5, 2) := by decide +kernel
theorem dX0_measure_28 : decode cX0_measure 28 = .ok (.ifCond .gt 18, 3) := by decide +kernel
theorem dX0_measure_31 : decode cX0_measure 31 = .ok (.aload_n 0, 1) := by decide +kernel
theorem dX0_measure_32 : decode cX0_measure 32 = .ok (.iload_n 1, 1) := by decide +kernel
theorem dX0_measure_33 : decode cX0_measure 33 = .ok (.iload_n 1, 1) := by decide +kernel
theorem dX0_measure_34 : decode cX0_measure 34 = .ok (.imul, 1) := by decide +kernel
theorem dX0_measure_35 : decode cX0_measure 35 = .ok (.iload_n 2, 1) := by decide +kernel
theorem dX0_measure_36 : decode cX0_measure 36 = .ok (.iload_n 2, 1) := by decide +kernel
theorem dX0_measure_37 : decode cX0_measure 37 = .ok (.imul, 1) := by decide +kernel
theorem dX0_measure_38 : decode cX0_measure 38 = .ok (.iadd, 1) := by decide +kernel
theorem dX0_measure_39 : decode cX0_measure 39 = .ok (.i2l, 1) := by decide +kernel
theorem dX0_measure_40 : decode cX0_measure 40 = .ok (.putfield 15, 3) := by decide +kernel
theorem dX0_measure_43 : decode cX0_measure 43 = .ok (.goto 70, 3) := by decide +kernel
theorem dX0_measure_46 : decode cX0_measure 46 = .ok (.iload 5, 2) := by decide +kernel
theorem dX0_measure_48 : decode cX0_measure 48 = .ok (.iload 6, 2) := by decide +kernel
theorem dX0_measure_50 : decode cX0_measure 50 = .ok (.if_icmp .lt 33, 3) := by decide +kernel
theorem dX0_measure_53 : decode cX0_measure 53 = .ok (.iload_n 1, 1) := by decide +kernel
theorem dX0_measure_54 : decode cX0_measure 54 = .ok (.iload_n 3, 1) := by decide +kernel
theorem dX0_measure_55 : decode cX0_measure 55 = .ok (.isub, 1) := by decide +kernel
theorem dX0_measure_56 : decode cX0_measure 56 = .ok (.istore 7, 2) := by decide +kernel
theorem dX0_measure_58 : decode cX0_measure 58 = .ok (.iload_n 2, 1) := by decide +kernel
theorem dX0_measure_59 : decode cX0_measure 59 = .ok (.iload 4, 2) := by decide +kernel
theorem dX0_measure_61 : decode cX0_measure 61 = .ok (.isub, 1) := by decide +kernel
theorem dX0_measure_62 : decode cX0_measure 62 = .ok (.istore 8, 2) := by decide +kernel
theorem dX0_measure_64 : decode cX0_measure 64 = .ok (.aload_n 0, 1) := by decide +kernel
theorem dX0_measure_65 : decode cX0_measure 65 = .ok (.iload 7, 2) := by decide +kernel
theorem dX0_measure_67 : decode cX0_measure 67 = .ok (.iload 7, 2) := by decide +kernel
theorem dX0_measure_69 : decode cX0_measure 69 = .ok (.imul, 1) := by decide +kernel
theorem dX0_measure_70 : decode cX0_measure 70 = .ok (.iload 8, 2) := by decide +kernel
theorem dX0_measure_72 : decode cX0_measure 72 = .ok (.iload 8, 2) := by decide +kernel
theorem dX0_measure_74 : decode cX0_measure 74 = .ok (.imul, 1) := by decide +kernel
theorem dX0_measure_75 : decode cX0_measure 75 = .ok (.iadd, 1) := by decide +kernel
theorem dX0_measure_76 : decode cX0_measure 76 = .ok (.i2l, 1) := by decide +kernel
theorem dX0_measure_77 : decode cX0_measure 77 = .ok (.putfield 15, 3) := by decide +kernel
theorem dX0_measure_80 : decode cX0_measure 80 = .ok (.goto 33, 3) := by decide +kernel
theorem dX0_measure_83 : decode cX0_measure 83 = .ok (.iload_n 3, 1) := by decide +kernel
theorem dX0_measure_84 : decode cX0_measure 84 = .ok (.i2l, 1) := by decide +kernel
theorem dX0_measure_85 : decode cX0_measure 85 = .ok (.iload_n 2, 1) := by decide +kernel
theorem dX0_measure_86 : decode cX0_measure 86 = .ok (.i2l, 1) := by decide +kernel
theorem dX0_measure_87 : decode cX0_measure 87 = .ok (.lmul, 1) := by decide +kernel
theorem dX0_measure_88 : decode cX0_measure 88 = .ok (.iload 4, 2) := by decide +kernel
theorem dX0_measure_90 : decode cX0_measure 90 = .ok (.i2l, 1) := by decide +kernel
theorem dX0_measure_91 : decode cX0_measure 91 = .ok (.iload_n 1, 1) := by decide +kernel
theorem dX0_measure_92 : decode cX0_measure 92 = .ok (.i2l, 1) := by decide +kernel
theorem dX0_measure_93 : decode cX0_measure 93 = .ok (.lmul, 1) := by decide +kernel
theorem dX0_measure_94 : decode cX0_measure 94 = .ok (.lsub, 1) := by decide +kernel
theorem dX0_measure_95 : decode cX0_measure 95 = .ok (.lstore 7, 2) := by decide +kernel
theorem dX0_measure_97 : decode cX0_measure 97 = .ok (.aload_n 0, 1) := by decide +kernel
theorem dX0_measure_98 : decode cX0_measure 98 = .ok (.lload 7, 2) := by decide +kernel
theorem dX0_measure_100 : decode cX0_measure 100 = .ok (.lload 7, 2) := by decide +kernel
theorem dX0_measure_102 : decode cX0_measure 102 = .ok (.lmul, 1) := by decide +kernel
theorem dX0_measure_103 : decode cX0_measure 103 = .ok (.putfield 15, 3) := by decide +kernel
theorem dX0_measure_106 : decode cX0_measure 106 = .ok (.aload_n 0, 1) := by decide +kernel
theorem dX0_measure_107 : decode cX0_measure 107 = .ok (.iload 6, 2) := by decide +kernel
theorem dX0_measure_109 : decode cX0_measure 109 = .ok (.i2l, 1) := by decide +kernel
theorem dX0_measure_110 : decode cX0_measure 110 = .ok (.putfield 9, 3) := by decide +kernel
theorem dX0_measure_113 : decode cX0_measure 113 = .ok (.return_, 1) := by decide +kernel
theorem dX0_isAbove_0 : decode cX0_isAbove 0 = .ok (.aload_n 0, 1) := by decide +kernel
theorem dX0_isAbove_1 : decode cX0_isAbove 1 = .ok (.getfield 15, 3) := by decide +kernel
theorem dX0_isAbove_4 : decode cX0_isAbove 4 = .ok (.iload_n 1, 1) := by decide +kernel
theorem dX0_isAbove_5 : decode cX0_isAbove 5 = .ok (.i2l, 1) := by decide +kernel
theorem dX0_isAbove_6 : decode cX0_isAbove 6 = .ok (.iload_n 1, 1) := by decide +kernel
theorem dX0_isAbove_7 : decode cX0_isAbove 7 = .ok (.i2l, 1) := by decide +kernel
theorem dX0_isAbove_8 : decode cX0_isAbove 8 = .ok (.lmul, 1) := by decide +kernel
theorem dX0_isAbove_9 : decode cX0_isAbove 9 = .ok (.aload_n 0, 1) := by decide +kernel
theorem dX0_isAbove_10 : decode cX0_isAbove 10 = .ok (.getfield 9, 3) := by decide +kernel
theorem dX0_isAbove_13 : decode cX0_isAbove 13 = .ok (.lmul, 1) := by decide +kernel
theorem dX0_isAbove_14 : decode cX0_isAbove 14 = .ok (.lcmp, 1) := by decide +kernel
theorem dX0_isAbove_15 : decode cX0_isAbove 15 = .ok (.ifCond .le 7, 3) := by decide +kernel
theorem dX0_isAbove_18 : decode cX0_isAbove 18 = .ok (.iconst 1, 1) := by decide +kernel
theorem dX0_isAbove_19 : decode cX0_isAbove 19 = .ok (.goto 4, 3) := by decide +kernel
theorem dX0_isAbove_22 : decode cX0_isAbove 22 = .ok (.iconst 0, 1) := by decide +kernel
theorem dX0_isAbove_23 : decode cX0_isAbove 23 = .ok (.ireturn, 1) := by decide +kernel
theorem dX0_roundedDown_0 : decode cX0_roundedDown 0 = .ok (.iconst 0, 1) := by decide +kernel
theorem dX0_roundedDown_1 : decode cX0_roundedDown 1 = .ok (.istore_n 1, 1) := by decide +kernel
theorem dX0_roundedDown_2 : decode cX0_roundedDown 2 = .ok (.iload_n 1, 1) := by decide +kernel
theorem dX0_roundedDown_3 : decode cX0_roundedDown 3 = .ok (.sipush 1000, 3) := by decide +kernel
theorem dX0_roundedDown_6 : decode cX0_roundedDown 6 = .ok (.if_icmp .ge 31, 3) := by decide +kernel
theorem dX0_roundedDown_9 : decode cX0_roundedDown 9 = .ok (.iload_n 1, 1) := by decide +kernel
theorem dX0_roundedDown_10 : decode cX0_roundedDown 10 = .ok (.i2l, 1) := by decide +kernel
theorem dX0_roundedDown_11 : decode cX0_roundedDown 11 = .ok (.lconst 1, 1) := by decide +kernel
theorem dX0_roundedDown_12 : decode cX0_roundedDown 12 = .ok (.ladd, 1) := by decide +kernel
theorem dX0_roundedDown_13 : decode cX0_roundedDown 13 = .ok (.iload_n 1, 1) := by decide +kernel
theorem dX0_roundedDown_14 : decode cX0_roundedDown 14 = .ok (.i2l, 1) := by decide +kernel
theorem dX0_roundedDown_15 : decode cX0_roundedDown 15 = .ok (.lconst 1, 1) := by decide +kernel
theorem dX0_roundedDown_16 : decode cX0_roundedDown 16 = .ok (.ladd, 1) := by decide +kernel
theorem dX0_roundedDown_17 : decode cX0_roundedDown 17 = .ok (.lmul, 1) := by decide +kernel
theorem dX0_roundedDown_18 : decode cX0_roundedDown 18 = .ok (.aload_n 0, 1) := by decide +kernel
theorem dX0_roundedDown_19 : decode cX0_roundedDown 19 = .ok (.getfield 9, 3) := by decide +kernel
theorem dX0_roundedDown_22 : decode cX0_roundedDown 22 = .ok (.lmul, 1) := by decide +kernel
theorem dX0_roundedDown_23 : decode cX0_roundedDown 23 = .ok (.aload_n 0, 1) := by decide +kernel
theorem dX0_roundedDown_24 : decode cX0_roundedDown 24 = .ok (.getfield 15, 3) := by decide +kernel
theorem dX0_roundedDown_27 : decode cX0_roundedDown 27 = .ok (.lcmp, 1) := by decide +kernel
theorem dX0_roundedDown_28 : decode cX0_roundedDown 28 = .ok (.ifCond .gt 9, 3) := by decide +kernel
theorem dX0_roundedDown_31 : decode cX0_roundedDown 31 = .ok (.iinc 1 1, 3) := by decide +kernel
theorem dX0_roundedDown_34 : decode cX0_roundedDown 34 = .ok (.goto (-32), 3) := by decide +kernel
theorem dX0_roundedDown_37 : decode cX0_roundedDown 37 = .ok (.iload_n 1, 1) := by decide +kernel
theorem dX0_roundedDown_38 : decode cX0_roundedDown 38 = .ok (.ireturn, 1) := by decide +kernel
theorem dX1_init_0 : decode cX1_init 0 = .ok (.aload_n 0, 1) := by decide +kernel
theorem dX1_init_1 : decode cX1_init 1 = .ok (.invokespecial 3, 3) := by decide +kernel
theorem dX1_init_4 : decode cX1_init 4 = .ok (.aload_n 0, 1) := by decide +kernel
theorem dX1_init_5 : decode cX1_init 5 = .ok (.new 9, 3) := by decide +kernel
theorem dX1_init_8 : decode cX1_init 8 = .ok (.dup, 1) := by decide +kernel
theorem dX1_init_9 : decode cX1_init 9 = .ok (.invokespecial 11, 3) := by decide +kernel
theorem dX1_init_12 : decode cX1_init 12 = .ok (.putfield 12, 3) := by decide +kernel
theorem dX1_init_15 : decode cX1_init 15 = .ok (.aload_n 0, 1) := by decide +kernel
theorem dX1_init_16 : decode cX1_init 16 = .ok (.new 18, 3) := by decide +kernel
theorem dX1_init_19 : decode cX1_init 19 = .ok (.dup, 1) := by decide +kernel
theorem dX1_init_20 : decode cX1_init 20 = .ok (.invokespecial 20, 3) := by decide +kernel
theorem dX1_init_23 : decode cX1_init 23 = .ok (.putfield 21, 3) := by decide +kernel
theorem dX1_init_26 : decode cX1_init 26 = .ok (.aload_n 0, 1) := by decide +kernel
theorem dX1_init_27 : decode cX1_init 27 = .ok (.new 25, 3) := by decide +kernel
theorem dX1_init_30 : decode cX1_init 30 = .ok (.dup, 1) := by decide +kernel
theorem dX1_init_31 : decode cX1_init 31 = .ok (.invokespecial 27, 3) := by decide +kernel
theorem dX1_init_34 : decode cX1_init 34 = .ok (.putfield 28, 3) := by decide +kernel
theorem dX1_init_37 : decode cX1_init 37 = .ok (.return_, 1) := by decide +kernel
theorem dX1_faultOf_0 : decode cX1_faultOf 0 = .ok (.iload_n 1, 1) := by decide +kernel
theorem dX1_faultOf_1 : decode cX1_faultOf 1 = .ok (.tableswitch 134 0 7 #[47, 56, 65, 72, 79, 94, 110, 127], 47) := by decide +kernel
theorem dX1_faultOf_48 : decode cX1_faultOf 48 = .ok (.aload_n 0, 1) := by decide +kernel
theorem dX1_faultOf_49 : decode cX1_faultOf 49 = .ok (.iload_n 2, 1) := by decide +kernel
theorem dX1_faultOf_50 : decode cX1_faultOf 50 = .ok (.iload_n 3, 1) := by decide +kernel
theorem dX1_faultOf_51 : decode cX1_faultOf 51 = .ok (.iload 4, 2) := by decide +kernel
theorem dX1_faultOf_53 : decode cX1_faultOf 53 = .ok (.invokevirtual 32, 3) := by decide +kernel
theorem dX1_faultOf_56 : decode cX1_faultOf 56 = .ok (.ireturn, 1) := by decide +kernel
theorem dX1_faultOf_57 : decode cX1_faultOf 57 = .ok (.aload_n 0, 1) := by decide +kernel
theorem dX1_faultOf_58 : decode cX1_faultOf 58 = .ok (.iload_n 2, 1) := by decide +kernel
theorem dX1_faultOf_59 : decode cX1_faultOf 59 = .ok (.iload_n 3, 1) := by decide +kernel
theorem dX1_faultOf_60 : decode cX1_faultOf 60 = .ok (.iload 4, 2) := by decide +kernel
theorem dX1_faultOf_62 : decode cX1_faultOf 62 = .ok (.invokevirtual 36, 3) := by decide +kernel
theorem dX1_faultOf_65 : decode cX1_faultOf 65 = .ok (.ireturn, 1) := by decide +kernel
theorem dX1_faultOf_66 : decode cX1_faultOf 66 = .ok (.aload_n 0, 1) := by decide +kernel
theorem dX1_faultOf_67 : decode cX1_faultOf 67 = .ok (.iload_n 2, 1) := by decide +kernel
theorem dX1_faultOf_68 : decode cX1_faultOf 68 = .ok (.iload_n 3, 1) := by decide +kernel
theorem dX1_faultOf_69 : decode cX1_faultOf 69 = .ok (.invokevirtual 39, 3) := by decide +kernel
theorem dX1_faultOf_72 : decode cX1_faultOf 72 = .ok (.ireturn, 1) := by decide +kernel
theorem dX1_faultOf_73 : decode cX1_faultOf 73 = .ok (.aload_n 0, 1) := by decide +kernel
theorem dX1_faultOf_74 : decode cX1_faultOf 74 = .ok (.iload_n 2, 1) := by decide +kernel
theorem dX1_faultOf_75 : decode cX1_faultOf 75 = .ok (.iload_n 3, 1) := by decide +kernel
theorem dX1_faultOf_76 : decode cX1_faultOf 76 = .ok (.invokevirtual 43, 3) := by decide +kernel
theorem dX1_faultOf_79 : decode cX1_faultOf 79 = .ok (.ireturn, 1) := by decide +kernel
theorem dX1_faultOf_80 : decode cX1_faultOf 80 = .ok (.iload_n 2, 1) := by decide +kernel
theorem dX1_faultOf_81 : decode cX1_faultOf 81 = .ok (.iconst 0, 1) := by decide +kernel
theorem dX1_faultOf_82 : decode cX1_faultOf 82 = .ok (.iconst 2, 1) := by decide +kernel
theorem dX1_faultOf_83 : decode cX1_faultOf 83 = .ok (.invokestatic 46, 3) := by decide +kernel
theorem dX1_faultOf_86 : decode cX1_faultOf 86 = .ok (.ifCond .eq 7, 3) := by decide +kernel
theorem dX1_faultOf_89 : decode cX1_faultOf 89 = .ok (.iconst 0, 1) := by decide +kernel
theorem dX1_faultOf_90 : decode cX1_faultOf 90 = .ok (.goto 4, 3) := by decide +kernel
theorem dX1_faultOf_93 : decode cX1_faultOf 93 = .ok (.iconst 2, 1) := by decide +kernel
theorem dX1_faultOf_94 : decode cX1_faultOf 94 = .ok (.ireturn, 1) := by decide +kernel
theorem dX1_faultOf_95 : decode cX1_faultOf 95 = .ok (.iload_n 2, 1) := by decide +kernel
theorem dX1_faultOf_96 : decode cX1_faultOf 96 = .ok (.iconst 1, 1) := by decide +kernel
theorem dX1_faultOf_97 : decode cX1_faultOf 97 = .ok (.bipush 30, 2) := by decide +kernel
theorem dX1_faultOf_99 : decode cX1_faultOf 99 = .ok (.invokestatic 46, 3) := by decide +kernel
theorem dX1_faultOf_102 : decode cX1_faultOf 102 = .ok (.ifCond .eq 7, 3) := by decide +kernel
theorem dX1_faultOf_105 : decode cX1_faultOf 105 = .ok (.iconst 0, 1) := by decide +kernel
theorem dX1_faultOf_106 : decode cX1_faultOf 106 = .ok (.goto 4, 3) := by decide +kernel
theorem dX1_faultOf_109 : decode cX1_faultOf 109 = .ok (.iconst 2, 1) := by decide +kernel
theorem dX1_faultOf_110 : decode cX1_faultOf 110 = .ok (.ireturn, 1) := by decide +kernel
theorem dX1_faultOf_111 : decode cX1_faultOf 111 = .ok (.iload_n 2, 1) := by decide +kernel
theorem dX1_faultOf_112 : decode cX1_faultOf 112 = .ok (.iconst 1, 1) := by decide +kernel
theorem dX1_faultOf_113 : decode cX1_faultOf 113 = .ok (.sipush 999, 3) := by decide +kernel
theorem dX1_faultOf_116 : decode cX1_faultOf 116 = .ok (.invokestatic 46, 3) := by decide +kernel
theorem dX1_faultOf_119 : decode cX1_faultOf 119 = .ok (.ifCond .eq 7, 3) := by decide +kernel
theorem dX1_faultOf_122 : decode cX1_faultOf 122 = .ok (.iconst 0, 1) := by decide +kernel
theorem dX1_faultOf_123 : decode cX1_faultOf 123 = .ok (.goto 4, 3) := by decide +kernel
theorem dX1_faultOf_126 : decode cX1_faultOf 126 = .ok (.iconst 2, 1) := by decide +kernel
theorem dX1_faultOf_127 : decode cX1_faultOf 127 = .ok (.ireturn, 1) := by decide +kernel
theorem dX1_faultOf_128 : decode cX1_faultOf 128 = .ok (.aload_n 0, 1) := by decide +kernel
theorem dX1_faultOf_129 : decode cX1_faultOf 129 = .ok (.iload_n 2, 1) := by decide +kernel
theorem dX1_faultOf_130 : decode cX1_faultOf 130 = .ok (.iload_n 3, 1) := by decide +kernel
theorem dX1_faultOf_131 : decode cX1_faultOf 131 = .ok (.invokevirtual 50, 3) := by decide +kernel
theorem dX1_faultOf_134 : decode cX1_faultOf 134 = .ok (.ireturn, 1) := by decide +kernel
theorem dX1_faultOf_135 : decode cX1_faultOf 135 = .ok (.aload_n 0, 1) := by decide +kernel
theorem dX1_faultOf_136 : decode cX1_faultOf 136 = .ok (.getfield 12, 3) := by decide +kernel
theorem dX1_faultOf_139 : decode cX1_faultOf 139 = .ok (.getfield 53, 3) := by decide +kernel
theorem dX1_faultOf_142 : decode cX1_faultOf 142 = .ok (.invokevirtual 57, 3) := by decide +kernel
theorem dX1_faultOf_145 : decode cX1_faultOf 145 = .ok (.ifCond .eq 7, 3) := by decide +kernel
theorem dX1_faultOf_148 : decode cX1_faultOf 148 = .ok (.iconst 0, 1) := by decide +kernel
theorem dX1_faultOf_149 : decode cX1_faultOf 149 = .ok (.goto 4, 3) := by decide +kernel
theorem dX1_faultOf_152 : decode cX1_faultOf 152 = .ok (.iconst 3, 1) := by decide +kernel
theorem dX1_faultOf_153 : decode cX1_faultOf 153 = .ok (.ireturn, 1) := by decide +kernel
theorem dX1_faultOfPoint_0 : decode cX1_faultOfPoint 0 = .ok (.iload_n 1, 1) := by decide +kernel
theorem dX1_faultOfPoint_1 : decode cX1_faultOfPoint 1 = .ok (.iload_n 2, 1) := by decide +kernel
theorem dX1_faultOfPoint_2 : decode cX1_faultOfPoint 2 = .ok (.invokestatic 63, 3) := by decide +kernel
theorem dX1_faultOfPoint_5 : decode cX1_faultOfPoint 5 = .ok (.ifCond .eq 13, 3) := by decide +kernel
theorem dX1_faultOfPoint_8 : decode cX1_faultOfPoint 8 = .ok (.iload_n 3, 1) := by decide +kernel
theorem dX1_faultOfPoint_9 : decode cX1_faultOfPoint 9 = .ok (.iconst 1, 1) := by decide +kernel
theorem dX1_faultOfPoint_10 : decode cX1_faultOfPoint 10 = .ok (.bipush 9, 2) := by decide +kernel
theorem dX1_faultOfPoint_12 : decode cX1_faultOfPoint 12 = .ok (.invokestatic 46, 3) := by decide +kernel
theorem dX1_faultOfPoint_15 : decode cX1_faultOfPoint 15 = .ok (.ifCond .ne 5, 3) := by decide +kernel
theorem dX1_faultOfPoint_18 : decode cX1_faultOfPoint 18 = .ok (.iconst 2, 1) := by decide +kernel
theorem dX1_faultOfPoint_19 : decode cX1_faultOfPoint 19 = .ok (.ireturn, 1) := by decide +kernel
theorem dX1_faultOfPoint_20 : decode cX1_faultOfPoint 20 = .ok (.aload_n 0, 1) := by decide +kernel
theorem dX1_faultOfPoint_21 : decode cX1_faultOfPoint 21 = .ok (.getfield 12, 3) := by decide +kernel
theorem dX1_faultOfPoint_24 : decode cX1_faultOfPoint 24 = .ok (.getfield 67, 3) := by decide +kernel
theorem dX1_faultOfPoint_27 : decode cX1_faultOfPoint 27 = .ok (.invokevirtual 71, 3) := by decide +kernel
theorem dX1_faultOfPoint_30 : decode cX1_faultOfPoint 30 = .ok (.ifCond .eq 7, 3) := by decide +kernel
theorem dX1_faultOfPoint_33 : decode cX1_faultOfPoint 33 = .ok (.iconst 3, 1) := by decide +kernel
theorem dX1_faultOfPoint_34 : decode cX1_faultOfPoint 34 = .ok (.goto 4, 3) := by decide +kernel
theorem dX1_faultOfPoint_37 : decode cX1_faultOfPoint 37 = .ok (.iconst 0, 1) := by decide +kernel
theorem dX1_faultOfPoint_38 : decode cX1_faultOfPoint 38 = .ok (.ireturn, 1) := by decide +kernel
theorem dX1_faultOfTrail_0 : decode cX1_faultOfTrail 0 = .ok (.aload_n 0, 1) := by decide +kernel
theorem dX1_faultOfTrail_1 : decode cX1_faultOfTrail 1 = .ok (.getfield 12, 3) := by decide +kernel
theorem dX1_faultOfTrail_4 : decode cX1_faultOfTrail 4 = .ok (.getfield 67, 3) := by decide +kernel
theorem dX1_faultOfTrail_7 : decode cX1_faultOfTrail 7 = .ok (.iload_n 1, 1) := by decide +kernel
theorem dX1_faultOfTrail_8 : decode cX1_faultOfTrail 8 = .ok (.invokevirtual 76, 3) := by decide +kernel
theorem dX1_faultOfTrail_11 : decode cX1_faultOfTrail 11 = .ok (.ifCond .eq 17, 3) := by decide +kernel
theorem dX1_faultOfTrail_14 : decode cX1_faultOfTrail 14 = .ok (.aload_n 0, 1) := by decide +kernel
theorem dX1_faultOfTrail_15 : decode cX1_faultOfTrail 15 = .ok (.getfield 12, 3) := by decide +kernel
theorem dX1_faultOfTrail_18 : decode cX1_faultOfTrail 18 = .ok (.getfield 67, 3) := by decide +kernel
theorem dX1_faultOfTrail_21 : decode cX1_faultOfTrail 21 = .ok (.iload_n 2, 1) := by decide +kernel
theorem dX1_faultOfTrail_22 : decode cX1_faultOfTrail 22 = .ok (.invokevirtual 76, 3) := by decide +kernel
theorem dX1_faultOfTrail_25 : decode cX1_faultOfTrail 25 = .ok (.ifCond .ne 5, 3) := by decide +kernel
theorem dX1_faultOfTrail_28 : decode cX1_faultOfTrail 28 = .ok (.iconst 1, 1) := by decide +kernel
theorem dX1_faultOfTrail_29 : decode cX1_faultOfTrail 29 = .ok (.ireturn, 1) := by decide +kernel
theorem dX1_faultOfTrail_30 : decode cX1_faultOfTrail 30 = .ok (.iload_n 1, 1) := by decide +kernel
theorem dX1_faultOfTrail_31 : decode cX1_faultOfTrail 31 = .ok (.iload_n 2, 1) := by decide +kernel
theorem dX1_faultOfTrail_32 : decode cX1_faultOfTrail 32 = .ok (.if_icmp .eq 13, 3) := by decide +kernel
theorem dX1_faultOfTrail_35 : decode cX1_faultOfTrail 35 = .ok (.iload_n 3, 1) := by decide +kernel
theorem dX1_faultOfTrail_36 : decode cX1_faultOfTrail 36 = .ok (.iconst 1, 1) := by decide +kernel
theorem dX1_faultOfTrail_37 : decode cX1_faultOfTrail 37 = .ok (.bipush 99, 2) := by decide +kernel
theorem dX1_faultOfTrail_39 : decode cX1_faultOfTrail 39 = .ok (.invokestatic 46, 3) := by decide +kernel
theorem dX1_faultOfTrail_42 : decode cX1_faultOfTrail 42 = .ok (.ifCond .ne 5, 3) := by decide +kernel
theorem dX1_faultOfTrail_45 : decode cX1_faultOfTrail 45 = .ok (.iconst 2, 1) := by decide +kernel
theorem dX1_faultOfTrail_46 : decode cX1_faultOfTrail 46 = .ok (.ireturn, 1) := by decide +kernel
theorem dX1_faultOfTrail_47 : decode cX1_faultOfTrail 47 = .ok (.aload_n 0, 1) := by decide +kernel
theorem dX1_faultOfTrail_48 : decode cX1_faultOfTrail 48 = .ok (.getfield 12, 3) := by decide +kernel
theorem dX1_faultOfTrail_51 : decode cX1_faultOfTrail 51 = .ok (.getfield 67, 3) := by decide +kernel
theorem dX1_faultOfTrail_54 : decode cX1_faultOfTrail 54 = .ok (.iload_n 1, 1) := by decide +kernel
theorem dX1_faultOfTrail_55 : decode cX1_faultOfTrail 55 = .ok (.iload_n 2, 1) := by decide +kernel
theorem dX1_faultOfTrail_56 : decode cX1_faultOfTrail 56 = .ok (.invokevirtual 80, 3) := by decide +kernel
theorem dX1_faultOfTrail_59 : decode cX1_faultOfTrail 59 = .ok (.ifCond .eq 7, 3) := by decide +kernel
theorem dX1_faultOfTrail_62 : decode cX1_faultOfTrail 62 = .ok (.iconst 3, 1) := by decide +kernel
theorem dX1_faultOfTrail_63 : decode cX1_faultOfTrail 63 = .ok (.goto 4, 3) := by decide +kernel
theorem dX1_faultOfTrail_66 : decode cX1_faultOfTrail 66 = .ok (.iconst 0, 1) := by decide +kernel
theorem dX1_faultOfTrail_67 : decode cX1_faultOfTrail 67 = .ok (.ireturn, 1) := by decide +kernel
theorem dX1_faultOfCut_0 : decode cX1_faultOfCut 0 = .ok (.aload_n 0, 1) := by decide +kernel
theorem dX1_faultOfCut_1 : decode cX1_faultOfCut 1 = .ok (.getfield 12, 3) := by decide +kernel
theorem dX1_faultOfCut_4 : decode cX1_faultOfCut 4 = .ok (.getfield 67, 3) := by decide +kernel
theorem dX1_faultOfCut_7 : decode cX1_faultOfCut 7 = .ok (.iload_n 1, 1) := by decide +kernel
theorem dX1_faultOfCut_8 : decode cX1_faultOfCut 8 = .ok (.invokevirtual 76, 3) := by decide +kernel
theorem dX1_faultOfCut_11 : decode cX1_faultOfCut 11 = .ok (.ifCond .eq 17, 3) := by decide +kernel
theorem dX1_faultOfCut_14 : decode cX1_faultOfCut 14 = .ok (.aload_n 0, 1) := by decide +kernel
theorem dX1_faultOfCut_15 : decode cX1_faultOfCut 15 = .ok (.getfield 12, 3) := by decide +kernel
theorem dX1_faultOfCut_18 : decode cX1_faultOfCut 18 = .ok (.getfield 67, 3) := by decide +kernel
theorem dX1_faultOfCut_21 : decode cX1_faultOfCut 21 = .ok (.iload_n 2, 1) := by decide +kernel
theorem dX1_faultOfCut_22 : decode cX1_faultOfCut 22 = .ok (.invokevirtual 76, 3) := by decide +kernel
theorem dX1_faultOfCut_25 : decode cX1_faultOfCut 25 = .ok (.ifCond .ne 5, 3) := by decide +kernel
theorem dX1_faultOfCut_28 : decode cX1_faultOfCut 28 = .ok (.iconst 1, 1) := by decide +kernel
theorem dX1_faultOfCut_29 : decode cX1_faultOfCut 29 = .ok (.ireturn, 1) := by decide +kernel
theorem dX1_faultOfCut_30 : decode cX1_faultOfCut 30 = .ok (.aload_n 0, 1) := by decide +kernel
theorem dX1_faultOfCut_31 : decode cX1_faultOfCut 31 = .ok (.getfield 12, 3) := by decide +kernel
theorem dX1_faultOfCut_34 : decode cX1_faultOfCut 34 = .ok (.getfield 67, 3) := by decide +kernel
theorem dX1_faultOfCut_37 : decode cX1_faultOfCut 37 = .ok (.iload_n 1, 1) := by decide +kernel
theorem dX1_faultOfCut_38 : decode cX1_faultOfCut 38 = .ok (.iload_n 2, 1) := by decide +kernel
theorem dX1_faultOfCut_39 : decode cX1_faultOfCut 39 = .ok (.invokevirtual 80, 3) := by decide +kernel
theorem dX1_faultOfCut_42 : decode cX1_faultOfCut 42 = .ok (.ifCond .eq 7, 3) := by decide +kernel
theorem dX1_faultOfCut_45 : decode cX1_faultOfCut 45 = .ok (.iconst 0, 1) := by decide +kernel
theorem dX1_faultOfCut_46 : decode cX1_faultOfCut 46 = .ok (.goto 4, 3) := by decide +kernel
theorem dX1_faultOfCut_49 : decode cX1_faultOfCut 49 = .ok (.iconst 4, 1) := by decide +kernel
theorem dX1_faultOfCut_50 : decode cX1_faultOfCut 50 = .ok (.ireturn, 1) := by decide +kernel
theorem dX1_faultOfTour_0 : decode cX1_faultOfTour 0 = .ok (.aload_n 0, 1) := by decide +kernel
theorem dX1_faultOfTour_1 : decode cX1_faultOfTour 1 = .ok (.getfield 12, 3) := by decide +kernel
theorem dX1_faultOfTour_4 : decode cX1_faultOfTour 4 = .ok (.getfield 67, 3) := by decide +kernel
theorem dX1_faultOfTour_7 : decode cX1_faultOfTour 7 = .ok (.iload_n 1, 1) := by decide +kernel
theorem dX1_faultOfTour_8 : decode cX1_faultOfTour 8 = .ok (.invokevirtual 76, 3) := by decide +kernel
theorem dX1_faultOfTour_11 : decode cX1_faultOfTour 11 = .ok (.ifCond .eq 17, 3) := by decide +kernel
theorem dX1_faultOfTour_14 : decode cX1_faultOfTour 14 = .ok (.aload_n 0, 1) := by decide +kernel
theorem dX1_faultOfTour_15 : decode cX1_faultOfTour 15 = .ok (.getfield 12, 3) := by decide +kernel
theorem dX1_faultOfTour_18 : decode cX1_faultOfTour 18 = .ok (.getfield 67, 3) := by decide +kernel
theorem dX1_faultOfTour_21 : decode cX1_faultOfTour 21 = .ok (.iload_n 2, 1) := by decide +kernel
theorem dX1_faultOfTour_22 : decode cX1_faultOfTour 22 = .ok (.invokevirtual 76, 3) := by decide +kernel
theorem dX1_faultOfTour_25 : decode cX1_faultOfTour 25 = .ok (.ifCond .ne 5, 3) := by decide +kernel
theorem dX1_faultOfTour_28 : decode cX1_faultOfTour 28 = .ok (.iconst 1, 1) := by decide +kernel
theorem dX1_faultOfTour_29 : decode cX1_faultOfTour 29 = .ok (.ireturn, 1) := by decide +kernel
theorem dX1_faultOfTour_30 : decode cX1_faultOfTour 30 = .ok (.iload_n 1, 1) := by decide +kernel
theorem dX1_faultOfTour_31 : decode cX1_faultOfTour 31 = .ok (.iload_n 2, 1) := by decide +kernel
theorem dX1_faultOfTour_32 : decode cX1_faultOfTour 32 = .ok (.if_icmp .ne 5, 3) := by decide +kernel
theorem dX1_faultOfTour_35 : decode cX1_faultOfTour 35 = .ok (.iconst 2, 1) := by decide +kernel
theorem dX1_faultOfTour_36 : decode cX1_faultOfTour 36 = .ok (.ireturn, 1) := by decide +kernel
theorem dX1_faultOfTour_37 : decode cX1_faultOfTour 37 = .ok (.aload_n 0, 1) := by decide +kernel
theorem dX1_faultOfTour_38 : decode cX1_faultOfTour 38 = .ok (.getfield 12, 3) := by decide +kernel
theorem dX1_faultOfTour_41 : decode cX1_faultOfTour 41 = .ok (.getfield 53, 3) := by decide +kernel
theorem dX1_faultOfTour_44 : decode cX1_faultOfTour 44 = .ok (.invokevirtual 57, 3) := by decide +kernel
theorem dX1_faultOfTour_47 : decode cX1_faultOfTour 47 = .ok (.ifCond .eq 5, 3) := by decide +kernel
theorem dX1_faultOfTour_50 : decode cX1_faultOfTour 50 = .ok (.iconst 3, 1) := by decide +kernel
theorem dX1_faultOfTour_51 : decode cX1_faultOfTour 51 = .ok (.ireturn, 1) := by decide +kernel
theorem dX1_faultOfTour_52 : decode cX1_faultOfTour 52 = .ok (.aload_n 0, 1) := by decide +kernel
theorem dX1_faultOfTour_53 : decode cX1_faultOfTour 53 = .ok (.getfield 21, 3) := by decide +kernel
theorem dX1_faultOfTour_56 : decode cX1_faultOfTour 56 = .ok (.aload_n 0, 1) := by decide +kernel
theorem dX1_faultOfTour_57 : decode cX1_faultOfTour 57 = .ok (.getfield 12, 3) := by decide +kernel
theorem dX1_faultOfTour_60 : decode cX1_faultOfTour 60 = .ok (.getfield 67, 3) := by decide +kernel
theorem dX1_faultOfTour_63 : decode cX1_faultOfTour 63 = .ok (.iload_n 2, 1) := by decide +kernel
theorem dX1_faultOfTour_64 : decode cX1_faultOfTour 64 = .ok (.invokevirtual 83, 3) := by decide +kernel
theorem dX1_faultOfTour_67 : decode cX1_faultOfTour 67 = .ok (.aload_n 0, 1) := by decide +kernel
theorem dX1_faultOfTour_68 : decode cX1_faultOfTour 68 = .ok (.getfield 21, 3) := by decide +kernel
theorem dX1_faultOfTour_71 : decode cX1_faultOfTour 71 = .ok (.iload_n 1, 1) := by decide +kernel
theorem dX1_faultOfTour_72 : decode cX1_faultOfTour 72 = .ok (.invokevirtual 87, 3) := by decide +kernel
theorem dX1_faultOfTour_75 : decode cX1_faultOfTour 75 = .ok (.ldc 91, 2) := by decide +kernel
theorem dX1_faultOfTour_77 : decode cX1_faultOfTour 77 = .ok (.if_icmp .ge 7, 3) := by decide +kernel
theorem dX1_faultOfTour_80 : decode cX1_faultOfTour 80 = .ok (.iconst 0, 1) := by decide +kernel
theorem dX1_faultOfTour_81 : decode cX1_faultOfTour 81 = .ok (.goto 4, 3) := by decide +kernel
theorem dX1_faultOfTour_84 : decode cX1_faultOfTour 84 = .ok (.iconst 4, 1) := by decide +kernel
theorem dX1_faultOfTour_85 : decode cX1_faultOfTour 85 = .ok (.ireturn, 1) := by decide +kernel
theorem dX1_faultOfMove_0 : decode cX1_faultOfMove 0 = .ok (.iload_n 1, 1) := by decide +kernel
theorem dX1_faultOfMove_1 : decode cX1_faultOfMove 1 = .ok (.iload_n 2, 1) := by decide +kernel
theorem dX1_faultOfMove_2 : decode cX1_faultOfMove 2 = .ok (.invokestatic 63, 3) := by decide +kernel
theorem dX1_faultOfMove_5 : decode cX1_faultOfMove 5 = .ok (.ifCond .ne 5, 3) := by decide +kernel
theorem dX1_faultOfMove_8 : decode cX1_faultOfMove 8 = .ok (.iconst 2, 1) := by decide +kernel
theorem dX1_faultOfMove_9 : decode cX1_faultOfMove 9 = .ok (.ireturn, 1) := by decide +kernel
theorem dX1_faultOfMove_10 : decode cX1_faultOfMove 10 = .ok (.aload_n 0, 1) := by decide +kernel
theorem dX1_faultOfMove_11 : decode cX1_faultOfMove 11 = .ok (.getfield 12, 3) := by decide +kernel
theorem dX1_faultOfMove_14 : decode cX1_faultOfMove 14 = .ok (.getfield 53, 3) := by decide +kernel
theorem dX1_faultOfMove_17 : decode cX1_faultOfMove 17 = .ok (.invokevirtual 57, 3) := by decide +kernel
theorem dX1_faultOfMove_20 : decode cX1_faultOfMove 20 = .ok (.ifCond .ne 5, 3) := by decide +kernel
theorem dX1_faultOfMove_23 : decode cX1_faultOfMove 23 = .ok (.iconst 3, 1) := by decide +kernel
theorem dX1_faultOfMove_24 : decode cX1_faultOfMove 24 = .ok (.ireturn, 1) := by decide +kernel
theorem dX1_faultOfMove_25 : decode cX1_faultOfMove 25 = .ok (.aload_n 0, 1) := by decide +kernel
theorem dX1_faultOfMove_26 : decode cX1_faultOfMove 26 = .ok (.getfield 12, 3) := by decide +kernel
theorem dX1_faultOfMove_29 : decode cX1_faultOfMove 29 = .ok (.getfield 92, 3) := by decide +kernel
theorem dX1_faultOfMove_32 : decode cX1_faultOfMove 32 = .ok (.getfield 96, 3) := by decide +kernel
theorem dX1_faultOfMove_35 : decode cX1_faultOfMove 35 = .ok (.ifCond .le 7, 3) := by decide +kernel
theorem dX1_faultOfMove_38 : decode cX1_faultOfMove 38 = .ok (.iconst 0, 1) := by decide +kernel
theorem dX1_faultOfMove_39 : decode cX1_faultOfMove 39 = .ok (.goto 4, 3) := by decide +kernel
theorem dX1_faultOfMove_42 : decode cX1_faultOfMove 42 = .ok (.iconst 5, 1) := by decide +kernel
theorem dX1_faultOfMove_43 : decode cX1_faultOfMove 43 = .ok (.ireturn, 1) := by decide +kernel
theorem dX1_perform_0 : decode cX1_perform 0 = .ok (.iload_n 1, 1) := by decide +kernel
theorem dX1_perform_1 : decode cX1_perform 1 = .ok (.tableswitch 148 0 7 #[47, 62, 77, 90, 97, 109, 121, 133], 47) := by decide +kernel
theorem dX1_perform_48 : decode cX1_perform 48 = .ok (.aload_n 0, 1) := by decide +kernel
theorem dX1_perform_49 : decode cX1_perform 49 = .ok (.getfield 12, 3) := by decide +kernel
theorem dX1_perform_52 : decode cX1_perform 52 = .ok (.getfield 67, 3) := by decide +kernel
theorem dX1_perform_55 : decode cX1_perform 55 = .ok (.iload_n 2, 1) := by decide +kernel
theorem dX1_perform_56 : decode cX1_perform 56 = .ok (.iload_n 3, 1) := by decide +kernel
theorem dX1_perform_57 : decode cX1_perform 57 = .ok (.iload 4, 2) := by decide +kernel
theorem dX1_perform_59 : decode cX1_perform 59 = .ok (.invokevirtual 102, 3) := by decide +kernel
theorem dX1_perform_62 : decode cX1_perform 62 = .ok (.ireturn, 1) := by decide +kernel
theorem dX1_perform_63 : decode cX1_perform 63 = .ok (.aload_n 0, 1) := by decide +kernel
theorem dX1_perform_64 : decode cX1_perform 64 = .ok (.getfield 12, 3) := by decide +kernel
theorem dX1_perform_67 : decode cX1_perform 67 = .ok (.getfield 67, 3) := by decide +kernel
theorem dX1_perform_70 : decode cX1_perform 70 = .ok (.iload_n 2, 1) := by decide +kernel
theorem dX1_perform_71 : decode cX1_perform 71 = .ok (.iload_n 3, 1) := by decide +kernel
theorem dX1_perform_72 : decode cX1_perform 72 = .ok (.iload 4, 2) := by decide +kernel
theorem dX1_perform_74 : decode cX1_perform 74 = .ok (.invokevirtual 105, 3) := by decide +kernel
theorem dX1_perform_77 : decode cX1_perform 77 = .ok (.ireturn, 1) := by decide +kernel
theorem dX1_perform_78 : decode cX1_perform 78 = .ok (.aload_n 0, 1) := by decide +kernel
theorem dX1_perform_79 : decode cX1_perform 79 = .ok (.getfield 12, 3) := by decide +kernel
theorem dX1_perform_82 : decode cX1_perform 82 = .ok (.getfield 67, 3) := by decide +kernel
theorem dX1_perform_85 : decode cX1_perform 85 = .ok (.iload_n 2, 1) := by decide +kernel
theorem dX1_perform_86 : decode cX1_perform 86 = .ok (.iload_n 3, 1) := by decide +kernel
theorem dX1_perform_87 : decode cX1_perform 87 = .ok (.invokevirtual 108, 3) := by decide +kernel
theorem dX1_perform_90 : decode cX1_perform 90 = .ok (.ireturn, 1) := by decide +kernel
theorem dX1_perform_91 : decode cX1_perform 91 = .ok (.aload_n 0, 1) := by decide +kernel
theorem dX1_perform_92 : decode cX1_perform 92 = .ok (.iload_n 2, 1) := by decide +kernel
theorem dX1_perform_93 : decode cX1_perform 93 = .ok (.iload_n 3, 1) := by decide +kernel
theorem dX1_perform_94 : decode cX1_perform 94 = .ok (.invokevirtual 111, 3) := by decide +kernel
theorem dX1_perform_97 : decode cX1_perform 97 = .ok (.ireturn, 1) := by decide +kernel
theorem dX1_perform_98 : decode cX1_perform 98 = .ok (.aload_n 0, 1) := by decide +kernel
theorem dX1_perform_99 : decode cX1_perform 99 = .ok (.getfield 12, 3) := by decide +kernel
theorem dX1_perform_102 : decode cX1_perform 102 = .ok (.getfield 92, 3) := by decide +kernel
theorem dX1_perform_105 : decode cX1_perform 105 = .ok (.iload_n 2, 1) := by decide +kernel
theorem dX1_perform_106 : decode cX1_perform 106 = .ok (.invokevirtual 114, 3) := by decide +kernel
theorem dX1_perform_109 : decode cX1_perform 109 = .ok (.ireturn, 1) := by decide +kernel
theorem dX1_perform_110 : decode cX1_perform 110 = .ok (.aload_n 0, 1) := by decide +kernel
theorem dX1_perform_111 : decode cX1_perform 111 = .ok (.getfield 12, 3) := by decide +kernel
theorem dX1_perform_114 : decode cX1_perform 114 = .ok (.getfield 92, 3) := by decide +kernel
theorem dX1_perform_117 : decode cX1_perform 117 = .ok (.iload_n 2, 1) := by decide +kernel
theorem dX1_perform_118 : decode cX1_perform 118 = .ok (.invokevirtual 117, 3) := by decide +kernel
theorem dX1_perform_121 : decode cX1_perform 121 = .ok (.ireturn, 1) := by decide +kernel
theorem dX1_perform_122 : decode cX1_perform 122 = .ok (.aload_n 0, 1) := by decide +kernel
theorem dX1_perform_123 : decode cX1_perform 123 = .ok (.getfield 12, 3) := by decide +kernel
theorem dX1_perform_126 : decode cX1_perform 126 = .ok (.getfield 92, 3) := by decide +kernel
theorem dX1_perform_129 : decode cX1_perform 129 = .ok (.iload_n 2, 1) := by decide +kernel
theorem dX1_perform_130 : decode cX1_perform 130 = .ok (.invokevirtual 120, 3) := by decide +kernel
theorem dX1_perform_133 : decode cX1_perform 133 = .ok (.ireturn, 1) := by decide +kernel
theorem dX1_perform_134 : decode cX1_perform 134 = .ok (.aload_n 0, 1) := by decide +kernel
theorem dX1_perform_135 : decode cX1_perform 135 = .ok (.iload_n 2, 1) := by decide +kernel
theorem dX1_perform_136 : decode cX1_perform 136 = .ok (.iload_n 3, 1) := by decide +kernel
theorem dX1_perform_137 : decode cX1_perform 137 = .ok (.invokevirtual 123, 3) := by decide +kernel
theorem dX1_perform_140 : decode cX1_perform 140 = .ok (.ifCond .eq 7, 3) := by decide +kernel
theorem dX1_perform_143 : decode cX1_perform 143 = .ok (.iconst 1, 1) := by decide +kernel
theorem dX1_perform_144 : decode cX1_perform 144 = .ok (.goto 4, 3) := by decide +kernel
theorem dX1_perform_147 : decode cX1_perform 147 = .ok (.iconst 0, 1) := by decide +kernel
theorem dX1_perform_148 : decode cX1_perform 148 = .ok (.ireturn, 1) := by decide +kernel
theorem dX1_perform_149 : decode cX1_perform 149 = .ok (.aload_n 0, 1) := by decide +kernel
theorem dX1_perform_150 : decode cX1_perform 150 = .ok (.invokevirtual 126, 3) := by decide +kernel
theorem dX1_perform_153 : decode cX1_perform 153 = .ok (.ireturn, 1) := by decide +kernel
theorem dX1_beginTour_0 : decode cX1_beginTour 0 = .ok (.aload_n 0, 1) := by decide +kernel
theorem dX1_beginTour_1 : decode cX1_beginTour 1 = .ok (.getfield 12, 3) := by decide +kernel
theorem dX1_beginTour_4 : decode cX1_beginTour 4 = .ok (.getfield 53, 3) := by decide +kernel
theorem dX1_beginTour_7 : decode cX1_beginTour 7 = .ok (.astore_n 3, 1) := by decide +kernel
theorem dX1_beginTour_8 : decode cX1_beginTour 8 = .ok (.aload_n 3, 1) := by decide +kernel
theorem dX1_beginTour_9 : decode cX1_beginTour 9 = .ok (.invokevirtual 130, 3) := by decide +kernel
theorem dX1_beginTour_12 : decode cX1_beginTour 12 = .ok (.aload_n 0, 1) := by decide +kernel
theorem dX1_beginTour_13 : decode cX1_beginTour 13 = .ok (.getfield 21, 3) := by decide +kernel
theorem dX1_beginTour_16 : decode cX1_beginTour 16 = .ok (.aload_n 0, 1) := by decide +kernel
theorem dX1_beginTour_17 : decode cX1_beginTour 17 = .ok (.getfield 12, 3) := by decide +kernel
theorem dX1_beginTour_20 : decode cX1_beginTour 20 = .ok (.getfield 67, 3) := by decide +kernel
theorem dX1_beginTour_23 : decode cX1_beginTour 23 = .ok (.iload_n 2, 1) := by decide +kernel
theorem dX1_beginTour_24 : decode cX1_beginTour 24 = .ok (.invokevirtual 83, 3) := by decide +kernel
theorem dX1_beginTour_27 : decode cX1_beginTour 27 = .ok (.iload_n 1, 1) := by decide +kernel
theorem dX1_beginTour_28 : decode cX1_beginTour 28 = .ok (.istore 4, 2) := by decide +kernel
theorem dX1_beginTour_30 : decode cX1_beginTour 30 = .ok (.aload_n 3, 1) := by decide +kernel
theorem dX1_beginTour_31 : decode cX1_beginTour 31 = .ok (.iload 4, 2) := by decide +kernel
theorem dX1_beginTour_33 : decode cX1_beginTour 33 = .ok (.invokevirtual 133, 3) := by decide +kernel
theorem dX1_beginTour_36 : decode cX1_beginTour 36 = .ok (.iconst 1, 1) := by decide +kernel
theorem dX1_beginTour_37 : decode cX1_beginTour 37 = .ok (.istore 5, 2) := by decide +kernel
theorem dX1_beginTour_39 : decode cX1_beginTour 39 = .ok (.iload 5, 2) := by decide +kernel
theorem dX1_beginTour_41 : decode cX1_beginTour 41 = .ok (.bipush 12, 2) := by decide +kernel
theorem dX1_beginTour_43 : decode cX1_beginTour 43 = .ok (.if_icmp .ge 39, 3) := by decide +kernel
theorem dX1_beginTour_46 : decode cX1_beginTour 46 = .ok (.iload 4, 2) := by decide +kernel
theorem dX1_beginTour_48 : decode cX1_beginTour 48 = .ok (.iload_n 2, 1) := by decide +kernel
theorem dX1_beginTour_49 : decode cX1_beginTour 49 = .ok (.if_icmp .eq 33, 3) := by decide +kernel
theorem dX1_beginTour_52 : decode cX1_beginTour 52 = .ok (.aload_n 0, 1) := by decide +kernel
theorem dX1_beginTour_53 : decode cX1_beginTour 53 = .ok (.getfield 21, 3) := by decide +kernel
theorem dX1_beginTour_56 : decode cX1_beginTour 56 = .ok (.aload_n 0, 1) := by decide +kernel
theorem dX1_beginTour_57 : decode cX1_beginTour 57 = .ok (.getfield 12, 3) := by decide +kernel
theorem dX1_beginTour_60 : decode cX1_beginTour 60 = .ok (.getfield 67, 3) := by decide +kernel
theorem dX1_beginTour_63 : decode cX1_beginTour 63 = .ok (.iload 4, 2) := by decide +kernel
theorem dX1_beginTour_65 : decode cX1_beginTour 65 = .ok (.invokevirtual 136, 3) := by decide +kernel
theorem dX1_beginTour_68 : decode cX1_beginTour 68 = .ok (.istore 4, 2) := by decide +kernel
theorem dX1_beginTour_70 : decode cX1_beginTour 70 = .ok (.aload_n 3, 1) := by decide +kernel
theorem dX1_beginTour_71 : decode cX1_beginTour 71 = .ok (.iload 4, 2) := by decide +kernel
theorem dX1_beginTour_73 : decode cX1_beginTour 73 = .ok (.invokevirtual 133, 3) := by decide +kernel
theorem dX1_beginTour_76 : decode cX1_beginTour 76 = .ok (.iinc 5 1, 3) := by decide +kernel
theorem dX1_beginTour_79 : decode cX1_beginTour 79 = .ok (.goto (-40), 3) := by decide +kernel
theorem dX1_beginTour_82 : decode cX1_beginTour 82 = .ok (.aload_n 3, 1) := by decide +kernel
theorem dX1_beginTour_83 : decode cX1_beginTour 83 = .ok (.iconst 1, 1) := by decide +kernel
theorem dX1_beginTour_84 : decode cX1_beginTour 84 = .ok (.putfield 140, 3) := by decide +kernel
theorem dX1_beginTour_87 : decode cX1_beginTour 87 = .ok (.aload_n 3, 1) := by decide +kernel
theorem dX1_beginTour_88 : decode cX1_beginTour 88 = .ok (.aload_n 0, 1) := by decide +kernel
theorem dX1_beginTour_89 : decode cX1_beginTour 89 = .ok (.getfield 12, 3) := by decide +kernel
theorem dX1_beginTour_92 : decode cX1_beginTour 92 = .ok (.getfield 67, 3) := by decide +kernel
theorem dX1_beginTour_95 : decode cX1_beginTour 95 = .ok (.iload_n 1, 1) := by decide +kernel
theorem dX1_beginTour_96 : decode cX1_beginTour 96 = .ok (.invokevirtual 143, 3) := by decide +kernel
theorem dX1_beginTour_99 : decode cX1_beginTour 99 = .ok (.putfield 146, 3) := by decide +kernel
theorem dX1_beginTour_102 : decode cX1_beginTour 102 = .ok (.aload_n 3, 1) := by decide +kernel
theorem dX1_beginTour_103 : decode cX1_beginTour 103 = .ok (.aload_n 0, 1) := by decide +kernel
theorem dX1_beginTour_104 : decode cX1_beginTour 104 = .ok (.getfield 12, 3) := by decide +kernel
theorem dX1_beginTour_107 : decode cX1_beginTour 107 = .ok (.getfield 67, 3) := by decide +kernel
theorem dX1_beginTour_110 : decode cX1_beginTour 110 = .ok (.iload_n 1, 1) := by decide +kernel
theorem dX1_beginTour_111 : decode cX1_beginTour 111 = .ok (.invokevirtual 149, 3) := by decide +kernel
theorem dX1_beginTour_114 : decode cX1_beginTour 114 = .ok (.putfield 152, 3) := by decide +kernel
theorem dX1_beginTour_117 : decode cX1_beginTour 117 = .ok (.aload_n 3, 1) := by decide +kernel
theorem dX1_beginTour_118 : decode cX1_beginTour 118 = .ok (.getfield 155, 3) := by decide +kernel
theorem dX1_beginTour_121 : decode cX1_beginTour 121 = .ok (.ireturn, 1) := by decide +kernel
theorem dX1_endTour_0 : decode cX1_endTour 0 = .ok (.aload_n 0, 1) := by decide +kernel
theorem dX1_endTour_1 : decode cX1_endTour 1 = .ok (.getfield 12, 3) := by decide +kernel
theorem dX1_endTour_4 : decode cX1_endTour 4 = .ok (.getfield 53, 3) := by decide +kernel
theorem dX1_endTour_7 : decode cX1_endTour 7 = .ok (.getfield 155, 3) := by decide +kernel
theorem dX1_endTour_10 : decode cX1_endTour 10 = .ok (.aload_n 0, 1) := by decide +kernel
theorem dX1_endTour_11 : decode cX1_endTour 11 = .ok (.getfield 12, 3) := by decide +kernel
theorem dX1_endTour_14 : decode cX1_endTour 14 = .ok (.getfield 53, 3) := by decide +kernel
theorem dX1_endTour_17 : decode cX1_endTour 17 = .ok (.getfield 140, 3) := by decide +kernel
theorem dX1_endTour_20 : decode cX1_endTour 20 = .ok (.isub, 1) := by decide +kernel
theorem dX1_endTour_21 : decode cX1_endTour 21 = .ok (.istore_n 1, 1) := by decide +kernel
theorem dX1_endTour_22 : decode cX1_endTour 22 = .ok (.aload_n 0, 1) := by decide +kernel
theorem dX1_endTour_23 : decode cX1_endTour 23 = .ok (.getfield 12, 3) := by decide +kernel
theorem dX1_endTour_26 : decode cX1_endTour 26 = .ok (.getfield 53, 3) := by decide +kernel
theorem dX1_endTour_29 : decode cX1_endTour 29 = .ok (.invokevirtual 130, 3) := by decide +kernel
theorem dX1_endTour_32 : decode cX1_endTour 32 = .ok (.iload_n 1, 1) := by decide +kernel
theorem dX1_endTour_33 : decode cX1_endTour 33 = .ok (.ireturn, 1) := by decide +kernel
theorem dX1_moveHiker_0 : decode cX1_moveHiker 0 = .ok (.aload_n 0, 1) := by decide +kernel
theorem dX1_moveHiker_1 : decode cX1_moveHiker 1 = .ok (.getfield 12, 3) := by decide +kernel
theorem dX1_moveHiker_4 : decode cX1_moveHiker 4 = .ok (.getfield 53, 3) := by decide +kernel
theorem dX1_moveHiker_7 : decode cX1_moveHiker 7 = .ok (.astore_n 3, 1) := by decide +kernel
theorem dX1_moveHiker_8 : decode cX1_moveHiker 8 = .ok (.aload_n 0, 1) := by decide +kernel
theorem dX1_moveHiker_9 : decode cX1_moveHiker 9 = .ok (.getfield 12, 3) := by decide +kernel
theorem dX1_moveHiker_12 : decode cX1_moveHiker 12 = .ok (.getfield 92, 3) := by decide +kernel
theorem dX1_moveHiker_15 : decode cX1_moveHiker 15 = .ok (.astore 4, 2) := by decide +kernel
theorem dX1_moveHiker_17 : decode cX1_moveHiker 17 = .ok (.aload_n 3, 1) := by decide +kernel
theorem dX1_moveHiker_18 : decode cX1_moveHiker 18 = .ok (.iload_n 1, 1) := by decide +kernel
theorem dX1_moveHiker_19 : decode cX1_moveHiker 19 = .ok (.putfield 146, 3) := by decide +kernel
theorem dX1_moveHiker_22 : decode cX1_moveHiker 22 = .ok (.aload_n 3, 1) := by decide +kernel
theorem dX1_moveHiker_23 : decode cX1_moveHiker 23 = .ok (.iload_n 2, 1) := by decide +kernel
theorem dX1_moveHiker_24 : decode cX1_moveHiker 24 = .ok (.putfield 152, 3) := by decide +kernel
theorem dX1_moveHiker_27 : decode cX1_moveHiker 27 = .ok (.aload 4, 2) := by decide +kernel
theorem dX1_moveHiker_29 : decode cX1_moveHiker 29 = .ok (.dup, 1) := by decide +kernel
theorem dX1_moveHiker_30 : decode cX1_moveHiker 30 = .ok (.getfield 158, 3) := by decide +kernel
theorem dX1_moveHiker_33 : decode cX1_moveHiker 33 = .ok (.iconst 1, 1) := by decide +kernel
theorem dX1_moveHiker_34 : decode cX1_moveHiker 34 = .ok (.iadd, 1) := by decide +kernel
theorem dX1_moveHiker_35 : decode cX1_moveHiker 35 = .ok (.putfield 158, 3) := by decide +kernel
theorem dX1_moveHiker_38 : decode cX1_moveHiker 38 = .ok (.aload 4, 2) := by decide +kernel
theorem dX1_moveHiker_40 : decode cX1_moveHiker 40 = .ok (.aload 4, 2) := by decide +kernel
theorem dX1_moveHiker_42 : decode cX1_moveHiker 42 = .ok (.invokevirtual 161, 3) := by decide +kernel
theorem dX1_moveHiker_45 : decode cX1_moveHiker 45 = .ok (.invokevirtual 164, 3) := by decide +kernel
theorem dX1_moveHiker_48 : decode cX1_moveHiker 48 = .ok (.aload_n 0, 1) := by decide +kernel
theorem dX1_moveHiker_49 : decode cX1_moveHiker 49 = .ok (.iload_n 1, 1) := by decide +kernel
theorem dX1_moveHiker_50 : decode cX1_moveHiker 50 = .ok (.iload_n 2, 1) := by decide +kernel
theorem dX1_moveHiker_51 : decode cX1_moveHiker 51 = .ok (.invokevirtual 167, 3) := by decide +kernel
theorem dX1_moveHiker_54 : decode cX1_moveHiker 54 = .ok (.istore 5, 2) := by decide +kernel
theorem dX1_moveHiker_56 : decode cX1_moveHiker 56 = .ok (.iload 5, 2) := by decide +kernel
theorem dX1_moveHiker_58 : decode cX1_moveHiker 58 = .ok (.ifCond .eq 24, 3) := by decide +kernel
theorem dX1_moveHiker_61 : decode cX1_moveHiker 61 = .ok (.aload 4, 2) := by decide +kernel
theorem dX1_moveHiker_63 : decode cX1_moveHiker 63 = .ok (.dup, 1) := by decide +kernel
theorem dX1_moveHiker_64 : decode cX1_moveHiker 64 = .ok (.getfield 170, 3) := by decide +kernel
theorem dX1_moveHiker_67 : decode cX1_moveHiker 67 = .ok (.iconst 1, 1) := by decide +kernel
theorem dX1_moveHiker_68 : decode cX1_moveHiker 68 = .ok (.iadd, 1) := by decide +kernel
theorem dX1_moveHiker_69 : decode cX1_moveHiker 69 = .ok (.putfield 170, 3) := by decide +kernel
theorem dX1_moveHiker_72 : decode cX1_moveHiker 72 = .ok (.aload 4, 2) := by decide +kernel
theorem dX1_moveHiker_74 : decode cX1_moveHiker 74 = .ok (.iconst 3, 1) := by decide +kernel
theorem dX1_moveHiker_75 : decode cX1_moveHiker 75 = .ok (.invokevirtual 164, 3) := by decide +kernel
theorem dX1_moveHiker_78 : decode cX1_moveHiker 78 = .ok (.aload_n 3, 1) := by decide +kernel
theorem dX1_moveHiker_79 : decode cX1_moveHiker 79 = .ok (.invokevirtual 173, 3) := by decide +kernel
theorem dX1_moveHiker_82 : decode cX1_moveHiker 82 = .ok (.aload_n 3, 1) := by decide +kernel
theorem dX1_moveHiker_83 : decode cX1_moveHiker 83 = .ok (.invokevirtual 57, 3) := by decide +kernel
theorem dX1_moveHiker_86 : decode cX1_moveHiker 86 = .ok (.ifCond .eq 25, 3) := by decide +kernel
theorem dX1_moveHiker_89 : decode cX1_moveHiker 89 = .ok (.aload_n 0, 1) := by decide +kernel
theorem dX1_moveHiker_90 : decode cX1_moveHiker 90 = .ok (.iload_n 1, 1) := by decide +kernel
theorem dX1_moveHiker_91 : decode cX1_moveHiker 91 = .ok (.iload_n 2, 1) := by decide +kernel
theorem dX1_moveHiker_92 : decode cX1_moveHiker 92 = .ok (.invokevirtual 176, 3) := by decide +kernel
theorem dX1_moveHiker_95 : decode cX1_moveHiker 95 = .ok (.aload_n 0, 1) := by decide +kernel
theorem dX1_moveHiker_96 : decode cX1_moveHiker 96 = .ok (.aload_n 0, 1) := by decide +kernel
theorem dX1_moveHiker_97 : decode cX1_moveHiker 97 = .ok (.getfield 28, 3) := by decide +kernel
theorem dX1_moveHiker_100 : decode cX1_moveHiker 100 = .ok (.aload 4, 2) := by decide +kernel
theorem dX1_moveHiker_102 : decode cX1_moveHiker 102 = .ok (.getfield 180, 3) := by decide +kernel
theorem dX1_moveHiker_105 : decode cX1_moveHiker 105 = .ok (.invokevirtual 183, 3) := by decide +kernel
theorem dX1_moveHiker_108 : decode cX1_moveHiker 108 = .ok (.invokevirtual 186, 3) := by decide +kernel
theorem dX1_moveHiker_111 : decode cX1_moveHiker 111 = .ok (.iload 5, 2) := by decide +kernel
theorem dX1_moveHiker_113 : decode cX1_moveHiker 113 = .ok (.ireturn, 1) := by decide +kernel
theorem dX1_setAlarm_0 : decode cX1_setAlarm 0 = .ok (.iload_n 1, 1) := by decide +kernel
theorem dX1_setAlarm_1 : decode cX1_setAlarm 1 = .ok (.ifCond .eq 43, 3) := by decide +kernel
theorem dX1_setAlarm_4 : decode cX1_setAlarm 4 = .ok (.aload_n 0, 1) := by decide +kernel
theorem dX1_setAlarm_5 : decode cX1_setAlarm 5 = .ok (.getfield 12, 3) := by decide +kernel
theorem dX1_setAlarm_8 : decode cX1_setAlarm 8 = .ok (.getfield 53, 3) := by decide +kernel
theorem dX1_setAlarm_11 : decode cX1_setAlarm 11 = .ok (.getfield 190, 3) := by decide +kernel
theorem dX1_setAlarm_14 : decode cX1_setAlarm 14 = .ok (.ifCond .ne 30, 3) := by decide +kernel
theorem dX1_setAlarm_17 : decode cX1_setAlarm 17 = .ok (.aload_n 0, 1) := by decide +kernel
theorem dX1_setAlarm_18 : decode cX1_setAlarm 18 = .ok (.getfield 12, 3) := by decide +kernel
theorem dX1_setAlarm_21 : decode cX1_setAlarm 21 = .ok (.getfield 92, 3) := by decide +kernel
theorem dX1_setAlarm_24 : decode cX1_setAlarm 24 = .ok (.dup, 1) := by decide +kernel
theorem dX1_setAlarm_25 : decode cX1_setAlarm 25 = .ok (.getfield 194, 3) := by decide +kernel
theorem dX1_setAlarm_28 : decode cX1_setAlarm 28 = .ok (.iconst 1, 1) := by decide +kernel
theorem dX1_setAlarm_29 : decode cX1_setAlarm 29 = .ok (.iadd, 1) := by decide +kernel
theorem dX1_setAlarm_30 : decode cX1_setAlarm 30 = .ok (.putfield 194, 3) := by decide +kernel
theorem dX1_setAlarm_33 : decode cX1_setAlarm 33 = .ok (.aload_n 0, 1) := by decide +kernel
theorem dX1_setAlarm_34 : decode cX1_setAlarm 34 = .ok (.getfield 12, 3) := by decide +kernel
theorem dX1_setAlarm_37 : decode cX1_setAlarm 37 = .ok (.getfield 92, 3) := by decide +kernel
theorem dX1_setAlarm_40 : decode cX1_setAlarm 40 = .ok (.iconst 5, 1) := by decide +kernel
theorem dX1_setAlarm_41 : decode cX1_setAlarm 41 = .ok (.invokevirtual 164, 3) := by decide +kernel
theorem dX1_setAlarm_44 : decode cX1_setAlarm 44 = .ok (.aload_n 0, 1) := by decide +kernel
theorem dX1_setAlarm_45 : decode cX1_setAlarm 45 = .ok (.getfield 12, 3) := by decide +kernel
theorem dX1_setAlarm_48 : decode cX1_setAlarm 48 = .ok (.getfield 53, 3) := by decide +kernel
theorem dX1_setAlarm_51 : decode cX1_setAlarm 51 = .ok (.iload_n 1, 1) := by decide +kernel
theorem dX1_setAlarm_52 : decode cX1_setAlarm 52 = .ok (.putfield 190, 3) := by decide +kernel
theorem dX1_setAlarm_55 : decode cX1_setAlarm 55 = .ok (.return_, 1) := by decide +kernel
theorem dX1_reachesTarget_0 : decode cX1_reachesTarget 0 = .ok (.aload_n 0, 1) := by decide +kernel
theorem dX1_reachesTarget_1 : decode cX1_reachesTarget 1 = .ok (.getfield 12, 3) := by decide +kernel
theorem dX1_reachesTarget_4 : decode cX1_reachesTarget 4 = .ok (.getfield 53, 3) := by decide +kernel
theorem dX1_reachesTarget_7 : decode cX1_reachesTarget 7 = .ok (.invokevirtual 197, 3) := by decide +kernel
theorem dX1_reachesTarget_10 : decode cX1_reachesTarget 10 = .ok (.istore_n 3, 1) := by decide +kernel
theorem dX1_reachesTarget_11 : decode cX1_reachesTarget 11 = .ok (.aload_n 0, 1) := by decide +kernel
theorem dX1_reachesTarget_12 : decode cX1_reachesTarget 12 = .ok (.getfield 12, 3) := by decide +kernel
theorem dX1_reachesTarget_15 : decode cX1_reachesTarget 15 = .ok (.getfield 67, 3) := by decide +kernel
theorem dX1_reachesTarget_18 : decode cX1_reachesTarget 18 = .ok (.iload_n 3, 1) := by decide +kernel
theorem dX1_reachesTarget_19 : decode cX1_reachesTarget 19 = .ok (.invokevirtual 200, 3) := by decide +kernel
theorem dX1_reachesTarget_22 : decode cX1_reachesTarget 22 = .ok (.istore 4, 2) := by decide +kernel
theorem dX1_reachesTarget_24 : decode cX1_reachesTarget 24 = .ok (.aload_n 0, 1) := by decide +kernel
theorem dX1_reachesTarget_25 : decode cX1_reachesTarget 25 = .ok (.getfield 12, 3) := by decide +kernel
theorem dX1_reachesTarget_28 : decode cX1_reachesTarget 28 = .ok (.getfield 67, 3) := by decide +kernel
theorem dX1_reachesTarget_31 : decode cX1_reachesTarget 31 = .ok (.iload_n 3, 1) := by decide +kernel
theorem dX1_reachesTarget_32 : decode cX1_reachesTarget 32 = .ok (.iload_n 1, 1) := by decide +kernel
theorem dX1_reachesTarget_33 : decode cX1_reachesTarget 33 = .ok (.iload_n 2, 1) := by decide +kernel
theorem dX1_reachesTarget_34 : decode cX1_reachesTarget 34 = .ok (.invokevirtual 203, 3) := by decide +kernel
theorem dX1_reachesTarget_37 : decode cX1_reachesTarget 37 = .ok (.iload 4, 2) := by decide +kernel
theorem dX1_reachesTarget_39 : decode cX1_reachesTarget 39 = .ok (.iload 4, 2) := by decide +kernel
theorem dX1_reachesTarget_41 : decode cX1_reachesTarget 41 = .ok (.imul, 1) := by decide +kernel
theorem dX1_reachesTarget_42 : decode cX1_reachesTarget 42 = .ok (.if_icmp .gt 7, 3) := by decide +kernel
theorem dX1_reachesTarget_45 : decode cX1_reachesTarget 45 = .ok (.iconst 1, 1) := by decide +kernel
theorem dX1_reachesTarget_46 : decode cX1_reachesTarget 46 = .ok (.goto 4, 3) := by decide +kernel
theorem dX1_reachesTarget_49 : decode cX1_reachesTarget 49 = .ok (.iconst 0, 1) := by decide +kernel
theorem dX1_reachesTarget_50 : decode cX1_reachesTarget 50 = .ok (.ireturn, 1) := by decide +kernel
theorem dX1_measureDrift_0 : decode cX1_measureDrift 0 = .ok (.aload_n 0, 1) := by decide +kernel
theorem dX1_measureDrift_1 : decode cX1_measureDrift 1 = .ok (.getfield 12, 3) := by decide +kernel
theorem dX1_measureDrift_4 : decode cX1_measureDrift 4 = .ok (.getfield 67, 3) := by decide +kernel
theorem dX1_measureDrift_7 : decode cX1_measureDrift 7 = .ok (.astore_n 3, 1) := by decide +kernel
theorem dX1_measureDrift_8 : decode cX1_measureDrift 8 = .ok (.aload_n 0, 1) := by decide +kernel
theorem dX1_measureDrift_9 : decode cX1_measureDrift 9 = .ok (.getfield 12, 3) := by decide +kernel
theorem dX1_measureDrift_12 : decode cX1_measureDrift 12 = .ok (.getfield 53, 3) := by decide +kernel
theorem dX1_measureDrift_15 : decode cX1_measureDrift 15 = .ok (.aload_n 0, 1) := by decide +kernel
theorem dX1_measureDrift_16 : decode cX1_measureDrift 16 = .ok (.getfield 12, 3) := by decide +kernel
theorem dX1_measureDrift_19 : decode cX1_measureDrift 19 = .ok (.getfield 53, 3) := by decide +kernel
theorem dX1_measureDrift_22 : decode cX1_measureDrift 22 = .ok (.getfield 140, 3) := by decide +kernel
theorem dX1_measureDrift_25 : decode cX1_measureDrift 25 = .ok (.iconst 1, 1) := by decide +kernel
theorem dX1_measureDrift_26 : decode cX1_measureDrift 26 = .ok (.isub, 1) := by decide +kernel
theorem dX1_measureDrift_27 : decode cX1_measureDrift 27 = .ok (.invokevirtual 206, 3) := by decide +kernel
theorem dX1_measureDrift_30 : decode cX1_measureDrift 30 = .ok (.istore 4, 2) := by decide +kernel
theorem dX1_measureDrift_32 : decode cX1_measureDrift 32 = .ok (.aload_n 0, 1) := by decide +kernel
theorem dX1_measureDrift_33 : decode cX1_measureDrift 33 = .ok (.getfield 12, 3) := by decide +kernel
theorem dX1_measureDrift_36 : decode cX1_measureDrift 36 = .ok (.getfield 53, 3) := by decide +kernel
theorem dX1_measureDrift_39 : decode cX1_measureDrift 39 = .ok (.aload_n 0, 1) := by decide +kernel
theorem dX1_measureDrift_40 : decode cX1_measureDrift 40 = .ok (.getfield 12, 3) := by decide +kernel
theorem dX1_measureDrift_43 : decode cX1_measureDrift 43 = .ok (.getfield 53, 3) := by decide +kernel
theorem dX1_measureDrift_46 : decode cX1_measureDrift 46 = .ok (.getfield 140, 3) := by decide +kernel
theorem dX1_measureDrift_49 : decode cX1_measureDrift 49 = .ok (.invokevirtual 206, 3) := by decide +kernel
theorem dX1_measureDrift_52 : decode cX1_measureDrift 52 = .ok (.istore 5, 2) := by decide +kernel
theorem dX1_measureDrift_54 : decode cX1_measureDrift 54 = .ok (.aload_n 3, 1) := by decide +kernel
theorem dX1_measureDrift_55 : decode cX1_measureDrift 55 = .ok (.iload 4, 2) := by decide +kernel
theorem dX1_measureDrift_57 : decode cX1_measureDrift 57 = .ok (.invokevirtual 143, 3) := by decide +kernel
theorem dX1_measureDrift_60 : decode cX1_measureDrift 60 = .ok (.istore 6, 2) := by decide +kernel
theorem dX1_measureDrift_62 : decode cX1_measureDrift 62 = .ok (.aload_n 3, 1) := by decide +kernel
theorem dX1_measureDrift_63 : decode cX1_measureDrift 63 = .ok (.iload 4, 2) := by decide +kernel
theorem dX1_measureDrift_65 : decode cX1_measureDrift 65 = .ok (.invokevirtual 149, 3) := by decide +kernel
theorem dX1_measureDrift_68 : decode cX1_measureDrift 68 = .ok (.istore 7, 2) := by decide +kernel
theorem dX1_measureDrift_70 : decode cX1_measureDrift 70 = .ok (.aload_n 0, 1) := by decide +kernel
theorem dX1_measureDrift_71 : decode cX1_measureDrift 71 = .ok (.getfield 28, 3) := by decide +kernel
theorem dX1_measureDrift_74 : decode cX1_measureDrift 74 = .ok (.iload_n 1, 1) := by decide +kernel
theorem dX1_measureDrift_75 : decode cX1_measureDrift 75 = .ok (.iload 6, 2) := by decide +kernel
theorem dX1_measureDrift_77 : decode cX1_measureDrift 77 = .ok (.isub, 1) := by decide +kernel
theorem dX1_measureDrift_78 : decode cX1_measureDrift 78 = .ok (.iload_n 2, 1) := by decide +kernel
theorem dX1_measureDrift_79 : decode cX1_measureDrift 79 = .ok (.iload 7, 2) := by decide +kernel
theorem dX1_measureDrift_81 : decode cX1_measureDrift 81 = .ok (.isub, 1) := by decide +kernel
theorem dX1_measureDrift_82 : decode cX1_measureDrift 82 = .ok (.aload_n 3, 1) := by decide +kernel
theorem dX1_measureDrift_83 : decode cX1_measureDrift 83 = .ok (.iload 5, 2) := by decide +kernel
theorem dX1_measureDrift_85 : decode cX1_measureDrift 85 = .ok (.invokevirtual 143, 3) := by decide +kernel
theorem dX1_measureDrift_88 : decode cX1_measureDrift 88 = .ok (.iload 6, 2) := by decide +kernel
theorem dX1_measureDrift_90 : decode cX1_measureDrift 90 = .ok (.isub, 1) := by decide +kernel
theorem dX1_measureDrift_91 : decode cX1_measureDrift 91 = .ok (.aload_n 3, 1) := by decide +kernel
theorem dX1_measureDrift_92 : decode cX1_measureDrift 92 = .ok (.iload 5, 2) := by decide +kernel
theorem dX1_measureDrift_94 : decode cX1_measureDrift 94 = .ok (.invokevirtual 149, 3) := by decide +kernel
theorem dX1_measureDrift_97 : decode cX1_measureDrift 97 = .ok (.iload 7, 2) := by decide +kernel
theorem dX1_measureDrift_99 : decode cX1_measureDrift 99 = .ok (.isub, 1) := by decide +kernel
theorem dX1_measureDrift_100 : decode cX1_measureDrift 100 = .ok (.invokevirtual 209, 3) := by decide +kernel
theorem dX1_measureDrift_103 : decode cX1_measureDrift 103 = .ok (.return_, 1) := by decide +kernel
theorem dX1_turnAt_0 : decode cX1_turnAt 0 = .ok (.aload_n 0, 1) := by decide +kernel
theorem dX1_turnAt_1 : decode cX1_turnAt 1 = .ok (.getfield 12, 3) := by decide +kernel
theorem dX1_turnAt_4 : decode cX1_turnAt 4 = .ok (.getfield 53, 3) := by decide +kernel
theorem dX1_turnAt_7 : decode cX1_turnAt 7 = .ok (.iload_n 1, 1) := by decide +kernel
theorem dX1_turnAt_8 : decode cX1_turnAt 8 = .ok (.iconst 1, 1) := by decide +kernel
theorem dX1_turnAt_9 : decode cX1_turnAt 9 = .ok (.isub, 1) := by decide +kernel
theorem dX1_turnAt_10 : decode cX1_turnAt 10 = .ok (.invokevirtual 206, 3) := by decide +kernel
theorem dX1_turnAt_13 : decode cX1_turnAt 13 = .ok (.istore_n 2, 1) := by decide +kernel
theorem dX1_turnAt_14 : decode cX1_turnAt 14 = .ok (.aload_n 0, 1) := by decide +kernel
theorem dX1_turnAt_15 : decode cX1_turnAt 15 = .ok (.getfield 12, 3) := by decide +kernel
theorem dX1_turnAt_18 : decode cX1_turnAt 18 = .ok (.getfield 53, 3) := by decide +kernel
theorem dX1_turnAt_21 : decode cX1_turnAt 21 = .ok (.iload_n 1, 1) := by decide +kernel
theorem dX1_turnAt_22 : decode cX1_turnAt 22 = .ok (.invokevirtual 206, 3) := by decide +kernel
theorem dX1_turnAt_25 : decode cX1_turnAt 25 = .ok (.istore_n 3, 1) := by decide +kernel
theorem dX1_turnAt_26 : decode cX1_turnAt 26 = .ok (.aload_n 0, 1) := by decide +kernel
theorem dX1_turnAt_27 : decode cX1_turnAt 27 = .ok (.getfield 12, 3) := by decide +kernel
theorem dX1_turnAt_30 : decode cX1_turnAt 30 = .ok (.getfield 53, 3) := by decide +kernel
theorem dX1_turnAt_33 : decode cX1_turnAt 33 = .ok (.iload_n 1, 1) := by decide +kernel
theorem dX1_turnAt_34 : decode cX1_turnAt 34 = .ok (.iconst 1, 1) := by decide +kernel
theorem dX1_turnAt_35 : decode cX1_turnAt 35 = .ok (.iadd, 1) := by decide +kernel
theorem dX1_turnAt_36 : decode cX1_turnAt 36 = .ok (.invokevirtual 206, 3) := by decide +kernel
theorem dX1_turnAt_39 : decode cX1_turnAt 39 = .ok (.istore 4, 2) := by decide +kernel
theorem dX1_turnAt_41 : decode cX1_turnAt 41 = .ok (.aload_n 0, 1) := by decide +kernel
theorem dX1_turnAt_42 : decode cX1_turnAt 42 = .ok (.getfield 12, 3) := by decide +kernel
theorem dX1_turnAt_45 : decode cX1_turnAt 45 = .ok (.getfield 67, 3) := by decide +kernel
theorem dX1_turnAt_48 : decode cX1_turnAt 48 = .ok (.iload_n 3, 1) := by decide +kernel
theorem dX1_turnAt_49 : decode cX1_turnAt 49 = .ok (.invokevirtual 143, 3) := by decide +kernel
theorem dX1_turnAt_52 : decode cX1_turnAt 52 = .ok (.aload_n 0, 1) := by decide +kernel
theorem dX1_turnAt_53 : decode cX1_turnAt 53 = .ok (.getfield 12, 3) := by decide +kernel
theorem dX1_turnAt_56 : decode cX1_turnAt 56 = .ok (.getfield 67, 3) := by decide +kernel
theorem dX1_turnAt_59 : decode cX1_turnAt 59 = .ok (.iload_n 2, 1) := by decide +kernel
theorem dX1_turnAt_60 : decode cX1_turnAt 60 = .ok (.invokevirtual 143, 3) := by decide +kernel
theorem dX1_turnAt_63 : decode cX1_turnAt 63 = .ok (.isub, 1) := by decide +kernel
theorem dX1_turnAt_64 : decode cX1_turnAt 64 = .ok (.istore 5, 2) := by decide +kernel
theorem dX1_turnAt_66 : decode cX1_turnAt 66 = .ok (.aload_n 0, 1) := by decide +kernel
theorem dX1_turnAt_67 : decode cX1_turnAt 67 = .ok (.getfield 12, 3) := by decide +kernel
theorem dX1_turnAt_70 : decode cX1_turnAt 70 = .ok (.getfield 67, 3) := by decide +kernel
theorem dX1_turnAt_73 : decode cX1_turnAt 73 = .ok (.iload_n 3, 1) := by decide +kernel
theorem dX1_turnAt_74 : decode cX1_turnAt 74 = .ok (.invokevirtual 149, 3) := by decide +kernel
theorem dX1_turnAt_77 : decode cX1_turnAt 77 = .ok (.aload_n 0, 1) := by decide +kernel
theorem dX1_turnAt_78 : decode cX1_turnAt 78 = .ok (.getfield 12, 3) := by decide +kernel
theorem dX1_turnAt_81 : decode cX1_turnAt 81 = .ok (.getfield 67, 3) := by decide +kernel
theorem dX1_turnAt_84 : decode cX1_turnAt 84 = .ok (.iload_n 2, 1) := by decide +kernel
theorem dX1_turnAt_85 : decode cX1_turnAt 85 = .ok (.invokevirtual 149, 3) := by decide +kernel
theorem dX1_turnAt_88 : decode cX1_turnAt 88 = .ok (.isub, 1) := by decide +kernel
theorem dX1_turnAt_89 : decode cX1_turnAt 89 = .ok (.istore 6, 2) := by decide +kernel
theorem dX1_turnAt_91 : decode cX1_turnAt 91 = .ok (.aload_n 0, 1) := by decide +kernel
theorem dX1_turnAt_92 : decode cX1_turnAt 92 = .ok (.getfield 12, 3) := by decide +kernel
theorem dX1_turnAt_95 : decode cX1_turnAt 95 = .ok (.getfield 67, 3) := by decide +kernel
theorem dX1_turnAt_98 : decode cX1_turnAt 98 = .ok (.iload 4, 2) := by decide +kernel
theorem dX1_turnAt_100 : decode cX1_turnAt 100 = .ok (.invokevirtual 143, 3) := by decide +kernel
theorem dX1_turnAt_103 : decode cX1_turnAt 103 = .ok (.aload_n 0, 1) := by decide +kernel
theorem dX1_turnAt_104 : decode cX1_turnAt 104 = .ok (.getfield 12, 3) := by decide +kernel
theorem dX1_turnAt_107 : decode cX1_turnAt 107 = .ok (.getfield 67, 3) := by decide +kernel
theorem dX1_turnAt_110 : decode cX1_turnAt 110 = .ok (.iload_n 3, 1) := by decide +kernel
theorem dX1_turnAt_111 : decode cX1_turnAt 111 = .ok (.invokevirtual 143, 3) := by decide +kernel
theorem dX1_turnAt_114 : decode cX1_turnAt 114 = .ok (.isub, 1) := by decide +kernel
theorem dX1_turnAt_115 : decode cX1_turnAt 115 = .ok (.istore 7, 2) := by decide +kernel
theorem dX1_turnAt_117 : decode cX1_turnAt 117 = .ok (.aload_n 0, 1) := by decide +kernel
theorem dX1_turnAt_118 : decode cX1_turnAt 118 = .ok (.getfield 12, 3) := by decide +kernel
theorem dX1_turnAt_121 : decode cX1_turnAt 121 = .ok (.getfield 67, 3) := by decide +kernel
theorem dX1_turnAt_124 : decode cX1_turnAt 124 = .ok (.iload 4, 2) := by decide +kernel
theorem dX1_turnAt_126 : decode cX1_turnAt 126 = .ok (.invokevirtual 149, 3) := by decide +kernel
theorem dX1_turnAt_129 : decode cX1_turnAt 129 = .ok (.aload_n 0, 1) := by decide +kernel
theorem dX1_turnAt_130 : decode cX1_turnAt 130 = .ok (.getfield 12, 3) := by decide +kernel
theorem dX1_turnAt_133 : decode cX1_turnAt 133 = .ok (.getfield 67, 3) := by decide +kernel
theorem dX1_turnAt_136 : decode cX1_turnAt 136 = .ok (.iload_n 3, 1) := by decide +kernel
theorem dX1_turnAt_137 : decode cX1_turnAt 137 = .ok (.invokevirtual 149, 3) := by decide +kernel
theorem dX1_turnAt_140 : decode cX1_turnAt 140 = .ok (.isub, 1) := by decide +kernel
theorem dX1_turnAt_141 : decode cX1_turnAt 141 = .ok (.istore 8, 2) := by decide +kernel
theorem dX1_turnAt_143 : decode cX1_turnAt 143 = .ok (.iload 5, 2) := by decide +kernel
theorem dX1_turnAt_145 : decode cX1_turnAt 145 = .ok (.iload 8, 2) := by decide +kernel
theorem dX1_turnAt_147 : decode cX1_turnAt 147 = .ok (.imul, 1) := by decide +kernel
theorem dX1_turnAt_148 : decode cX1_turnAt 148 = .ok (.iload 6, 2) := by decide +kernel
theorem dX1_turnAt_150 : decode cX1_turnAt 150 = .ok (.iload 7, 2) := by decide +kernel
theorem dX1_turnAt_152 : decode cX1_turnAt 152 = .ok (.imul, 1) := by decide +kernel
theorem dX1_turnAt_153 : decode cX1_turnAt 153 = .ok (.isub, 1) := by decide +kernel
theorem dX1_turnAt_154 : decode cX1_turnAt 154 = .ok (.istore 9, 2) := by decide +kernel
theorem dX1_turnAt_156 : decode cX1_turnAt 156 = .ok (.iload 9, 2) := by decide +kernel
theorem dX1_turnAt_158 : decode cX1_turnAt 158 = .ok (.ifCond .eq 16, 3) := by decide +kernel
theorem dX1_turnAt_161 : decode cX1_turnAt 161 = .ok (.iload 9, 2) := by decide +kernel
theorem dX1_turnAt_163 : decode cX1_turnAt 163 = .ok (.ifCond .le 8, 3) := by decide +kernel
theorem dX1_turnAt_166 : decode cX1_turnAt 166 = .ok (.bipush 108, 2) := by decide +kernel
theorem dX1_turnAt_168 : decode cX1_turnAt 168 = .ok (.goto 5, 3) := by decide +kernel
theorem dX1_turnAt_171 : decode cX1_turnAt 171 = .ok (.bipush 114, 2) := by decide +kernel
theorem dX1_turnAt_173 : decode cX1_turnAt 173 = .ok (.ireturn, 1) := by decide +kernel
theorem dX1_turnAt_174 : decode cX1_turnAt 174 = .ok (.iload 5, 2) := by decide +kernel
theorem dX1_turnAt_176 : decode cX1_turnAt 176 = .ok (.iload 7, 2) := by decide +kernel
theorem dX1_turnAt_178 : decode cX1_turnAt 178 = .ok (.imul, 1) := by decide +kernel
theorem dX1_turnAt_179 : decode cX1_turnAt 179 = .ok (.iload 6, 2) := by decide +kernel
theorem dX1_turnAt_181 : decode cX1_turnAt 181 = .ok (.iload 8, 2) := by decide +kernel
theorem dX1_turnAt_183 : decode cX1_turnAt 183 = .ok (.imul, 1) := by decide +kernel
theorem dX1_turnAt_184 : decode cX1_turnAt 184 = .ok (.iadd, 1) := by decide +kernel
theorem dX1_turnAt_185 : decode cX1_turnAt 185 = .ok (.ifCond .ge 8, 3) := by decide +kernel
theorem dX1_turnAt_188 : decode cX1_turnAt 188 = .ok (.bipush 98, 2) := by decide +kernel
theorem dX1_turnAt_190 : decode cX1_turnAt 190 = .ok (.goto 5, 3) := by decide +kernel
theorem dX1_turnAt_193 : decode cX1_turnAt 193 = .ok (.bipush 115, 2) := by decide +kernel
theorem dX1_turnAt_195 : decode cX1_turnAt 195 = .ok (.ireturn, 1) := by decide +kernel
theorem dX2_init_0 : decode cX2_init 0 = .ok (.aload_n 0, 1) := by decide +kernel
theorem dX2_init_1 : decode cX2_init 1 = .ok (.invokespecial 3, 3) := by decide +kernel
theorem dX2_init_4 : decode cX2_init 4 = .ok (.aload_n 0, 1) := by decide +kernel
theorem dX2_init_5 : decode cX2_init 5 = .ok (.bipush 8, 2) := by decide +kernel
theorem dX2_init_7 : decode cX2_init 7 = .ok (.anewarray 9, 3) := by decide +kernel
theorem dX2_init_10 : decode cX2_init 10 = .ok (.putfield 11, 3) := by decide +kernel
theorem dX2_init_13 : decode cX2_init 13 = .ok (.iconst 0, 1) := by decide +kernel
theorem dX2_init_14 : decode cX2_init 14 = .ok (.istore_n 1, 1) := by decide +kernel
theorem dX2_init_15 : decode cX2_init 15 = .ok (.iload_n 1, 1) := by decide +kernel
theorem dX2_init_16 : decode cX2_init 16 = .ok (.bipush 8, 2) := by decide +kernel
theorem dX2_init_18 : decode cX2_init 18 = .ok (.if_icmp .ge 22, 3) := by decide +kernel
theorem dX2_init_21 : decode cX2_init 21 = .ok (.aload_n 0, 1) := by decide +kernel
theorem dX2_init_22 : decode cX2_init 22 = .ok (.getfield 11, 3) := by decide +kernel
theorem dX2_init_25 : decode cX2_init 25 = .ok (.iload_n 1, 1) := by decide +kernel
theorem dX2_init_26 : decode cX2_init 26 = .ok (.new 9, 3) := by decide +kernel
theorem dX2_init_29 : decode cX2_init 29 = .ok (.dup, 1) := by decide +kernel
theorem dX2_init_30 : decode cX2_init 30 = .ok (.invokespecial 17, 3) := by decide +kernel
theorem dX2_init_33 : decode cX2_init 33 = .ok (.aastore, 1) := by decide +kernel
theorem dX2_init_34 : decode cX2_init 34 = .ok (.iinc 1 1, 3) := by decide +kernel
theorem dX2_init_37 : decode cX2_init 37 = .ok (.goto (-22), 3) := by decide +kernel
theorem dX2_init_40 : decode cX2_init 40 = .ok (.return_, 1) := by decide +kernel
theorem dX2_slotAt_0 : decode cX2_slotAt 0 = .ok (.iload_n 1, 1) := by decide +kernel
theorem dX2_slotAt_1 : decode cX2_slotAt 1 = .ok (.iconst 0, 1) := by decide +kernel
theorem dX2_slotAt_2 : decode cX2_slotAt 2 = .ok (.bipush 7, 2) := by decide +kernel
theorem dX2_slotAt_4 : decode cX2_slotAt 4 = .ok (.invokestatic 18, 3) := by decide +kernel
theorem dX2_slotAt_7 : decode cX2_slotAt 7 = .ok (.ifCond .eq 12, 3) := by decide +kernel
theorem dX2_slotAt_10 : decode cX2_slotAt 10 = .ok (.aload_n 0, 1) := by decide +kernel
theorem dX2_slotAt_11 : decode cX2_slotAt 11 = .ok (.getfield 11, 3) := by decide +kernel
theorem dX2_slotAt_14 : decode cX2_slotAt 14 = .ok (.iload_n 1, 1) := by decide +kernel
theorem dX2_slotAt_15 : decode cX2_slotAt 15 = .ok (.aaload, 1) := by decide +kernel
theorem dX2_slotAt_16 : decode cX2_slotAt 16 = .ok (.goto 4, 3) := by decide +kernel
theorem dX2_slotAt_19 : decode cX2_slotAt 19 = .ok (.aconst_null, 1) := by decide +kernel
theorem dX2_slotAt_20 : decode cX2_slotAt 20 = .ok (.areturn, 1) := by decide +kernel
theorem dX2_keep_0 : decode cX2_keep 0 = .ok (.aload_n 0, 1) := by decide +kernel
theorem dX2_keep_1 : decode cX2_keep 1 = .ok (.aload_n 0, 1) := by decide +kernel
theorem dX2_keep_2 : decode cX2_keep 2 = .ok (.getfield 22, 3) := by decide +kernel
theorem dX2_keep_5 : decode cX2_keep 5 = .ok (.invokevirtual 26, 3) := by decide +kernel
theorem dX2_keep_8 : decode cX2_keep 8 = .ok (.astore_n 2, 1) := by decide +kernel
theorem dX2_keep_9 : decode cX2_keep 9 = .ok (.aload_n 2, 1) := by decide +kernel
theorem dX2_keep_10 : decode cX2_keep 10 = .ok (.ifnull 8, 3) := by decide +kernel
theorem dX2_keep_13 : decode cX2_keep 13 = .ok (.aload_n 2, 1) := by decide +kernel
theorem dX2_keep_14 : decode cX2_keep 14 = .ok (.aload_n 1, 1) := by decide +kernel
theorem dX2_keep_15 : decode cX2_keep 15 = .ok (.invokevirtual 30, 3) := by decide +kernel
theorem dX2_keep_18 : decode cX2_keep 18 = .ok (.aload_n 0, 1) := by decide +kernel
theorem dX2_keep_19 : decode cX2_keep 19 = .ok (.aload_n 0, 1) := by decide +kernel
theorem dX2_keep_20 : decode cX2_keep 20 = .ok (.getfield 22, 3) := by decide +kernel
theorem dX2_keep_23 : decode cX2_keep 23 = .ok (.iconst 1, 1) := by decide +kernel
theorem dX2_keep_24 : decode cX2_keep 24 = .ok (.iadd, 1) := by decide +kernel
theorem dX2_keep_25 : decode cX2_keep 25 = .ok (.bipush 8, 2) := by decide +kernel
theorem dX2_keep_27 : decode cX2_keep 27 = .ok (.if_icmp .ge 12, 3) := by decide +kernel
theorem dX2_keep_30 : decode cX2_keep 30 = .ok (.aload_n 0, 1) := by decide +kernel
theorem dX2_keep_31 : decode cX2_keep 31 = .ok (.getfield 22, 3) := by decide +kernel
theorem dX2_keep_34 : decode cX2_keep 34 = .ok (.iconst 1, 1) := by decide +kernel
theorem dX2_keep_35 : decode cX2_keep 35 = .ok (.iadd, 1) := by decide +kernel
theorem dX2_keep_36 : decode cX2_keep 36 = .ok (.goto 4, 3) := by decide +kernel
theorem dX2_keep_39 : decode cX2_keep 39 = .ok (.iconst 0, 1) := by decide +kernel
theorem dX2_keep_40 : decode cX2_keep 40 = .ok (.putfield 22, 3) := by decide +kernel
theorem dX2_keep_43 : decode cX2_keep 43 = .ok (.aload_n 0, 1) := by decide +kernel
theorem dX2_keep_44 : decode cX2_keep 44 = .ok (.aload_n 0, 1) := by decide +kernel
theorem dX2_keep_45 : decode cX2_keep 45 = .ok (.getfield 34, 3) := by decide +kernel
theorem dX2_keep_48 : decode cX2_keep 48 = .ok (.bipush 8, 2) := by decide +kernel
theorem dX2_keep_50 : decode cX2_keep 50 = .ok (.if_icmp .ge 12, 3) := by decide +kernel
theorem dX2_keep_53 : decode cX2_keep 53 = .ok (.aload_n 0, 1) := by decide +kernel
theorem dX2_keep_54 : decode cX2_keep 54 = .ok (.getfield 34, 3) := by decide +kernel
theorem dX2_keep_57 : decode cX2_keep 57 = .ok (.iconst 1, 1) := by decide +kernel
theorem dX2_keep_58 : decode cX2_keep 58 = .ok (.iadd, 1) := by decide +kernel
theorem dX2_keep_59 : decode cX2_keep 59 = .ok (.goto 5, 3) := by decide +kernel
theorem dX2_keep_62 : decode cX2_keep 62 = .ok (.bipush 8, 2) := by decide +kernel
theorem dX2_keep_64 : decode cX2_keep 64 = .ok (.putfield 34, 3) := by decide +kernel
theorem dX2_keep_67 : decode cX2_keep 67 = .ok (.return_, 1) := by decide +kernel
theorem dX2_takeBack_0 : decode cX2_takeBack 0 = .ok (.aload_n 0, 1) := by decide +kernel
theorem dX2_takeBack_1 : decode cX2_takeBack 1 = .ok (.aload_n 0, 1) := by decide +kernel
theorem dX2_takeBack_2 : decode cX2_takeBack 2 = .ok (.getfield 22, 3) := by decide +kernel
theorem dX2_takeBack_5 : decode cX2_takeBack 5 = .ok (.ifCond .le 12, 3) := by decide +kernel
theorem dX2_takeBack_8 : decode cX2_takeBack 8 = .ok (.aload_n 0, 1) := by decide +kernel
theorem dX2_takeBack_9 : decode cX2_takeBack 9 = .ok (.getfield 22, 3) := by decide +kernel
theorem dX2_takeBack_12 : decode cX2_takeBack 12 = .ok (.iconst 1, 1) := by decide +kernel
theorem dX2_takeBack_13 : decode cX2_takeBack 13 = .ok (.isub, 1) := by decide +kernel
theorem dX2_takeBack_14 : decode cX2_takeBack 14 = .ok (.goto 5, 3) := by decide +kernel
theorem dX2_takeBack_17 : decode cX2_takeBack 17 = .ok (.bipush 7, 2) := by decide +kernel
theorem dX2_takeBack_19 : decode cX2_takeBack 19 = .ok (.putfield 22, 3) := by decide +kernel
theorem dX2_takeBack_22 : decode cX2_takeBack 22 = .ok (.aload_n 0, 1) := by decide +kernel
theorem dX2_takeBack_23 : decode cX2_takeBack 23 = .ok (.aload_n 0, 1) := by decide +kernel
theorem dX2_takeBack_24 : decode cX2_takeBack 24 = .ok (.getfield 34, 3) := by decide +kernel
theorem dX2_takeBack_27 : decode cX2_takeBack 27 = .ok (.ifCond .le 12, 3) := by decide +kernel
theorem dX2_takeBack_30 : decode cX2_takeBack 30 = .ok (.aload_n 0, 1) := by decide +kernel
theorem dX2_takeBack_31 : decode cX2_takeBack 31 = .ok (.getfield 34, 3) := by decide +kernel
theorem dX2_takeBack_34 : decode cX2_takeBack 34 = .ok (.iconst 1, 1) := by decide +kernel
theorem dX2_takeBack_35 : decode cX2_takeBack 35 = .ok (.isub, 1) := by decide +kernel
theorem dX2_takeBack_36 : decode cX2_takeBack 36 = .ok (.goto 4, 3) := by decide +kernel
theorem dX2_takeBack_39 : decode cX2_takeBack 39 = .ok (.iconst 0, 1) := by decide +kernel
theorem dX2_takeBack_40 : decode cX2_takeBack 40 = .ok (.putfield 34, 3) := by decide +kernel
theorem dX2_takeBack_43 : decode cX2_takeBack 43 = .ok (.aload_n 0, 1) := by decide +kernel
theorem dX2_takeBack_44 : decode cX2_takeBack 44 = .ok (.aload_n 0, 1) := by decide +kernel
theorem dX2_takeBack_45 : decode cX2_takeBack 45 = .ok (.getfield 22, 3) := by decide +kernel
theorem dX2_takeBack_48 : decode cX2_takeBack 48 = .ok (.invokevirtual 26, 3) := by decide +kernel
theorem dX2_takeBack_51 : decode cX2_takeBack 51 = .ok (.astore_n 2, 1) := by decide +kernel
theorem dX2_takeBack_52 : decode cX2_takeBack 52 = .ok (.aload_n 2, 1) := by decide +kernel
theorem dX2_takeBack_53 : decode cX2_takeBack 53 = .ok (.ifnull 8, 3) := by decide +kernel
theorem dX2_takeBack_56 : decode cX2_takeBack 56 = .ok (.aload_n 1, 1) := by decide +kernel
theorem dX2_takeBack_57 : decode cX2_takeBack 57 = .ok (.aload_n 2, 1) := by decide +kernel
theorem dX2_takeBack_58 : decode cX2_takeBack 58 = .ok (.invokevirtual 30, 3) := by decide +kernel
theorem dX2_takeBack_61 : decode cX2_takeBack 61 = .ok (.return_, 1) := by decide +kernel
theorem dX2_forget_0 : decode cX2_forget 0 = .ok (.aload_n 0, 1) := by decide +kernel
theorem dX2_forget_1 : decode cX2_forget 1 = .ok (.iconst 0, 1) := by decide +kernel
theorem dX2_forget_2 : decode cX2_forget 2 = .ok (.putfield 34, 3) := by decide +kernel
theorem dX2_forget_5 : decode cX2_forget 5 = .ok (.return_, 1) := by decide +kernel
theorem dX3_init_0 : decode cX3_init 0 = .ok (.aload_n 0, 1) := by decide +kernel
theorem dX3_init_1 : decode cX3_init 1 = .ok (.invokespecial 3, 3) := by decide +kernel
theorem dX3_init_4 : decode cX3_init 4 = .ok (.aload_n 0, 1) := by decide +kernel
theorem dX3_init_5 : decode cX3_init 5 = .ok (.bipush 80, 2) := by decide +kernel
theorem dX3_init_7 : decode cX3_init 7 = .ok (.newarray .char, 2) := by decide +kernel
theorem dX3_init_9 : decode cX3_init 9 = .ok (.putfield 9, 3) := by decide +kernel
theorem dX3_init_12 : decode cX3_init 12 = .ok (.return_, 1) := by decide +kernel
theorem dX3_clear_0 : decode cX3_clear 0 = .ok (.aload_n 0, 1) := by decide +kernel
theorem dX3_clear_1 : decode cX3_clear 1 = .ok (.iconst 0, 1) := by decide +kernel
theorem dX3_clear_2 : decode cX3_clear 2 = .ok (.putfield 15, 3) := by decide +kernel
theorem dX3_clear_5 : decode cX3_clear 5 = .ok (.return_, 1) := by decide +kernel
theorem dX3_putSign_0 : decode cX3_putSign 0 = .ok (.aload_n 0, 1) := by decide +kernel
theorem dX3_putSign_1 : decode cX3_putSign 1 = .ok (.getfield 15, 3) := by decide +kernel
theorem dX3_putSign_4 : decode cX3_putSign 4 = .ok (.ifCond .lt 32, 3) := by decide +kernel
theorem dX3_putSign_7 : decode cX3_putSign 7 = .ok (.aload_n 0, 1) := by decide +kernel
theorem dX3_putSign_8 : decode cX3_putSign 8 = .ok (.getfield 15, 3) := by decide +kernel
theorem dX3_putSign_11 : decode cX3_putSign 11 = .ok (.bipush 80, 2) := by decide +kernel
theorem dX3_putSign_13 : decode cX3_putSign 13 = .ok (.if_icmp .ge 23, 3) := by decide +kernel
theorem dX3_putSign_16 : decode cX3_putSign 16 = .ok (.aload_n 0, 1) := by decide +kernel
theorem dX3_putSign_17 : decode cX3_putSign 17 = .ok (.getfield 9, 3) := by decide +kernel
theorem dX3_putSign_20 : decode cX3_putSign 20 = .ok (.aload_n 0, 1) := by decide +kernel
theorem dX3_putSign_21 : decode cX3_putSign 21 = .ok (.getfield 15, 3) := by decide +kernel
theorem dX3_putSign_24 : decode cX3_putSign 24 = .ok (.iload_n 1, 1) := by decide +kernel
theorem dX3_putSign_25 : decode cX3_putSign 25 = .ok (.castore, 1) := by decide +kernel
theorem dX3_putSign_26 : decode cX3_putSign 26 = .ok (.aload_n 0, 1) := by decide +kernel
theorem dX3_putSign_27 : decode cX3_putSign 27 = .ok (.dup, 1) := by decide +kernel
theorem dX3_putSign_28 : decode cX3_putSign 28 = .ok (.getfield 15, 3) := by decide +kernel
theorem dX3_putSign_31 : decode cX3_putSign 31 = .ok (.iconst 1, 1) := by decide +kernel
theorem dX3_putSign_32 : decode cX3_putSign 32 = .ok (.iadd, 1) := by decide +kernel
theorem dX3_putSign_33 : decode cX3_putSign 33 = .ok (.putfield 15, 3) := by decide +kernel
theorem dX3_putSign_36 : decode cX3_putSign 36 = .ok (.return_, 1) := by decide +kernel
theorem dX3_putNumber_0 : decode cX3_putNumber 0 = .ok (.iload_n 1, 1) := by decide +kernel
theorem dX3_putNumber_1 : decode cX3_putNumber 1 = .ok (.bipush 10, 2) := by decide +kernel
theorem dX3_putNumber_3 : decode cX3_putNumber 3 = .ok (.if_icmp .lt 18, 3) := by decide +kernel
theorem dX3_putNumber_6 : decode cX3_putNumber 6 = .ok (.aload_n 0, 1) := by decide +kernel
theorem dX3_putNumber_7 : decode cX3_putNumber 7 = .ok (.bipush 48, 2) := by decide +kernel
theorem dX3_putNumber_9 : decode cX3_putNumber 9 = .ok (.iload_n 1, 1) := by decide +kernel
theorem dX3_putNumber_10 : decode cX3_putNumber 10 = .ok (.bipush 10, 2) := by decide +kernel
theorem dX3_putNumber_12 : decode cX3_putNumber 12 = .ok (.idiv, 1) := by decide +kernel
theorem dX3_putNumber_13 : decode cX3_putNumber 13 = .ok (.bipush 10, 2) := by decide +kernel
theorem dX3_putNumber_15 : decode cX3_putNumber 15 = .ok (.irem, 1) := by decide +kernel
theorem dX3_putNumber_16 : decode cX3_putNumber 16 = .ok (.iadd, 1) := by decide +kernel
theorem dX3_putNumber_17 : decode cX3_putNumber 17 = .ok (.i2c, 1) := by decide +kernel
theorem dX3_putNumber_18 : decode cX3_putNumber 18 = .ok (.invokevirtual 19, 3) := by decide +kernel
theorem dX3_putNumber_21 : decode cX3_putNumber 21 = .ok (.aload_n 0, 1) := by decide +kernel
theorem dX3_putNumber_22 : decode cX3_putNumber 22 = .ok (.bipush 48, 2) := by decide +kernel
theorem dX3_putNumber_24 : decode cX3_putNumber 24 = .ok (.iload_n 1, 1) := by decide +kernel
theorem dX3_putNumber_25 : decode cX3_putNumber 25 = .ok (.bipush 10, 2) := by decide +kernel
theorem dX3_putNumber_27 : decode cX3_putNumber 27 = .ok (.irem, 1) := by decide +kernel
theorem dX3_putNumber_28 : decode cX3_putNumber 28 = .ok (.iadd, 1) := by decide +kernel
theorem dX3_putNumber_29 : decode cX3_putNumber 29 = .ok (.i2c, 1) := by decide +kernel
theorem dX3_putNumber_30 : decode cX3_putNumber 30 = .ok (.invokevirtual 19, 3) := by decide +kernel
theorem dX3_putNumber_33 : decode cX3_putNumber 33 = .ok (.return_, 1) := by decide +kernel
theorem dX4_init_0 : decode cX4_init 0 = .ok (.aload_n 0, 1) := by decide +kernel
theorem dX4_init_1 : decode cX4_init 1 = .ok (.invokespecial 3, 3) := by decide +kernel
theorem dX4_init_4 : decode cX4_init 4 = .ok (.aload_n 0, 1) := by decide +kernel
theorem dX4_init_5 : decode cX4_init 5 = .ok (.sipush 1000, 3) := by decide +kernel
theorem dX4_init_8 : decode cX4_init 8 = .ok (.putfield 9, 3) := by decide +kernel
theorem dX4_init_11 : decode cX4_init 11 = .ok (.aload_n 0, 1) := by decide +kernel
theorem dX4_init_12 : decode cX4_init 12 = .ok (.iconst 1, 1) := by decide +kernel
theorem dX4_init_13 : decode cX4_init 13 = .ok (.putfield 15, 3) := by decide +kernel
theorem dX4_init_16 : decode cX4_init 16 = .ok (.aload_n 0, 1) := by decide +kernel
theorem dX4_init_17 : decode cX4_init 17 = .ok (.iconst 5, 1) := by decide +kernel
theorem dX4_init_18 : decode cX4_init 18 = .ok (.putfield 18, 3) := by decide +kernel
theorem dX4_init_21 : decode cX4_init 21 = .ok (.return_, 1) := by decide +kernel
theorem dX4_takeFrom_0 : decode cX4_takeFrom 0 = .ok (.aload_n 0, 1) := by decide +kernel
theorem dX4_takeFrom_1 : decode cX4_takeFrom 1 = .ok (.aload_n 1, 1) := by decide +kernel
theorem dX4_takeFrom_2 : decode cX4_takeFrom 2 = .ok (.getfield 9, 3) := by decide +kernel
theorem dX4_takeFrom_5 : decode cX4_takeFrom 5 = .ok (.putfield 9, 3) := by decide +kernel
theorem dX4_takeFrom_8 : decode cX4_takeFrom 8 = .ok (.aload_n 0, 1) := by decide +kernel
theorem dX4_takeFrom_9 : decode cX4_takeFrom 9 = .ok (.aload_n 1, 1) := by decide +kernel
theorem dX4_takeFrom_10 : decode cX4_takeFrom 10 = .ok (.getfield 15, 3) := by decide +kernel
theorem dX4_takeFrom_13 : decode cX4_takeFrom 13 = .ok (.putfield 15, 3) := by decide +kernel
theorem dX4_takeFrom_16 : decode cX4_takeFrom 16 = .ok (.aload_n 0, 1) := by decide +kernel
theorem dX4_takeFrom_17 : decode cX4_takeFrom 17 = .ok (.aload_n 1, 1) := by decide +kernel
theorem dX4_takeFrom_18 : decode cX4_takeFrom 18 = .ok (.getfield 18, 3) := by decide +kernel
theorem dX4_takeFrom_21 : decode cX4_takeFrom 21 = .ok (.putfield 18, 3) := by decide +kernel
theorem dX4_takeFrom_24 : decode cX4_takeFrom 24 = .ok (.aload_n 0, 1) := by decide +kernel
theorem dX4_takeFrom_25 : decode cX4_takeFrom 25 = .ok (.aload_n 1, 1) := by decide +kernel
theorem dX4_takeFrom_26 : decode cX4_takeFrom 26 = .ok (.getfield 21, 3) := by decide +kernel
theorem dX4_takeFrom_29 : decode cX4_takeFrom 29 = .ok (.putfield 21, 3) := by decide +kernel
theorem dX4_takeFrom_32 : decode cX4_takeFrom 32 = .ok (.aload_n 0, 1) := by decide +kernel
theorem dX4_takeFrom_33 : decode cX4_takeFrom 33 = .ok (.aload_n 1, 1) := by decide +kernel
theorem dX4_takeFrom_34 : decode cX4_takeFrom 34 = .ok (.getfield 24, 3) := by decide +kernel
theorem dX4_takeFrom_37 : decode cX4_takeFrom 37 = .ok (.putfield 24, 3) := by decide +kernel
theorem dX4_takeFrom_40 : decode cX4_takeFrom 40 = .ok (.aload_n 0, 1) := by decide +kernel
theorem dX4_takeFrom_41 : decode cX4_takeFrom 41 = .ok (.aload_n 1, 1) := by decide +kernel
theorem dX4_takeFrom_42 : decode cX4_takeFrom 42 = .ok (.getfield 27, 3) := by decide +kernel
theorem dX4_takeFrom_45 : decode cX4_takeFrom 45 = .ok (.putfield 27, 3) := by decide +kernel
theorem dX4_takeFrom_48 : decode cX4_takeFrom 48 = .ok (.return_, 1) := by decide +kernel
theorem dX4_cost_0 : decode cX4_cost 0 = .ok (.aload_n 0, 1) := by decide +kernel
theorem dX4_cost_1 : decode cX4_cost 1 = .ok (.getfield 15, 3) := by decide +kernel
theorem dX4_cost_4 : decode cX4_cost 4 = .ok (.lookupswitch 32 #[(0, 28), (1, 30)], 28) := by decide +kernel
theorem dX4_cost_32 : decode cX4_cost 32 = .ok (.iconst 1, 1) := by decide +kernel
theorem dX4_cost_33 : decode cX4_cost 33 = .ok (.ireturn, 1) := by decide +kernel
theorem dX4_cost_34 : decode cX4_cost 34 = .ok (.iconst 2, 1) := by decide +kernel
theorem dX4_cost_35 : decode cX4_cost 35 = .ok (.ireturn, 1) := by decide +kernel
theorem dX4_cost_36 : decode cX4_cost 36 = .ok (.iconst 4, 1) := by decide +kernel
theorem dX4_cost_37 : decode cX4_cost 37 = .ok (.ireturn, 1) := by decide +kernel
theorem dX4_spend_0 : decode cX4_spend 0 = .ok (.aload_n 0, 1) := by decide +kernel
theorem dX4_spend_1 : decode cX4_spend 1 = .ok (.aload_n 0, 1) := by decide +kernel
theorem dX4_spend_2 : decode cX4_spend 2 = .ok (.getfield 9, 3) := by decide +kernel
theorem dX4_spend_5 : decode cX4_spend 5 = .ok (.iload_n 1, 1) := by decide +kernel
theorem dX4_spend_6 : decode cX4_spend 6 = .ok (.if_icmp .le 12, 3) := by decide +kernel
theorem dX4_spend_9 : decode cX4_spend 9 = .ok (.aload_n 0, 1) := by decide +kernel
theorem dX4_spend_10 : decode cX4_spend 10 = .ok (.getfield 9, 3) := by decide +kernel
theorem dX4_spend_13 : decode cX4_spend 13 = .ok (.iload_n 1, 1) := by decide +kernel
theorem dX4_spend_14 : decode cX4_spend 14 = .ok (.isub, 1) := by decide +kernel
theorem dX4_spend_15 : decode cX4_spend 15 = .ok (.goto 4, 3) := by decide +kernel
theorem dX4_spend_18 : decode cX4_spend 18 = .ok (.iconst 0, 1) := by decide +kernel
theorem dX4_spend_19 : decode cX4_spend 19 = .ok (.putfield 9, 3) := by decide +kernel
theorem dX4_spend_22 : decode cX4_spend 22 = .ok (.return_, 1) := by decide +kernel
theorem dX4_refill_0 : decode cX4_refill 0 = .ok (.aload_n 0, 1) := by decide +kernel
theorem dX4_refill_1 : decode cX4_refill 1 = .ok (.aload_n 0, 1) := by decide +kernel
theorem dX4_refill_2 : decode cX4_refill 2 = .ok (.getfield 9, 3) := by decide +kernel
theorem dX4_refill_5 : decode cX4_refill 5 = .ok (.iload_n 1, 1) := by decide +kernel
theorem dX4_refill_6 : decode cX4_refill 6 = .ok (.iadd, 1) := by decide +kernel
theorem dX4_refill_7 : decode cX4_refill 7 = .ok (.sipush 1000, 3) := by decide +kernel
theorem dX4_refill_10 : decode cX4_refill 10 = .ok (.if_icmp .ge 12, 3) := by decide +kernel
theorem dX4_refill_13 : decode cX4_refill 13 = .ok (.aload_n 0, 1) := by decide +kernel
theorem dX4_refill_14 : decode cX4_refill 14 = .ok (.getfield 9, 3) := by decide +kernel
theorem dX4_refill_17 : decode cX4_refill 17 = .ok (.iload_n 1, 1) := by decide +kernel
theorem dX4_refill_18 : decode cX4_refill 18 = .ok (.iadd, 1) := by decide +kernel
theorem dX4_refill_19 : decode cX4_refill 19 = .ok (.goto 6, 3) := by decide +kernel
theorem dX4_refill_22 : decode cX4_refill 22 = .ok (.sipush 1000, 3) := by decide +kernel
theorem dX4_refill_25 : decode cX4_refill 25 = .ok (.putfield 9, 3) := by decide +kernel
theorem dX4_refill_28 : decode cX4_refill 28 = .ok (.aload_n 0, 1) := by decide +kernel
theorem dX4_refill_29 : decode cX4_refill 29 = .ok (.getfield 9, 3) := by decide +kernel
theorem dX4_refill_32 : decode cX4_refill 32 = .ok (.ireturn, 1) := by decide +kernel
theorem dX4_exchangeMode_0 : decode cX4_exchangeMode 0 = .ok (.aload_n 0, 1) := by decide +kernel
theorem dX4_exchangeMode_1 : decode cX4_exchangeMode 1 = .ok (.getfield 15, 3) := by decide +kernel
theorem dX4_exchangeMode_4 : decode cX4_exchangeMode 4 = .ok (.istore_n 2, 1) := by decide +kernel
theorem dX4_exchangeMode_5 : decode cX4_exchangeMode 5 = .ok (.aload_n 0, 1) := by decide +kernel
theorem dX4_exchangeMode_6 : decode cX4_exchangeMode 6 = .ok (.iload_n 1, 1) := by decide +kernel
theorem dX4_exchangeMode_7 : decode cX4_exchangeMode 7 = .ok (.putfield 15, 3) := by decide +kernel
theorem dX4_exchangeMode_10 : decode cX4_exchangeMode 10 = .ok (.iload_n 2, 1) := by decide +kernel
theorem dX4_exchangeMode_11 : decode cX4_exchangeMode 11 = .ok (.ireturn, 1) := by decide +kernel
theorem dX4_exchangeTolerance_0 : decode cX4_exchangeTolerance 0 = .ok (.aload_n 0, 1) := by decide +kernel
theorem dX4_exchangeTolerance_1 : decode cX4_exchangeTolerance 1 = .ok (.getfield 18, 3) := by decide +kernel
theorem dX4_exchangeTolerance_4 : decode cX4_exchangeTolerance 4 = .ok (.istore_n 2, 1) := by decide +kernel
theorem dX4_exchangeTolerance_5 : decode cX4_exchangeTolerance 5 = .ok (.aload_n 0, 1) := by decide +kernel
theorem dX4_exchangeTolerance_6 : decode cX4_exchangeTolerance 6 = .ok (.iload_n 1, 1) := by decide +kernel
theorem dX4_exchangeTolerance_7 : decode cX4_exchangeTolerance 7 = .ok (.putfield 18, 3) := by decide +kernel
theorem dX4_exchangeTolerance_10 : decode cX4_exchangeTolerance 10 = .ok (.iload_n 2, 1) := by decide +kernel
theorem dX4_exchangeTolerance_11 : decode cX4_exchangeTolerance 11 = .ok (.ireturn, 1) := by decide +kernel
theorem dX4_leftByDivision_0 : decode cX4_leftByDivision 0 = .ok (.aload_n 0, 1) := by decide +kernel
theorem dX4_leftByDivision_1 : decode cX4_leftByDivision 1 = .ok (.invokevirtual 30, 3) := by decide +kernel
theorem dX4_leftByDivision_4 : decode cX4_leftByDivision 4 = .ok (.istore_n 1, 1) := by decide +kernel
theorem dX4_leftByDivision_5 : decode cX4_leftByDivision 5 = .ok (.iload_n 1, 1) := by decide +kernel
theorem dX4_leftByDivision_6 : decode cX4_leftByDivision 6 = .ok (.ifCond .le 16, 3) := by decide +kernel
theorem dX4_leftByDivision_9 : decode cX4_leftByDivision 9 = .ok (.aload_n 0, 1) := by decide +kernel
theorem dX4_leftByDivision_10 : decode cX4_leftByDivision 10 = .ok (.getfield 9, 3) := by decide +kernel
theorem dX4_leftByDivision_13 : decode cX4_leftByDivision 13 = .ok (.iload_n 1, 1) := by decide +kernel
theorem dX4_leftByDivision_14 : decode cX4_leftByDivision 14 = .ok (.iadd, 1) := by decide +kernel
theorem dX4_leftByDivision_15 : decode cX4_leftByDivision 15 = .ok (.iconst 1, 1) := by decide +kernel
theorem dX4_leftByDivision_16 : decode cX4_leftByDivision 16 = .ok (.isub, 1) := by decide +kernel
theorem dX4_leftByDivision_17 : decode cX4_leftByDivision 17 = .ok (.iload_n 1, 1) := by decide +kernel
theorem dX4_leftByDivision_18 : decode cX4_leftByDivision 18 = .ok (.idiv, 1) := by decide +kernel
theorem dX4_leftByDivision_19 : decode cX4_leftByDivision 19 = .ok (.goto 4, 3) := by decide +kernel
theorem dX4_leftByDivision_22 : decode cX4_leftByDivision 22 = .ok (.iconst 0, 1) := by decide +kernel
theorem dX4_leftByDivision_23 : decode cX4_leftByDivision 23 = .ok (.ireturn, 1) := by decide +kernel
theorem dX4_leftByCounting_0 : decode cX4_leftByCounting 0 = .ok (.aload_n 0, 1) := by decide +kernel
theorem dX4_leftByCounting_1 : decode cX4_leftByCounting 1 = .ok (.invokevirtual 30, 3) := by decide +kernel
theorem dX4_leftByCounting_4 : decode cX4_leftByCounting 4 = .ok (.istore_n 1, 1) := by decide +kernel
theorem dX4_leftByCounting_5 : decode cX4_leftByCounting 5 = .ok (.aload_n 0, 1) := by decide +kernel
theorem dX4_leftByCounting_6 : decode cX4_leftByCounting 6 = .ok (.getfield 9, 3) := by decide +kernel
theorem dX4_leftByCounting_9 : decode cX4_leftByCounting 9 = .ok (.istore_n 2, 1) := by decide +kernel
theorem dX4_leftByCounting_10 : decode cX4_leftByCounting 10 = .ok (.iconst 0, 1) := by decide +kernel
theorem dX4_leftByCounting_11 : decode cX4_leftByCounting 11 = .ok (.istore_n 3, 1) := by decide +kernel
theorem dX4_leftByCounting_12 : decode cX4_leftByCounting 12 = .ok (.iload_n 2, 1) := by decide +kernel
theorem dX4_leftByCounting_13 : decode cX4_leftByCounting 13 = .ok (.ifCond .le 20, 3) := by decide +kernel
theorem dX4_leftByCounting_16 : decode cX4_leftByCounting 16 = .ok (.iload_n 3, 1) := by decide +kernel
theorem dX4_leftByCounting_17 : decode cX4_leftByCounting 17 = .ok (.sipush 1000, 3) := by decide +kernel
theorem dX4_leftByCounting_20 : decode cX4_leftByCounting 20 = .ok (.if_icmp .ge 13, 3) := by decide +kernel
theorem dX4_leftByCounting_23 : decode cX4_leftByCounting 23 = .ok (.iload_n 2, 1) := by decide +kernel
theorem dX4_leftByCounting_24 : decode cX4_leftByCounting 24 = .ok (.iload_n 1, 1) := by decide +kernel
theorem dX4_leftByCounting_25 : decode cX4_leftByCounting 25 = .ok (.isub, 1) := by decide +kernel
theorem dX4_leftByCounting_26 : decode cX4_leftByCounting 26 = .ok (.istore_n 2, 1) := by decide +kernel
theorem dX4_leftByCounting_27 : decode cX4_leftByCounting 27 = .ok (.iinc 3 1, 3) := by decide +kernel
theorem dX4_leftByCounting_30 : decode cX4_leftByCounting 30 = .ok (.goto (-18), 3) := by decide +kernel
theorem dX4_leftByCounting_33 : decode cX4_leftByCounting 33 = .ok (.iload_n 3, 1) := by decide +kernel
theorem dX4_leftByCounting_34 : decode cX4_leftByCounting 34 = .ok (.ireturn, 1) := by decide +kernel
theorem dX5_init_0 : decode cX5_init 0 = .ok (.aload_n 0, 1) := by decide +kernel
theorem dX5_init_1 : decode cX5_init 1 = .ok (.invokespecial 3, 3) := by decide +kernel
theorem dX5_init_4 : decode cX5_init 4 = .ok (.aload_n 0, 1) := by decide +kernel
theorem dX5_init_5 : decode cX5_init 5 = .ok (.bipush 12, 2) := by decide +kernel
theorem dX5_init_7 : decode cX5_init 7 = .ok (.newarray .int, 2) := by decide +kernel
theorem dX5_init_9 : decode cX5_init 9 = .ok (.putfield 9, 3) := by decide +kernel
theorem dX5_init_12 : decode cX5_init 12 = .ok (.aload_n 0, 1) := by decide +kernel
theorem dX5_init_13 : decode cX5_init 13 = .ok (.bipush 12, 2) := by decide +kernel
theorem dX5_init_15 : decode cX5_init 15 = .ok (.newarray .int, 2) := by decide +kernel
theorem dX5_init_17 : decode cX5_init 17 = .ok (.putfield 15, 3) := by decide +kernel
theorem dX5_init_20 : decode cX5_init 20 = .ok (.aload_n 0, 1) := by decide +kernel
theorem dX5_init_21 : decode cX5_init 21 = .ok (.bipush 12, 2) := by decide +kernel
theorem dX5_init_23 : decode cX5_init 23 = .ok (.newarray .int, 2) := by decide +kernel
theorem dX5_init_25 : decode cX5_init 25 = .ok (.putfield 18, 3) := by decide +kernel
theorem dX5_init_28 : decode cX5_init 28 = .ok (.aload_n 0, 1) := by decide +kernel
theorem dX5_init_29 : decode cX5_init 29 = .ok (.bipush 12, 2) := by decide +kernel
theorem dX5_init_31 : decode cX5_init 31 = .ok (.newarray .boolean, 2) := by decide +kernel
theorem dX5_init_33 : decode cX5_init 33 = .ok (.putfield 21, 3) := by decide +kernel
theorem dX5_init_36 : decode cX5_init 36 = .ok (.return_, 1) := by decide +kernel
theorem dX5_settledDistance_0 : decode cX5_settledDistance 0 = .ok (.iload_n 1, 1) := by decide +kernel
theorem dX5_settledDistance_1 : decode cX5_settledDistance 1 = .ok (.iconst 0, 1) := by decide +kernel
theorem dX5_settledDistance_2 : decode cX5_settledDistance 2 = .ok (.bipush 11, 2) := by decide +kernel
theorem dX5_settledDistance_4 : decode cX5_settledDistance 4 = .ok (.invokestatic 25, 3) := by decide +kernel
theorem dX5_settledDistance_7 : decode cX5_settledDistance 7 = .ok (.ifCond .eq 12, 3) := by decide +kernel
theorem dX5_settledDistance_10 : decode cX5_settledDistance 10 = .ok (.aload_n 0, 1) := by decide +kernel
theorem dX5_settledDistance_11 : decode cX5_settledDistance 11 = .ok (.getfield 9, 3) := by decide +kernel
theorem dX5_settledDistance_14 : decode cX5_settledDistance 14 = .ok (.iload_n 1, 1) := by decide +kernel
theorem dX5_settledDistance_15 : decode cX5_settledDistance 15 = .ok (.iaload, 1) := by decide +kernel
theorem dX5_settledDistance_16 : decode cX5_settledDistance 16 = .ok (.goto 5, 3) := by decide +kernel
theorem dX5_settledDistance_19 : decode cX5_settledDistance 19 = .ok (.ldc 29, 2) := by decide +kernel
theorem dX5_settledDistance_21 : decode cX5_settledDistance 21 = .ok (.ireturn, 1) := by decide +kernel
theorem dX5_relaxedDistance_0 : decode cX5_relaxedDistance 0 = .ok (.iload_n 1, 1) := by decide +kernel
theorem dX5_relaxedDistance_1 : decode cX5_relaxedDistance 1 = .ok (.iconst 0, 1) := by decide +kernel
theorem dX5_relaxedDistance_2 : decode cX5_relaxedDistance 2 = .ok (.bipush 11, 2) := by decide +kernel
theorem dX5_relaxedDistance_4 : decode cX5_relaxedDistance 4 = .ok (.invokestatic 25, 3) := by decide +kernel
theorem dX5_relaxedDistance_7 : decode cX5_relaxedDistance 7 = .ok (.ifCond .eq 12, 3) := by decide +kernel
theorem dX5_relaxedDistance_10 : decode cX5_relaxedDistance 10 = .ok (.aload_n 0, 1) := by decide +kernel
theorem dX5_relaxedDistance_11 : decode cX5_relaxedDistance 11 = .ok (.getfield 15, 3) := by decide +kernel
theorem dX5_relaxedDistance_14 : decode cX5_relaxedDistance 14 = .ok (.iload_n 1, 1) := by decide +kernel
theorem dX5_relaxedDistance_15 : decode cX5_relaxedDistance 15 = .ok (.iaload, 1) := by decide +kernel
theorem dX5_relaxedDistance_16 : decode cX5_relaxedDistance 16 = .ok (.goto 5, 3) := by decide +kernel
theorem dX5_relaxedDistance_19 : decode cX5_relaxedDistance 19 = .ok (.ldc 29, 2) := by decide +kernel
theorem dX5_relaxedDistance_21 : decode cX5_relaxedDistance 21 = .ok (.ireturn, 1) := by decide +kernel
theorem dX5_clearMarks_0 : decode cX5_clearMarks 0 = .ok (.iconst 0, 1) := by decide +kernel
theorem dX5_clearMarks_1 : decode cX5_clearMarks 1 = .ok (.istore_n 1, 1) := by decide +kernel
theorem dX5_clearMarks_2 : decode cX5_clearMarks 2 = .ok (.iload_n 1, 1) := by decide +kernel
theorem dX5_clearMarks_3 : decode cX5_clearMarks 3 = .ok (.bipush 12, 2) := by decide +kernel
theorem dX5_clearMarks_5 : decode cX5_clearMarks 5 = .ok (.if_icmp .ge 16, 3) := by decide +kernel
theorem dX5_clearMarks_8 : decode cX5_clearMarks 8 = .ok (.aload_n 0, 1) := by decide +kernel
theorem dX5_clearMarks_9 : decode cX5_clearMarks 9 = .ok (.getfield 21, 3) := by decide +kernel
theorem dX5_clearMarks_12 : decode cX5_clearMarks 12 = .ok (.iload_n 1, 1) := by decide +kernel
theorem dX5_clearMarks_13 : decode cX5_clearMarks 13 = .ok (.iconst 0, 1) := by decide +kernel
theorem dX5_clearMarks_14 : decode cX5_clearMarks 14 = .ok (.bastore, 1) := by decide +kernel
theorem dX5_clearMarks_15 : decode cX5_clearMarks 15 = .ok (.iinc 1 1, 3) := by decide +kernel
theorem dX5_clearMarks_18 : decode cX5_clearMarks 18 = .ok (.goto (-16), 3) := by decide +kernel
theorem dX5_clearMarks_21 : decode cX5_clearMarks 21 = .ok (.return_, 1) := by decide +kernel
theorem dX5_startRow_0 : decode cX5_startRow 0 = .ok (.iconst 0, 1) := by decide +kernel
theorem dX5_startRow_1 : decode cX5_startRow 1 = .ok (.istore_n 2, 1) := by decide +kernel
theorem dX5_startRow_2 : decode cX5_startRow 2 = .ok (.iload_n 2, 1) := by decide +kernel
theorem dX5_startRow_3 : decode cX5_startRow 3 = .ok (.bipush 12, 2) := by decide +kernel
theorem dX5_startRow_5 : decode cX5_startRow 5 = .ok (.if_icmp .ge 29, 3) := by decide +kernel
theorem dX5_startRow_8 : decode cX5_startRow 8 = .ok (.iload_n 2, 1) := by decide +kernel
theorem dX5_startRow_9 : decode cX5_startRow 9 = .ok (.aload_n 0, 1) := by decide +kernel
theorem dX5_startRow_10 : decode cX5_startRow 10 = .ok (.arraylength, 1) := by decide +kernel
theorem dX5_startRow_11 : decode cX5_startRow 11 = .ok (.if_icmp .ge 23, 3) := by decide +kernel
theorem dX5_startRow_14 : decode cX5_startRow 14 = .ok (.aload_n 0, 1) := by decide +kernel
theorem dX5_startRow_15 : decode cX5_startRow 15 = .ok (.iload_n 2, 1) := by decide +kernel
theorem dX5_startRow_16 : decode cX5_startRow 16 = .ok (.iload_n 2, 1) := by decide +kernel
theorem dX5_startRow_17 : decode cX5_startRow 17 = .ok (.iload_n 1, 1) := by decide +kernel
theorem dX5_startRow_18 : decode cX5_startRow 18 = .ok (.if_icmp .ne 7, 3) := by decide +kernel
theorem dX5_startRow_21 : decode cX5_startRow 21 = .ok (.iconst 0, 1) := by decide +kernel
theorem dX5_startRow_22 : decode cX5_startRow 22 = .ok (.goto 5, 3) := by decide +kernel
theorem dX5_startRow_25 : decode cX5_startRow 25 = .ok (.ldc 29, 2) := by decide +kernel
theorem dX5_startRow_27 : decode cX5_startRow 27 = .ok (.iastore, 1) := by decide +kernel
theorem dX5_startRow_28 : decode cX5_startRow 28 = .ok (.iinc 2 1, 3) := by decide +kernel
theorem dX5_startRow_31 : decode cX5_startRow 31 = .ok (.goto (-29), 3) := by decide +kernel
theorem dX5_startRow_34 : decode cX5_startRow 34 = .ok (.return_, 1) := by decide +kernel
theorem dX5_settleFrom_0 : decode cX5_settleFrom 0 = .ok (.aload_n 0, 1) := by decide +kernel
theorem dX5_settleFrom_1 : decode cX5_settleFrom 1 = .ok (.getfield 9, 3) := by decide +kernel
theorem dX5_settleFrom_4 : decode cX5_settleFrom 4 = .ok (.iload_n 2, 1) := by decide +kernel
theorem dX5_settleFrom_5 : decode cX5_settleFrom 5 = .ok (.invokestatic 30, 3) := by decide +kernel
theorem dX5_settleFrom_8 : decode cX5_settleFrom 8 = .ok (.aload_n 0, 1) := by decide +kernel
theorem dX5_settleFrom_9 : decode cX5_settleFrom 9 = .ok (.invokevirtual 34, 3) := by decide +kernel
theorem dX5_settleFrom_12 : decode cX5_settleFrom 12 = .ok (.iconst 0, 1) := by decide +kernel
theorem dX5_settleFrom_13 : decode cX5_settleFrom 13 = .ok (.istore_n 3, 1) := by decide +kernel
theorem dX5_settleFrom_14 : decode cX5_settleFrom 14 = .ok (.iload_n 3, 1) := by decide +kernel
theorem dX5_settleFrom_15 : decode cX5_settleFrom 15 = .ok (.bipush 12, 2) := by decide +kernel
theorem dX5_settleFrom_17 : decode cX5_settleFrom 17 = .ok (.if_icmp .ge 79, 3) := by decide +kernel
theorem dX5_settleFrom_20 : decode cX5_settleFrom 20 = .ok (.aload_n 0, 1) := by decide +kernel
theorem dX5_settleFrom_21 : decode cX5_settleFrom 21 = .ok (.invokevirtual 37, 3) := by decide +kernel
theorem dX5_settleFrom_24 : decode cX5_settleFrom 24 = .ok (.istore 4, 2) := by decide +kernel
theorem dX5_settleFrom_26 : decode cX5_settleFrom 26 = .ok (.iload 4, 2) := by decide +kernel
theorem dX5_settleFrom_28 : decode cX5_settleFrom 28 = .ok (.iconst (-1), 1) := by decide +kernel
theorem dX5_settleFrom_29 : decode cX5_settleFrom 29 = .ok (.if_icmp .ne 4, 3) := by decide +kernel
theorem dX5_settleFrom_32 : decode cX5_settleFrom 32 = .ok (.return_, 1) := by decide +kernel
theorem dX5_settleFrom_33 : decode cX5_settleFrom 33 = .ok (.aload_n 0, 1) := by decide +kernel
theorem dX5_settleFrom_34 : decode cX5_settleFrom 34 = .ok (.getfield 21, 3) := by decide +kernel
theorem dX5_settleFrom_37 : decode cX5_settleFrom 37 = .ok (.iload 4, 2) := by decide +kernel
theorem dX5_settleFrom_39 : decode cX5_settleFrom 39 = .ok (.iconst 1, 1) := by decide +kernel
theorem dX5_settleFrom_40 : decode cX5_settleFrom 40 = .ok (.bastore, 1) := by decide +kernel
theorem dX5_settleFrom_41 : decode cX5_settleFrom 41 = .ok (.iconst 0, 1) := by decide +kernel
theorem dX5_settleFrom_42 : decode cX5_settleFrom 42 = .ok (.istore 5, 2) := by decide +kernel
theorem dX5_settleFrom_44 : decode cX5_settleFrom 44 = .ok (.iload 5, 2) := by decide +kernel
theorem dX5_settleFrom_46 : decode cX5_settleFrom 46 = .ok (.aload_n 1, 1) := by decide +kernel
theorem dX5_settleFrom_47 : decode cX5_settleFrom 47 = .ok (.getfield 41, 3) := by decide +kernel
theorem dX5_settleFrom_50 : decode cX5_settleFrom 50 = .ok (.if_icmp .ge 40, 3) := by decide +kernel
theorem dX5_settleFrom_53 : decode cX5_settleFrom 53 = .ok (.aload_n 1, 1) := by decide +kernel
theorem dX5_settleFrom_54 : decode cX5_settleFrom 54 = .ok (.iload 4, 2) := by decide +kernel
theorem dX5_settleFrom_56 : decode cX5_settleFrom 56 = .ok (.iload 5, 2) := by decide +kernel
theorem dX5_settleFrom_58 : decode cX5_settleFrom 58 = .ok (.invokevirtual 47, 3) := by decide +kernel
theorem dX5_settleFrom_61 : decode cX5_settleFrom 61 = .ok (.ifCond .eq 23, 3) := by decide +kernel
theorem dX5_settleFrom_64 : decode cX5_settleFrom 64 = .ok (.aload_n 0, 1) := by decide +kernel
theorem dX5_settleFrom_65 : decode cX5_settleFrom 65 = .ok (.getfield 9, 3) := by decide +kernel
theorem dX5_settleFrom_68 : decode cX5_settleFrom 68 = .ok (.iload 4, 2) := by decide +kernel
theorem dX5_settleFrom_70 : decode cX5_settleFrom 70 = .ok (.iload 5, 2) := by decide +kernel
theorem dX5_settleFrom_72 : decode cX5_settleFrom 72 = .ok (.aload_n 1, 1) := by decide +kernel
theorem dX5_settleFrom_73 : decode cX5_settleFrom 73 = .ok (.iload 4, 2) := by decide +kernel
theorem dX5_settleFrom_75 : decode cX5_settleFrom 75 = .ok (.iload 5, 2) := by decide +kernel
theorem dX5_settleFrom_77 : decode cX5_settleFrom 77 = .ok (.invokevirtual 51, 3) := by decide +kernel
theorem dX5_settleFrom_80 : decode cX5_settleFrom 80 = .ok (.invokestatic 55, 3) := by decide +kernel
theorem dX5_settleFrom_83 : decode cX5_settleFrom 83 = .ok (.pop, 1) := by decide +kernel
theorem dX5_settleFrom_84 : decode cX5_settleFrom 84 = .ok (.iinc 5 1, 3) := by decide +kernel
theorem dX5_settleFrom_87 : decode cX5_settleFrom 87 = .ok (.goto (-43), 3) := by decide +kernel
theorem dX5_settleFrom_90 : decode cX5_settleFrom 90 = .ok (.iinc 3 1, 3) := by decide +kernel
theorem dX5_settleFrom_93 : decode cX5_settleFrom 93 = .ok (.goto (-79), 3) := by decide +kernel
theorem dX5_settleFrom_96 : decode cX5_settleFrom 96 = .ok (.return_, 1) := by decide +kernel
theorem dX5_closestUnmarked_0 : decode cX5_closestUnmarked 0 = .ok (.iconst (-1), 1) := by decide +kernel
theorem dX5_closestUnmarked_1 : decode cX5_closestUnmarked 1 = .ok (.istore_n 1, 1) := by decide +kernel
theorem dX5_closestUnmarked_2 : decode cX5_closestUnmarked 2 = .ok (.ldc 29, 2) := by decide +kernel
theorem dX5_closestUnmarked_4 : decode cX5_closestUnmarked 4 = .ok (.istore_n 2, 1) := by decide +kernel
theorem dX5_closestUnmarked_5 : decode cX5_closestUnmarked 5 = .ok (.iconst 0, 1) := by decide +kernel
theorem dX5_closestUnmarked_6 : decode cX5_closestUnmarked 6 = .ok (.istore_n 3, 1) := by decide +kernel
theorem dX5_closestUnmarked_7 : decode cX5_closestUnmarked 7 = .ok (.iload_n 3, 1) := by decide +kernel
theorem dX5_closestUnmarked_8 : decode cX5_closestUnmarked 8 = .ok (.bipush 12, 2) := by decide +kernel
theorem dX5_closestUnmarked_10 : decode cX5_closestUnmarked 10 = .ok (.if_icmp .ge 37, 3) := by decide +kernel
theorem dX5_closestUnmarked_13 : decode cX5_closestUnmarked 13 = .ok (.aload_n 0, 1) := by decide +kernel
theorem dX5_closestUnmarked_14 : decode cX5_closestUnmarked 14 = .ok (.getfield 21, 3) := by decide +kernel
theorem dX5_closestUnmarked_17 : decode cX5_closestUnmarked 17 = .ok (.iload_n 3, 1) := by decide +kernel
theorem dX5_closestUnmarked_18 : decode cX5_closestUnmarked 18 = .ok (.baload, 1) := by decide +kernel
theorem dX5_closestUnmarked_19 : decode cX5_closestUnmarked 19 = .ok (.ifCond .ne 22, 3) := by decide +kernel
theorem dX5_closestUnmarked_22 : decode cX5_closestUnmarked 22 = .ok (.aload_n 0, 1) := by decide +kernel
theorem dX5_closestUnmarked_23 : decode cX5_closestUnmarked 23 = .ok (.getfield 9, 3) := by decide +kernel
theorem dX5_closestUnmarked_26 : decode cX5_closestUnmarked 26 = .ok (.iload_n 3, 1) := by decide +kernel
theorem dX5_closestUnmarked_27 : decode cX5_closestUnmarked 27 = .ok (.iaload, 1) := by decide +kernel
theorem dX5_closestUnmarked_28 : decode cX5_closestUnmarked 28 = .ok (.iload_n 2, 1) := by decide +kernel
theorem dX5_closestUnmarked_29 : decode cX5_closestUnmarked 29 = .ok (.if_icmp .ge 12, 3) := by decide +kernel
theorem dX5_closestUnmarked_32 : decode cX5_closestUnmarked 32 = .ok (.iload_n 3, 1) := by decide +kernel
theorem dX5_closestUnmarked_33 : decode cX5_closestUnmarked 33 = .ok (.istore_n 1, 1) := by decide +kernel
theorem dX5_closestUnmarked_34 : decode cX5_closestUnmarked 34 = .ok (.aload_n 0, 1) := by decide +kernel
theorem dX5_closestUnmarked_35 : decode cX5_closestUnmarked 35 = .ok (.getfield 9, 3) := by decide +kernel
theorem dX5_closestUnmarked_38 : decode cX5_closestUnmarked 38 = .ok (.iload_n 3, 1) := by decide +kernel
theorem dX5_closestUnmarked_39 : decode cX5_closestUnmarked 39 = .ok (.iaload, 1) := by decide +kernel
theorem dX5_closestUnmarked_40 : decode cX5_closestUnmarked 40 = .ok (.istore_n 2, 1) := by decide +kernel
theorem dX5_closestUnmarked_41 : decode cX5_closestUnmarked 41 = .ok (.iinc 3 1, 3) := by decide +kernel
theorem dX5_closestUnmarked_44 : decode cX5_closestUnmarked 44 = .ok (.goto (-37), 3) := by decide +kernel
theorem dX5_closestUnmarked_47 : decode cX5_closestUnmarked 47 = .ok (.iload_n 1, 1) := by decide +kernel
theorem dX5_closestUnmarked_48 : decode cX5_closestUnmarked 48 = .ok (.ireturn, 1) := by decide +kernel
theorem dX5_shorten_0 : decode cX5_shorten 0 = .ok (.iload_n 1, 1) := by decide +kernel
theorem dX5_shorten_1 : decode cX5_shorten 1 = .ok (.iconst 0, 1) := by decide +kernel
theorem dX5_shorten_2 : decode cX5_shorten 2 = .ok (.aload_n 0, 1) := by decide +kernel
theorem dX5_shorten_3 : decode cX5_shorten 3 = .ok (.arraylength, 1) := by decide +kernel
theorem dX5_shorten_4 : decode cX5_shorten 4 = .ok (.iconst 1, 1) := by decide +kernel
theorem dX5_shorten_5 : decode cX5_shorten 5 = .ok (.isub, 1) := by decide +kernel
theorem dX5_shorten_6 : decode cX5_shorten 6 = .ok (.invokestatic 25, 3) := by decide +kernel
theorem dX5_shorten_9 : decode cX5_shorten 9 = .ok (.ifCond .eq 15, 3) := by decide +kernel
theorem dX5_shorten_12 : decode cX5_shorten 12 = .ok (.iload_n 2, 1) := by decide +kernel
theorem dX5_shorten_13 : decode cX5_shorten 13 = .ok (.iconst 0, 1) := by decide +kernel
theorem dX5_shorten_14 : decode cX5_shorten 14 = .ok (.aload_n 0, 1) := by decide +kernel
theorem dX5_shorten_15 : decode cX5_shorten 15 = .ok (.arraylength, 1) := by decide +kernel
theorem dX5_shorten_16 : decode cX5_shorten 16 = .ok (.iconst 1, 1) := by decide +kernel
theorem dX5_shorten_17 : decode cX5_shorten 17 = .ok (.isub, 1) := by decide +kernel
theorem dX5_shorten_18 : decode cX5_shorten 18 = .ok (.invokestatic 25, 3) := by decide +kernel
theorem dX5_shorten_21 : decode cX5_shorten 21 = .ok (.ifCond .ne 5, 3) := by decide +kernel
theorem dX5_shorten_24 : decode cX5_shorten 24 = .ok (.iconst 0, 1) := by decide +kernel
theorem dX5_shorten_25 : decode cX5_shorten 25 = .ok (.ireturn, 1) := by decide +kernel
theorem dX5_shorten_26 : decode cX5_shorten 26 = .ok (.aload_n 0, 1) := by decide +kernel
theorem dX5_shorten_27 : decode cX5_shorten 27 = .ok (.iload_n 1, 1) := by decide +kernel
theorem dX5_shorten_28 : decode cX5_shorten 28 = .ok (.iaload, 1) := by decide +kernel
theorem dX5_shorten_29 : decode cX5_shorten 29 = .ok (.ldc 29, 2) := by decide +kernel
theorem dX5_shorten_31 : decode cX5_shorten 31 = .ok (.if_icmp .ge 14, 3) := by decide +kernel
theorem dX5_shorten_34 : decode cX5_shorten 34 = .ok (.aload_n 0, 1) := by decide +kernel
theorem dX5_shorten_35 : decode cX5_shorten 35 = .ok (.iload_n 1, 1) := by decide +kernel
theorem dX5_shorten_36 : decode cX5_shorten 36 = .ok (.iaload, 1) := by decide +kernel
theorem dX5_shorten_37 : decode cX5_shorten 37 = .ok (.iload_n 3, 1) := by decide +kernel
theorem dX5_shorten_38 : decode cX5_shorten 38 = .ok (.iadd, 1) := by decide +kernel
theorem dX5_shorten_39 : decode cX5_shorten 39 = .ok (.aload_n 0, 1) := by decide +kernel
theorem dX5_shorten_40 : decode cX5_shorten 40 = .ok (.iload_n 2, 1) := by decide +kernel
theorem dX5_shorten_41 : decode cX5_shorten 41 = .ok (.iaload, 1) := by decide +kernel
theorem dX5_shorten_42 : decode cX5_shorten 42 = .ok (.if_icmp .lt 5, 3) := by decide +kernel
theorem dX5_shorten_45 : decode cX5_shorten 45 = .ok (.iconst 0, 1) := by decide +kernel
theorem dX5_shorten_46 : decode cX5_shorten 46 = .ok (.ireturn, 1) := by decide +kernel
theorem dX5_shorten_47 : decode cX5_shorten 47 = .ok (.aload_n 0, 1) := by decide +kernel
theorem dX5_shorten_48 : decode cX5_shorten 48 = .ok (.iload_n 2, 1) := by decide +kernel
theorem dX5_shorten_49 : decode cX5_shorten 49 = .ok (.aload_n 0, 1) := by decide +kernel
theorem dX5_shorten_50 : decode cX5_shorten 50 = .ok (.iload_n 1, 1) := by decide +kernel
theorem dX5_shorten_51 : decode cX5_shorten 51 = .ok (.iaload, 1) := by decide +kernel
theorem dX5_shorten_52 : decode cX5_shorten 52 = .ok (.iload_n 3, 1) := by decide +kernel
theorem dX5_shorten_53 : decode cX5_shorten 53 = .ok (.iadd, 1) := by decide +kernel
theorem dX5_shorten_54 : decode cX5_shorten 54 = .ok (.iastore, 1) := by decide +kernel
theorem dX5_shorten_55 : decode cX5_shorten 55 = .ok (.iconst 1, 1) := by decide +kernel
theorem dX5_shorten_56 : decode cX5_shorten 56 = .ok (.ireturn, 1) := by decide +kernel
theorem dX5_relaxFrom_0 : decode cX5_relaxFrom 0 = .ok (.aload_n 0, 1) := by decide +kernel
theorem dX5_relaxFrom_1 : decode cX5_relaxFrom 1 = .ok (.getfield 15, 3) := by decide +kernel
theorem dX5_relaxFrom_4 : decode cX5_relaxFrom 4 = .ok (.iload_n 2, 1) := by decide +kernel
theorem dX5_relaxFrom_5 : decode cX5_relaxFrom 5 = .ok (.invokestatic 30, 3) := by decide +kernel
theorem dX5_relaxFrom_8 : decode cX5_relaxFrom 8 = .ok (.iconst 1, 1) := by decide +kernel
theorem dX5_relaxFrom_9 : decode cX5_relaxFrom 9 = .ok (.istore_n 3, 1) := by decide +kernel
theorem dX5_relaxFrom_10 : decode cX5_relaxFrom 10 = .ok (.iconst 0, 1) := by decide +kernel
theorem dX5_relaxFrom_11 : decode cX5_relaxFrom 11 = .ok (.istore 4, 2) := by decide +kernel
theorem dX5_relaxFrom_13 : decode cX5_relaxFrom 13 = .ok (.iload_n 3, 1) := by decide +kernel
theorem dX5_relaxFrom_14 : decode cX5_relaxFrom 14 = .ok (.ifCond .eq 22, 3) := by decide +kernel
theorem dX5_relaxFrom_17 : decode cX5_relaxFrom 17 = .ok (.iload 4, 2) := by decide +kernel
theorem dX5_relaxFrom_19 : decode cX5_relaxFrom 19 = .ok (.bipush 12, 2) := by decide +kernel
theorem dX5_relaxFrom_21 : decode cX5_relaxFrom 21 = .ok (.if_icmp .ge 15, 3) := by decide +kernel
theorem dX5_relaxFrom_24 : decode cX5_relaxFrom 24 = .ok (.aload_n 0, 1) := by decide +kernel
theorem dX5_relaxFrom_25 : decode cX5_relaxFrom 25 = .ok (.aload_n 1, 1) := by decide +kernel
theorem dX5_relaxFrom_26 : decode cX5_relaxFrom 26 = .ok (.invokevirtual 59, 3) := by decide +kernel
theorem dX5_relaxFrom_29 : decode cX5_relaxFrom 29 = .ok (.istore_n 3, 1) := by decide +kernel
theorem dX5_relaxFrom_30 : decode cX5_relaxFrom 30 = .ok (.iinc 4 1, 3) := by decide +kernel
theorem dX5_relaxFrom_33 : decode cX5_relaxFrom 33 = .ok (.goto (-20), 3) := by decide +kernel
theorem dX5_relaxFrom_36 : decode cX5_relaxFrom 36 = .ok (.return_, 1) := by decide +kernel
theorem dX5_relaxAll_0 : decode cX5_relaxAll 0 = .ok (.iconst 0, 1) := by decide +kernel
theorem dX5_relaxAll_1 : decode cX5_relaxAll 1 = .ok (.istore_n 2, 1) := by decide +kernel
theorem dX5_relaxAll_2 : decode cX5_relaxAll 2 = .ok (.iconst 0, 1) := by decide +kernel
theorem dX5_relaxAll_3 : decode cX5_relaxAll 3 = .ok (.istore_n 3, 1) := by decide +kernel
theorem dX5_relaxAll_4 : decode cX5_relaxAll 4 = .ok (.iload_n 3, 1) := by decide +kernel
theorem dX5_relaxAll_5 : decode cX5_relaxAll 5 = .ok (.aload_n 1, 1) := by decide +kernel
theorem dX5_relaxAll_6 : decode cX5_relaxAll 6 = .ok (.getfield 41, 3) := by decide +kernel
theorem dX5_relaxAll_9 : decode cX5_relaxAll 9 = .ok (.if_icmp .ge 59, 3) := by decide +kernel
theorem dX5_relaxAll_12 : decode cX5_relaxAll 12 = .ok (.iconst 0, 1) := by decide +kernel
theorem dX5_relaxAll_13 : decode cX5_relaxAll 13 = .ok (.istore 4, 2) := by decide +kernel
theorem dX5_relaxAll_15 : decode cX5_relaxAll 15 = .ok (.iload 4, 2) := by decide +kernel
theorem dX5_relaxAll_17 : decode cX5_relaxAll 17 = .ok (.aload_n 1, 1) := by decide +kernel
theorem dX5_relaxAll_18 : decode cX5_relaxAll 18 = .ok (.getfield 41, 3) := by decide +kernel
theorem dX5_relaxAll_21 : decode cX5_relaxAll 21 = .ok (.if_icmp .ge 41, 3) := by decide +kernel
theorem dX5_relaxAll_24 : decode cX5_relaxAll 24 = .ok (.aload_n 1, 1) := by decide +kernel
theorem dX5_relaxAll_25 : decode cX5_relaxAll 25 = .ok (.iload_n 3, 1) := by decide +kernel
theorem dX5_relaxAll_26 : decode cX5_relaxAll 26 = .ok (.iload 4, 2) := by decide +kernel
theorem dX5_relaxAll_28 : decode cX5_relaxAll 28 = .ok (.invokevirtual 47, 3) := by decide +kernel
theorem dX5_relaxAll_31 : decode cX5_relaxAll 31 = .ok (.ifCond .eq 25, 3) := by decide +kernel
theorem dX5_relaxAll_34 : decode cX5_relaxAll 34 = .ok (.aload_n 0, 1) := by decide +kernel
theorem dX5_relaxAll_35 : decode cX5_relaxAll 35 = .ok (.getfield 15, 3) := by decide +kernel
theorem dX5_relaxAll_38 : decode cX5_relaxAll 38 = .ok (.iload_n 3, 1) := by decide +kernel
theorem dX5_relaxAll_39 : decode cX5_relaxAll 39 = .ok (.iload 4, 2) := by decide +kernel
theorem dX5_relaxAll_41 : decode cX5_relaxAll 41 = .ok (.aload_n 1, 1) := by decide +kernel
theorem dX5_relaxAll_42 : decode cX5_relaxAll 42 = .ok (.iload_n 3, 1) := by decide +kernel
theorem dX5_relaxAll_43 : decode cX5_relaxAll 43 = .ok (.iload 4, 2) := by decide +kernel
theorem dX5_relaxAll_45 : decode cX5_relaxAll 45 = .ok (.invokevirtual 51, 3) := by decide +kernel
theorem dX5_relaxAll_48 : decode cX5_relaxAll 48 = .ok (.invokestatic 55, 3) := by decide +kernel
theorem dX5_relaxAll_51 : decode cX5_relaxAll 51 = .ok (.ifCond .eq 5, 3) := by decide +kernel
theorem dX5_relaxAll_54 : decode cX5_relaxAll 54 = .ok (.iconst 1, 1) := by decide +kernel
theorem dX5_relaxAll_55 : decode cX5_relaxAll 55 = .ok (.istore_n 2, 1) := by decide +kernel
theorem dX5_relaxAll_56 : decode cX5_relaxAll 56 = .ok (.iinc 4 1, 3) := by decide +kernel
theorem dX5_relaxAll_59 : decode cX5_relaxAll 59 = .ok (.goto (-44), 3) := by decide +kernel
theorem dX5_relaxAll_62 : decode cX5_relaxAll 62 = .ok (.iinc 3 1, 3) := by decide +kernel
theorem dX5_relaxAll_65 : decode cX5_relaxAll 65 = .ok (.goto (-61), 3) := by decide +kernel
theorem dX5_relaxAll_68 : decode cX5_relaxAll 68 = .ok (.iload_n 2, 1) := by decide +kernel
theorem dX5_relaxAll_69 : decode cX5_relaxAll 69 = .ok (.ireturn, 1) := by decide +kernel
theorem dX5_distancesAgree_0 : decode cX5_distancesAgree 0 = .ok (.iconst 0, 1) := by decide +kernel
theorem dX5_distancesAgree_1 : decode cX5_distancesAgree 1 = .ok (.istore_n 2, 1) := by decide +kernel
theorem dX5_distancesAgree_2 : decode cX5_distancesAgree 2 = .ok (.iload_n 2, 1) := by decide +kernel
theorem dX5_distancesAgree_3 : decode cX5_distancesAgree 3 = .ok (.aload_n 1, 1) := by decide +kernel
theorem dX5_distancesAgree_4 : decode cX5_distancesAgree 4 = .ok (.getfield 41, 3) := by decide +kernel
theorem dX5_distancesAgree_7 : decode cX5_distancesAgree 7 = .ok (.if_icmp .ge 52, 3) := by decide +kernel
theorem dX5_distancesAgree_10 : decode cX5_distancesAgree 10 = .ok (.aload_n 0, 1) := by decide +kernel
theorem dX5_distancesAgree_11 : decode cX5_distancesAgree 11 = .ok (.aload_n 1, 1) := by decide +kernel
theorem dX5_distancesAgree_12 : decode cX5_distancesAgree 12 = .ok (.iload_n 2, 1) := by decide +kernel
theorem dX5_distancesAgree_13 : decode cX5_distancesAgree 13 = .ok (.invokevirtual 63, 3) := by decide +kernel
theorem dX5_distancesAgree_16 : decode cX5_distancesAgree 16 = .ok (.aload_n 0, 1) := by decide +kernel
theorem dX5_distancesAgree_17 : decode cX5_distancesAgree 17 = .ok (.aload_n 1, 1) := by decide +kernel
theorem dX5_distancesAgree_18 : decode cX5_distancesAgree 18 = .ok (.iload_n 2, 1) := by decide +kernel
theorem dX5_distancesAgree_19 : decode cX5_distancesAgree 19 = .ok (.invokevirtual 67, 3) := by decide +kernel
theorem dX5_distancesAgree_22 : decode cX5_distancesAgree 22 = .ok (.iconst 0, 1) := by decide +kernel
theorem dX5_distancesAgree_23 : decode cX5_distancesAgree 23 = .ok (.istore_n 3, 1) := by decide +kernel
theorem dX5_distancesAgree_24 : decode cX5_distancesAgree 24 = .ok (.iload_n 3, 1) := by decide +kernel
theorem dX5_distancesAgree_25 : decode cX5_distancesAgree 25 = .ok (.aload_n 1, 1) := by decide +kernel
theorem dX5_distancesAgree_26 : decode cX5_distancesAgree 26 = .ok (.getfield 41, 3) := by decide +kernel
theorem dX5_distancesAgree_29 : decode cX5_distancesAgree 29 = .ok (.if_icmp .ge 24, 3) := by decide +kernel
theorem dX5_distancesAgree_32 : decode cX5_distancesAgree 32 = .ok (.aload_n 0, 1) := by decide +kernel
theorem dX5_distancesAgree_33 : decode cX5_distancesAgree 33 = .ok (.iload_n 3, 1) := by decide +kernel
theorem dX5_distancesAgree_34 : decode cX5_distancesAgree 34 = .ok (.invokevirtual 70, 3) := by decide +kernel
theorem dX5_distancesAgree_37 : decode cX5_distancesAgree 37 = .ok (.aload_n 0, 1) := by decide +kernel
theorem dX5_distancesAgree_38 : decode cX5_distancesAgree 38 = .ok (.iload_n 3, 1) := by decide +kernel
theorem dX5_distancesAgree_39 : decode cX5_distancesAgree 39 = .ok (.invokevirtual 74, 3) := by decide +kernel
theorem dX5_distancesAgree_42 : decode cX5_distancesAgree 42 = .ok (.if_icmp .eq 5, 3) := by decide +kernel
theorem dX5_distancesAgree_45 : decode cX5_distancesAgree 45 = .ok (.iconst 0, 1) := by decide +kernel
theorem dX5_distancesAgree_46 : decode cX5_distancesAgree 46 = .ok (.ireturn, 1) := by decide +kernel
theorem dX5_distancesAgree_47 : decode cX5_distancesAgree 47 = .ok (.iinc 3 1, 3) := by decide +kernel
theorem dX5_distancesAgree_50 : decode cX5_distancesAgree 50 = .ok (.goto (-26), 3) := by decide +kernel
theorem dX5_distancesAgree_53 : decode cX5_distancesAgree 53 = .ok (.iinc 2 1, 3) := by decide +kernel
theorem dX5_distancesAgree_56 : decode cX5_distancesAgree 56 = .ok (.goto (-54), 3) := by decide +kernel
theorem dX5_distancesAgree_59 : decode cX5_distancesAgree 59 = .ok (.iconst 1, 1) := by decide +kernel
theorem dX5_distancesAgree_60 : decode cX5_distancesAgree 60 = .ok (.ireturn, 1) := by decide +kernel
theorem dX5_nextTowardsStart_0 : decode cX5_nextTowardsStart 0 = .ok (.iconst 0, 1) := by decide +kernel
theorem dX5_nextTowardsStart_1 : decode cX5_nextTowardsStart 1 = .ok (.istore_n 3, 1) := by decide +kernel
theorem dX5_nextTowardsStart_2 : decode cX5_nextTowardsStart 2 = .ok (.iload_n 3, 1) := by decide +kernel
theorem dX5_nextTowardsStart_3 : decode cX5_nextTowardsStart 3 = .ok (.aload_n 1, 1) := by decide +kernel
theorem dX5_nextTowardsStart_4 : decode cX5_nextTowardsStart 4 = .ok (.getfield 41, 3) := by decide +kernel
theorem dX5_nextTowardsStart_7 : decode cX5_nextTowardsStart 7 = .ok (.if_icmp .ge 40, 3) := by decide +kernel
theorem dX5_nextTowardsStart_10 : decode cX5_nextTowardsStart 10 = .ok (.aload_n 1, 1) := by decide +kernel
theorem dX5_nextTowardsStart_11 : decode cX5_nextTowardsStart 11 = .ok (.iload_n 2, 1) := by decide +kernel
theorem dX5_nextTowardsStart_12 : decode cX5_nextTowardsStart 12 = .ok (.iload_n 3, 1) := by decide +kernel
theorem dX5_nextTowardsStart_13 : decode cX5_nextTowardsStart 13 = .ok (.invokevirtual 47, 3) := by decide +kernel
theorem dX5_nextTowardsStart_16 : decode cX5_nextTowardsStart 16 = .ok (.ifCond .eq 25, 3) := by decide +kernel
theorem dX5_nextTowardsStart_19 : decode cX5_nextTowardsStart 19 = .ok (.aload_n 0, 1) := by decide +kernel
theorem dX5_nextTowardsStart_20 : decode cX5_nextTowardsStart 20 = .ok (.iload_n 3, 1) := by decide +kernel
theorem dX5_nextTowardsStart_21 : decode cX5_nextTowardsStart 21 = .ok (.invokevirtual 70, 3) := by decide +kernel
theorem dX5_nextTowardsStart_24 : decode cX5_nextTowardsStart 24 = .ok (.aload_n 1, 1) := by decide +kernel
theorem dX5_nextTowardsStart_25 : decode cX5_nextTowardsStart 25 = .ok (.iload_n 2, 1) := by decide +kernel
theorem dX5_nextTowardsStart_26 : decode cX5_nextTowardsStart 26 = .ok (.iload_n 3, 1) := by decide +kernel
theorem dX5_nextTowardsStart_27 : decode cX5_nextTowardsStart 27 = .ok (.invokevirtual 51, 3) := by decide +kernel
theorem dX5_nextTowardsStart_30 : decode cX5_nextTowardsStart 30 = .ok (.iadd, 1) := by decide +kernel
theorem dX5_nextTowardsStart_31 : decode cX5_nextTowardsStart 31 = .ok (.aload_n 0, 1) := by decide +kernel
theorem dX5_nextTowardsStart_32 : decode cX5_nextTowardsStart 32 = .ok (.iload_n 2, 1) := by decide +kernel
theorem dX5_nextTowardsStart_33 : decode cX5_nextTowardsStart 33 = .ok (.invokevirtual 70, 3) := by decide +kernel
theorem dX5_nextTowardsStart_36 : decode cX5_nextTowardsStart 36 = .ok (.if_icmp .ne 5, 3) := by decide +kernel
theorem dX5_nextTowardsStart_39 : decode cX5_nextTowardsStart 39 = .ok (.iload_n 3, 1) := by decide +kernel
theorem dX5_nextTowardsStart_40 : decode cX5_nextTowardsStart 40 = .ok (.ireturn, 1) := by decide +kernel
theorem dX5_nextTowardsStart_41 : decode cX5_nextTowardsStart 41 = .ok (.iinc 3 1, 3) := by decide +kernel
theorem dX5_nextTowardsStart_44 : decode cX5_nextTowardsStart 44 = .ok (.goto (-42), 3) := by decide +kernel
theorem dX5_nextTowardsStart_47 : decode cX5_nextTowardsStart 47 = .ok (.iconst (-1), 1) := by decide +kernel
theorem dX5_nextTowardsStart_48 : decode cX5_nextTowardsStart 48 = .ok (.ireturn, 1) := by decide +kernel
theorem dX5_countBySearch_0 : decode cX5_countBySearch 0 = .ok (.aload_n 0, 1) := by decide +kernel
theorem dX5_countBySearch_1 : decode cX5_countBySearch 1 = .ok (.invokevirtual 34, 3) := by decide +kernel
theorem dX5_countBySearch_4 : decode cX5_countBySearch 4 = .ok (.iconst 0, 1) := by decide +kernel
theorem dX5_countBySearch_5 : decode cX5_countBySearch 5 = .ok (.istore_n 2, 1) := by decide +kernel
theorem dX5_countBySearch_6 : decode cX5_countBySearch 6 = .ok (.iconst 0, 1) := by decide +kernel
theorem dX5_countBySearch_7 : decode cX5_countBySearch 7 = .ok (.istore_n 3, 1) := by decide +kernel
theorem dX5_countBySearch_8 : decode cX5_countBySearch 8 = .ok (.iload_n 3, 1) := by decide +kernel
theorem dX5_countBySearch_9 : decode cX5_countBySearch 9 = .ok (.aload_n 1, 1) := by decide +kernel
theorem dX5_countBySearch_10 : decode cX5_countBySearch 10 = .ok (.getfield 41, 3) := by decide +kernel
theorem dX5_countBySearch_13 : decode cX5_countBySearch 13 = .ok (.if_icmp .ge 37, 3) := by decide +kernel
theorem dX5_countBySearch_16 : decode cX5_countBySearch 16 = .ok (.iload_n 3, 1) := by decide +kernel
theorem dX5_countBySearch_17 : decode cX5_countBySearch 17 = .ok (.bipush 12, 2) := by decide +kernel
theorem dX5_countBySearch_19 : decode cX5_countBySearch 19 = .ok (.if_icmp .ge 31, 3) := by decide +kernel
theorem dX5_countBySearch_22 : decode cX5_countBySearch 22 = .ok (.aload_n 0, 1) := by decide +kernel
theorem dX5_countBySearch_23 : decode cX5_countBySearch 23 = .ok (.getfield 21, 3) := by decide +kernel
theorem dX5_countBySearch_26 : decode cX5_countBySearch 26 = .ok (.iload_n 3, 1) := by decide +kernel
theorem dX5_countBySearch_27 : decode cX5_countBySearch 27 = .ok (.baload, 1) := by decide +kernel
theorem dX5_countBySearch_28 : decode cX5_countBySearch 28 = .ok (.ifCond .ne 16, 3) := by decide +kernel
theorem dX5_countBySearch_31 : decode cX5_countBySearch 31 = .ok (.iinc 2 1, 3) := by decide +kernel
theorem dX5_countBySearch_34 : decode cX5_countBySearch 34 = .ok (.aload_n 1, 1) := by decide +kernel
theorem dX5_countBySearch_35 : decode cX5_countBySearch 35 = .ok (.aload_n 0, 1) := by decide +kernel
theorem dX5_countBySearch_36 : decode cX5_countBySearch 36 = .ok (.getfield 21, 3) := by decide +kernel
theorem dX5_countBySearch_39 : decode cX5_countBySearch 39 = .ok (.iload_n 3, 1) := by decide +kernel
theorem dX5_countBySearch_40 : decode cX5_countBySearch 40 = .ok (.iconst 1, 1) := by decide +kernel
theorem dX5_countBySearch_41 : decode cX5_countBySearch 41 = .ok (.invokestatic 77, 3) := by decide +kernel
theorem dX5_countBySearch_44 : decode cX5_countBySearch 44 = .ok (.iinc 3 1, 3) := by decide +kernel
theorem dX5_countBySearch_47 : decode cX5_countBySearch 47 = .ok (.goto (-39), 3) := by decide +kernel
theorem dX5_countBySearch_50 : decode cX5_countBySearch 50 = .ok (.iload_n 2, 1) := by decide +kernel
theorem dX5_countBySearch_51 : decode cX5_countBySearch 51 = .ok (.ireturn, 1) := by decide +kernel
theorem dX5_search_0 : decode cX5_search 0 = .ok (.iload_n 3, 1) := by decide +kernel
theorem dX5_search_1 : decode cX5_search 1 = .ok (.bipush 12, 2) := by decide +kernel
theorem dX5_search_3 : decode cX5_search 3 = .ok (.if_icmp .gt 13, 3) := by decide +kernel
theorem dX5_search_6 : decode cX5_search 6 = .ok (.iload_n 2, 1) := by decide +kernel
theorem dX5_search_7 : decode cX5_search 7 = .ok (.ifCond .lt 9, 3) := by decide +kernel
theorem dX5_search_10 : decode cX5_search 10 = .ok (.iload_n 2, 1) := by decide +kernel
theorem dX5_search_11 : decode cX5_search 11 = .ok (.aload_n 1, 1) := by decide +kernel
theorem dX5_search_12 : decode cX5_search 12 = .ok (.arraylength, 1) := by decide +kernel
theorem dX5_search_13 : decode cX5_search 13 = .ok (.if_icmp .lt 4, 3) := by decide +kernel
theorem dX5_search_16 : decode cX5_search 16 = .ok (.return_, 1) := by decide +kernel
theorem dX5_search_17 : decode cX5_search 17 = .ok (.aload_n 1, 1) := by decide +kernel
theorem dX5_search_18 : decode cX5_search 18 = .ok (.iload_n 2, 1) := by decide +kernel
theorem dX5_search_19 : decode cX5_search 19 = .ok (.iconst 1, 1) := by decide +kernel
theorem dX5_search_20 : decode cX5_search 20 = .ok (.bastore, 1) := by decide +kernel
theorem dX5_search_21 : decode cX5_search 21 = .ok (.iconst 0, 1) := by decide +kernel
theorem dX5_search_22 : decode cX5_search 22 = .ok (.istore 4, 2) := by decide +kernel
theorem dX5_search_24 : decode cX5_search 24 = .ok (.iload 4, 2) := by decide +kernel
theorem dX5_search_26 : decode cX5_search 26 = .ok (.aload_n 0, 1) := by decide +kernel
theorem dX5_search_27 : decode cX5_search 27 = .ok (.getfield 41, 3) := by decide +kernel
theorem dX5_search_30 : decode cX5_search 30 = .ok (.if_icmp .ge 43, 3) := by decide +kernel
theorem dX5_search_33 : decode cX5_search 33 = .ok (.iload 4, 2) := by decide +kernel
theorem dX5_search_35 : decode cX5_search 35 = .ok (.aload_n 1, 1) := by decide +kernel
theorem dX5_search_36 : decode cX5_search 36 = .ok (.arraylength, 1) := by decide +kernel
theorem dX5_search_37 : decode cX5_search 37 = .ok (.if_icmp .ge 36, 3) := by decide +kernel
theorem dX5_search_40 : decode cX5_search 40 = .ok (.aload_n 1, 1) := by decide +kernel
theorem dX5_search_41 : decode cX5_search 41 = .ok (.iload 4, 2) := by decide +kernel
theorem dX5_search_43 : decode cX5_search 43 = .ok (.baload, 1) := by decide +kernel
theorem dX5_search_44 : decode cX5_search 44 = .ok (.ifCond .ne 23, 3) := by decide +kernel
theorem dX5_search_47 : decode cX5_search 47 = .ok (.aload_n 0, 1) := by decide +kernel
theorem dX5_search_48 : decode cX5_search 48 = .ok (.iload_n 2, 1) := by decide +kernel
theorem dX5_search_49 : decode cX5_search 49 = .ok (.iload 4, 2) := by decide +kernel
theorem dX5_search_51 : decode cX5_search 51 = .ok (.invokevirtual 47, 3) := by decide +kernel
theorem dX5_search_54 : decode cX5_search 54 = .ok (.ifCond .eq 13, 3) := by decide +kernel
theorem dX5_search_57 : decode cX5_search 57 = .ok (.aload_n 0, 1) := by decide +kernel
theorem dX5_search_58 : decode cX5_search 58 = .ok (.aload_n 1, 1) := by decide +kernel
theorem dX5_search_59 : decode cX5_search 59 = .ok (.iload 4, 2) := by decide +kernel
theorem dX5_search_61 : decode cX5_search 61 = .ok (.iload_n 3, 1) := by decide +kernel
theorem dX5_search_62 : decode cX5_search 62 = .ok (.iconst 1, 1) := by decide +kernel
theorem dX5_search_63 : decode cX5_search 63 = .ok (.iadd, 1) := by decide +kernel
theorem dX5_search_64 : decode cX5_search 64 = .ok (.invokestatic 77, 3) := by decide +kernel
theorem dX5_search_67 : decode cX5_search 67 = .ok (.iinc 4 1, 3) := by decide +kernel
theorem dX5_search_70 : decode cX5_search 70 = .ok (.goto (-46), 3) := by decide +kernel
theorem dX5_search_73 : decode cX5_search 73 = .ok (.return_, 1) := by decide +kernel
theorem dX5_countByMerging_0 : decode cX5_countByMerging 0 = .ok (.iconst 0, 1) := by decide +kernel
theorem dX5_countByMerging_1 : decode cX5_countByMerging 1 = .ok (.istore_n 2, 1) := by decide +kernel
theorem dX5_countByMerging_2 : decode cX5_countByMerging 2 = .ok (.iload_n 2, 1) := by decide +kernel
theorem dX5_countByMerging_3 : decode cX5_countByMerging 3 = .ok (.bipush 12, 2) := by decide +kernel
theorem dX5_countByMerging_5 : decode cX5_countByMerging 5 = .ok (.if_icmp .ge 16, 3) := by decide +kernel
theorem dX5_countByMerging_8 : decode cX5_countByMerging 8 = .ok (.aload_n 0, 1) := by decide +kernel
theorem dX5_countByMerging_9 : decode cX5_countByMerging 9 = .ok (.getfield 18, 3) := by decide +kernel
theorem dX5_countByMerging_12 : decode cX5_countByMerging 12 = .ok (.iload_n 2, 1) := by decide +kernel
theorem dX5_countByMerging_13 : decode cX5_countByMerging 13 = .ok (.iload_n 2, 1) := by decide +kernel
theorem dX5_countByMerging_14 : decode cX5_countByMerging 14 = .ok (.iastore, 1) := by decide +kernel
theorem dX5_countByMerging_15 : decode cX5_countByMerging 15 = .ok (.iinc 2 1, 3) := by decide +kernel
theorem dX5_countByMerging_18 : decode cX5_countByMerging 18 = .ok (.goto (-16), 3) := by decide +kernel
theorem dX5_countByMerging_21 : decode cX5_countByMerging 21 = .ok (.aload_n 1, 1) := by decide +kernel
theorem dX5_countByMerging_22 : decode cX5_countByMerging 22 = .ok (.getfield 41, 3) := by decide +kernel
theorem dX5_countByMerging_25 : decode cX5_countByMerging 25 = .ok (.istore_n 2, 1) := by decide +kernel
theorem dX5_countByMerging_26 : decode cX5_countByMerging 26 = .ok (.iconst 0, 1) := by decide +kernel
theorem dX5_countByMerging_27 : decode cX5_countByMerging 27 = .ok (.istore_n 3, 1) := by decide +kernel
theorem dX5_countByMerging_28 : decode cX5_countByMerging 28 = .ok (.iload_n 3, 1) := by decide +kernel
theorem dX5_countByMerging_29 : decode cX5_countByMerging 29 = .ok (.aload_n 1, 1) := by decide +kernel
theorem dX5_countByMerging_30 : decode cX5_countByMerging 30 = .ok (.getfield 41, 3) := by decide +kernel
theorem dX5_countByMerging_33 : decode cX5_countByMerging 33 = .ok (.if_icmp .ge 52, 3) := by decide +kernel
theorem dX5_countByMerging_36 : decode cX5_countByMerging 36 = .ok (.iload_n 3, 1) := by decide +kernel
theorem dX5_countByMerging_37 : decode cX5_countByMerging 37 = .ok (.iconst 1, 1) := by decide +kernel
theorem dX5_countByMerging_38 : decode cX5_countByMerging 38 = .ok (.iadd, 1) := by decide +kernel
theorem dX5_countByMerging_39 : decode cX5_countByMerging 39 = .ok (.istore 4, 2) := by decide +kernel
theorem dX5_countByMerging_41 : decode cX5_countByMerging 41 = .ok (.iload 4, 2) := by decide +kernel
theorem dX5_countByMerging_43 : decode cX5_countByMerging 43 = .ok (.aload_n 1, 1) := by decide +kernel
theorem dX5_countByMerging_44 : decode cX5_countByMerging 44 = .ok (.getfield 41, 3) := by decide +kernel
theorem dX5_countByMerging_47 : decode cX5_countByMerging 47 = .ok (.if_icmp .ge 32, 3) := by decide +kernel
theorem dX5_countByMerging_50 : decode cX5_countByMerging 50 = .ok (.aload_n 1, 1) := by decide +kernel
theorem dX5_countByMerging_51 : decode cX5_countByMerging 51 = .ok (.iload_n 3, 1) := by decide +kernel
theorem dX5_countByMerging_52 : decode cX5_countByMerging 52 = .ok (.iload 4, 2) := by decide +kernel
theorem dX5_countByMerging_54 : decode cX5_countByMerging 54 = .ok (.invokevirtual 47, 3) := by decide +kernel
theorem dX5_countByMerging_57 : decode cX5_countByMerging 57 = .ok (.ifCond .eq 16, 3) := by decide +kernel
theorem dX5_countByMerging_60 : decode cX5_countByMerging 60 = .ok (.aload_n 0, 1) := by decide +kernel
theorem dX5_countByMerging_61 : decode cX5_countByMerging 61 = .ok (.iload_n 3, 1) := by decide +kernel
theorem dX5_countByMerging_62 : decode cX5_countByMerging 62 = .ok (.iload 4, 2) := by decide +kernel
theorem dX5_countByMerging_64 : decode cX5_countByMerging 64 = .ok (.invokevirtual 81, 3) := by decide +kernel
theorem dX5_countByMerging_67 : decode cX5_countByMerging 67 = .ok (.ifCond .eq 6, 3) := by decide +kernel
theorem dX5_countByMerging_70 : decode cX5_countByMerging 70 = .ok (.iinc 2 (-1), 3) := by decide +kernel
theorem dX5_countByMerging_73 : decode cX5_countByMerging 73 = .ok (.iinc 4 1, 3) := by decide +kernel
theorem dX5_countByMerging_76 : decode cX5_countByMerging 76 = .ok (.goto (-35), 3) := by decide +kernel
theorem dX5_countByMerging_79 : decode cX5_countByMerging 79 = .ok (.iinc 3 1, 3) := by decide +kernel
theorem dX5_countByMerging_82 : decode cX5_countByMerging 82 = .ok (.goto (-54), 3) := by decide +kernel
theorem dX5_countByMerging_85 : decode cX5_countByMerging 85 = .ok (.iload_n 2, 1) := by decide +kernel
theorem dX5_countByMerging_86 : decode cX5_countByMerging 86 = .ok (.ireturn, 1) := by decide +kernel
theorem dX5_merge_0 : decode cX5_merge 0 = .ok (.aload_n 0, 1) := by decide +kernel
theorem dX5_merge_1 : decode cX5_merge 1 = .ok (.iload_n 1, 1) := by decide +kernel
theorem dX5_merge_2 : decode cX5_merge 2 = .ok (.invokevirtual 84, 3) := by decide +kernel
theorem dX5_merge_5 : decode cX5_merge 5 = .ok (.istore_n 3, 1) := by decide +kernel
theorem dX5_merge_6 : decode cX5_merge 6 = .ok (.aload_n 0, 1) := by decide +kernel
theorem dX5_merge_7 : decode cX5_merge 7 = .ok (.iload_n 2, 1) := by decide +kernel
theorem dX5_merge_8 : decode cX5_merge 8 = .ok (.invokevirtual 84, 3) := by decide +kernel
theorem dX5_merge_11 : decode cX5_merge 11 = .ok (.istore 4, 2) := by decide +kernel
theorem dX5_merge_13 : decode cX5_merge 13 = .ok (.iload_n 3, 1) := by decide +kernel
theorem dX5_merge_14 : decode cX5_merge 14 = .ok (.iload 4, 2) := by decide +kernel
theorem dX5_merge_16 : decode cX5_merge 16 = .ok (.if_icmp .eq 14, 3) := by decide +kernel
theorem dX5_merge_19 : decode cX5_merge 19 = .ok (.iload 4, 2) := by decide +kernel
theorem dX5_merge_21 : decode cX5_merge 21 = .ok (.iconst 0, 1) := by decide +kernel
theorem dX5_merge_22 : decode cX5_merge 22 = .ok (.bipush 11, 2) := by decide +kernel
theorem dX5_merge_24 : decode cX5_merge 24 = .ok (.invokestatic 25, 3) := by decide +kernel
theorem dX5_merge_27 : decode cX5_merge 27 = .ok (.ifCond .ne 5, 3) := by decide +kernel
theorem dX5_merge_30 : decode cX5_merge 30 = .ok (.iconst 0, 1) := by decide +kernel
theorem dX5_merge_31 : decode cX5_merge 31 = .ok (.ireturn, 1) := by decide +kernel
theorem dX5_merge_32 : decode cX5_merge 32 = .ok (.aload_n 0, 1) := by decide +kernel
theorem dX5_merge_33 : decode cX5_merge 33 = .ok (.getfield 18, 3) := by decide +kernel
theorem dX5_merge_36 : decode cX5_merge 36 = .ok (.iload 4, 2) := by decide +kernel
theorem dX5_merge_38 : decode cX5_merge 38 = .ok (.iload_n 3, 1) := by decide +kernel
theorem dX5_merge_39 : decode cX5_merge 39 = .ok (.iastore, 1) := by decide +kernel
theorem dX5_merge_40 : decode cX5_merge 40 = .ok (.iconst 1, 1) := by decide +kernel
theorem dX5_merge_41 : decode cX5_merge 41 = .ok (.ireturn, 1) := by decide +kernel
theorem dX5_leaderOf_0 : decode cX5_leaderOf 0 = .ok (.iload_n 1, 1) := by decide +kernel
theorem dX5_leaderOf_1 : decode cX5_leaderOf 1 = .ok (.istore_n 2, 1) := by decide +kernel
theorem dX5_leaderOf_2 : decode cX5_leaderOf 2 = .ok (.iconst 0, 1) := by decide +kernel
theorem dX5_leaderOf_3 : decode cX5_leaderOf 3 = .ok (.istore_n 3, 1) := by decide +kernel
theorem dX5_leaderOf_4 : decode cX5_leaderOf 4 = .ok (.iload_n 3, 1) := by decide +kernel
theorem dX5_leaderOf_5 : decode cX5_leaderOf 5 = .ok (.bipush 12, 2) := by decide +kernel
theorem dX5_leaderOf_7 : decode cX5_leaderOf 7 = .ok (.if_icmp .ge 38, 3) := by decide +kernel
theorem dX5_leaderOf_10 : decode cX5_leaderOf 10 = .ok (.iload_n 2, 1) := by decide +kernel
theorem dX5_leaderOf_11 : decode cX5_leaderOf 11 = .ok (.iconst 0, 1) := by decide +kernel
theorem dX5_leaderOf_12 : decode cX5_leaderOf 12 = .ok (.bipush 11, 2) := by decide +kernel
theorem dX5_leaderOf_14 : decode cX5_leaderOf 14 = .ok (.invokestatic 25, 3) := by decide +kernel
theorem dX5_leaderOf_17 : decode cX5_leaderOf 17 = .ok (.ifCond .eq 13, 3) := by decide +kernel
theorem dX5_leaderOf_20 : decode cX5_leaderOf 20 = .ok (.aload_n 0, 1) := by decide +kernel
theorem dX5_leaderOf_21 : decode cX5_leaderOf 21 = .ok (.getfield 18, 3) := by decide +kernel
theorem dX5_leaderOf_24 : decode cX5_leaderOf 24 = .ok (.iload_n 2, 1) := by decide +kernel
theorem dX5_leaderOf_25 : decode cX5_leaderOf 25 = .ok (.iaload, 1) := by decide +kernel
theorem dX5_leaderOf_26 : decode cX5_leaderOf 26 = .ok (.iload_n 2, 1) := by decide +kernel
theorem dX5_leaderOf_27 : decode cX5_leaderOf 27 = .ok (.if_icmp .ne 5, 3) := by decide +kernel
theorem dX5_leaderOf_30 : decode cX5_leaderOf 30 = .ok (.iload_n 2, 1) := by decide +kernel
theorem dX5_leaderOf_31 : decode cX5_leaderOf 31 = .ok (.ireturn, 1) := by decide +kernel
theorem dX5_leaderOf_32 : decode cX5_leaderOf 32 = .ok (.aload_n 0, 1) := by decide +kernel
theorem dX5_leaderOf_33 : decode cX5_leaderOf 33 = .ok (.getfield 18, 3) := by decide +kernel
theorem dX5_leaderOf_36 : decode cX5_leaderOf 36 = .ok (.iload_n 2, 1) := by decide +kernel
theorem dX5_leaderOf_37 : decode cX5_leaderOf 37 = .ok (.iaload, 1) := by decide +kernel
theorem dX5_leaderOf_38 : decode cX5_leaderOf 38 = .ok (.istore_n 2, 1) := by decide +kernel
theorem dX5_leaderOf_39 : decode cX5_leaderOf 39 = .ok (.iinc 3 1, 3) := by decide +kernel
theorem dX5_leaderOf_42 : decode cX5_leaderOf 42 = .ok (.goto (-38), 3) := by decide +kernel
theorem dX5_leaderOf_45 : decode cX5_leaderOf 45 = .ok (.iload_n 2, 1) := by decide +kernel
theorem dX5_leaderOf_46 : decode cX5_leaderOf 46 = .ok (.ireturn, 1) := by decide +kernel
theorem dX6_init_0 : decode cX6_init 0 = .ok (.aload_n 0, 1) := by decide +kernel
theorem dX6_init_1 : decode cX6_init 1 = .ok (.invokespecial 3, 3) := by decide +kernel
theorem dX6_init_4 : decode cX6_init 4 = .ok (.aload_n 0, 1) := by decide +kernel
theorem dX6_init_5 : decode cX6_init 5 = .ok (.bipush 60, 2) := by decide +kernel
theorem dX6_init_7 : decode cX6_init 7 = .ok (.newarray .char, 2) := by decide +kernel
theorem dX6_init_9 : decode cX6_init 9 = .ok (.putfield 9, 3) := by decide +kernel
theorem dX6_init_12 : decode cX6_init 12 = .ok (.aload_n 0, 1) := by decide +kernel
theorem dX6_init_13 : decode cX6_init 13 = .ok (.bipush 13, 2) := by decide +kernel
theorem dX6_init_15 : decode cX6_init 15 = .ok (.newarray .int, 2) := by decide +kernel
theorem dX6_init_17 : decode cX6_init 17 = .ok (.putfield 15, 3) := by decide +kernel
theorem dX6_init_20 : decode cX6_init 20 = .ok (.aload_n 0, 1) := by decide +kernel
theorem dX6_init_21 : decode cX6_init 21 = .ok (.bipush 39, 2) := by decide +kernel
theorem dX6_init_23 : decode cX6_init 23 = .ok (.newarray .int, 2) := by decide +kernel
theorem dX6_init_25 : decode cX6_init 25 = .ok (.putfield 19, 3) := by decide +kernel
theorem dX6_init_28 : decode cX6_init 28 = .ok (.aload_n 0, 1) := by decide +kernel
theorem dX6_init_29 : decode cX6_init 29 = .ok (.iconst 3, 1) := by decide +kernel
theorem dX6_init_30 : decode cX6_init 30 = .ok (.newarray .int, 2) := by decide +kernel
theorem dX6_init_32 : decode cX6_init 32 = .ok (.putfield 22, 3) := by decide +kernel
theorem dX6_init_35 : decode cX6_init 35 = .ok (.return_, 1) := by decide +kernel
theorem dX6_isFull_0 : decode cX6_isFull 0 = .ok (.aload_n 0, 1) := by decide +kernel
theorem dX6_isFull_1 : decode cX6_isFull 1 = .ok (.getfield 25, 3) := by decide +kernel
theorem dX6_isFull_4 : decode cX6_isFull 4 = .ok (.bipush 60, 2) := by decide +kernel
theorem dX6_isFull_6 : decode cX6_isFull 6 = .ok (.if_icmp .lt 7, 3) := by decide +kernel
theorem dX6_isFull_9 : decode cX6_isFull 9 = .ok (.iconst 1, 1) := by decide +kernel
theorem dX6_isFull_10 : decode cX6_isFull 10 = .ok (.goto 4, 3) := by decide +kernel
theorem dX6_isFull_13 : decode cX6_isFull 13 = .ok (.iconst 0, 1) := by decide +kernel
theorem dX6_isFull_14 : decode cX6_isFull 14 = .ok (.ireturn, 1) := by decide +kernel
theorem dX6_append_0 : decode cX6_append 0 = .ok (.aload_n 0, 1) := by decide +kernel
theorem dX6_append_1 : decode cX6_append 1 = .ok (.getfield 25, 3) := by decide +kernel
theorem dX6_append_4 : decode cX6_append 4 = .ok (.ifCond .lt 32, 3) := by decide +kernel
theorem dX6_append_7 : decode cX6_append 7 = .ok (.aload_n 0, 1) := by decide +kernel
theorem dX6_append_8 : decode cX6_append 8 = .ok (.getfield 25, 3) := by decide +kernel
theorem dX6_append_11 : decode cX6_append 11 = .ok (.bipush 60, 2) := by decide +kernel
theorem dX6_append_13 : decode cX6_append 13 = .ok (.if_icmp .ge 23, 3) := by decide +kernel
theorem dX6_append_16 : decode cX6_append 16 = .ok (.aload_n 0, 1) := by decide +kernel
theorem dX6_append_17 : decode cX6_append 17 = .ok (.getfield 9, 3) := by decide +kernel
theorem dX6_append_20 : decode cX6_append 20 = .ok (.aload_n 0, 1) := by decide +kernel
theorem dX6_append_21 : decode cX6_append 21 = .ok (.getfield 25, 3) := by decide +kernel
theorem dX6_append_24 : decode cX6_append 24 = .ok (.iload_n 1, 1) := by decide +kernel
theorem dX6_append_25 : decode cX6_append 25 = .ok (.castore, 1) := by decide +kernel
theorem dX6_append_26 : decode cX6_append 26 = .ok (.aload_n 0, 1) := by decide +kernel
theorem dX6_append_27 : decode cX6_append 27 = .ok (.dup, 1) := by decide +kernel
theorem dX6_append_28 : decode cX6_append 28 = .ok (.getfield 25, 3) := by decide +kernel
theorem dX6_append_31 : decode cX6_append 31 = .ok (.iconst 1, 1) := by decide +kernel
theorem dX6_append_32 : decode cX6_append 32 = .ok (.iadd, 1) := by decide +kernel
theorem dX6_append_33 : decode cX6_append 33 = .ok (.putfield 25, 3) := by decide +kernel
theorem dX6_append_36 : decode cX6_append 36 = .ok (.aload_n 0, 1) := by decide +kernel
theorem dX6_append_37 : decode cX6_append 37 = .ok (.getfield 25, 3) := by decide +kernel
theorem dX6_append_40 : decode cX6_append 40 = .ok (.ireturn, 1) := by decide +kernel
theorem dX6_empty_0 : decode cX6_empty 0 = .ok (.aload_n 0, 1) := by decide +kernel
theorem dX6_empty_1 : decode cX6_empty 1 = .ok (.iconst 0, 1) := by decide +kernel
theorem dX6_empty_2 : decode cX6_empty 2 = .ok (.putfield 25, 3) := by decide +kernel
theorem dX6_empty_5 : decode cX6_empty 5 = .ok (.return_, 1) := by decide +kernel
theorem dX6_kindOf_0 : decode cX6_kindOf 0 = .ok (.iload_n 1, 1) := by decide +kernel
theorem dX6_kindOf_1 : decode cX6_kindOf 1 = .ok (.iconst 0, 1) := by decide +kernel
theorem dX6_kindOf_2 : decode cX6_kindOf 2 = .ok (.bipush 12, 2) := by decide +kernel
theorem dX6_kindOf_4 : decode cX6_kindOf 4 = .ok (.invokestatic 29, 3) := by decide +kernel
theorem dX6_kindOf_7 : decode cX6_kindOf 7 = .ok (.ifCond .eq 12, 3) := by decide +kernel
theorem dX6_kindOf_10 : decode cX6_kindOf 10 = .ok (.aload_n 0, 1) := by decide +kernel
theorem dX6_kindOf_11 : decode cX6_kindOf 11 = .ok (.getfield 15, 3) := by decide +kernel
theorem dX6_kindOf_14 : decode cX6_kindOf 14 = .ok (.iload_n 1, 1) := by decide +kernel
theorem dX6_kindOf_15 : decode cX6_kindOf 15 = .ok (.iaload, 1) := by decide +kernel
theorem dX6_kindOf_16 : decode cX6_kindOf 16 = .ok (.goto 4, 3) := by decide +kernel
theorem dX6_kindOf_19 : decode cX6_kindOf 19 = .ok (.iconst (-1), 1) := by decide +kernel
theorem dX6_kindOf_20 : decode cX6_kindOf 20 = .ok (.ireturn, 1) := by decide +kernel
theorem dX6_argumentOf_0 : decode cX6_argumentOf 0 = .ok (.iload_n 1, 1) := by decide +kernel
theorem dX6_argumentOf_1 : decode cX6_argumentOf 1 = .ok (.iconst 0, 1) := by decide +kernel
theorem dX6_argumentOf_2 : decode cX6_argumentOf 2 = .ok (.bipush 12, 2) := by decide +kernel
theorem dX6_argumentOf_4 : decode cX6_argumentOf 4 = .ok (.invokestatic 29, 3) := by decide +kernel
theorem dX6_argumentOf_7 : decode cX6_argumentOf 7 = .ok (.ifCond .eq 12, 3) := by decide +kernel
theorem dX6_argumentOf_10 : decode cX6_argumentOf 10 = .ok (.iload_n 2, 1) := by decide +kernel
theorem dX6_argumentOf_11 : decode cX6_argumentOf 11 = .ok (.iconst 0, 1) := by decide +kernel
theorem dX6_argumentOf_12 : decode cX6_argumentOf 12 = .ok (.iconst 2, 1) := by decide +kernel
theorem dX6_argumentOf_13 : decode cX6_argumentOf 13 = .ok (.invokestatic 29, 3) := by decide +kernel
theorem dX6_argumentOf_16 : decode cX6_argumentOf 16 = .ok (.ifCond .ne 5, 3) := by decide +kernel
theorem dX6_argumentOf_19 : decode cX6_argumentOf 19 = .ok (.iconst 0, 1) := by decide +kernel
theorem dX6_argumentOf_20 : decode cX6_argumentOf 20 = .ok (.ireturn, 1) := by decide +kernel
theorem dX6_argumentOf_21 : decode cX6_argumentOf 21 = .ok (.aload_n 0, 1) := by decide +kernel
theorem dX6_argumentOf_22 : decode cX6_argumentOf 22 = .ok (.getfield 19, 3) := by decide +kernel
theorem dX6_argumentOf_25 : decode cX6_argumentOf 25 = .ok (.iload_n 1, 1) := by decide +kernel
theorem dX6_argumentOf_26 : decode cX6_argumentOf 26 = .ok (.iconst 3, 1) := by decide +kernel
theorem dX6_argumentOf_27 : decode cX6_argumentOf 27 = .ok (.imul, 1) := by decide +kernel
theorem dX6_argumentOf_28 : decode cX6_argumentOf 28 = .ok (.iload_n 2, 1) := by decide +kernel
theorem dX6_argumentOf_29 : decode cX6_argumentOf 29 = .ok (.iadd, 1) := by decide +kernel
theorem dX6_argumentOf_30 : decode cX6_argumentOf 30 = .ok (.iaload, 1) := by decide +kernel
theorem dX6_argumentOf_31 : decode cX6_argumentOf 31 = .ok (.ireturn, 1) := by decide +kernel
theorem dX6_patternOf_0 : decode cX6_patternOf 0 = .ok (.iload_n 0, 1) := by decide +kernel
theorem dX6_patternOf_1 : decode cX6_patternOf 1 = .ok (.tableswitch 71 0 7 #[47, 50, 53, 56, 59, 62, 65, 68], 47) := by decide +kernel
theorem dX6_patternOf_48 : decode cX6_patternOf 48 = .ok (.ldc 33, 2) := by decide +kernel
theorem dX6_patternOf_50 : decode cX6_patternOf 50 = .ok (.areturn, 1) := by decide +kernel
theorem dX6_patternOf_51 : decode cX6_patternOf 51 = .ok (.ldc 35, 2) := by decide +kernel
theorem dX6_patternOf_53 : decode cX6_patternOf 53 = .ok (.areturn, 1) := by decide +kernel
theorem dX6_patternOf_54 : decode cX6_patternOf 54 = .ok (.ldc 37, 2) := by decide +kernel
theorem dX6_patternOf_56 : decode cX6_patternOf 56 = .ok (.areturn, 1) := by decide +kernel
theorem dX6_patternOf_57 : decode cX6_patternOf 57 = .ok (.ldc 39, 2) := by decide +kernel
theorem dX6_patternOf_59 : decode cX6_patternOf 59 = .ok (.areturn, 1) := by decide +kernel
theorem dX6_patternOf_60 : decode cX6_patternOf 60 = .ok (.ldc 41, 2) := by decide +kernel
theorem dX6_patternOf_62 : decode cX6_patternOf 62 = .ok (.areturn, 1) := by decide +kernel
theorem dX6_patternOf_63 : decode cX6_patternOf 63 = .ok (.ldc 43, 2) := by decide +kernel
theorem dX6_patternOf_65 : decode cX6_patternOf 65 = .ok (.areturn, 1) := by decide +kernel
theorem dX6_patternOf_66 : decode cX6_patternOf 66 = .ok (.ldc 45, 2) := by decide +kernel
theorem dX6_patternOf_68 : decode cX6_patternOf 68 = .ok (.areturn, 1) := by decide +kernel
theorem dX6_patternOf_69 : decode cX6_patternOf 69 = .ok (.ldc 47, 2) := by decide +kernel
theorem dX6_patternOf_71 : decode cX6_patternOf 71 = .ok (.areturn, 1) := by decide +kernel
theorem dX6_patternOf_72 : decode cX6_patternOf 72 = .ok (.ldc 49, 2) := by decide +kernel
theorem dX6_patternOf_74 : decode cX6_patternOf 74 = .ok (.areturn, 1) := by decide +kernel
theorem dX6_parse_0 : decode cX6_parse 0 = .ok (.aload_n 0, 1) := by decide +kernel
theorem dX6_parse_1 : decode cX6_parse 1 = .ok (.iconst 0, 1) := by decide +kernel
theorem dX6_parse_2 : decode cX6_parse 2 = .ok (.putfield 51, 3) := by decide +kernel
theorem dX6_parse_5 : decode cX6_parse 5 = .ok (.aload_n 0, 1) := by decide +kernel
theorem dX6_parse_6 : decode cX6_parse 6 = .ok (.iconst 0, 1) := by decide +kernel
theorem dX6_parse_7 : decode cX6_parse 7 = .ok (.putfield 54, 3) := by decide +kernel
theorem dX6_parse_10 : decode cX6_parse 10 = .ok (.aload_n 0, 1) := by decide +kernel
theorem dX6_parse_11 : decode cX6_parse 11 = .ok (.invokevirtual 57, 3) := by decide +kernel
theorem dX6_parse_14 : decode cX6_parse 14 = .ok (.ifCond .ne 5, 3) := by decide +kernel
theorem dX6_parse_17 : decode cX6_parse 17 = .ok (.iconst 0, 1) := by decide +kernel
theorem dX6_parse_18 : decode cX6_parse 18 = .ok (.ireturn, 1) := by decide +kernel
theorem dX6_parse_19 : decode cX6_parse 19 = .ok (.iconst 1, 1) := by decide +kernel
theorem dX6_parse_20 : decode cX6_parse 20 = .ok (.istore_n 1, 1) := by decide +kernel
theorem dX6_parse_21 : decode cX6_parse 21 = .ok (.iload_n 1, 1) := by decide +kernel
theorem dX6_parse_22 : decode cX6_parse 22 = .ok (.bipush 13, 2) := by decide +kernel
theorem dX6_parse_24 : decode cX6_parse 24 = .ok (.if_icmp .ge 38, 3) := by decide +kernel
theorem dX6_parse_27 : decode cX6_parse 27 = .ok (.aload_n 0, 1) := by decide +kernel
theorem dX6_parse_28 : decode cX6_parse 28 = .ok (.getfield 51, 3) := by decide +kernel
theorem dX6_parse_31 : decode cX6_parse 31 = .ok (.aload_n 0, 1) := by decide +kernel
theorem dX6_parse_32 : decode cX6_parse 32 = .ok (.getfield 25, 3) := by decide +kernel
theorem dX6_parse_35 : decode cX6_parse 35 = .ok (.if_icmp .ge 27, 3) := by decide +kernel
theorem dX6_parse_38 : decode cX6_parse 38 = .ok (.aload_n 0, 1) := by decide +kernel
theorem dX6_parse_39 : decode cX6_parse 39 = .ok (.bipush 59, 2) := by decide +kernel
theorem dX6_parse_41 : decode cX6_parse 41 = .ok (.invokevirtual 61, 3) := by decide +kernel
theorem dX6_parse_44 : decode cX6_parse 44 = .ok (.ifCond .eq 10, 3) := by decide +kernel
theorem dX6_parse_47 : decode cX6_parse 47 = .ok (.aload_n 0, 1) := by decide +kernel
theorem dX6_parse_48 : decode cX6_parse 48 = .ok (.invokevirtual 57, 3) := by decide +kernel
theorem dX6_parse_51 : decode cX6_parse 51 = .ok (.ifCond .ne 5, 3) := by decide +kernel
theorem dX6_parse_54 : decode cX6_parse 54 = .ok (.iconst 0, 1) := by decide +kernel
theorem dX6_parse_55 : decode cX6_parse 55 = .ok (.ireturn, 1) := by decide +kernel
theorem dX6_parse_56 : decode cX6_parse 56 = .ok (.iinc 1 1, 3) := by decide +kernel
theorem dX6_parse_59 : decode cX6_parse 59 = .ok (.goto (-38), 3) := by decide +kernel
theorem dX6_parse_62 : decode cX6_parse 62 = .ok (.aload_n 0, 1) := by decide +kernel
theorem dX6_parse_63 : decode cX6_parse 63 = .ok (.getfield 51, 3) := by decide +kernel
theorem dX6_parse_66 : decode cX6_parse 66 = .ok (.aload_n 0, 1) := by decide +kernel
theorem dX6_parse_67 : decode cX6_parse 67 = .ok (.getfield 25, 3) := by decide +kernel
theorem dX6_parse_70 : decode cX6_parse 70 = .ok (.if_icmp .lt 7, 3) := by decide +kernel
theorem dX6_parse_73 : decode cX6_parse 73 = .ok (.iconst 1, 1) := by decide +kernel
theorem dX6_parse_74 : decode cX6_parse 74 = .ok (.goto 4, 3) := by decide +kernel
theorem dX6_parse_77 : decode cX6_parse 77 = .ok (.iconst 0, 1) := by decide +kernel
theorem dX6_parse_78 : decode cX6_parse 78 = .ok (.ireturn, 1) := by decide +kernel
theorem dX6_parseCommand_0 : decode cX6_parseCommand 0 = .ok (.aload_n 0, 1) := by decide +kernel
theorem dX6_parseCommand_1 : decode cX6_parseCommand 1 = .ok (.invokevirtual 65, 3) := by decide +kernel
theorem dX6_parseCommand_4 : decode cX6_parseCommand 4 = .ok (.aload_n 0, 1) := by decide +kernel
theorem dX6_parseCommand_5 : decode cX6_parseCommand 5 = .ok (.invokevirtual 68, 3) := by decide +kernel
theorem dX6_parseCommand_8 : decode cX6_parseCommand 8 = .ok (.istore_n 1, 1) := by decide +kernel
theorem dX6_parseCommand_9 : decode cX6_parseCommand 9 = .ok (.iload_n 1, 1) := by decide +kernel
theorem dX6_parseCommand_10 : decode cX6_parseCommand 10 = .ok (.iconst (-1), 1) := by decide +kernel
theorem dX6_parseCommand_11 : decode cX6_parseCommand 11 = .ok (.if_icmp .ne 5, 3) := by decide +kernel
theorem dX6_parseCommand_14 : decode cX6_parseCommand 14 = .ok (.iconst 0, 1) := by decide +kernel
theorem dX6_parseCommand_15 : decode cX6_parseCommand 15 = .ok (.ireturn, 1) := by decide +kernel
theorem dX6_parseCommand_16 : decode cX6_parseCommand 16 = .ok (.iload_n 1, 1) := by decide +kernel
theorem dX6_parseCommand_17 : decode cX6_parseCommand 17 = .ok (.invokestatic 72, 3) := by decide +kernel
theorem dX6_parseCommand_20 : decode cX6_parseCommand 20 = .ok (.astore_n 2, 1) := by decide +kernel
theorem dX6_parseCommand_21 : decode cX6_parseCommand 21 = .ok (.aload_n 2, 1) := by decide +kernel
theorem dX6_parseCommand_22 : decode cX6_parseCommand 22 = .ok (.invokestatic 76, 3) := by decide +kernel
theorem dX6_parseCommand_25 : decode cX6_parseCommand 25 = .ok (.istore_n 3, 1) := by decide +kernel
theorem dX6_parseCommand_26 : decode cX6_parseCommand 26 = .ok (.iload_n 3, 1) := by decide +kernel
theorem dX6_parseCommand_27 : decode cX6_parseCommand 27 = .ok (.aload_n 2, 1) := by decide +kernel
theorem dX6_parseCommand_28 : decode cX6_parseCommand 28 = .ok (.invokevirtual 80, 3) := by decide +kernel
theorem dX6_parseCommand_31 : decode cX6_parseCommand 31 = .ok (.if_icmp .ge 23, 3) := by decide +kernel
theorem dX6_parseCommand_34 : decode cX6_parseCommand 34 = .ok (.aload_n 0, 1) := by decide +kernel
theorem dX6_parseCommand_35 : decode cX6_parseCommand 35 = .ok (.aload_n 2, 1) := by decide +kernel
theorem dX6_parseCommand_36 : decode cX6_parseCommand 36 = .ok (.iload_n 3, 1) := by decide +kernel
theorem dX6_parseCommand_37 : decode cX6_parseCommand 37 = .ok (.invokevirtual 85, 3) := by decide +kernel
theorem dX6_parseCommand_40 : decode cX6_parseCommand 40 = .ok (.invokevirtual 89, 3) := by decide +kernel
theorem dX6_parseCommand_43 : decode cX6_parseCommand 43 = .ok (.ifCond .ne 5, 3) := by decide +kernel
theorem dX6_parseCommand_46 : decode cX6_parseCommand 46 = .ok (.iconst 0, 1) := by decide +kernel
theorem dX6_parseCommand_47 : decode cX6_parseCommand 47 = .ok (.ireturn, 1) := by decide +kernel
theorem dX6_parseCommand_48 : decode cX6_parseCommand 48 = .ok (.iinc 3 1, 3) := by decide +kernel
theorem dX6_parseCommand_51 : decode cX6_parseCommand 51 = .ok (.goto (-25), 3) := by decide +kernel
theorem dX6_parseCommand_54 : decode cX6_parseCommand 54 = .ok (.aload_n 0, 1) := by decide +kernel
theorem dX6_parseCommand_55 : decode cX6_parseCommand 55 = .ok (.iload_n 1, 1) := by decide +kernel
theorem dX6_parseCommand_56 : decode cX6_parseCommand 56 = .ok (.invokevirtual 92, 3) := by decide +kernel
theorem dX6_parseCommand_59 : decode cX6_parseCommand 59 = .ok (.iconst 1, 1) := by decide +kernel
theorem dX6_parseCommand_60 : decode cX6_parseCommand 60 = .ok (.ireturn, 1) := by decide +kernel
theorem dX6_parseOpening_0 : decode cX6_parseOpening 0 = .ok (.iconst 0, 1) := by decide +kernel
theorem dX6_parseOpening_1 : decode cX6_parseOpening 1 = .ok (.istore_n 1, 1) := by decide +kernel
theorem dX6_parseOpening_2 : decode cX6_parseOpening 2 = .ok (.iconst 0, 1) := by decide +kernel
theorem dX6_parseOpening_3 : decode cX6_parseOpening 3 = .ok (.istore_n 2, 1) := by decide +kernel
theorem dX6_parseOpening_4 : decode cX6_parseOpening 4 = .ok (.iload_n 2, 1) := by decide +kernel
theorem dX6_parseOpening_5 : decode cX6_parseOpening 5 = .ok (.bipush 9, 2) := by decide +kernel
theorem dX6_parseOpening_7 : decode cX6_parseOpening 7 = .ok (.if_icmp .ge 62, 3) := by decide +kernel
theorem dX6_parseOpening_10 : decode cX6_parseOpening 10 = .ok (.iload_n 2, 1) := by decide +kernel
theorem dX6_parseOpening_11 : decode cX6_parseOpening 11 = .ok (.invokestatic 72, 3) := by decide +kernel
theorem dX6_parseOpening_14 : decode cX6_parseOpening 14 = .ok (.astore_n 3, 1) := by decide +kernel
theorem dX6_parseOpening_15 : decode cX6_parseOpening 15 = .ok (.aload_n 3, 1) := by decide +kernel
theorem dX6_parseOpening_16 : decode cX6_parseOpening 16 = .ok (.invokestatic 76, 3) := by decide +kernel
theorem dX6_parseOpening_19 : decode cX6_parseOpening 19 = .ok (.istore 4, 2) := by decide +kernel
theorem dX6_parseOpening_21 : decode cX6_parseOpening 21 = .ok (.aload_n 0, 1) := by decide +kernel
theorem dX6_parseOpening_22 : decode cX6_parseOpening 22 = .ok (.aload_n 3, 1) := by decide +kernel
theorem dX6_parseOpening_23 : decode cX6_parseOpening 23 = .ok (.iload 4, 2) := by decide +kernel
theorem dX6_parseOpening_25 : decode cX6_parseOpening 25 = .ok (.invokevirtual 96, 3) := by decide +kernel
theorem dX6_parseOpening_28 : decode cX6_parseOpening 28 = .ok (.istore 5, 2) := by decide +kernel
theorem dX6_parseOpening_30 : decode cX6_parseOpening 30 = .ok (.iload 5, 2) := by decide +kernel
theorem dX6_parseOpening_32 : decode cX6_parseOpening 32 = .ok (.iload 4, 2) := by decide +kernel
theorem dX6_parseOpening_34 : decode cX6_parseOpening 34 = .ok (.if_icmp .ne 16, 3) := by decide +kernel
theorem dX6_parseOpening_37 : decode cX6_parseOpening 37 = .ok (.aload_n 0, 1) := by decide +kernel
theorem dX6_parseOpening_38 : decode cX6_parseOpening 38 = .ok (.dup, 1) := by decide +kernel
theorem dX6_parseOpening_39 : decode cX6_parseOpening 39 = .ok (.getfield 51, 3) := by decide +kernel
theorem dX6_parseOpening_42 : decode cX6_parseOpening 42 = .ok (.iload 4, 2) := by decide +kernel
theorem dX6_parseOpening_44 : decode cX6_parseOpening 44 = .ok (.iadd, 1) := by decide +kernel
theorem dX6_parseOpening_45 : decode cX6_parseOpening 45 = .ok (.putfield 51, 3) := by decide +kernel
theorem dX6_parseOpening_48 : decode cX6_parseOpening 48 = .ok (.iload_n 2, 1) := by decide +kernel
theorem dX6_parseOpening_49 : decode cX6_parseOpening 49 = .ok (.ireturn, 1) := by decide +kernel
theorem dX6_parseOpening_50 : decode cX6_parseOpening 50 = .ok (.iload 5, 2) := by decide +kernel
theorem dX6_parseOpening_52 : decode cX6_parseOpening 52 = .ok (.iload_n 1, 1) := by decide +kernel
theorem dX6_parseOpening_53 : decode cX6_parseOpening 53 = .ok (.if_icmp .le 8, 3) := by decide +kernel
theorem dX6_parseOpening_56 : decode cX6_parseOpening 56 = .ok (.iload 5, 2) := by decide +kernel
theorem dX6_parseOpening_58 : decode cX6_parseOpening 58 = .ok (.goto 4, 3) := by decide +kernel
theorem dX6_parseOpening_61 : decode cX6_parseOpening 61 = .ok (.iload_n 1, 1) := by decide +kernel
theorem dX6_parseOpening_62 : decode cX6_parseOpening 62 = .ok (.istore_n 1, 1) := by decide +kernel
theorem dX6_parseOpening_63 : decode cX6_parseOpening 63 = .ok (.iinc 2 1, 3) := by decide +kernel
theorem dX6_parseOpening_66 : decode cX6_parseOpening 66 = .ok (.goto (-62), 3) := by decide +kernel
theorem dX6_parseOpening_69 : decode cX6_parseOpening 69 = .ok (.aload_n 0, 1) := by decide +kernel
theorem dX6_parseOpening_70 : decode cX6_parseOpening 70 = .ok (.dup, 1) := by decide +kernel
theorem dX6_parseOpening_71 : decode cX6_parseOpening 71 = .ok (.getfield 51, 3) := by decide +kernel
theorem dX6_parseOpening_74 : decode cX6_parseOpening 74 = .ok (.iload_n 1, 1) := by decide +kernel
theorem dX6_parseOpening_75 : decode cX6_parseOpening 75 = .ok (.iadd, 1) := by decide +kernel
theorem dX6_parseOpening_76 : decode cX6_parseOpening 76 = .ok (.putfield 51, 3) := by decide +kernel
theorem dX6_parseOpening_79 : decode cX6_parseOpening 79 = .ok (.iconst (-1), 1) := by decide +kernel
theorem dX6_parseOpening_80 : decode cX6_parseOpening 80 = .ok (.ireturn, 1) := by decide +kernel
theorem dX6_openingLength_0 : decode cX6_openingLength 0 = .ok (.iconst 0, 1) := by decide +kernel
theorem dX6_openingLength_1 : decode cX6_openingLength 1 = .ok (.istore_n 1, 1) := by decide +kernel
theorem dX6_openingLength_2 : decode cX6_openingLength 2 = .ok (.iload_n 1, 1) := by decide +kernel
theorem dX6_openingLength_3 : decode cX6_openingLength 3 = .ok (.aload_n 0, 1) := by decide +kernel
theorem dX6_openingLength_4 : decode cX6_openingLength 4 = .ok (.invokevirtual 80, 3) := by decide +kernel
theorem dX6_openingLength_7 : decode cX6_openingLength 7 = .ok (.if_icmp .ge 20, 3) := by decide +kernel
theorem dX6_openingLength_10 : decode cX6_openingLength 10 = .ok (.aload_n 0, 1) := by decide +kernel
theorem dX6_openingLength_11 : decode cX6_openingLength 11 = .ok (.iload_n 1, 1) := by decide +kernel
theorem dX6_openingLength_12 : decode cX6_openingLength 12 = .ok (.invokevirtual 85, 3) := by decide +kernel
theorem dX6_openingLength_15 : decode cX6_openingLength 15 = .ok (.invokestatic 100, 3) := by decide +kernel
theorem dX6_openingLength_18 : decode cX6_openingLength 18 = .ok (.ifCond .ne 9, 3) := by decide +kernel
theorem dX6_openingLength_21 : decode cX6_openingLength 21 = .ok (.iinc 1 1, 3) := by decide +kernel
theorem dX6_openingLength_24 : decode cX6_openingLength 24 = .ok (.goto (-22), 3) := by decide +kernel
theorem dX6_openingLength_27 : decode cX6_openingLength 27 = .ok (.iload_n 1, 1) := by decide +kernel
theorem dX6_openingLength_28 : decode cX6_openingLength 28 = .ok (.ireturn, 1) := by decide +kernel
theorem dX6_commonLength_0 : decode cX6_commonLength 0 = .ok (.iconst 0, 1) := by decide +kernel
theorem dX6_commonLength_1 : decode cX6_commonLength 1 = .ok (.istore_n 3, 1) := by decide +kernel
theorem dX6_commonLength_2 : decode cX6_commonLength 2 = .ok (.iload_n 3, 1) := by decide +kernel
theorem dX6_commonLength_3 : decode cX6_commonLength 3 = .ok (.iload_n 2, 1) := by decide +kernel
theorem dX6_commonLength_4 : decode cX6_commonLength 4 = .ok (.if_icmp .ge 30, 3) := by decide +kernel
theorem dX6_commonLength_7 : decode cX6_commonLength 7 = .ok (.iload_n 3, 1) := by decide +kernel
theorem dX6_commonLength_8 : decode cX6_commonLength 8 = .ok (.aload_n 1, 1) := by decide +kernel
theorem dX6_commonLength_9 : decode cX6_commonLength 9 = .ok (.invokevirtual 80, 3) := by decide +kernel
theorem dX6_commonLength_12 : decode cX6_commonLength 12 = .ok (.if_icmp .ge 22, 3) := by decide +kernel
theorem dX6_commonLength_15 : decode cX6_commonLength 15 = .ok (.aload_n 0, 1) := by decide +kernel
theorem dX6_commonLength_16 : decode cX6_commonLength 16 = .ok (.iload_n 3, 1) := by decide +kernel
theorem dX6_commonLength_17 : decode cX6_commonLength 17 = .ok (.aload_n 1, 1) := by decide +kernel
theorem dX6_commonLength_18 : decode cX6_commonLength 18 = .ok (.iload_n 3, 1) := by decide +kernel
theorem dX6_commonLength_19 : decode cX6_commonLength 19 = .ok (.invokevirtual 85, 3) := by decide +kernel
theorem dX6_commonLength_22 : decode cX6_commonLength 22 = .ok (.invokevirtual 103, 3) := by decide +kernel
theorem dX6_commonLength_25 : decode cX6_commonLength 25 = .ok (.ifCond .eq 9, 3) := by decide +kernel
theorem dX6_commonLength_28 : decode cX6_commonLength 28 = .ok (.iinc 3 1, 3) := by decide +kernel
theorem dX6_commonLength_31 : decode cX6_commonLength 31 = .ok (.goto (-29), 3) := by decide +kernel
theorem dX6_commonLength_34 : decode cX6_commonLength 34 = .ok (.iload_n 3, 1) := by decide +kernel
theorem dX6_commonLength_35 : decode cX6_commonLength 35 = .ok (.ireturn, 1) := by decide +kernel
theorem dX6_isHere_0 : decode cX6_isHere 0 = .ok (.aload_n 0, 1) := by decide +kernel
theorem dX6_isHere_1 : decode cX6_isHere 1 = .ok (.getfield 51, 3) := by decide +kernel
theorem dX6_isHere_4 : decode cX6_isHere 4 = .ok (.iload_n 1, 1) := by decide +kernel
theorem dX6_isHere_5 : decode cX6_isHere 5 = .ok (.iadd, 1) := by decide +kernel
theorem dX6_isHere_6 : decode cX6_isHere 6 = .ok (.istore_n 3, 1) := by decide +kernel
theorem dX6_isHere_7 : decode cX6_isHere 7 = .ok (.iload_n 3, 1) := by decide +kernel
theorem dX6_isHere_8 : decode cX6_isHere 8 = .ok (.ifCond .lt 31, 3) := by decide +kernel
theorem dX6_isHere_11 : decode cX6_isHere 11 = .ok (.iload_n 3, 1) := by decide +kernel
theorem dX6_isHere_12 : decode cX6_isHere 12 = .ok (.aload_n 0, 1) := by decide +kernel
theorem dX6_isHere_13 : decode cX6_isHere 13 = .ok (.getfield 25, 3) := by decide +kernel
theorem dX6_isHere_16 : decode cX6_isHere 16 = .ok (.if_icmp .ge 23, 3) := by decide +kernel
theorem dX6_isHere_19 : decode cX6_isHere 19 = .ok (.iload_n 3, 1) := by decide +kernel
theorem dX6_isHere_20 : decode cX6_isHere 20 = .ok (.bipush 60, 2) := by decide +kernel
theorem dX6_isHere_22 : decode cX6_isHere 22 = .ok (.if_icmp .ge 17, 3) := by decide +kernel
theorem dX6_isHere_25 : decode cX6_isHere 25 = .ok (.aload_n 0, 1) := by decide +kernel
theorem dX6_isHere_26 : decode cX6_isHere 26 = .ok (.getfield 9, 3) := by decide +kernel
theorem dX6_isHere_29 : decode cX6_isHere 29 = .ok (.iload_n 3, 1) := by decide +kernel
theorem dX6_isHere_30 : decode cX6_isHere 30 = .ok (.caload, 1) := by decide +kernel
theorem dX6_isHere_31 : decode cX6_isHere 31 = .ok (.iload_n 2, 1) := by decide +kernel
theorem dX6_isHere_32 : decode cX6_isHere 32 = .ok (.if_icmp .ne 7, 3) := by decide +kernel
theorem dX6_isHere_35 : decode cX6_isHere 35 = .ok (.iconst 1, 1) := by decide +kernel
theorem dX6_isHere_36 : decode cX6_isHere 36 = .ok (.goto 4, 3) := by decide +kernel
theorem dX6_isHere_39 : decode cX6_isHere 39 = .ok (.iconst 0, 1) := by decide +kernel
theorem dX6_isHere_40 : decode cX6_isHere 40 = .ok (.ireturn, 1) := by decide +kernel
theorem dX6_isPlaceholder_0 : decode cX6_isPlaceholder 0 = .ok (.iload_n 0, 1) := by decide +kernel
theorem dX6_isPlaceholder_1 : decode cX6_isPlaceholder 1 = .ok (.bipush 78, 2) := by decide +kernel
theorem dX6_isPlaceholder_3 : decode cX6_isPlaceholder 3 = .ok (.if_icmp .eq 15, 3) := by decide +kernel
theorem dX6_isPlaceholder_6 : decode cX6_isPlaceholder 6 = .ok (.iload_n 0, 1) := by decide +kernel
theorem dX6_isPlaceholder_7 : decode cX6_isPlaceholder 7 = .ok (.bipush 68, 2) := by decide +kernel
theorem dX6_isPlaceholder_9 : decode cX6_isPlaceholder 9 = .ok (.if_icmp .eq 9, 3) := by decide +kernel
theorem dX6_isPlaceholder_12 : decode cX6_isPlaceholder 12 = .ok (.iload_n 0, 1) := by decide +kernel
theorem dX6_isPlaceholder_13 : decode cX6_isPlaceholder 13 = .ok (.bipush 77, 2) := by decide +kernel
theorem dX6_isPlaceholder_15 : decode cX6_isPlaceholder 15 = .ok (.if_icmp .ne 7, 3) := by decide +kernel
theorem dX6_isPlaceholder_18 : decode cX6_isPlaceholder 18 = .ok (.iconst 1, 1) := by decide +kernel
theorem dX6_isPlaceholder_19 : decode cX6_isPlaceholder 19 = .ok (.goto 4, 3) := by decide +kernel
theorem dX6_isPlaceholder_22 : decode cX6_isPlaceholder 22 = .ok (.iconst 0, 1) := by decide +kernel
theorem dX6_isPlaceholder_23 : decode cX6_isPlaceholder 23 = .ok (.ireturn, 1) := by decide +kernel
theorem dX6_parsePart_0 : decode cX6_parsePart 0 = .ok (.iload_n 1, 1) := by decide +kernel
theorem dX6_parsePart_1 : decode cX6_parsePart 1 = .ok (.lookupswitch 52 #[(68, 41), (77, 47), (78, 35)], 35) := by decide +kernel
theorem dX6_parsePart_36 : decode cX6_parsePart 36 = .ok (.aload_n 0, 1) := by decide +kernel
theorem dX6_parsePart_37 : decode cX6_parsePart 37 = .ok (.iconst 3, 1) := by decide +kernel
theorem dX6_parsePart_38 : decode cX6_parsePart 38 = .ok (.invokevirtual 107, 3) := by decide +kernel
theorem dX6_parsePart_41 : decode cX6_parsePart 41 = .ok (.ireturn, 1) := by decide +kernel
theorem dX6_parsePart_42 : decode cX6_parsePart 42 = .ok (.aload_n 0, 1) := by decide +kernel
theorem dX6_parsePart_43 : decode cX6_parsePart 43 = .ok (.iconst 1, 1) := by decide +kernel
theorem dX6_parsePart_44 : decode cX6_parsePart 44 = .ok (.invokevirtual 107, 3) := by decide +kernel
theorem dX6_parsePart_47 : decode cX6_parsePart 47 = .ok (.ireturn, 1) := by decide +kernel
theorem dX6_parsePart_48 : decode cX6_parsePart 48 = .ok (.aload_n 0, 1) := by decide +kernel
theorem dX6_parsePart_49 : decode cX6_parsePart 49 = .ok (.invokevirtual 111, 3) := by decide +kernel
theorem dX6_parsePart_52 : decode cX6_parsePart 52 = .ok (.ireturn, 1) := by decide +kernel
theorem dX6_parsePart_53 : decode cX6_parsePart 53 = .ok (.aload_n 0, 1) := by decide +kernel
theorem dX6_parsePart_54 : decode cX6_parsePart 54 = .ok (.iload_n 1, 1) := by decide +kernel
theorem dX6_parsePart_55 : decode cX6_parsePart 55 = .ok (.invokevirtual 61, 3) := by decide +kernel
theorem dX6_parsePart_58 : decode cX6_parsePart 58 = .ok (.ireturn, 1) := by decide +kernel
theorem dX6_parseSign_0 : decode cX6_parseSign 0 = .ok (.aload_n 0, 1) := by decide +kernel
theorem dX6_parseSign_1 : decode cX6_parseSign 1 = .ok (.iconst 0, 1) := by decide +kernel
theorem dX6_parseSign_2 : decode cX6_parseSign 2 = .ok (.iload_n 1, 1) := by decide +kernel
theorem dX6_parseSign_3 : decode cX6_parseSign 3 = .ok (.invokevirtual 103, 3) := by decide +kernel
theorem dX6_parseSign_6 : decode cX6_parseSign 6 = .ok (.ifCond .ne 5, 3) := by decide +kernel
theorem dX6_parseSign_9 : decode cX6_parseSign 9 = .ok (.iconst 0, 1) := by decide +kernel
theorem dX6_parseSign_10 : decode cX6_parseSign 10 = .ok (.ireturn, 1) := by decide +kernel
theorem dX6_parseSign_11 : decode cX6_parseSign 11 = .ok (.aload_n 0, 1) := by decide +kernel
theorem dX6_parseSign_12 : decode cX6_parseSign 12 = .ok (.dup, 1) := by decide +kernel
theorem dX6_parseSign_13 : decode cX6_parseSign 13 = .ok (.getfield 51, 3) := by decide +kernel
theorem dX6_parseSign_16 : decode cX6_parseSign 16 = .ok (.iconst 1, 1) := by decide +kernel
theorem dX6_parseSign_17 : decode cX6_parseSign 17 = .ok (.iadd, 1) := by decide +kernel
theorem dX6_parseSign_18 : decode cX6_parseSign 18 = .ok (.putfield 51, 3) := by decide +kernel
theorem dX6_parseSign_21 : decode cX6_parseSign 21 = .ok (.iconst 1, 1) := by decide +kernel
theorem dX6_parseSign_22 : decode cX6_parseSign 22 = .ok (.ireturn, 1) := by decide +kernel
theorem dX6_parseNumber_0 : decode cX6_parseNumber 0 = .ok (.iconst 0, 1) := by decide +kernel
theorem dX6_parseNumber_1 : decode cX6_parseNumber 1 = .ok (.istore_n 2, 1) := by decide +kernel
theorem dX6_parseNumber_2 : decode cX6_parseNumber 2 = .ok (.iconst 0, 1) := by decide +kernel
theorem dX6_parseNumber_3 : decode cX6_parseNumber 3 = .ok (.istore_n 3, 1) := by decide +kernel
theorem dX6_parseNumber_4 : decode cX6_parseNumber 4 = .ok (.iload_n 3, 1) := by decide +kernel
theorem dX6_parseNumber_5 : decode cX6_parseNumber 5 = .ok (.iload_n 1, 1) := by decide +kernel
theorem dX6_parseNumber_6 : decode cX6_parseNumber 6 = .ok (.if_icmp .ge 37, 3) := by decide +kernel
theorem dX6_parseNumber_9 : decode cX6_parseNumber 9 = .ok (.aload_n 0, 1) := by decide +kernel
theorem dX6_parseNumber_10 : decode cX6_parseNumber 10 = .ok (.invokevirtual 114, 3) := by decide +kernel
theorem dX6_parseNumber_13 : decode cX6_parseNumber 13 = .ok (.iconst (-1), 1) := by decide +kernel
theorem dX6_parseNumber_14 : decode cX6_parseNumber 14 = .ok (.if_icmp .eq 29, 3) := by decide +kernel
theorem dX6_parseNumber_17 : decode cX6_parseNumber 17 = .ok (.iload_n 2, 1) := by decide +kernel
theorem dX6_parseNumber_18 : decode cX6_parseNumber 18 = .ok (.bipush 10, 2) := by decide +kernel
theorem dX6_parseNumber_20 : decode cX6_parseNumber 20 = .ok (.imul, 1) := by decide +kernel
theorem dX6_parseNumber_21 : decode cX6_parseNumber 21 = .ok (.aload_n 0, 1) := by decide +kernel
theorem dX6_parseNumber_22 : decode cX6_parseNumber 22 = .ok (.invokevirtual 114, 3) := by decide +kernel
theorem dX6_parseNumber_25 : decode cX6_parseNumber 25 = .ok (.iadd, 1) := by decide +kernel
theorem dX6_parseNumber_26 : decode cX6_parseNumber 26 = .ok (.istore_n 2, 1) := by decide +kernel
theorem dX6_parseNumber_27 : decode cX6_parseNumber 27 = .ok (.aload_n 0, 1) := by decide +kernel
theorem dX6_parseNumber_28 : decode cX6_parseNumber 28 = .ok (.dup, 1) := by decide +kernel
theorem dX6_parseNumber_29 : decode cX6_parseNumber 29 = .ok (.getfield 51, 3) := by decide +kernel
theorem dX6_parseNumber_32 : decode cX6_parseNumber 32 = .ok (.iconst 1, 1) := by decide +kernel
theorem dX6_parseNumber_33 : decode cX6_parseNumber 33 = .ok (.iadd, 1) := by decide +kernel
theorem dX6_parseNumber_34 : decode cX6_parseNumber 34 = .ok (.putfield 51, 3) := by decide +kernel
theorem dX6_parseNumber_37 : decode cX6_parseNumber 37 = .ok (.iinc 3 1, 3) := by decide +kernel
theorem dX6_parseNumber_40 : decode cX6_parseNumber 40 = .ok (.goto (-36), 3) := by decide +kernel
theorem dX6_parseNumber_43 : decode cX6_parseNumber 43 = .ok (.iload_n 3, 1) := by decide +kernel
theorem dX6_parseNumber_44 : decode cX6_parseNumber 44 = .ok (.ifCond .ne 5, 3) := by decide +kernel
theorem dX6_parseNumber_47 : decode cX6_parseNumber 47 = .ok (.iconst 0, 1) := by decide +kernel
theorem dX6_parseNumber_48 : decode cX6_parseNumber 48 = .ok (.ireturn, 1) := by decide +kernel
theorem dX6_parseNumber_49 : decode cX6_parseNumber 49 = .ok (.aload_n 0, 1) := by decide +kernel
theorem dX6_parseNumber_50 : decode cX6_parseNumber 50 = .ok (.iload_n 2, 1) := by decide +kernel
theorem dX6_parseNumber_51 : decode cX6_parseNumber 51 = .ok (.invokevirtual 117, 3) := by decide +kernel
theorem dX6_parseNumber_54 : decode cX6_parseNumber 54 = .ok (.iconst 1, 1) := by decide +kernel
theorem dX6_parseNumber_55 : decode cX6_parseNumber 55 = .ok (.ireturn, 1) := by decide +kernel
theorem dX6_digitHere_0 : decode cX6_digitHere 0 = .ok (.aload_n 0, 1) := by decide +kernel
theorem dX6_digitHere_1 : decode cX6_digitHere 1 = .ok (.getfield 51, 3) := by decide +kernel
theorem dX6_digitHere_4 : decode cX6_digitHere 4 = .ok (.ifCond .lt 23, 3) := by decide +kernel
theorem dX6_digitHere_7 : decode cX6_digitHere 7 = .ok (.aload_n 0, 1) := by decide +kernel
theorem dX6_digitHere_8 : decode cX6_digitHere 8 = .ok (.getfield 51, 3) := by decide +kernel
theorem dX6_digitHere_11 : decode cX6_digitHere 11 = .ok (.aload_n 0, 1) := by decide +kernel
theorem dX6_digitHere_12 : decode cX6_digitHere 12 = .ok (.getfield 25, 3) := by decide +kernel
theorem dX6_digitHere_15 : decode cX6_digitHere 15 = .ok (.if_icmp .ge 12, 3) := by decide +kernel
theorem dX6_digitHere_18 : decode cX6_digitHere 18 = .ok (.aload_n 0, 1) := by decide +kernel
theorem dX6_digitHere_19 : decode cX6_digitHere 19 = .ok (.getfield 51, 3) := by decide +kernel
theorem dX6_digitHere_22 : decode cX6_digitHere 22 = .ok (.bipush 60, 2) := by decide +kernel
theorem dX6_digitHere_24 : decode cX6_digitHere 24 = .ok (.if_icmp .lt 5, 3) := by decide +kernel
theorem dX6_digitHere_27 : decode cX6_digitHere 27 = .ok (.iconst (-1), 1) := by decide +kernel
theorem dX6_digitHere_28 : decode cX6_digitHere 28 = .ok (.ireturn, 1) := by decide +kernel
theorem dX6_digitHere_29 : decode cX6_digitHere 29 = .ok (.aload_n 0, 1) := by decide +kernel
theorem dX6_digitHere_30 : decode cX6_digitHere 30 = .ok (.getfield 9, 3) := by decide +kernel
theorem dX6_digitHere_33 : decode cX6_digitHere 33 = .ok (.aload_n 0, 1) := by decide +kernel
theorem dX6_digitHere_34 : decode cX6_digitHere 34 = .ok (.getfield 51, 3) := by decide +kernel
theorem dX6_digitHere_37 : decode cX6_digitHere 37 = .ok (.caload, 1) := by decide +kernel
theorem dX6_digitHere_38 : decode cX6_digitHere 38 = .ok (.istore_n 1, 1) := by decide +kernel
theorem dX6_digitHere_39 : decode cX6_digitHere 39 = .ok (.iload_n 1, 1) := by decide +kernel
theorem dX6_digitHere_40 : decode cX6_digitHere 40 = .ok (.bipush 48, 2) := by decide +kernel
theorem dX6_digitHere_42 : decode cX6_digitHere 42 = .ok (.if_icmp .lt 16, 3) := by decide +kernel
theorem dX6_digitHere_45 : decode cX6_digitHere 45 = .ok (.iload_n 1, 1) := by decide +kernel
theorem dX6_digitHere_46 : decode cX6_digitHere 46 = .ok (.bipush 57, 2) := by decide +kernel
theorem dX6_digitHere_48 : decode cX6_digitHere 48 = .ok (.if_icmp .gt 10, 3) := by decide +kernel
theorem dX6_digitHere_51 : decode cX6_digitHere 51 = .ok (.iload_n 1, 1) := by decide +kernel
theorem dX6_digitHere_52 : decode cX6_digitHere 52 = .ok (.bipush 48, 2) := by decide +kernel
theorem dX6_digitHere_54 : decode cX6_digitHere 54 = .ok (.isub, 1) := by decide +kernel
theorem dX6_digitHere_55 : decode cX6_digitHere 55 = .ok (.goto 4, 3) := by decide +kernel
theorem dX6_digitHere_58 : decode cX6_digitHere 58 = .ok (.iconst (-1), 1) := by decide +kernel
theorem dX6_digitHere_59 : decode cX6_digitHere 59 = .ok (.ireturn, 1) := by decide +kernel
theorem dX6_parseMode_0 : decode cX6_parseMode 0 = .ok (.aload_n 0, 1) := by decide +kernel
theorem dX6_parseMode_1 : decode cX6_parseMode 1 = .ok (.bipush 101, 2) := by decide +kernel
theorem dX6_parseMode_3 : decode cX6_parseMode 3 = .ok (.invokevirtual 61, 3) := by decide +kernel
theorem dX6_parseMode_6 : decode cX6_parseMode 6 = .ok (.ifCond .eq 11, 3) := by decide +kernel
theorem dX6_parseMode_9 : decode cX6_parseMode 9 = .ok (.aload_n 0, 1) := by decide +kernel
theorem dX6_parseMode_10 : decode cX6_parseMode 10 = .ok (.iconst 0, 1) := by decide +kernel
theorem dX6_parseMode_11 : decode cX6_parseMode 11 = .ok (.invokevirtual 117, 3) := by decide +kernel
theorem dX6_parseMode_14 : decode cX6_parseMode 14 = .ok (.goto 39, 3) := by decide +kernel
theorem dX6_parseMode_17 : decode cX6_parseMode 17 = .ok (.aload_n 0, 1) := by decide +kernel
theorem dX6_parseMode_18 : decode cX6_parseMode 18 = .ok (.bipush 110, 2) := by decide +kernel
theorem dX6_parseMode_20 : decode cX6_parseMode 20 = .ok (.invokevirtual 61, 3) := by decide +kernel
theorem dX6_parseMode_23 : decode cX6_parseMode 23 = .ok (.ifCond .eq 11, 3) := by decide +kernel
theorem dX6_parseMode_26 : decode cX6_parseMode 26 = .ok (.aload_n 0, 1) := by decide +kernel
theorem dX6_parseMode_27 : decode cX6_parseMode 27 = .ok (.iconst 1, 1) := by decide +kernel
theorem dX6_parseMode_28 : decode cX6_parseMode 28 = .ok (.invokevirtual 117, 3) := by decide +kernel
theorem dX6_parseMode_31 : decode cX6_parseMode 31 = .ok (.goto 22, 3) := by decide +kernel
theorem dX6_parseMode_34 : decode cX6_parseMode 34 = .ok (.aload_n 0, 1) := by decide +kernel
theorem dX6_parseMode_35 : decode cX6_parseMode 35 = .ok (.bipush 102, 2) := by decide +kernel
theorem dX6_parseMode_37 : decode cX6_parseMode 37 = .ok (.invokevirtual 61, 3) := by decide +kernel
theorem dX6_parseMode_40 : decode cX6_parseMode 40 = .ok (.ifCond .eq 11, 3) := by decide +kernel
theorem dX6_parseMode_43 : decode cX6_parseMode 43 = .ok (.aload_n 0, 1) := by decide +kernel
theorem dX6_parseMode_44 : decode cX6_parseMode 44 = .ok (.iconst 2, 1) := by decide +kernel
theorem dX6_parseMode_45 : decode cX6_parseMode 45 = .ok (.invokevirtual 117, 3) := by decide +kernel
theorem dX6_parseMode_48 : decode cX6_parseMode 48 = .ok (.goto 5, 3) := by decide +kernel
theorem dX6_parseMode_51 : decode cX6_parseMode 51 = .ok (.iconst 0, 1) := by decide +kernel
theorem dX6_parseMode_52 : decode cX6_parseMode 52 = .ok (.ireturn, 1) := by decide +kernel
theorem dX6_parseMode_53 : decode cX6_parseMode 53 = .ok (.iconst 1, 1) := by decide +kernel
theorem dX6_parseMode_54 : decode cX6_parseMode 54 = .ok (.ireturn, 1) := by decide +kernel
theorem dX6_clearValues_0 : decode cX6_clearValues 0 = .ok (.aload_n 0, 1) := by decide +kernel
theorem dX6_clearValues_1 : decode cX6_clearValues 1 = .ok (.iconst 0, 1) := by decide +kernel
theorem dX6_clearValues_2 : decode cX6_clearValues 2 = .ok (.putfield 120, 3) := by decide +kernel
theorem dX6_clearValues_5 : decode cX6_clearValues 5 = .ok (.iconst 0, 1) := by decide +kernel
theorem dX6_clearValues_6 : decode cX6_clearValues 6 = .ok (.istore_n 1, 1) := by decide +kernel
theorem dX6_clearValues_7 : decode cX6_clearValues 7 = .ok (.iload_n 1, 1) := by decide +kernel
theorem dX6_clearValues_8 : decode cX6_clearValues 8 = .ok (.iconst 3, 1) := by decide +kernel
theorem dX6_clearValues_9 : decode cX6_clearValues 9 = .ok (.if_icmp .ge 16, 3) := by decide +kernel
theorem dX6_clearValues_12 : decode cX6_clearValues 12 = .ok (.aload_n 0, 1) := by decide +kernel
theorem dX6_clearValues_13 : decode cX6_clearValues 13 = .ok (.getfield 22, 3) := by decide +kernel
theorem dX6_clearValues_16 : decode cX6_clearValues 16 = .ok (.iload_n 1, 1) := by decide +kernel
theorem dX6_clearValues_17 : decode cX6_clearValues 17 = .ok (.iconst 0, 1) := by decide +kernel
theorem dX6_clearValues_18 : decode cX6_clearValues 18 = .ok (.iastore, 1) := by decide +kernel
theorem dX6_clearValues_19 : decode cX6_clearValues 19 = .ok (.iinc 1 1, 3) := by decide +kernel
theorem dX6_clearValues_22 : decode cX6_clearValues 22 = .ok (.goto (-15), 3) := by decide +kernel
theorem dX6_clearValues_25 : decode cX6_clearValues 25 = .ok (.return_, 1) := by decide +kernel
theorem dX6_addValue_0 : decode cX6_addValue 0 = .ok (.aload_n 0, 1) := by decide +kernel
theorem dX6_addValue_1 : decode cX6_addValue 1 = .ok (.getfield 120, 3) := by decide +kernel
theorem dX6_addValue_4 : decode cX6_addValue 4 = .ok (.iconst 0, 1) := by decide +kernel
theorem dX6_addValue_5 : decode cX6_addValue 5 = .ok (.iconst 2, 1) := by decide +kernel
theorem dX6_addValue_6 : decode cX6_addValue 6 = .ok (.invokestatic 29, 3) := by decide +kernel
theorem dX6_addValue_9 : decode cX6_addValue 9 = .ok (.ifCond .eq 23, 3) := by decide +kernel
theorem dX6_addValue_12 : decode cX6_addValue 12 = .ok (.aload_n 0, 1) := by decide +kernel
theorem dX6_addValue_13 : decode cX6_addValue 13 = .ok (.getfield 22, 3) := by decide +kernel
theorem dX6_addValue_16 : decode cX6_addValue 16 = .ok (.aload_n 0, 1) := by decide +kernel
theorem dX6_addValue_17 : decode cX6_addValue 17 = .ok (.getfield 120, 3) := by decide +kernel
theorem dX6_addValue_20 : decode cX6_addValue 20 = .ok (.iload_n 1, 1) := by decide +kernel
theorem dX6_addValue_21 : decode cX6_addValue 21 = .ok (.iastore, 1) := by decide +kernel
theorem dX6_addValue_22 : decode cX6_addValue 22 = .ok (.aload_n 0, 1) := by decide +kernel
theorem dX6_addValue_23 : decode cX6_addValue 23 = .ok (.dup, 1) := by decide +kernel
theorem dX6_addValue_24 : decode cX6_addValue 24 = .ok (.getfield 120, 3) := by decide +kernel
theorem dX6_addValue_27 : decode cX6_addValue 27 = .ok (.iconst 1, 1) := by decide +kernel
theorem dX6_addValue_28 : decode cX6_addValue 28 = .ok (.iadd, 1) := by decide +kernel
theorem dX6_addValue_29 : decode cX6_addValue 29 = .ok (.putfield 120, 3) := by decide +kernel
theorem dX6_addValue_32 : decode cX6_addValue 32 = .ok (.return_, 1) := by decide +kernel
theorem dX6_store_0 : decode cX6_store 0 = .ok (.aload_n 0, 1) := by decide +kernel
theorem dX6_store_1 : decode cX6_store 1 = .ok (.getfield 54, 3) := by decide +kernel
theorem dX6_store_4 : decode cX6_store 4 = .ok (.iconst 0, 1) := by decide +kernel
theorem dX6_store_5 : decode cX6_store 5 = .ok (.bipush 12, 2) := by decide +kernel
theorem dX6_store_7 : decode cX6_store 7 = .ok (.invokestatic 29, 3) := by decide +kernel
theorem dX6_store_10 : decode cX6_store 10 = .ok (.ifCond .ne 4, 3) := by decide +kernel
theorem dX6_store_13 : decode cX6_store 13 = .ok (.return_, 1) := by decide +kernel
theorem dX6_store_14 : decode cX6_store 14 = .ok (.aload_n 0, 1) := by decide +kernel
theorem dX6_store_15 : decode cX6_store 15 = .ok (.getfield 15, 3) := by decide +kernel
theorem dX6_store_18 : decode cX6_store 18 = .ok (.aload_n 0, 1) := by decide +kernel
theorem dX6_store_19 : decode cX6_store 19 = .ok (.getfield 54, 3) := by decide +kernel
theorem dX6_store_22 : decode cX6_store 22 = .ok (.iload_n 1, 1) := by decide +kernel
theorem dX6_store_23 : decode cX6_store 23 = .ok (.iastore, 1) := by decide +kernel
theorem dX6_store_24 : decode cX6_store 24 = .ok (.iconst 0, 1) := by decide +kernel
theorem dX6_store_25 : decode cX6_store 25 = .ok (.istore_n 2, 1) := by decide +kernel
theorem dX6_store_26 : decode cX6_store 26 = .ok (.iload_n 2, 1) := by decide +kernel
theorem dX6_store_27 : decode cX6_store 27 = .ok (.iconst 3, 1) := by decide +kernel
theorem dX6_store_28 : decode cX6_store 28 = .ok (.if_icmp .ge 28, 3) := by decide +kernel
theorem dX6_store_31 : decode cX6_store 31 = .ok (.aload_n 0, 1) := by decide +kernel
theorem dX6_store_32 : decode cX6_store 32 = .ok (.getfield 19, 3) := by decide +kernel
theorem dX6_store_35 : decode cX6_store 35 = .ok (.aload_n 0, 1) := by decide +kernel
theorem dX6_store_36 : decode cX6_store 36 = .ok (.getfield 54, 3) := by decide +kernel
theorem dX6_store_39 : decode cX6_store 39 = .ok (.iconst 3, 1) := by decide +kernel
theorem dX6_store_40 : decode cX6_store 40 = .ok (.imul, 1) := by decide +kernel
theorem dX6_store_41 : decode cX6_store 41 = .ok (.iload_n 2, 1) := by decide +kernel
theorem dX6_store_42 : decode cX6_store 42 = .ok (.iadd, 1) := by decide +kernel
theorem dX6_store_43 : decode cX6_store 43 = .ok (.aload_n 0, 1) := by decide +kernel
theorem dX6_store_44 : decode cX6_store 44 = .ok (.getfield 22, 3) := by decide +kernel
theorem dX6_store_47 : decode cX6_store 47 = .ok (.iload_n 2, 1) := by decide +kernel
theorem dX6_store_48 : decode cX6_store 48 = .ok (.iaload, 1) := by decide +kernel
theorem dX6_store_49 : decode cX6_store 49 = .ok (.iastore, 1) := by decide +kernel
theorem dX6_store_50 : decode cX6_store 50 = .ok (.iinc 2 1, 3) := by decide +kernel
theorem dX6_store_53 : decode cX6_store 53 = .ok (.goto (-27), 3) := by decide +kernel
theorem dX6_store_56 : decode cX6_store 56 = .ok (.aload_n 0, 1) := by decide +kernel
theorem dX6_store_57 : decode cX6_store 57 = .ok (.dup, 1) := by decide +kernel
theorem dX6_store_58 : decode cX6_store 58 = .ok (.getfield 54, 3) := by decide +kernel
theorem dX6_store_61 : decode cX6_store 61 = .ok (.iconst 1, 1) := by decide +kernel
theorem dX6_store_62 : decode cX6_store 62 = .ok (.iadd, 1) := by decide +kernel
theorem dX6_store_63 : decode cX6_store 63 = .ok (.putfield 54, 3) := by decide +kernel
theorem dX6_store_66 : decode cX6_store 66 = .ok (.return_, 1) := by decide +kernel
theorem dX7_init_0 : decode cX7_init 0 = .ok (.aload_n 0, 1) := by decide +kernel
theorem dX7_init_1 : decode cX7_init 1 = .ok (.invokespecial 1, 3) := by decide +kernel
theorem dX7_init_4 : decode cX7_init 4 = .ok (.aload_n 0, 1) := by decide +kernel
theorem dX7_init_5 : decode cX7_init 5 = .ok (.new 7, 3) := by decide +kernel
theorem dX7_init_8 : decode cX7_init 8 = .ok (.dup, 1) := by decide +kernel
theorem dX7_init_9 : decode cX7_init 9 = .ok (.invokespecial 9, 3) := by decide +kernel
theorem dX7_init_12 : decode cX7_init 12 = .ok (.putfield 10, 3) := by decide +kernel
theorem dX7_init_15 : decode cX7_init 15 = .ok (.aload_n 0, 1) := by decide +kernel
theorem dX7_init_16 : decode cX7_init 16 = .ok (.new 16, 3) := by decide +kernel
theorem dX7_init_19 : decode cX7_init 19 = .ok (.dup, 1) := by decide +kernel
theorem dX7_init_20 : decode cX7_init 20 = .ok (.invokespecial 18, 3) := by decide +kernel
theorem dX7_init_23 : decode cX7_init 23 = .ok (.putfield 19, 3) := by decide +kernel
theorem dX7_init_26 : decode cX7_init 26 = .ok (.aload_n 0, 1) := by decide +kernel
theorem dX7_init_27 : decode cX7_init 27 = .ok (.new 23, 3) := by decide +kernel
theorem dX7_init_30 : decode cX7_init 30 = .ok (.dup, 1) := by decide +kernel
theorem dX7_init_31 : decode cX7_init 31 = .ok (.invokespecial 25, 3) := by decide +kernel
theorem dX7_init_34 : decode cX7_init 34 = .ok (.putfield 26, 3) := by decide +kernel
theorem dX7_init_37 : decode cX7_init 37 = .ok (.return_, 1) := by decide +kernel
theorem dX7_takeFrom_0 : decode cX7_takeFrom 0 = .ok (.aload_n 0, 1) := by decide +kernel
theorem dX7_takeFrom_1 : decode cX7_takeFrom 1 = .ok (.getfield 10, 3) := by decide +kernel
theorem dX7_takeFrom_4 : decode cX7_takeFrom 4 = .ok (.aload_n 1, 1) := by decide +kernel
theorem dX7_takeFrom_5 : decode cX7_takeFrom 5 = .ok (.getfield 10, 3) := by decide +kernel
theorem dX7_takeFrom_8 : decode cX7_takeFrom 8 = .ok (.invokevirtual 30, 3) := by decide +kernel
theorem dX7_takeFrom_11 : decode cX7_takeFrom 11 = .ok (.aload_n 0, 1) := by decide +kernel
theorem dX7_takeFrom_12 : decode cX7_takeFrom 12 = .ok (.getfield 19, 3) := by decide +kernel
theorem dX7_takeFrom_15 : decode cX7_takeFrom 15 = .ok (.aload_n 1, 1) := by decide +kernel
theorem dX7_takeFrom_16 : decode cX7_takeFrom 16 = .ok (.getfield 19, 3) := by decide +kernel
theorem dX7_takeFrom_19 : decode cX7_takeFrom 19 = .ok (.invokevirtual 34, 3) := by decide +kernel
theorem dX7_takeFrom_22 : decode cX7_takeFrom 22 = .ok (.aload_n 0, 1) := by decide +kernel
theorem dX7_takeFrom_23 : decode cX7_takeFrom 23 = .ok (.getfield 26, 3) := by decide +kernel
theorem dX7_takeFrom_26 : decode cX7_takeFrom 26 = .ok (.aload_n 1, 1) := by decide +kernel
theorem dX7_takeFrom_27 : decode cX7_takeFrom 27 = .ok (.getfield 26, 3) := by decide +kernel
theorem dX7_takeFrom_30 : decode cX7_takeFrom 30 = .ok (.invokevirtual 37, 3) := by decide +kernel
theorem dX7_takeFrom_33 : decode cX7_takeFrom 33 = .ok (.return_, 1) := by decide +kernel
theorem dX8_init_0 : decode cX8_init 0 = .ok (.aload_n 0, 1) := by decide +kernel
theorem dX8_init_1 : decode cX8_init 1 = .ok (.invokespecial 3, 3) := by decide +kernel
theorem dX8_init_4 : decode cX8_init 4 = .ok (.aload_n 0, 1) := by decide +kernel
theorem dX8_init_5 : decode cX8_init 5 = .ok (.bipush 12, 2) := by decide +kernel
theorem dX8_init_7 : decode cX8_init 7 = .ok (.newarray .int, 2) := by decide +kernel
theorem dX8_init_9 : decode cX8_init 9 = .ok (.putfield 9, 3) := by decide +kernel
theorem dX8_init_12 : decode cX8_init 12 = .ok (.return_, 1) := by decide +kernel
theorem dX8_takeFrom_0 : decode cX8_takeFrom 0 = .ok (.aload_n 1, 1) := by decide +kernel
theorem dX8_takeFrom_1 : decode cX8_takeFrom 1 = .ok (.getfield 9, 3) := by decide +kernel
theorem dX8_takeFrom_4 : decode cX8_takeFrom 4 = .ok (.iconst 0, 1) := by decide +kernel
theorem dX8_takeFrom_5 : decode cX8_takeFrom 5 = .ok (.aload_n 0, 1) := by decide +kernel
theorem dX8_takeFrom_6 : decode cX8_takeFrom 6 = .ok (.getfield 9, 3) := by decide +kernel
theorem dX8_takeFrom_9 : decode cX8_takeFrom 9 = .ok (.iconst 0, 1) := by decide +kernel
theorem dX8_takeFrom_10 : decode cX8_takeFrom 10 = .ok (.bipush 12, 2) := by decide +kernel
theorem dX8_takeFrom_12 : decode cX8_takeFrom 12 = .ok (.invokestatic 15, 3) := by decide +kernel
theorem dX8_takeFrom_15 : decode cX8_takeFrom 15 = .ok (.aload_n 0, 1) := by decide +kernel
theorem dX8_takeFrom_16 : decode cX8_takeFrom 16 = .ok (.aload_n 1, 1) := by decide +kernel
theorem dX8_takeFrom_17 : decode cX8_takeFrom 17 = .ok (.getfield 21, 3) := by decide +kernel
theorem dX8_takeFrom_20 : decode cX8_takeFrom 20 = .ok (.putfield 21, 3) := by decide +kernel
theorem dX8_takeFrom_23 : decode cX8_takeFrom 23 = .ok (.aload_n 0, 1) := by decide +kernel
theorem dX8_takeFrom_24 : decode cX8_takeFrom 24 = .ok (.aload_n 1, 1) := by decide +kernel
theorem dX8_takeFrom_25 : decode cX8_takeFrom 25 = .ok (.getfield 25, 3) := by decide +kernel
theorem dX8_takeFrom_28 : decode cX8_takeFrom 28 = .ok (.putfield 25, 3) := by decide +kernel
theorem dX8_takeFrom_31 : decode cX8_takeFrom 31 = .ok (.aload_n 0, 1) := by decide +kernel
theorem dX8_takeFrom_32 : decode cX8_takeFrom 32 = .ok (.aload_n 1, 1) := by decide +kernel
theorem dX8_takeFrom_33 : decode cX8_takeFrom 33 = .ok (.getfield 28, 3) := by decide +kernel
theorem dX8_takeFrom_36 : decode cX8_takeFrom 36 = .ok (.putfield 28, 3) := by decide +kernel
theorem dX8_takeFrom_39 : decode cX8_takeFrom 39 = .ok (.aload_n 0, 1) := by decide +kernel
theorem dX8_takeFrom_40 : decode cX8_takeFrom 40 = .ok (.aload_n 1, 1) := by decide +kernel
theorem dX8_takeFrom_41 : decode cX8_takeFrom 41 = .ok (.getfield 31, 3) := by decide +kernel
theorem dX8_takeFrom_44 : decode cX8_takeFrom 44 = .ok (.putfield 31, 3) := by decide +kernel
theorem dX8_takeFrom_47 : decode cX8_takeFrom 47 = .ok (.aload_n 0, 1) := by decide +kernel
theorem dX8_takeFrom_48 : decode cX8_takeFrom 48 = .ok (.aload_n 1, 1) := by decide +kernel
theorem dX8_takeFrom_49 : decode cX8_takeFrom 49 = .ok (.getfield 34, 3) := by decide +kernel
theorem dX8_takeFrom_52 : decode cX8_takeFrom 52 = .ok (.putfield 34, 3) := by decide +kernel
theorem dX8_takeFrom_55 : decode cX8_takeFrom 55 = .ok (.return_, 1) := by decide +kernel
theorem dX8_isOn_0 : decode cX8_isOn 0 = .ok (.aload_n 0, 1) := by decide +kernel
theorem dX8_isOn_1 : decode cX8_isOn 1 = .ok (.getfield 21, 3) := by decide +kernel
theorem dX8_isOn_4 : decode cX8_isOn 4 = .ok (.ifCond .le 7, 3) := by decide +kernel
theorem dX8_isOn_7 : decode cX8_isOn 7 = .ok (.iconst 1, 1) := by decide +kernel
theorem dX8_isOn_8 : decode cX8_isOn 8 = .ok (.goto 4, 3) := by decide +kernel
theorem dX8_isOn_11 : decode cX8_isOn 11 = .ok (.iconst 0, 1) := by decide +kernel
theorem dX8_isOn_12 : decode cX8_isOn 12 = .ok (.ireturn, 1) := by decide +kernel
theorem dX8_hasIndex_0 : decode cX8_hasIndex 0 = .ok (.iload_n 1, 1) := by decide +kernel
theorem dX8_hasIndex_1 : decode cX8_hasIndex 1 = .ok (.ifCond .lt 15, 3) := by decide +kernel
theorem dX8_hasIndex_4 : decode cX8_hasIndex 4 = .ok (.iload_n 1, 1) := by decide +kernel
theorem dX8_hasIndex_5 : decode cX8_hasIndex 5 = .ok (.aload_n 0, 1) := by decide +kernel
theorem dX8_hasIndex_6 : decode cX8_hasIndex 6 = .ok (.getfield 21, 3) := by decide +kernel
theorem dX8_hasIndex_9 : decode cX8_hasIndex 9 = .ok (.if_icmp .ge 7, 3) := by decide +kernel
theorem dX8_hasIndex_12 : decode cX8_hasIndex 12 = .ok (.iconst 1, 1) := by decide +kernel
theorem dX8_hasIndex_13 : decode cX8_hasIndex 13 = .ok (.goto 4, 3) := by decide +kernel
theorem dX8_hasIndex_16 : decode cX8_hasIndex 16 = .ok (.iconst 0, 1) := by decide +kernel
theorem dX8_hasIndex_17 : decode cX8_hasIndex 17 = .ok (.ireturn, 1) := by decide +kernel
theorem dX8_isInner_0 : decode cX8_isInner 0 = .ok (.iload_n 1, 1) := by decide +kernel
theorem dX8_isInner_1 : decode cX8_isInner 1 = .ok (.ifCond .le 17, 3) := by decide +kernel
theorem dX8_isInner_4 : decode cX8_isInner 4 = .ok (.iload_n 1, 1) := by decide +kernel
theorem dX8_isInner_5 : decode cX8_isInner 5 = .ok (.aload_n 0, 1) := by decide +kernel
theorem dX8_isInner_6 : decode cX8_isInner 6 = .ok (.getfield 21, 3) := by decide +kernel
theorem dX8_isInner_9 : decode cX8_isInner 9 = .ok (.iconst 1, 1) := by decide +kernel
theorem dX8_isInner_10 : decode cX8_isInner 10 = .ok (.isub, 1) := by decide +kernel
theorem dX8_isInner_11 : decode cX8_isInner 11 = .ok (.if_icmp .ge 7, 3) := by decide +kernel
theorem dX8_isInner_14 : decode cX8_isInner 14 = .ok (.iconst 1, 1) := by decide +kernel
theorem dX8_isInner_15 : decode cX8_isInner 15 = .ok (.goto 4, 3) := by decide +kernel
theorem dX8_isInner_18 : decode cX8_isInner 18 = .ok (.iconst 0, 1) := by decide +kernel
theorem dX8_isInner_19 : decode cX8_isInner 19 = .ok (.ireturn, 1) := by decide +kernel
theorem dX8_waypointAt_0 : decode cX8_waypointAt 0 = .ok (.iload_n 1, 1) := by decide +kernel
theorem dX8_waypointAt_1 : decode cX8_waypointAt 1 = .ok (.ifCond .lt 26, 3) := by decide +kernel
theorem dX8_waypointAt_4 : decode cX8_waypointAt 4 = .ok (.iload_n 1, 1) := by decide +kernel
theorem dX8_waypointAt_5 : decode cX8_waypointAt 5 = .ok (.aload_n 0, 1) := by decide +kernel
theorem dX8_waypointAt_6 : decode cX8_waypointAt 6 = .ok (.getfield 21, 3) := by decide +kernel
theorem dX8_waypointAt_9 : decode cX8_waypointAt 9 = .ok (.if_icmp .ge 18, 3) := by decide +kernel
theorem dX8_waypointAt_12 : decode cX8_waypointAt 12 = .ok (.iload_n 1, 1) := by decide +kernel
theorem dX8_waypointAt_13 : decode cX8_waypointAt 13 = .ok (.bipush 12, 2) := by decide +kernel
theorem dX8_waypointAt_15 : decode cX8_waypointAt 15 = .ok (.if_icmp .ge 12, 3) := by decide +kernel
theorem dX8_waypointAt_18 : decode cX8_waypointAt 18 = .ok (.aload_n 0, 1) := by decide +kernel
theorem dX8_waypointAt_19 : decode cX8_waypointAt 19 = .ok (.getfield 9, 3) := by decide +kernel
theorem dX8_waypointAt_22 : decode cX8_waypointAt 22 = .ok (.iload_n 1, 1) := by decide +kernel
theorem dX8_waypointAt_23 : decode cX8_waypointAt 23 = .ok (.iaload, 1) := by decide +kernel
theorem dX8_waypointAt_24 : decode cX8_waypointAt 24 = .ok (.goto 4, 3) := by decide +kernel
theorem dX8_waypointAt_27 : decode cX8_waypointAt 27 = .ok (.iconst (-1), 1) := by decide +kernel
theorem dX8_waypointAt_28 : decode cX8_waypointAt 28 = .ok (.ireturn, 1) := by decide +kernel
theorem dX8_targetWaypoint_0 : decode cX8_targetWaypoint 0 = .ok (.aload_n 0, 1) := by decide +kernel
theorem dX8_targetWaypoint_1 : decode cX8_targetWaypoint 1 = .ok (.aload_n 0, 1) := by decide +kernel
theorem dX8_targetWaypoint_2 : decode cX8_targetWaypoint 2 = .ok (.getfield 25, 3) := by decide +kernel
theorem dX8_targetWaypoint_5 : decode cX8_targetWaypoint 5 = .ok (.invokevirtual 38, 3) := by decide +kernel
theorem dX8_targetWaypoint_8 : decode cX8_targetWaypoint 8 = .ok (.ireturn, 1) := by decide +kernel
theorem dX8_append_0 : decode cX8_append 0 = .ok (.aload_n 0, 1) := by decide +kernel
theorem dX8_append_1 : decode cX8_append 1 = .ok (.getfield 21, 3) := by decide +kernel
theorem dX8_append_4 : decode cX8_append 4 = .ok (.ifCond .lt 32, 3) := by decide +kernel
theorem dX8_append_7 : decode cX8_append 7 = .ok (.aload_n 0, 1) := by decide +kernel
theorem dX8_append_8 : decode cX8_append 8 = .ok (.getfield 21, 3) := by decide +kernel
theorem dX8_append_11 : decode cX8_append 11 = .ok (.bipush 12, 2) := by decide +kernel
theorem dX8_append_13 : decode cX8_append 13 = .ok (.if_icmp .ge 23, 3) := by decide +kernel
theorem dX8_append_16 : decode cX8_append 16 = .ok (.aload_n 0, 1) := by decide +kernel
theorem dX8_append_17 : decode cX8_append 17 = .ok (.getfield 9, 3) := by decide +kernel
theorem dX8_append_20 : decode cX8_append 20 = .ok (.aload_n 0, 1) := by decide +kernel
theorem dX8_append_21 : decode cX8_append 21 = .ok (.getfield 21, 3) := by decide +kernel
theorem dX8_append_24 : decode cX8_append 24 = .ok (.iload_n 1, 1) := by decide +kernel
theorem dX8_append_25 : decode cX8_append 25 = .ok (.iastore, 1) := by decide +kernel
theorem dX8_append_26 : decode cX8_append 26 = .ok (.aload_n 0, 1) := by decide +kernel
theorem dX8_append_27 : decode cX8_append 27 = .ok (.dup, 1) := by decide +kernel
theorem dX8_append_28 : decode cX8_append 28 = .ok (.getfield 21, 3) := by decide +kernel
theorem dX8_append_31 : decode cX8_append 31 = .ok (.iconst 1, 1) := by decide +kernel
theorem dX8_append_32 : decode cX8_append 32 = .ok (.iadd, 1) := by decide +kernel
theorem dX8_append_33 : decode cX8_append 33 = .ok (.putfield 21, 3) := by decide +kernel
theorem dX8_append_36 : decode cX8_append 36 = .ok (.return_, 1) := by decide +kernel
theorem dX8_advance_0 : decode cX8_advance 0 = .ok (.aload_n 0, 1) := by decide +kernel
theorem dX8_advance_1 : decode cX8_advance 1 = .ok (.dup, 1) := by decide +kernel
theorem dX8_advance_2 : decode cX8_advance 2 = .ok (.getfield 25, 3) := by decide +kernel
theorem dX8_advance_5 : decode cX8_advance 5 = .ok (.iconst 1, 1) := by decide +kernel
theorem dX8_advance_6 : decode cX8_advance 6 = .ok (.iadd, 1) := by decide +kernel
theorem dX8_advance_7 : decode cX8_advance 7 = .ok (.putfield 25, 3) := by decide +kernel
theorem dX8_advance_10 : decode cX8_advance 10 = .ok (.aload_n 0, 1) := by decide +kernel
theorem dX8_advance_11 : decode cX8_advance 11 = .ok (.getfield 25, 3) := by decide +kernel
theorem dX8_advance_14 : decode cX8_advance 14 = .ok (.aload_n 0, 1) := by decide +kernel
theorem dX8_advance_15 : decode cX8_advance 15 = .ok (.getfield 21, 3) := by decide +kernel
theorem dX8_advance_18 : decode cX8_advance 18 = .ok (.if_icmp .lt 7, 3) := by decide +kernel
theorem dX8_advance_21 : decode cX8_advance 21 = .ok (.aload_n 0, 1) := by decide +kernel
theorem dX8_advance_22 : decode cX8_advance 22 = .ok (.invokevirtual 42, 3) := by decide +kernel
theorem dX8_advance_25 : decode cX8_advance 25 = .ok (.return_, 1) := by decide +kernel
theorem dX8_end_0 : decode cX8_end 0 = .ok (.aload_n 0, 1) := by decide +kernel
theorem dX8_end_1 : decode cX8_end 1 = .ok (.iconst 0, 1) := by decide +kernel
theorem dX8_end_2 : decode cX8_end 2 = .ok (.putfield 21, 3) := by decide +kernel
theorem dX8_end_5 : decode cX8_end 5 = .ok (.aload_n 0, 1) := by decide +kernel
theorem dX8_end_6 : decode cX8_end 6 = .ok (.iconst 0, 1) := by decide +kernel
theorem dX8_end_7 : decode cX8_end 7 = .ok (.putfield 25, 3) := by decide +kernel
theorem dX8_end_10 : decode cX8_end 10 = .ok (.aload_n 0, 1) := by decide +kernel
theorem dX8_end_11 : decode cX8_end 11 = .ok (.iconst 0, 1) := by decide +kernel
theorem dX8_end_12 : decode cX8_end 12 = .ok (.putfield 34, 3) := by decide +kernel
theorem dX8_end_15 : decode cX8_end 15 = .ok (.return_, 1) := by decide +kernel
theorem dX9_init_0 : decode cX9_init 0 = .ok (.aload_n 0, 1) := by decide +kernel
theorem dX9_init_1 : decode cX9_init 1 = .ok (.invokespecial 3, 3) := by decide +kernel
theorem dX9_init_4 : decode cX9_init 4 = .ok (.aload_n 0, 1) := by decide +kernel
theorem dX9_init_5 : decode cX9_init 5 = .ok (.bipush 12, 2) := by decide +kernel
theorem dX9_init_7 : decode cX9_init 7 = .ok (.newarray .int, 2) := by decide +kernel
theorem dX9_init_9 : decode cX9_init 9 = .ok (.putfield 9, 3) := by decide +kernel
theorem dX9_init_12 : decode cX9_init 12 = .ok (.aload_n 0, 1) := by decide +kernel
theorem dX9_init_13 : decode cX9_init 13 = .ok (.bipush 12, 2) := by decide +kernel
theorem dX9_init_15 : decode cX9_init 15 = .ok (.newarray .int, 2) := by decide +kernel
theorem dX9_init_17 : decode cX9_init 17 = .ok (.putfield 15, 3) := by decide +kernel
theorem dX9_init_20 : decode cX9_init 20 = .ok (.aload_n 0, 1) := by decide +kernel
theorem dX9_init_21 : decode cX9_init 21 = .ok (.bipush 12, 2) := by decide +kernel
theorem dX9_init_23 : decode cX9_init 23 = .ok (.newarray .int, 2) := by decide +kernel
theorem dX9_init_25 : decode cX9_init 25 = .ok (.putfield 18, 3) := by decide +kernel
theorem dX9_init_28 : decode cX9_init 28 = .ok (.aload_n 0, 1) := by decide +kernel
theorem dX9_init_29 : decode cX9_init 29 = .ok (.sipush 144, 3) := by decide +kernel
theorem dX9_init_32 : decode cX9_init 32 = .ok (.newarray .int, 2) := by decide +kernel
theorem dX9_init_34 : decode cX9_init 34 = .ok (.putfield 21, 3) := by decide +kernel
theorem dX9_init_37 : decode cX9_init 37 = .ok (.return_, 1) := by decide +kernel
theorem dX9_takeFrom_0 : decode cX9_takeFrom 0 = .ok (.aload_n 1, 1) := by decide +kernel
theorem dX9_takeFrom_1 : decode cX9_takeFrom 1 = .ok (.getfield 9, 3) := by decide +kernel
theorem dX9_takeFrom_4 : decode cX9_takeFrom 4 = .ok (.iconst 0, 1) := by decide +kernel
theorem dX9_takeFrom_5 : decode cX9_takeFrom 5 = .ok (.aload_n 0, 1) := by decide +kernel
theorem dX9_takeFrom_6 : decode cX9_takeFrom 6 = .ok (.getfield 9, 3) := by decide +kernel
theorem dX9_takeFrom_9 : decode cX9_takeFrom 9 = .ok (.iconst 0, 1) := by decide +kernel
theorem dX9_takeFrom_10 : decode cX9_takeFrom 10 = .ok (.bipush 12, 2) := by decide +kernel
theorem dX9_takeFrom_12 : decode cX9_takeFrom 12 = .ok (.invokestatic 24, 3) := by decide +kernel
theorem dX9_takeFrom_15 : decode cX9_takeFrom 15 = .ok (.aload_n 1, 1) := by decide +kernel
theorem dX9_takeFrom_16 : decode cX9_takeFrom 16 = .ok (.getfield 15, 3) := by decide +kernel
theorem dX9_takeFrom_19 : decode cX9_takeFrom 19 = .ok (.iconst 0, 1) := by decide +kernel
theorem dX9_takeFrom_20 : decode cX9_takeFrom 20 = .ok (.aload_n 0, 1) := by decide +kernel
theorem dX9_takeFrom_21 : decode cX9_takeFrom 21 = .ok (.getfield 15, 3) := by decide +kernel
theorem dX9_takeFrom_24 : decode cX9_takeFrom 24 = .ok (.iconst 0, 1) := by decide +kernel
theorem dX9_takeFrom_25 : decode cX9_takeFrom 25 = .ok (.bipush 12, 2) := by decide +kernel
theorem dX9_takeFrom_27 : decode cX9_takeFrom 27 = .ok (.invokestatic 24, 3) := by decide +kernel
theorem dX9_takeFrom_30 : decode cX9_takeFrom 30 = .ok (.aload_n 1, 1) := by decide +kernel
theorem dX9_takeFrom_31 : decode cX9_takeFrom 31 = .ok (.getfield 18, 3) := by decide +kernel
theorem dX9_takeFrom_34 : decode cX9_takeFrom 34 = .ok (.iconst 0, 1) := by decide +kernel
theorem dX9_takeFrom_35 : decode cX9_takeFrom 35 = .ok (.aload_n 0, 1) := by decide +kernel
theorem dX9_takeFrom_36 : decode cX9_takeFrom 36 = .ok (.getfield 18, 3) := by decide +kernel
theorem dX9_takeFrom_39 : decode cX9_takeFrom 39 = .ok (.iconst 0, 1) := by decide +kernel
theorem dX9_takeFrom_40 : decode cX9_takeFrom 40 = .ok (.bipush 12, 2) := by decide +kernel
theorem dX9_takeFrom_42 : decode cX9_takeFrom 42 = .ok (.invokestatic 24, 3) := by decide +kernel
theorem dX9_takeFrom_45 : decode cX9_takeFrom 45 = .ok (.aload_n 1, 1) := by decide +kernel
theorem dX9_takeFrom_46 : decode cX9_takeFrom 46 = .ok (.getfield 21, 3) := by decide +kernel
theorem dX9_takeFrom_49 : decode cX9_takeFrom 49 = .ok (.iconst 0, 1) := by decide +kernel
theorem dX9_takeFrom_50 : decode cX9_takeFrom 50 = .ok (.aload_n 0, 1) := by decide +kernel
theorem dX9_takeFrom_51 : decode cX9_takeFrom 51 = .ok (.getfield 21, 3) := by decide +kernel
theorem dX9_takeFrom_54 : decode cX9_takeFrom 54 = .ok (.iconst 0, 1) := by decide +kernel
theorem dX9_takeFrom_55 : decode cX9_takeFrom 55 = .ok (.sipush 144, 3) := by decide +kernel
theorem dX9_takeFrom_58 : decode cX9_takeFrom 58 = .ok (.invokestatic 24, 3) := by decide +kernel
theorem dX9_takeFrom_61 : decode cX9_takeFrom 61 = .ok (.aload_n 0, 1) := by decide +kernel
theorem dX9_takeFrom_62 : decode cX9_takeFrom 62 = .ok (.aload_n 1, 1) := by decide +kernel
theorem dX9_takeFrom_63 : decode cX9_takeFrom 63 = .ok (.getfield 30, 3) := by decide +kernel
theorem dX9_takeFrom_66 : decode cX9_takeFrom 66 = .ok (.putfield 30, 3) := by decide +kernel
theorem dX9_takeFrom_69 : decode cX9_takeFrom 69 = .ok (.aload_n 0, 1) := by decide +kernel
theorem dX9_takeFrom_70 : decode cX9_takeFrom 70 = .ok (.aload_n 1, 1) := by decide +kernel
theorem dX9_takeFrom_71 : decode cX9_takeFrom 71 = .ok (.getfield 34, 3) := by decide +kernel
theorem dX9_takeFrom_74 : decode cX9_takeFrom 74 = .ok (.putfield 34, 3) := by decide +kernel
theorem dX9_takeFrom_77 : decode cX9_takeFrom 77 = .ok (.return_, 1) := by decide +kernel
theorem dX9_isFull_0 : decode cX9_isFull 0 = .ok (.aload_n 0, 1) := by decide +kernel
theorem dX9_isFull_1 : decode cX9_isFull 1 = .ok (.getfield 30, 3) := by decide +kernel
theorem dX9_isFull_4 : decode cX9_isFull 4 = .ok (.bipush 12, 2) := by decide +kernel
theorem dX9_isFull_6 : decode cX9_isFull 6 = .ok (.if_icmp .lt 7, 3) := by decide +kernel
theorem dX9_isFull_9 : decode cX9_isFull 9 = .ok (.iconst 1, 1) := by decide +kernel
theorem dX9_isFull_10 : decode cX9_isFull 10 = .ok (.goto 4, 3) := by decide +kernel
theorem dX9_isFull_13 : decode cX9_isFull 13 = .ok (.iconst 0, 1) := by decide +kernel
theorem dX9_isFull_14 : decode cX9_isFull 14 = .ok (.ireturn, 1) := by decide +kernel
theorem dX9_exists_0 : decode cX9_exists 0 = .ok (.iload_n 1, 1) := by decide +kernel
theorem dX9_exists_1 : decode cX9_exists 1 = .ok (.ifCond .lt 15, 3) := by decide +kernel
theorem dX9_exists_4 : decode cX9_exists 4 = .ok (.iload_n 1, 1) := by decide +kernel
theorem dX9_exists_5 : decode cX9_exists 5 = .ok (.aload_n 0, 1) := by decide +kernel
theorem dX9_exists_6 : decode cX9_exists 6 = .ok (.getfield 30, 3) := by decide +kernel
theorem dX9_exists_9 : decode cX9_exists 9 = .ok (.if_icmp .ge 7, 3) := by decide +kernel
theorem dX9_exists_12 : decode cX9_exists 12 = .ok (.iconst 1, 1) := by decide +kernel
theorem dX9_exists_13 : decode cX9_exists 13 = .ok (.goto 4, 3) := by decide +kernel
theorem dX9_exists_16 : decode cX9_exists 16 = .ok (.iconst 0, 1) := by decide +kernel
theorem dX9_exists_17 : decode cX9_exists 17 = .ok (.ireturn, 1) := by decide +kernel
theorem dX9_xOf_0 : decode cX9_xOf 0 = .ok (.iload_n 1, 1) := by decide +kernel
theorem dX9_xOf_1 : decode cX9_xOf 1 = .ok (.ifCond .lt 18, 3) := by decide +kernel
theorem dX9_xOf_4 : decode cX9_xOf 4 = .ok (.iload_n 1, 1) := by decide +kernel
theorem dX9_xOf_5 : decode cX9_xOf 5 = .ok (.bipush 12, 2) := by decide +kernel
theorem dX9_xOf_7 : decode cX9_xOf 7 = .ok (.if_icmp .ge 12, 3) := by decide +kernel
theorem dX9_xOf_10 : decode cX9_xOf 10 = .ok (.aload_n 0, 1) := by decide +kernel
theorem dX9_xOf_11 : decode cX9_xOf 11 = .ok (.getfield 9, 3) := by decide +kernel
theorem dX9_xOf_14 : decode cX9_xOf 14 = .ok (.iload_n 1, 1) := by decide +kernel
theorem dX9_xOf_15 : decode cX9_xOf 15 = .ok (.iaload, 1) := by decide +kernel
theorem dX9_xOf_16 : decode cX9_xOf 16 = .ok (.goto 4, 3) := by decide +kernel
theorem dX9_xOf_19 : decode cX9_xOf 19 = .ok (.iconst 0, 1) := by decide +kernel
theorem dX9_xOf_20 : decode cX9_xOf 20 = .ok (.ireturn, 1) := by decide +kernel
theorem dX9_yOf_0 : decode cX9_yOf 0 = .ok (.iload_n 1, 1) := by decide +kernel
theorem dX9_yOf_1 : decode cX9_yOf 1 = .ok (.ifCond .lt 18, 3) := by decide +kernel
theorem dX9_yOf_4 : decode cX9_yOf 4 = .ok (.iload_n 1, 1) := by decide +kernel
theorem dX9_yOf_5 : decode cX9_yOf 5 = .ok (.bipush 12, 2) := by decide +kernel
theorem dX9_yOf_7 : decode cX9_yOf 7 = .ok (.if_icmp .ge 12, 3) := by decide +kernel
theorem dX9_yOf_10 : decode cX9_yOf 10 = .ok (.aload_n 0, 1) := by decide +kernel
theorem dX9_yOf_11 : decode cX9_yOf 11 = .ok (.getfield 15, 3) := by decide +kernel
theorem dX9_yOf_14 : decode cX9_yOf 14 = .ok (.iload_n 1, 1) := by decide +kernel
theorem dX9_yOf_15 : decode cX9_yOf 15 = .ok (.iaload, 1) := by decide +kernel
theorem dX9_yOf_16 : decode cX9_yOf 16 = .ok (.goto 4, 3) := by decide +kernel
theorem dX9_yOf_19 : decode cX9_yOf 19 = .ok (.iconst 0, 1) := by decide +kernel
theorem dX9_yOf_20 : decode cX9_yOf 20 = .ok (.ireturn, 1) := by decide +kernel
theorem dX9_radiusOf_0 : decode cX9_radiusOf 0 = .ok (.iload_n 1, 1) := by decide +kernel
theorem dX9_radiusOf_1 : decode cX9_radiusOf 1 = .ok (.ifCond .lt 18, 3) := by decide +kernel
theorem dX9_radiusOf_4 : decode cX9_radiusOf 4 = .ok (.iload_n 1, 1) := by decide +kernel
theorem dX9_radiusOf_5 : decode cX9_radiusOf 5 = .ok (.bipush 12, 2) := by decide +kernel
theorem dX9_radiusOf_7 : decode cX9_radiusOf 7 = .ok (.if_icmp .ge 12, 3) := by decide +kernel
theorem dX9_radiusOf_10 : decode cX9_radiusOf 10 = .ok (.aload_n 0, 1) := by decide +kernel
theorem dX9_radiusOf_11 : decode cX9_radiusOf 11 = .ok (.getfield 18, 3) := by decide +kernel
theorem dX9_radiusOf_14 : decode cX9_radiusOf 14 = .ok (.iload_n 1, 1) := by decide +kernel
theorem dX9_radiusOf_15 : decode cX9_radiusOf 15 = .ok (.iaload, 1) := by decide +kernel
theorem dX9_radiusOf_16 : decode cX9_radiusOf 16 = .ok (.goto 4, 3) := by decide +kernel
theorem dX9_radiusOf_19 : decode cX9_radiusOf 19 = .ok (.iconst 0, 1) := by decide +kernel
theorem dX9_radiusOf_20 : decode cX9_radiusOf 20 = .ok (.ireturn, 1) := by decide +kernel
theorem dX9_lengthBetween_0 : decode cX9_lengthBetween 0 = .ok (.iload_n 1, 1) := by decide +kernel
theorem dX9_lengthBetween_1 : decode cX9_lengthBetween 1 = .ok (.ifCond .lt 19, 3) := by decide +kernel
theorem dX9_lengthBetween_4 : decode cX9_lengthBetween 4 = .ok (.iload_n 1, 1) := by decide +kernel
theorem dX9_lengthBetween_5 : decode cX9_lengthBetween 5 = .ok (.bipush 12, 2) := by decide +kernel
theorem dX9_lengthBetween_7 : decode cX9_lengthBetween 7 = .ok (.if_icmp .ge 13, 3) := by decide +kernel
theorem dX9_lengthBetween_10 : decode cX9_lengthBetween 10 = .ok (.iload_n 2, 1) := by decide +kernel
theorem dX9_lengthBetween_11 : decode cX9_lengthBetween 11 = .ok (.ifCond .lt 9, 3) := by decide +kernel
theorem dX9_lengthBetween_14 : decode cX9_lengthBetween 14 = .ok (.iload_n 2, 1) := by decide +kernel
theorem dX9_lengthBetween_15 : decode cX9_lengthBetween 15 = .ok (.bipush 12, 2) := by decide +kernel
theorem dX9_lengthBetween_17 : decode cX9_lengthBetween 17 = .ok (.if_icmp .lt 5, 3) := by decide +kernel
theorem dX9_lengthBetween_20 : decode cX9_lengthBetween 20 = .ok (.iconst 0, 1) := by decide +kernel
theorem dX9_lengthBetween_21 : decode cX9_lengthBetween 21 = .ok (.ireturn, 1) := by decide +kernel
theorem dX9_lengthBetween_22 : decode cX9_lengthBetween 22 = .ok (.aload_n 0, 1) := by decide +kernel
theorem dX9_lengthBetween_23 : decode cX9_lengthBetween 23 = .ok (.getfield 21, 3) := by decide +kernel
theorem dX9_lengthBetween_26 : decode cX9_lengthBetween 26 = .ok (.iload_n 1, 1) := by decide +kernel
theorem dX9_lengthBetween_27 : decode cX9_lengthBetween 27 = .ok (.bipush 12, 2) := by decide +kernel
theorem dX9_lengthBetween_29 : decode cX9_lengthBetween 29 = .ok (.imul, 1) := by decide +kernel
theorem dX9_lengthBetween_30 : decode cX9_lengthBetween 30 = .ok (.iload_n 2, 1) := by decide +kernel
theorem dX9_lengthBetween_31 : decode cX9_lengthBetween 31 = .ok (.iadd, 1) := by decide +kernel
theorem dX9_lengthBetween_32 : decode cX9_lengthBetween 32 = .ok (.iaload, 1) := by decide +kernel
theorem dX9_lengthBetween_33 : decode cX9_lengthBetween 33 = .ok (.ireturn, 1) := by decide +kernel
theorem dX9_areJoined_0 : decode cX9_areJoined 0 = .ok (.aload_n 0, 1) := by decide +kernel
theorem dX9_areJoined_1 : decode cX9_areJoined 1 = .ok (.iload_n 1, 1) := by decide +kernel
theorem dX9_areJoined_2 : decode cX9_areJoined 2 = .ok (.iload_n 2, 1) := by decide +kernel
theorem dX9_areJoined_3 : decode cX9_areJoined 3 = .ok (.invokevirtual 37, 3) := by decide +kernel
theorem dX9_areJoined_6 : decode cX9_areJoined 6 = .ok (.ifCond .le 7, 3) := by decide +kernel
theorem dX9_areJoined_9 : decode cX9_areJoined 9 = .ok (.iconst 1, 1) := by decide +kernel
theorem dX9_areJoined_10 : decode cX9_areJoined 10 = .ok (.goto 4, 3) := by decide +kernel
theorem dX9_areJoined_13 : decode cX9_areJoined 13 = .ok (.iconst 0, 1) := by decide +kernel
theorem dX9_areJoined_14 : decode cX9_areJoined 14 = .ok (.ireturn, 1) := by decide +kernel
theorem dX9_append_0 : decode cX9_append 0 = .ok (.aload_n 0, 1) := by decide +kernel
theorem dX9_append_1 : decode cX9_append 1 = .ok (.getfield 30, 3) := by decide +kernel
theorem dX9_append_4 : decode cX9_append 4 = .ok (.istore 4, 2) := by decide +kernel
theorem dX9_append_6 : decode cX9_append 6 = .ok (.iload 4, 2) := by decide +kernel
theorem dX9_append_8 : decode cX9_append 8 = .ok (.ifCond .lt 10, 3) := by decide +kernel
theorem dX9_append_11 : decode cX9_append 11 = .ok (.iload 4, 2) := by decide +kernel
theorem dX9_append_13 : decode cX9_append 13 = .ok (.bipush 12, 2) := by decide +kernel
theorem dX9_append_15 : decode cX9_append 15 = .ok (.if_icmp .lt 5, 3) := by decide +kernel
theorem dX9_append_18 : decode cX9_append 18 = .ok (.iconst (-1), 1) := by decide +kernel
theorem dX9_append_19 : decode cX9_append 19 = .ok (.ireturn, 1) := by decide +kernel
theorem dX9_append_20 : decode cX9_append 20 = .ok (.aload_n 0, 1) := by decide +kernel
theorem dX9_append_21 : decode cX9_append 21 = .ok (.getfield 9, 3) := by decide +kernel
theorem dX9_append_24 : decode cX9_append 24 = .ok (.iload 4, 2) := by decide +kernel
theorem dX9_append_26 : decode cX9_append 26 = .ok (.iload_n 1, 1) := by decide +kernel
theorem dX9_append_27 : decode cX9_append 27 = .ok (.iastore, 1) := by decide +kernel
theorem dX9_append_28 : decode cX9_append 28 = .ok (.aload_n 0, 1) := by decide +kernel
theorem dX9_append_29 : decode cX9_append 29 = .ok (.getfield 15, 3) := by decide +kernel
theorem dX9_append_32 : decode cX9_append 32 = .ok (.iload 4, 2) := by decide +kernel
theorem dX9_append_34 : decode cX9_append 34 = .ok (.iload_n 2, 1) := by decide +kernel
theorem dX9_append_35 : decode cX9_append 35 = .ok (.iastore, 1) := by decide +kernel
theorem dX9_append_36 : decode cX9_append 36 = .ok (.aload_n 0, 1) := by decide +kernel
theorem dX9_append_37 : decode cX9_append 37 = .ok (.getfield 18, 3) := by decide +kernel
theorem dX9_append_40 : decode cX9_append 40 = .ok (.iload 4, 2) := by decide +kernel
theorem dX9_append_42 : decode cX9_append 42 = .ok (.iload_n 3, 1) := by decide +kernel
theorem dX9_append_43 : decode cX9_append 43 = .ok (.iastore, 1) := by decide +kernel
theorem dX9_append_44 : decode cX9_append 44 = .ok (.aload_n 0, 1) := by decide +kernel
theorem dX9_append_45 : decode cX9_append 45 = .ok (.dup, 1) := by decide +kernel
theorem dX9_append_46 : decode cX9_append 46 = .ok (.getfield 30, 3) := by decide +kernel
theorem dX9_append_49 : decode cX9_append 49 = .ok (.iconst 1, 1) := by decide +kernel
theorem dX9_append_50 : decode cX9_append 50 = .ok (.iadd, 1) := by decide +kernel
theorem dX9_append_51 : decode cX9_append 51 = .ok (.putfield 30, 3) := by decide +kernel
theorem dX9_append_54 : decode cX9_append 54 = .ok (.iload 4, 2) := by decide +kernel
theorem dX9_append_56 : decode cX9_append 56 = .ok (.ireturn, 1) := by decide +kernel
theorem dX9_join_0 : decode cX9_join 0 = .ok (.aload_n 0, 1) := by decide +kernel
theorem dX9_join_1 : decode cX9_join 1 = .ok (.iload_n 1, 1) := by decide +kernel
theorem dX9_join_2 : decode cX9_join 2 = .ok (.iload_n 2, 1) := by decide +kernel
theorem dX9_join_3 : decode cX9_join 3 = .ok (.iload_n 3, 1) := by decide +kernel
theorem dX9_join_4 : decode cX9_join 4 = .ok (.invokevirtual 41, 3) := by decide +kernel
theorem dX9_join_7 : decode cX9_join 7 = .ok (.aload_n 0, 1) := by decide +kernel
theorem dX9_join_8 : decode cX9_join 8 = .ok (.dup, 1) := by decide +kernel
theorem dX9_join_9 : decode cX9_join 9 = .ok (.getfield 34, 3) := by decide +kernel
theorem dX9_join_12 : decode cX9_join 12 = .ok (.iconst 1, 1) := by decide +kernel
theorem dX9_join_13 : decode cX9_join 13 = .ok (.iadd, 1) := by decide +kernel
theorem dX9_join_14 : decode cX9_join 14 = .ok (.putfield 34, 3) := by decide +kernel
theorem dX9_join_17 : decode cX9_join 17 = .ok (.aload_n 0, 1) := by decide +kernel
theorem dX9_join_18 : decode cX9_join 18 = .ok (.getfield 34, 3) := by decide +kernel
theorem dX9_join_21 : decode cX9_join 21 = .ok (.ireturn, 1) := by decide +kernel
theorem dX9_cut_0 : decode cX9_cut 0 = .ok (.aload_n 0, 1) := by decide +kernel
theorem dX9_cut_1 : decode cX9_cut 1 = .ok (.iload_n 1, 1) := by decide +kernel
theorem dX9_cut_2 : decode cX9_cut 2 = .ok (.iload_n 2, 1) := by decide +kernel
theorem dX9_cut_3 : decode cX9_cut 3 = .ok (.invokevirtual 37, 3) := by decide +kernel
theorem dX9_cut_6 : decode cX9_cut 6 = .ok (.istore_n 3, 1) := by decide +kernel
theorem dX9_cut_7 : decode cX9_cut 7 = .ok (.aload_n 0, 1) := by decide +kernel
theorem dX9_cut_8 : decode cX9_cut 8 = .ok (.iload_n 1, 1) := by decide +kernel
theorem dX9_cut_9 : decode cX9_cut 9 = .ok (.iload_n 2, 1) := by decide +kernel
theorem dX9_cut_10 : decode cX9_cut 10 = .ok (.iconst 0, 1) := by decide +kernel
theorem dX9_cut_11 : decode cX9_cut 11 = .ok (.invokevirtual 41, 3) := by decide +kernel
theorem dX9_cut_14 : decode cX9_cut 14 = .ok (.aload_n 0, 1) := by decide +kernel
theorem dX9_cut_15 : decode cX9_cut 15 = .ok (.dup, 1) := by decide +kernel
theorem dX9_cut_16 : decode cX9_cut 16 = .ok (.getfield 34, 3) := by decide +kernel
theorem dX9_cut_19 : decode cX9_cut 19 = .ok (.iconst 1, 1) := by decide +kernel
theorem dX9_cut_20 : decode cX9_cut 20 = .ok (.isub, 1) := by decide +kernel
theorem dX9_cut_21 : decode cX9_cut 21 = .ok (.putfield 34, 3) := by decide +kernel
theorem dX9_cut_24 : decode cX9_cut 24 = .ok (.iload_n 3, 1) := by decide +kernel
theorem dX9_cut_25 : decode cX9_cut 25 = .ok (.ireturn, 1) := by decide +kernel
theorem dX9_setLength_0 : decode cX9_setLength 0 = .ok (.iload_n 1, 1) := by decide +kernel
theorem dX9_setLength_1 : decode cX9_setLength 1 = .ok (.ifCond .lt 43, 3) := by decide +kernel
theorem dX9_setLength_4 : decode cX9_setLength 4 = .ok (.iload_n 1, 1) := by decide +kernel
theorem dX9_setLength_5 : decode cX9_setLength 5 = .ok (.bipush 12, 2) := by decide +kernel
theorem dX9_setLength_7 : decode cX9_setLength 7 = .ok (.if_icmp .ge 37, 3) := by decide +kernel
theorem dX9_setLength_10 : decode cX9_setLength 10 = .ok (.iload_n 2, 1) := by decide +kernel
theorem dX9_setLength_11 : decode cX9_setLength 11 = .ok (.ifCond .lt 33, 3) := by decide +kernel
theorem dX9_setLength_14 : decode cX9_setLength 14 = .ok (.iload_n 2, 1) := by decide +kernel
theorem dX9_setLength_15 : decode cX9_setLength 15 = .ok (.bipush 12, 2) := by decide +kernel
theorem dX9_setLength_17 : decode cX9_setLength 17 = .ok (.if_icmp .ge 27, 3) := by decide +kernel
theorem dX9_setLength_20 : decode cX9_setLength 20 = .ok (.aload_n 0, 1) := by decide +kernel
theorem dX9_setLength_21 : decode cX9_setLength 21 = .ok (.getfield 21, 3) := by decide +kernel
theorem dX9_setLength_24 : decode cX9_setLength 24 = .ok (.iload_n 1, 1) := by decide +kernel
theorem dX9_setLength_25 : decode cX9_setLength 25 = .ok (.bipush 12, 2) := by decide +kernel
theorem dX9_setLength_27 : decode cX9_setLength 27 = .ok (.imul, 1) := by decide +kernel
theorem dX9_setLength_28 : decode cX9_setLength 28 = .ok (.iload_n 2, 1) := by decide +kernel
theorem dX9_setLength_29 : decode cX9_setLength 29 = .ok (.iadd, 1) := by decide +kernel
theorem dX9_setLength_30 : decode cX9_setLength 30 = .ok (.iload_n 3, 1) := by decide +kernel
theorem dX9_setLength_31 : decode cX9_setLength 31 = .ok (.iastore, 1) := by decide +kernel
theorem dX9_setLength_32 : decode cX9_setLength 32 = .ok (.aload_n 0, 1) := by decide +kernel
theorem dX9_setLength_33 : decode cX9_setLength 33 = .ok (.getfield 21, 3) := by decide +kernel
theorem dX9_setLength_36 : decode cX9_setLength 36 = .ok (.iload_n 2, 1) := by decide +kernel
theorem dX9_setLength_37 : decode cX9_setLength 37 = .ok (.bipush 12, 2) := by decide +kernel
theorem dX9_setLength_39 : decode cX9_setLength 39 = .ok (.imul, 1) := by decide +kernel
theorem dX9_setLength_40 : decode cX9_setLength 40 = .ok (.iload_n 1, 1) := by decide +kernel
theorem dX9_setLength_41 : decode cX9_setLength 41 = .ok (.iadd, 1) := by decide +kernel
theorem dX9_setLength_42 : decode cX9_setLength 42 = .ok (.iload_n 3, 1) := by decide +kernel
theorem dX9_setLength_43 : decode cX9_setLength 43 = .ok (.iastore, 1) := by decide +kernel
theorem dX9_setLength_44 : decode cX9_setLength 44 = .ok (.return_, 1) := by decide +kernel
theorem dX9_squareTo_0 : decode cX9_squareTo 0 = .ok (.iload_n 2, 1) := by decide +kernel
theorem dX9_squareTo_1 : decode cX9_squareTo 1 = .ok (.aload_n 0, 1) := by decide +kernel
theorem dX9_squareTo_2 : decode cX9_squareTo 2 = .ok (.iload_n 1, 1) := by decide +kernel
theorem dX9_squareTo_3 : decode cX9_squareTo 3 = .ok (.invokevirtual 45, 3) := by decide +kernel
theorem dX9_squareTo_6 : decode cX9_squareTo 6 = .ok (.isub, 1) := by decide +kernel
theorem dX9_squareTo_7 : decode cX9_squareTo 7 = .ok (.istore 4, 2) := by decide +kernel
theorem dX9_squareTo_9 : decode cX9_squareTo 9 = .ok (.iload_n 3, 1) := by decide +kernel
theorem dX9_squareTo_10 : decode cX9_squareTo 10 = .ok (.aload_n 0, 1) := by decide +kernel
theorem dX9_squareTo_11 : decode cX9_squareTo 11 = .ok (.iload_n 1, 1) := by decide +kernel
theorem dX9_squareTo_12 : decode cX9_squareTo 12 = .ok (.invokevirtual 49, 3) := by decide +kernel
theorem dX9_squareTo_15 : decode cX9_squareTo 15 = .ok (.isub, 1) := by decide +kernel
theorem dX9_squareTo_16 : decode cX9_squareTo 16 = .ok (.istore 5, 2) := by decide +kernel
theorem dX9_squareTo_18 : decode cX9_squareTo 18 = .ok (.iload 4, 2) := by decide +kernel
theorem dX9_squareTo_20 : decode cX9_squareTo 20 = .ok (.iload 4, 2) := by decide +kernel
theorem dX9_squareTo_22 : decode cX9_squareTo 22 = .ok (.imul, 1) := by decide +kernel
theorem dX9_squareTo_23 : decode cX9_squareTo 23 = .ok (.iload 5, 2) := by decide +kernel
theorem dX9_squareTo_25 : decode cX9_squareTo 25 = .ok (.iload 5, 2) := by decide +kernel
theorem dX9_squareTo_27 : decode cX9_squareTo 27 = .ok (.imul, 1) := by decide +kernel
theorem dX9_squareTo_28 : decode cX9_squareTo 28 = .ok (.iadd, 1) := by decide +kernel
theorem dX9_squareTo_29 : decode cX9_squareTo 29 = .ok (.ireturn, 1) := by decide +kernel
theorem dX9_closestTo_0 : decode cX9_closestTo 0 = .ok (.iconst (-1), 1) := by decide +kernel
theorem dX9_closestTo_1 : decode cX9_closestTo 1 = .ok (.istore_n 3, 1) := by decide +kernel
theorem dX9_closestTo_2 : decode cX9_closestTo 2 = .ok (.iconst 0, 1) := by decide +kernel
theorem dX9_closestTo_3 : decode cX9_closestTo 3 = .ok (.istore 4, 2) := by decide +kernel
theorem dX9_closestTo_5 : decode cX9_closestTo 5 = .ok (.iload 4, 2) := by decide +kernel
theorem dX9_closestTo_7 : decode cX9_closestTo 7 = .ok (.aload_n 0, 1) := by decide +kernel
theorem dX9_closestTo_8 : decode cX9_closestTo 8 = .ok (.getfield 30, 3) := by decide +kernel
theorem dX9_closestTo_11 : decode cX9_closestTo 11 = .ok (.if_icmp .ge 35, 3) := by decide +kernel
theorem dX9_closestTo_14 : decode cX9_closestTo 14 = .ok (.iload_n 3, 1) := by decide +kernel
theorem dX9_closestTo_15 : decode cX9_closestTo 15 = .ok (.iconst (-1), 1) := by decide +kernel
theorem dX9_closestTo_16 : decode cX9_closestTo 16 = .ok (.if_icmp .eq 21, 3) := by decide +kernel
theorem dX9_closestTo_19 : decode cX9_closestTo 19 = .ok (.aload_n 0, 1) := by decide +kernel
theorem dX9_closestTo_20 : decode cX9_closestTo 20 = .ok (.iload 4, 2) := by decide +kernel
theorem dX9_closestTo_22 : decode cX9_closestTo 22 = .ok (.iload_n 1, 1) := by decide +kernel
theorem dX9_closestTo_23 : decode cX9_closestTo 23 = .ok (.iload_n 2, 1) := by decide +kernel
theorem dX9_closestTo_24 : decode cX9_closestTo 24 = .ok (.invokevirtual 52, 3) := by decide +kernel
theorem dX9_closestTo_27 : decode cX9_closestTo 27 = .ok (.aload_n 0, 1) := by decide +kernel
theorem dX9_closestTo_28 : decode cX9_closestTo 28 = .ok (.iload_n 3, 1) := by decide +kernel
theorem dX9_closestTo_29 : decode cX9_closestTo 29 = .ok (.iload_n 1, 1) := by decide +kernel
theorem dX9_closestTo_30 : decode cX9_closestTo 30 = .ok (.iload_n 2, 1) := by decide +kernel
theorem dX9_closestTo_31 : decode cX9_closestTo 31 = .ok (.invokevirtual 52, 3) := by decide +kernel
theorem dX9_closestTo_34 : decode cX9_closestTo 34 = .ok (.if_icmp .ge 6, 3) := by decide +kernel
theorem dX9_closestTo_37 : decode cX9_closestTo 37 = .ok (.iload 4, 2) := by decide +kernel
theorem dX9_closestTo_39 : decode cX9_closestTo 39 = .ok (.istore_n 3, 1) := by decide +kernel
theorem dX9_closestTo_40 : decode cX9_closestTo 40 = .ok (.iinc 4 1, 3) := by decide +kernel
theorem dX9_closestTo_43 : decode cX9_closestTo 43 = .ok (.goto (-38), 3) := by decide +kernel
theorem dX9_closestTo_46 : decode cX9_closestTo 46 = .ok (.iload_n 3, 1) := by decide +kernel
theorem dX9_closestTo_47 : decode cX9_closestTo 47 = .ok (.ireturn, 1) := by decide +kernel
theorem dX10_init_0 : decode cX10_init 0 = .ok (.aload_n 0, 1) := by decide +kernel
theorem dX10_init_1 : decode cX10_init 1 = .ok (.invokespecial 3, 3) := by decide +kernel
theorem dX10_init_4 : decode cX10_init 4 = .ok (.aload_n 0, 1) := by decide +kernel
theorem dX10_init_5 : decode cX10_init 5 = .ok (.new 9, 3) := by decide +kernel
theorem dX10_init_8 : decode cX10_init 8 = .ok (.dup, 1) := by decide +kernel
theorem dX10_init_9 : decode cX10_init 9 = .ok (.invokespecial 11, 3) := by decide +kernel
theorem dX10_init_12 : decode cX10_init 12 = .ok (.putfield 12, 3) := by decide +kernel
theorem dX10_init_15 : decode cX10_init 15 = .ok (.aload_n 0, 1) := by decide +kernel
theorem dX10_init_16 : decode cX10_init 16 = .ok (.new 16, 3) := by decide +kernel
theorem dX10_init_19 : decode cX10_init 19 = .ok (.dup, 1) := by decide +kernel
theorem dX10_init_20 : decode cX10_init 20 = .ok (.invokespecial 18, 3) := by decide +kernel
theorem dX10_init_23 : decode cX10_init 23 = .ok (.putfield 19, 3) := by decide +kernel
theorem dX10_init_26 : decode cX10_init 26 = .ok (.aload_n 0, 1) := by decide +kernel
theorem dX10_init_27 : decode cX10_init 27 = .ok (.new 23, 3) := by decide +kernel
theorem dX10_init_30 : decode cX10_init 30 = .ok (.dup, 1) := by decide +kernel
theorem dX10_init_31 : decode cX10_init 31 = .ok (.invokespecial 25, 3) := by decide +kernel
theorem dX10_init_34 : decode cX10_init 34 = .ok (.putfield 26, 3) := by decide +kernel
theorem dX10_init_37 : decode cX10_init 37 = .ok (.aload_n 0, 1) := by decide +kernel
theorem dX10_init_38 : decode cX10_init 38 = .ok (.new 23, 3) := by decide +kernel
theorem dX10_init_41 : decode cX10_init 41 = .ok (.dup, 1) := by decide +kernel
theorem dX10_init_42 : decode cX10_init 42 = .ok (.invokespecial 25, 3) := by decide +kernel
theorem dX10_init_45 : decode cX10_init 45 = .ok (.putfield 30, 3) := by decide +kernel
theorem dX10_init_48 : decode cX10_init 48 = .ok (.aload_n 0, 1) := by decide +kernel
theorem dX10_init_49 : decode cX10_init 49 = .ok (.new 33, 3) := by decide +kernel
theorem dX10_init_52 : decode cX10_init 52 = .ok (.dup, 1) := by decide +kernel
theorem dX10_init_53 : decode cX10_init 53 = .ok (.invokespecial 35, 3) := by decide +kernel
theorem dX10_init_56 : decode cX10_init 56 = .ok (.putfield 36, 3) := by decide +kernel
theorem dX10_init_59 : decode cX10_init 59 = .ok (.aload_n 0, 1) := by decide +kernel
theorem dX10_init_60 : decode cX10_init 60 = .ok (.new 40, 3) := by decide +kernel
theorem dX10_init_63 : decode cX10_init 63 = .ok (.dup, 1) := by decide +kernel
theorem dX10_init_64 : decode cX10_init 64 = .ok (.invokespecial 42, 3) := by decide +kernel
theorem dX10_init_67 : decode cX10_init 67 = .ok (.putfield 43, 3) := by decide +kernel
theorem dX10_init_70 : decode cX10_init 70 = .ok (.aload_n 0, 1) := by decide +kernel
theorem dX10_init_71 : decode cX10_init 71 = .ok (.iconst 0, 1) := by decide +kernel
theorem dX10_init_72 : decode cX10_init 72 = .ok (.putfield 47, 3) := by decide +kernel
theorem dX10_init_75 : decode cX10_init 75 = .ok (.aload_n 0, 1) := by decide +kernel
theorem dX10_init_76 : decode cX10_init 76 = .ok (.iconst (-1), 1) := by decide +kernel
theorem dX10_init_77 : decode cX10_init 77 = .ok (.putfield 51, 3) := by decide +kernel
theorem dX10_init_80 : decode cX10_init 80 = .ok (.aload_n 0, 1) := by decide +kernel
theorem dX10_init_81 : decode cX10_init 81 = .ok (.iconst (-1), 1) := by decide +kernel
theorem dX10_init_82 : decode cX10_init 82 = .ok (.putfield 55, 3) := by decide +kernel
theorem dX10_init_85 : decode cX10_init 85 = .ok (.return_, 1) := by decide +kernel
theorem dX10_addWaypoint_0 : decode cX10_addWaypoint 0 = .ok (.aload_n 0, 1) := by decide +kernel
theorem dX10_addWaypoint_1 : decode cX10_addWaypoint 1 = .ok (.iconst 0, 1) := by decide +kernel
theorem dX10_addWaypoint_2 : decode cX10_addWaypoint 2 = .ok (.iload_n 1, 1) := by decide +kernel
theorem dX10_addWaypoint_3 : decode cX10_addWaypoint 3 = .ok (.iload_n 2, 1) := by decide +kernel
theorem dX10_addWaypoint_4 : decode cX10_addWaypoint 4 = .ok (.iload_n 3, 1) := by decide +kernel
theorem dX10_addWaypoint_5 : decode cX10_addWaypoint 5 = .ok (.invokevirtual 58, 3) := by decide +kernel
theorem dX10_addWaypoint_8 : decode cX10_addWaypoint 8 = .ok (.ireturn, 1) := by decide +kernel
theorem dX10_addTrail_0 : decode cX10_addTrail 0 = .ok (.aload_n 0, 1) := by decide +kernel
theorem dX10_addTrail_1 : decode cX10_addTrail 1 = .ok (.iconst 1, 1) := by decide +kernel
theorem dX10_addTrail_2 : decode cX10_addTrail 2 = .ok (.iload_n 1, 1) := by decide +kernel
theorem dX10_addTrail_3 : decode cX10_addTrail 3 = .ok (.iload_n 2, 1) := by decide +kernel
theorem dX10_addTrail_4 : decode cX10_addTrail 4 = .ok (.iload_n 3, 1) := by decide +kernel
theorem dX10_addTrail_5 : decode cX10_addTrail 5 = .ok (.invokevirtual 58, 3) := by decide +kernel
theorem dX10_addTrail_8 : decode cX10_addTrail 8 = .ok (.ireturn, 1) := by decide +kernel
theorem dX10_removeTrail_0 : decode cX10_removeTrail 0 = .ok (.aload_n 0, 1) := by decide +kernel
theorem dX10_removeTrail_1 : decode cX10_removeTrail 1 = .ok (.iconst 2, 1) := by decide +kernel
theorem dX10_removeTrail_2 : decode cX10_removeTrail 2 = .ok (.iload_n 1, 1) := by decide +kernel
theorem dX10_removeTrail_3 : decode cX10_removeTrail 3 = .ok (.iload_n 2, 1) := by decide +kernel
theorem dX10_removeTrail_4 : decode cX10_removeTrail 4 = .ok (.iconst 0, 1) := by decide +kernel
theorem dX10_removeTrail_5 : decode cX10_removeTrail 5 = .ok (.invokevirtual 58, 3) := by decide +kernel
theorem dX10_removeTrail_8 : decode cX10_removeTrail 8 = .ok (.ireturn, 1) := by decide +kernel
theorem dX10_startTour_0 : decode cX10_startTour 0 = .ok (.aload_n 0, 1) := by decide +kernel
theorem dX10_startTour_1 : decode cX10_startTour 1 = .ok (.iconst 3, 1) := by decide +kernel
theorem dX10_startTour_2 : decode cX10_startTour 2 = .ok (.iload_n 1, 1) := by decide +kernel
theorem dX10_startTour_3 : decode cX10_startTour 3 = .ok (.iload_n 2, 1) := by decide +kernel
theorem dX10_startTour_4 : decode cX10_startTour 4 = .ok (.iconst 0, 1) := by decide +kernel
theorem dX10_startTour_5 : decode cX10_startTour 5 = .ok (.invokevirtual 58, 3) := by decide +kernel
theorem dX10_startTour_8 : decode cX10_startTour 8 = .ok (.ireturn, 1) := by decide +kernel
theorem dX10_stopTour_0 : decode cX10_stopTour 0 = .ok (.aload_n 0, 1) := by decide +kernel
theorem dX10_stopTour_1 : decode cX10_stopTour 1 = .ok (.bipush 8, 2) := by decide +kernel
theorem dX10_stopTour_3 : decode cX10_stopTour 3 = .ok (.iconst 0, 1) := by decide +kernel
theorem dX10_stopTour_4 : decode cX10_stopTour 4 = .ok (.iconst 0, 1) := by decide +kernel
theorem dX10_stopTour_5 : decode cX10_stopTour 5 = .ok (.iconst 0, 1) := by decide +kernel
theorem dX10_stopTour_6 : decode cX10_stopTour 6 = .ok (.invokevirtual 58, 3) := by decide +kernel
theorem dX10_stopTour_9 : decode cX10_stopTour 9 = .ok (.ireturn, 1) := by decide +kernel
theorem dX10_update_0 : decode cX10_update 0 = .ok (.aload_n 0, 1) := by decide +kernel
theorem dX10_update_1 : decode cX10_update 1 = .ok (.bipush 7, 2) := by decide +kernel
theorem dX10_update_3 : decode cX10_update 3 = .ok (.iload_n 1, 1) := by decide +kernel
theorem dX10_update_4 : decode cX10_update 4 = .ok (.iload_n 2, 1) := by decide +kernel
theorem dX10_update_5 : decode cX10_update 5 = .ok (.iconst 0, 1) := by decide +kernel
theorem dX10_update_6 : decode cX10_update 6 = .ok (.invokevirtual 58, 3) := by decide +kernel
theorem dX10_update_9 : decode cX10_update 9 = .ok (.iconst 1, 1) := by decide +kernel
theorem dX10_update_10 : decode cX10_update 10 = .ok (.if_icmp .ne 7, 3) := by decide +kernel
theorem dX10_update_13 : decode cX10_update 13 = .ok (.iconst 1, 1) := by decide +kernel
theorem dX10_update_14 : decode cX10_update 14 = .ok (.goto 4, 3) := by decide +kernel
theorem dX10_update_17 : decode cX10_update 17 = .ok (.iconst 0, 1) := by decide +kernel
theorem dX10_update_18 : decode cX10_update 18 = .ok (.ireturn, 1) := by decide +kernel
theorem dX10_setTolerance_0 : decode cX10_setTolerance 0 = .ok (.aload_n 0, 1) := by decide +kernel
theorem dX10_setTolerance_1 : decode cX10_setTolerance 1 = .ok (.iconst 5, 1) := by decide +kernel
theorem dX10_setTolerance_2 : decode cX10_setTolerance 2 = .ok (.iload_n 1, 1) := by decide +kernel
theorem dX10_setTolerance_3 : decode cX10_setTolerance 3 = .ok (.iconst 0, 1) := by decide +kernel
theorem dX10_setTolerance_4 : decode cX10_setTolerance 4 = .ok (.iconst 0, 1) := by decide +kernel
theorem dX10_setTolerance_5 : decode cX10_setTolerance 5 = .ok (.invokevirtual 58, 3) := by decide +kernel
theorem dX10_setTolerance_8 : decode cX10_setTolerance 8 = .ok (.ireturn, 1) := by decide +kernel
theorem dX10_setMode_0 : decode cX10_setMode 0 = .ok (.aload_n 0, 1) := by decide +kernel
theorem dX10_setMode_1 : decode cX10_setMode 1 = .ok (.iconst 4, 1) := by decide +kernel
theorem dX10_setMode_2 : decode cX10_setMode 2 = .ok (.iload_n 1, 1) := by decide +kernel
theorem dX10_setMode_3 : decode cX10_setMode 3 = .ok (.iconst 0, 1) := by decide +kernel
theorem dX10_setMode_4 : decode cX10_setMode 4 = .ok (.iconst 0, 1) := by decide +kernel
theorem dX10_setMode_5 : decode cX10_setMode 5 = .ok (.invokevirtual 58, 3) := by decide +kernel
theorem dX10_setMode_8 : decode cX10_setMode 8 = .ok (.ireturn, 1) := by decide +kernel
theorem dX10_charge_0 : decode cX10_charge 0 = .ok (.aload_n 0, 1) := by decide +kernel
theorem dX10_charge_1 : decode cX10_charge 1 = .ok (.bipush 6, 2) := by decide +kernel
theorem dX10_charge_3 : decode cX10_charge 3 = .ok (.iload_n 1, 1) := by decide +kernel
theorem dX10_charge_4 : decode cX10_charge 4 = .ok (.iconst 0, 1) := by decide +kernel
theorem dX10_charge_5 : decode cX10_charge 5 = .ok (.iconst 0, 1) := by decide +kernel
theorem dX10_charge_6 : decode cX10_charge 6 = .ok (.invokevirtual 58, 3) := by decide +kernel
theorem dX10_charge_9 : decode cX10_charge 9 = .ok (.ireturn, 1) := by decide +kernel
theorem dX10_waypoints_0 : decode cX10_waypoints 0 = .ok (.aload_n 0, 1) := by decide +kernel
theorem dX10_waypoints_1 : decode cX10_waypoints 1 = .ok (.getfield 12, 3) := by decide +kernel
theorem dX10_waypoints_4 : decode cX10_waypoints 4 = .ok (.getfield 62, 3) := by decide +kernel
theorem dX10_waypoints_7 : decode cX10_waypoints 7 = .ok (.getfield 65, 3) := by decide +kernel
theorem dX10_waypoints_10 : decode cX10_waypoints 10 = .ok (.getfield 69, 3) := by decide +kernel
theorem dX10_waypoints_13 : decode cX10_waypoints 13 = .ok (.ireturn, 1) := by decide +kernel
theorem dX10_waypointX_0 : decode cX10_waypointX 0 = .ok (.aload_n 0, 1) := by decide +kernel
theorem dX10_waypointX_1 : decode cX10_waypointX 1 = .ok (.iload_n 1, 1) := by decide +kernel
theorem dX10_waypointX_2 : decode cX10_waypointX 2 = .ok (.invokevirtual 74, 3) := by decide +kernel
theorem dX10_waypointX_5 : decode cX10_waypointX 5 = .ok (.aload_n 0, 1) := by decide +kernel
theorem dX10_waypointX_6 : decode cX10_waypointX 6 = .ok (.getfield 12, 3) := by decide +kernel
theorem dX10_waypointX_9 : decode cX10_waypointX 9 = .ok (.getfield 62, 3) := by decide +kernel
theorem dX10_waypointX_12 : decode cX10_waypointX 12 = .ok (.getfield 65, 3) := by decide +kernel
theorem dX10_waypointX_15 : decode cX10_waypointX 15 = .ok (.iload_n 1, 1) := by decide +kernel
theorem dX10_waypointX_16 : decode cX10_waypointX 16 = .ok (.invokevirtual 78, 3) := by decide +kernel
theorem dX10_waypointX_19 : decode cX10_waypointX 19 = .ok (.ireturn, 1) := by decide +kernel
theorem dX10_waypointY_0 : decode cX10_waypointY 0 = .ok (.aload_n 0, 1) := by decide +kernel
theorem dX10_waypointY_1 : decode cX10_waypointY 1 = .ok (.iload_n 1, 1) := by decide +kernel
theorem dX10_waypointY_2 : decode cX10_waypointY 2 = .ok (.invokevirtual 74, 3) := by decide +kernel
theorem dX10_waypointY_5 : decode cX10_waypointY 5 = .ok (.aload_n 0, 1) := by decide +kernel
theorem dX10_waypointY_6 : decode cX10_waypointY 6 = .ok (.getfield 12, 3) := by decide +kernel
theorem dX10_waypointY_9 : decode cX10_waypointY 9 = .ok (.getfield 62, 3) := by decide +kernel
theorem dX10_waypointY_12 : decode cX10_waypointY 12 = .ok (.getfield 65, 3) := by decide +kernel
theorem dX10_waypointY_15 : decode cX10_waypointY 15 = .ok (.iload_n 1, 1) := by decide +kernel
theorem dX10_waypointY_16 : decode cX10_waypointY 16 = .ok (.invokevirtual 82, 3) := by decide +kernel
theorem dX10_waypointY_19 : decode cX10_waypointY 19 = .ok (.ireturn, 1) := by decide +kernel
theorem dX10_radius_0 : decode cX10_radius 0 = .ok (.aload_n 0, 1) := by decide +kernel
theorem dX10_radius_1 : decode cX10_radius 1 = .ok (.iload_n 1, 1) := by decide +kernel
theorem dX10_radius_2 : decode cX10_radius 2 = .ok (.invokevirtual 74, 3) := by decide +kernel
theorem dX10_radius_5 : decode cX10_radius 5 = .ok (.aload_n 0, 1) := by decide +kernel
theorem dX10_radius_6 : decode cX10_radius 6 = .ok (.getfield 12, 3) := by decide +kernel
theorem dX10_radius_9 : decode cX10_radius 9 = .ok (.getfield 62, 3) := by decide +kernel
theorem dX10_radius_12 : decode cX10_radius 12 = .ok (.getfield 65, 3) := by decide +kernel
theorem dX10_radius_15 : decode cX10_radius 15 = .ok (.iload_n 1, 1) := by decide +kernel
theorem dX10_radius_16 : decode cX10_radius 16 = .ok (.invokevirtual 85, 3) := by decide +kernel
theorem dX10_radius_19 : decode cX10_radius 19 = .ok (.ireturn, 1) := by decide +kernel
theorem dX10_trails_0 : decode cX10_trails 0 = .ok (.aload_n 0, 1) := by decide +kernel
theorem dX10_trails_1 : decode cX10_trails 1 = .ok (.getfield 12, 3) := by decide +kernel
theorem dX10_trails_4 : decode cX10_trails 4 = .ok (.getfield 62, 3) := by decide +kernel
theorem dX10_trails_7 : decode cX10_trails 7 = .ok (.getfield 65, 3) := by decide +kernel
theorem dX10_trails_10 : decode cX10_trails 10 = .ok (.getfield 88, 3) := by decide +kernel
theorem dX10_trails_13 : decode cX10_trails 13 = .ok (.ireturn, 1) := by decide +kernel
theorem dX10_hasTrail_0 : decode cX10_hasTrail 0 = .ok (.aload_n 0, 1) := by decide +kernel
theorem dX10_hasTrail_1 : decode cX10_hasTrail 1 = .ok (.iload_n 1, 1) := by decide +kernel
theorem dX10_hasTrail_2 : decode cX10_hasTrail 2 = .ok (.invokevirtual 74, 3) := by decide +kernel
theorem dX10_hasTrail_5 : decode cX10_hasTrail 5 = .ok (.aload_n 0, 1) := by decide +kernel
theorem dX10_hasTrail_6 : decode cX10_hasTrail 6 = .ok (.iload_n 2, 1) := by decide +kernel
theorem dX10_hasTrail_7 : decode cX10_hasTrail 7 = .ok (.invokevirtual 74, 3) := by decide +kernel
theorem dX10_hasTrail_10 : decode cX10_hasTrail 10 = .ok (.aload_n 0, 1) := by decide +kernel
theorem dX10_hasTrail_11 : decode cX10_hasTrail 11 = .ok (.getfield 12, 3) := by decide +kernel
theorem dX10_hasTrail_14 : decode cX10_hasTrail 14 = .ok (.getfield 62, 3) := by decide +kernel
theorem dX10_hasTrail_17 : decode cX10_hasTrail 17 = .ok (.getfield 65, 3) := by decide +kernel
theorem dX10_hasTrail_20 : decode cX10_hasTrail 20 = .ok (.iload_n 1, 1) := by decide +kernel
theorem dX10_hasTrail_21 : decode cX10_hasTrail 21 = .ok (.iload_n 2, 1) := by decide +kernel
theorem dX10_hasTrail_22 : decode cX10_hasTrail 22 = .ok (.invokevirtual 91, 3) := by decide +kernel
theorem dX10_hasTrail_25 : decode cX10_hasTrail 25 = .ok (.ireturn, 1) := by decide +kernel
theorem dX10_trailLength_0 : decode cX10_trailLength 0 = .ok (.aload_n 0, 1) := by decide +kernel
theorem dX10_trailLength_1 : decode cX10_trailLength 1 = .ok (.iload_n 1, 1) := by decide +kernel
theorem dX10_trailLength_2 : decode cX10_trailLength 2 = .ok (.invokevirtual 74, 3) := by decide +kernel
theorem dX10_trailLength_5 : decode cX10_trailLength 5 = .ok (.aload_n 0, 1) := by decide +kernel
theorem dX10_trailLength_6 : decode cX10_trailLength 6 = .ok (.iload_n 2, 1) := by decide +kernel
theorem dX10_trailLength_7 : decode cX10_trailLength 7 = .ok (.invokevirtual 74, 3) := by decide +kernel
theorem dX10_trailLength_10 : decode cX10_trailLength 10 = .ok (.aload_n 0, 1) := by decide +kernel
theorem dX10_trailLength_11 : decode cX10_trailLength 11 = .ok (.getfield 12, 3) := by decide +kernel
theorem dX10_trailLength_14 : decode cX10_trailLength 14 = .ok (.getfield 62, 3) := by decide +kernel
theorem dX10_trailLength_17 : decode cX10_trailLength 17 = .ok (.getfield 65, 3) := by decide +kernel
theorem dX10_trailLength_20 : decode cX10_trailLength 20 = .ok (.iload_n 1, 1) := by decide +kernel
theorem dX10_trailLength_21 : decode cX10_trailLength 21 = .ok (.iload_n 2, 1) := by decide +kernel
theorem dX10_trailLength_22 : decode cX10_trailLength 22 = .ok (.invokevirtual 91, 3) := by decide +kernel
theorem dX10_trailLength_25 : decode cX10_trailLength 25 = .ok (.ifCond .ne 13, 3) := by decide +kernel
theorem dX10_trailLength_28 : decode cX10_trailLength 28 = .ok (.new 95, 3) := by decide +kernel
theorem dX10_trailLength_31 : decode cX10_trailLength 31 = .ok (.dup, 1) := by decide +kernel
theorem dX10_trailLength_32 : decode cX10_trailLength 32 = .ok (.ldc 97, 2) := by decide +kernel
theorem dX10_trailLength_34 : decode cX10_trailLength 34 = .ok (.invokespecial 99, 3) := by decide +kernel
theorem dX10_trailLength_37 : decode cX10_trailLength 37 = .ok (.athrow, 1) := by decide +kernel
theorem dX10_trailLength_38 : decode cX10_trailLength 38 = .ok (.aload_n 0, 1) := by decide +kernel
theorem dX10_trailLength_39 : decode cX10_trailLength 39 = .ok (.getfield 12, 3) := by decide +kernel
theorem dX10_trailLength_42 : decode cX10_trailLength 42 = .ok (.getfield 62, 3) := by decide +kernel
theorem dX10_trailLength_45 : decode cX10_trailLength 45 = .ok (.getfield 65, 3) := by decide +kernel
theorem dX10_trailLength_48 : decode cX10_trailLength 48 = .ok (.iload_n 1, 1) := by decide +kernel
theorem dX10_trailLength_49 : decode cX10_trailLength 49 = .ok (.iload_n 2, 1) := by decide +kernel
theorem dX10_trailLength_50 : decode cX10_trailLength 50 = .ok (.invokevirtual 102, 3) := by decide +kernel
theorem dX10_trailLength_53 : decode cX10_trailLength 53 = .ok (.ireturn, 1) := by decide +kernel
theorem dX10_distance_0 : decode cX10_distance 0 = .ok (.aload_n 0, 1) := by decide +kernel
theorem dX10_distance_1 : decode cX10_distance 1 = .ok (.iload_n 1, 1) := by decide +kernel
theorem dX10_distance_2 : decode cX10_distance 2 = .ok (.invokevirtual 74, 3) := by decide +kernel
theorem dX10_distance_5 : decode cX10_distance 5 = .ok (.aload_n 0, 1) := by decide +kernel
theorem dX10_distance_6 : decode cX10_distance 6 = .ok (.iload_n 2, 1) := by decide +kernel
theorem dX10_distance_7 : decode cX10_distance 7 = .ok (.invokevirtual 74, 3) := by decide +kernel
theorem dX10_distance_10 : decode cX10_distance 10 = .ok (.aload_n 0, 1) := by decide +kernel
theorem dX10_distance_11 : decode cX10_distance 11 = .ok (.getfield 12, 3) := by decide +kernel
theorem dX10_distance_14 : decode cX10_distance 14 = .ok (.getfield 106, 3) := by decide +kernel
theorem dX10_distance_17 : decode cX10_distance 17 = .ok (.aload_n 0, 1) := by decide +kernel
theorem dX10_distance_18 : decode cX10_distance 18 = .ok (.getfield 12, 3) := by decide +kernel
theorem dX10_distance_21 : decode cX10_distance 21 = .ok (.getfield 62, 3) := by decide +kernel
theorem dX10_distance_24 : decode cX10_distance 24 = .ok (.getfield 65, 3) := by decide +kernel
theorem dX10_distance_27 : decode cX10_distance 27 = .ok (.iload_n 1, 1) := by decide +kernel
theorem dX10_distance_28 : decode cX10_distance 28 = .ok (.invokevirtual 110, 3) := by decide +kernel
theorem dX10_distance_31 : decode cX10_distance 31 = .ok (.aload_n 0, 1) := by decide +kernel
theorem dX10_distance_32 : decode cX10_distance 32 = .ok (.getfield 12, 3) := by decide +kernel
theorem dX10_distance_35 : decode cX10_distance 35 = .ok (.getfield 106, 3) := by decide +kernel
theorem dX10_distance_38 : decode cX10_distance 38 = .ok (.iload_n 2, 1) := by decide +kernel
theorem dX10_distance_39 : decode cX10_distance 39 = .ok (.invokevirtual 116, 3) := by decide +kernel
theorem dX10_distance_42 : decode cX10_distance 42 = .ok (.istore_n 3, 1) := by decide +kernel
theorem dX10_distance_43 : decode cX10_distance 43 = .ok (.iload_n 3, 1) := by decide +kernel
theorem dX10_distance_44 : decode cX10_distance 44 = .ok (.invokestatic 119, 3) := by decide +kernel
theorem dX10_distance_47 : decode cX10_distance 47 = .ok (.iload_n 3, 1) := by decide +kernel
theorem dX10_distance_48 : decode cX10_distance 48 = .ok (.ireturn, 1) := by decide +kernel
theorem dX10_distanceByRelaxation_0 : decode cX10_distanceByRelaxation 0 = .ok (.aload_n 0, 1) := by decide +kernel
theorem dX10_distanceByRelaxation_1 : decode cX10_distanceByRelaxation 1 = .ok (.iload_n 1, 1) := by decide +kernel
theorem dX10_distanceByRelaxation_2 : decode cX10_distanceByRelaxation 2 = .ok (.invokevirtual 74, 3) := by decide +kernel
theorem dX10_distanceByRelaxation_5 : decode cX10_distanceByRelaxation 5 = .ok (.aload_n 0, 1) := by decide +kernel
theorem dX10_distanceByRelaxation_6 : decode cX10_distanceByRelaxation 6 = .ok (.iload_n 2, 1) := by decide +kernel
theorem dX10_distanceByRelaxation_7 : decode cX10_distanceByRelaxation 7 = .ok (.invokevirtual 74, 3) := by decide +kernel
theorem dX10_distanceByRelaxation_10 : decode cX10_distanceByRelaxation 10 = .ok (.aload_n 0, 1) := by decide +kernel
theorem dX10_distanceByRelaxation_11 : decode cX10_distanceByRelaxation 11 = .ok (.getfield 12, 3) := by decide +kernel
theorem dX10_distanceByRelaxation_14 : decode cX10_distanceByRelaxation 14 = .ok (.getfield 106, 3) := by decide +kernel
theorem dX10_distanceByRelaxation_17 : decode cX10_distanceByRelaxation 17 = .ok (.aload_n 0, 1) := by decide +kernel
theorem dX10_distanceByRelaxation_18 : decode cX10_distanceByRelaxation 18 = .ok (.getfield 12, 3) := by decide +kernel
theorem dX10_distanceByRelaxation_21 : decode cX10_distanceByRelaxation 21 = .ok (.getfield 62, 3) := by decide +kernel
theorem dX10_distanceByRelaxation_24 : decode cX10_distanceByRelaxation 24 = .ok (.getfield 65, 3) := by decide +kernel
theorem dX10_distanceByRelaxation_27 : decode cX10_distanceByRelaxation 27 = .ok (.iload_n 1, 1) := by decide +kernel
theorem dX10_distanceByRelaxation_28 : decode cX10_distanceByRelaxation 28 = .ok (.invokevirtual 122, 3) := by decide +kernel
theorem dX10_distanceByRelaxation_31 : decode cX10_distanceByRelaxation 31 = .ok (.aload_n 0, 1) := by decide +kernel
theorem dX10_distanceByRelaxation_32 : decode cX10_distanceByRelaxation 32 = .ok (.getfield 12, 3) := by decide +kernel
theorem dX10_distanceByRelaxation_35 : decode cX10_distanceByRelaxation 35 = .ok (.getfield 106, 3) := by decide +kernel
theorem dX10_distanceByRelaxation_38 : decode cX10_distanceByRelaxation 38 = .ok (.iload_n 2, 1) := by decide +kernel
theorem dX10_distanceByRelaxation_39 : decode cX10_distanceByRelaxation 39 = .ok (.invokevirtual 125, 3) := by decide +kernel
theorem dX10_distanceByRelaxation_42 : decode cX10_distanceByRelaxation 42 = .ok (.istore_n 3, 1) := by decide +kernel
theorem dX10_distanceByRelaxation_43 : decode cX10_distanceByRelaxation 43 = .ok (.iload_n 3, 1) := by decide +kernel
theorem dX10_distanceByRelaxation_44 : decode cX10_distanceByRelaxation 44 = .ok (.invokestatic 119, 3) := by decide +kernel
theorem dX10_distanceByRelaxation_47 : decode cX10_distanceByRelaxation 47 = .ok (.iload_n 3, 1) := by decide +kernel
theorem dX10_distanceByRelaxation_48 : decode cX10_distanceByRelaxation 48 = .ok (.ireturn, 1) := by decide +kernel
theorem dX10_components_0 : decode cX10_components 0 = .ok (.aload_n 0, 1) := by decide +kernel
theorem dX10_components_1 : decode cX10_components 1 = .ok (.getfield 12, 3) := by decide +kernel
theorem dX10_components_4 : decode cX10_components 4 = .ok (.getfield 106, 3) := by decide +kernel
theorem dX10_components_7 : decode cX10_components 7 = .ok (.aload_n 0, 1) := by decide +kernel
theorem dX10_components_8 : decode cX10_components 8 = .ok (.getfield 12, 3) := by decide +kernel
theorem dX10_components_11 : decode cX10_components 11 = .ok (.getfield 62, 3) := by decide +kernel
theorem dX10_components_14 : decode cX10_components 14 = .ok (.getfield 65, 3) := by decide +kernel
theorem dX10_components_17 : decode cX10_components 17 = .ok (.invokevirtual 128, 3) := by decide +kernel
theorem dX10_components_20 : decode cX10_components 20 = .ok (.ireturn, 1) := by decide +kernel
theorem dX10_componentsByMerging_0 : decode cX10_componentsByMerging 0 = .ok (.aload_n 0, 1) := by decide +kernel
theorem dX10_componentsByMerging_1 : decode cX10_componentsByMerging 1 = .ok (.getfield 12, 3) := by decide +kernel
theorem dX10_componentsByMerging_4 : decode cX10_componentsByMerging 4 = .ok (.getfield 106, 3) := by decide +kernel
theorem dX10_componentsByMerging_7 : decode cX10_componentsByMerging 7 = .ok (.aload_n 0, 1) := by decide +kernel
theorem dX10_componentsByMerging_8 : decode cX10_componentsByMerging 8 = .ok (.getfield 12, 3) := by decide +kernel
theorem dX10_componentsByMerging_11 : decode cX10_componentsByMerging 11 = .ok (.getfield 62, 3) := by decide +kernel
theorem dX10_componentsByMerging_14 : decode cX10_componentsByMerging 14 = .ok (.getfield 65, 3) := by decide +kernel
theorem dX10_componentsByMerging_17 : decode cX10_componentsByMerging 17 = .ok (.invokevirtual 132, 3) := by decide +kernel
theorem dX10_componentsByMerging_20 : decode cX10_componentsByMerging 20 = .ok (.ireturn, 1) := by decide +kernel
theorem dX10_nearest_0 : decode cX10_nearest 0 = .ok (.iload_n 1, 1) := by decide +kernel
theorem dX10_nearest_1 : decode cX10_nearest 1 = .ok (.iload_n 2, 1) := by decide +kernel
theorem dX10_nearest_2 : decode cX10_nearest 2 = .ok (.invokestatic 135, 3) := by decide +kernel
theorem dX10_nearest_5 : decode cX10_nearest 5 = .ok (.aload_n 0, 1) := by decide +kernel
theorem dX10_nearest_6 : decode cX10_nearest 6 = .ok (.getfield 12, 3) := by decide +kernel
theorem dX10_nearest_9 : decode cX10_nearest 9 = .ok (.getfield 62, 3) := by decide +kernel
theorem dX10_nearest_12 : decode cX10_nearest 12 = .ok (.getfield 65, 3) := by decide +kernel
theorem dX10_nearest_15 : decode cX10_nearest 15 = .ok (.iload_n 1, 1) := by decide +kernel
theorem dX10_nearest_16 : decode cX10_nearest 16 = .ok (.iload_n 2, 1) := by decide +kernel
theorem dX10_nearest_17 : decode cX10_nearest 17 = .ok (.invokevirtual 139, 3) := by decide +kernel
theorem dX10_nearest_20 : decode cX10_nearest 20 = .ok (.istore_n 3, 1) := by decide +kernel
theorem dX10_nearest_21 : decode cX10_nearest 21 = .ok (.iload_n 3, 1) := by decide +kernel
theorem dX10_nearest_22 : decode cX10_nearest 22 = .ok (.iconst (-1), 1) := by decide +kernel
theorem dX10_nearest_23 : decode cX10_nearest 23 = .ok (.if_icmp .ne 13, 3) := by decide +kernel
theorem dX10_nearest_26 : decode cX10_nearest 26 = .ok (.new 95, 3) := by decide +kernel
theorem dX10_nearest_29 : decode cX10_nearest 29 = .ok (.dup, 1) := by decide +kernel
theorem dX10_nearest_30 : decode cX10_nearest 30 = .ok (.ldc 142, 2) := by decide +kernel
theorem dX10_nearest_32 : decode cX10_nearest 32 = .ok (.invokespecial 99, 3) := by decide +kernel
theorem dX10_nearest_35 : decode cX10_nearest 35 = .ok (.athrow, 1) := by decide +kernel
theorem dX10_nearest_36 : decode cX10_nearest 36 = .ok (.iload_n 3, 1) := by decide +kernel
theorem dX10_nearest_37 : decode cX10_nearest 37 = .ok (.ireturn, 1) := by decide +kernel
theorem dX10_isTouring_0 : decode cX10_isTouring 0 = .ok (.aload_n 0, 1) := by decide +kernel
theorem dX10_isTouring_1 : decode cX10_isTouring 1 = .ok (.getfield 12, 3) := by decide +kernel
theorem dX10_isTouring_4 : decode cX10_isTouring 4 = .ok (.getfield 62, 3) := by decide +kernel
theorem dX10_isTouring_7 : decode cX10_isTouring 7 = .ok (.getfield 144, 3) := by decide +kernel
theorem dX10_isTouring_10 : decode cX10_isTouring 10 = .ok (.invokevirtual 148, 3) := by decide +kernel
theorem dX10_isTouring_13 : decode cX10_isTouring 13 = .ok (.ireturn, 1) := by decide +kernel
theorem dX10_routeLength_0 : decode cX10_routeLength 0 = .ok (.aload_n 0, 1) := by decide +kernel
theorem dX10_routeLength_1 : decode cX10_routeLength 1 = .ok (.invokevirtual 154, 3) := by decide +kernel
theorem dX10_routeLength_4 : decode cX10_routeLength 4 = .ok (.aload_n 0, 1) := by decide +kernel
theorem dX10_routeLength_5 : decode cX10_routeLength 5 = .ok (.getfield 12, 3) := by decide +kernel
theorem dX10_routeLength_8 : decode cX10_routeLength 8 = .ok (.getfield 62, 3) := by decide +kernel
theorem dX10_routeLength_11 : decode cX10_routeLength 11 = .ok (.getfield 144, 3) := by decide +kernel
theorem dX10_routeLength_14 : decode cX10_routeLength 14 = .ok (.getfield 157, 3) := by decide +kernel
theorem dX10_routeLength_17 : decode cX10_routeLength 17 = .ok (.ireturn, 1) := by decide +kernel
theorem dX10_routeWaypoint_0 : decode cX10_routeWaypoint 0 = .ok (.aload_n 0, 1) := by decide +kernel
theorem dX10_routeWaypoint_1 : decode cX10_routeWaypoint 1 = .ok (.invokevirtual 154, 3) := by decide +kernel
theorem dX10_routeWaypoint_4 : decode cX10_routeWaypoint 4 = .ok (.aload_n 0, 1) := by decide +kernel
theorem dX10_routeWaypoint_5 : decode cX10_routeWaypoint 5 = .ok (.iload_n 1, 1) := by decide +kernel
theorem dX10_routeWaypoint_6 : decode cX10_routeWaypoint 6 = .ok (.invokevirtual 158, 3) := by decide +kernel
theorem dX10_routeWaypoint_9 : decode cX10_routeWaypoint 9 = .ok (.aload_n 0, 1) := by decide +kernel
theorem dX10_routeWaypoint_10 : decode cX10_routeWaypoint 10 = .ok (.getfield 12, 3) := by decide +kernel
theorem dX10_routeWaypoint_13 : decode cX10_routeWaypoint 13 = .ok (.getfield 62, 3) := by decide +kernel
theorem dX10_routeWaypoint_16 : decode cX10_routeWaypoint 16 = .ok (.getfield 144, 3) := by decide +kernel
theorem dX10_routeWaypoint_19 : decode cX10_routeWaypoint 19 = .ok (.iload_n 1, 1) := by decide +kernel
theorem dX10_routeWaypoint_20 : decode cX10_routeWaypoint 20 = .ok (.invokevirtual 161, 3) := by decide +kernel
theorem dX10_routeWaypoint_23 : decode cX10_routeWaypoint 23 = .ok (.ireturn, 1) := by decide +kernel
theorem dX10_target_0 : decode cX10_target 0 = .ok (.aload_n 0, 1) := by decide +kernel
theorem dX10_target_1 : decode cX10_target 1 = .ok (.invokevirtual 154, 3) := by decide +kernel
theorem dX10_target_4 : decode cX10_target 4 = .ok (.aload_n 0, 1) := by decide +kernel
theorem dX10_target_5 : decode cX10_target 5 = .ok (.getfield 12, 3) := by decide +kernel
theorem dX10_target_8 : decode cX10_target 8 = .ok (.getfield 62, 3) := by decide +kernel
theorem dX10_target_11 : decode cX10_target 11 = .ok (.getfield 144, 3) := by decide +kernel
theorem dX10_target_14 : decode cX10_target 14 = .ok (.invokevirtual 174, 3) := by decide +kernel
theorem dX10_target_17 : decode cX10_target 17 = .ok (.ireturn, 1) := by decide +kernel
theorem dX10_hikerX_0 : decode cX10_hikerX 0 = .ok (.aload_n 0, 1) := by decide +kernel
theorem dX10_hikerX_1 : decode cX10_hikerX 1 = .ok (.invokevirtual 154, 3) := by decide +kernel
theorem dX10_hikerX_4 : decode cX10_hikerX 4 = .ok (.aload_n 0, 1) := by decide +kernel
theorem dX10_hikerX_5 : decode cX10_hikerX 5 = .ok (.getfield 12, 3) := by decide +kernel
theorem dX10_hikerX_8 : decode cX10_hikerX 8 = .ok (.getfield 62, 3) := by decide +kernel
theorem dX10_hikerX_11 : decode cX10_hikerX 11 = .ok (.getfield 144, 3) := by decide +kernel
theorem dX10_hikerX_14 : decode cX10_hikerX 14 = .ok (.getfield 178, 3) := by decide +kernel
theorem dX10_hikerX_17 : decode cX10_hikerX 17 = .ok (.ireturn, 1) := by decide +kernel
theorem dX10_hikerY_0 : decode cX10_hikerY 0 = .ok (.aload_n 0, 1) := by decide +kernel
theorem dX10_hikerY_1 : decode cX10_hikerY 1 = .ok (.invokevirtual 154, 3) := by decide +kernel
theorem dX10_hikerY_4 : decode cX10_hikerY 4 = .ok (.aload_n 0, 1) := by decide +kernel
theorem dX10_hikerY_5 : decode cX10_hikerY 5 = .ok (.getfield 12, 3) := by decide +kernel
theorem dX10_hikerY_8 : decode cX10_hikerY 8 = .ok (.getfield 62, 3) := by decide +kernel
theorem dX10_hikerY_11 : decode cX10_hikerY 11 = .ok (.getfield 144, 3) := by decide +kernel
theorem dX10_hikerY_14 : decode cX10_hikerY 14 = .ok (.getfield 181, 3) := by decide +kernel
theorem dX10_hikerY_17 : decode cX10_hikerY 17 = .ok (.ireturn, 1) := by decide +kernel
theorem dX10_drift_0 : decode cX10_drift 0 = .ok (.aload_n 0, 1) := by decide +kernel
theorem dX10_drift_1 : decode cX10_drift 1 = .ok (.invokevirtual 154, 3) := by decide +kernel
theorem dX10_drift_4 : decode cX10_drift 4 = .ok (.aload_n 0, 1) := by decide +kernel
theorem dX10_drift_5 : decode cX10_drift 5 = .ok (.getfield 12, 3) := by decide +kernel
theorem dX10_drift_8 : decode cX10_drift 8 = .ok (.aload_n 0, 1) := by decide +kernel
theorem dX10_drift_9 : decode cX10_drift 9 = .ok (.getfield 12, 3) := by decide +kernel
theorem dX10_drift_12 : decode cX10_drift 12 = .ok (.getfield 62, 3) := by decide +kernel
theorem dX10_drift_15 : decode cX10_drift 15 = .ok (.getfield 144, 3) := by decide +kernel
theorem dX10_drift_18 : decode cX10_drift 18 = .ok (.getfield 178, 3) := by decide +kernel
theorem dX10_drift_21 : decode cX10_drift 21 = .ok (.aload_n 0, 1) := by decide +kernel
theorem dX10_drift_22 : decode cX10_drift 22 = .ok (.getfield 12, 3) := by decide +kernel
theorem dX10_drift_25 : decode cX10_drift 25 = .ok (.getfield 62, 3) := by decide +kernel
theorem dX10_drift_28 : decode cX10_drift 28 = .ok (.getfield 144, 3) := by decide +kernel
theorem dX10_drift_31 : decode cX10_drift 31 = .ok (.getfield 181, 3) := by decide +kernel
theorem dX10_drift_34 : decode cX10_drift 34 = .ok (.invokevirtual 184, 3) := by decide +kernel
theorem dX10_drift_37 : decode cX10_drift 37 = .ok (.aload_n 0, 1) := by decide +kernel
theorem dX10_drift_38 : decode cX10_drift 38 = .ok (.getfield 12, 3) := by decide +kernel
theorem dX10_drift_41 : decode cX10_drift 41 = .ok (.getfield 187, 3) := by decide +kernel
theorem dX10_drift_44 : decode cX10_drift 44 = .ok (.invokevirtual 191, 3) := by decide +kernel
theorem dX10_drift_47 : decode cX10_drift 47 = .ok (.ireturn, 1) := by decide +kernel
theorem dX10_isAlarm_0 : decode cX10_isAlarm 0 = .ok (.aload_n 0, 1) := by decide +kernel
theorem dX10_isAlarm_1 : decode cX10_isAlarm 1 = .ok (.getfield 12, 3) := by decide +kernel
theorem dX10_isAlarm_4 : decode cX10_isAlarm 4 = .ok (.getfield 62, 3) := by decide +kernel
theorem dX10_isAlarm_7 : decode cX10_isAlarm 7 = .ok (.getfield 144, 3) := by decide +kernel
theorem dX10_isAlarm_10 : decode cX10_isAlarm 10 = .ok (.getfield 196, 3) := by decide +kernel
theorem dX10_isAlarm_13 : decode cX10_isAlarm 13 = .ok (.ireturn, 1) := by decide +kernel
theorem dX10_battery_0 : decode cX10_battery 0 = .ok (.aload_n 0, 1) := by decide +kernel
theorem dX10_battery_1 : decode cX10_battery 1 = .ok (.getfield 12, 3) := by decide +kernel
theorem dX10_battery_4 : decode cX10_battery 4 = .ok (.getfield 62, 3) := by decide +kernel
theorem dX10_battery_7 : decode cX10_battery 7 = .ok (.getfield 202, 3) := by decide +kernel
theorem dX10_battery_10 : decode cX10_battery 10 = .ok (.getfield 214, 3) := by decide +kernel
theorem dX10_battery_13 : decode cX10_battery 13 = .ok (.ireturn, 1) := by decide +kernel
theorem dX10_mode_0 : decode cX10_mode 0 = .ok (.aload_n 0, 1) := by decide +kernel
theorem dX10_mode_1 : decode cX10_mode 1 = .ok (.getfield 12, 3) := by decide +kernel
theorem dX10_mode_4 : decode cX10_mode 4 = .ok (.getfield 62, 3) := by decide +kernel
theorem dX10_mode_7 : decode cX10_mode 7 = .ok (.getfield 202, 3) := by decide +kernel
theorem dX10_mode_10 : decode cX10_mode 10 = .ok (.getfield 217, 3) := by decide +kernel
theorem dX10_mode_13 : decode cX10_mode 13 = .ok (.ireturn, 1) := by decide +kernel
theorem dX10_tolerance_0 : decode cX10_tolerance 0 = .ok (.aload_n 0, 1) := by decide +kernel
theorem dX10_tolerance_1 : decode cX10_tolerance 1 = .ok (.getfield 12, 3) := by decide +kernel
theorem dX10_tolerance_4 : decode cX10_tolerance 4 = .ok (.getfield 62, 3) := by decide +kernel
theorem dX10_tolerance_7 : decode cX10_tolerance 7 = .ok (.getfield 202, 3) := by decide +kernel
theorem dX10_tolerance_10 : decode cX10_tolerance 10 = .ok (.getfield 206, 3) := by decide +kernel
theorem dX10_tolerance_13 : decode cX10_tolerance 13 = .ok (.ireturn, 1) := by decide +kernel
theorem dX10_updatesLeft_0 : decode cX10_updatesLeft 0 = .ok (.aload_n 0, 1) := by decide +kernel
theorem dX10_updatesLeft_1 : decode cX10_updatesLeft 1 = .ok (.getfield 12, 3) := by decide +kernel
theorem dX10_updatesLeft_4 : decode cX10_updatesLeft 4 = .ok (.getfield 62, 3) := by decide +kernel
theorem dX10_updatesLeft_7 : decode cX10_updatesLeft 7 = .ok (.getfield 202, 3) := by decide +kernel
theorem dX10_updatesLeft_10 : decode cX10_updatesLeft 10 = .ok (.invokevirtual 220, 3) := by decide +kernel
theorem dX10_updatesLeft_13 : decode cX10_updatesLeft 13 = .ok (.ireturn, 1) := by decide +kernel
theorem dX10_updatesLeftByCounting_0 : decode cX10_updatesLeftByCounting 0 = .ok (.aload_n 0, 1) := by decide +kernel
theorem dX10_updatesLeftByCounting_1 : decode cX10_updatesLeftByCounting 1 = .ok (.getfield 12, 3) := by decide +kernel
theorem dX10_updatesLeftByCounting_4 : decode cX10_updatesLeftByCounting 4 = .ok (.getfield 62, 3) := by decide +kernel
theorem dX10_updatesLeftByCounting_7 : decode cX10_updatesLeftByCounting 7 = .ok (.getfield 202, 3) := by decide +kernel
theorem dX10_updatesLeftByCounting_10 : decode cX10_updatesLeftByCounting 10 = .ok (.invokevirtual 223, 3) := by decide +kernel
theorem dX10_updatesLeftByCounting_13 : decode cX10_updatesLeftByCounting 13 = .ok (.ireturn, 1) := by decide +kernel
theorem dX10_updates_0 : decode cX10_updates 0 = .ok (.aload_n 0, 1) := by decide +kernel
theorem dX10_updates_1 : decode cX10_updates 1 = .ok (.getfield 12, 3) := by decide +kernel
theorem dX10_updates_4 : decode cX10_updates 4 = .ok (.getfield 62, 3) := by decide +kernel
theorem dX10_updates_7 : decode cX10_updates 7 = .ok (.getfield 202, 3) := by decide +kernel
theorem dX10_updates_10 : decode cX10_updates 10 = .ok (.getfield 226, 3) := by decide +kernel
theorem dX10_updates_13 : decode cX10_updates 13 = .ok (.ireturn, 1) := by decide +kernel
theorem dX10_alarms_0 : decode cX10_alarms 0 = .ok (.aload_n 0, 1) := by decide +kernel
theorem dX10_alarms_1 : decode cX10_alarms 1 = .ok (.getfield 12, 3) := by decide +kernel
theorem dX10_alarms_4 : decode cX10_alarms 4 = .ok (.getfield 62, 3) := by decide +kernel
theorem dX10_alarms_7 : decode cX10_alarms 7 = .ok (.getfield 202, 3) := by decide +kernel
theorem dX10_alarms_10 : decode cX10_alarms 10 = .ok (.getfield 229, 3) := by decide +kernel
theorem dX10_alarms_13 : decode cX10_alarms 13 = .ok (.ireturn, 1) := by decide +kernel
theorem dX10_reached_0 : decode cX10_reached 0 = .ok (.aload_n 0, 1) := by decide +kernel
theorem dX10_reached_1 : decode cX10_reached 1 = .ok (.getfield 12, 3) := by decide +kernel
theorem dX10_reached_4 : decode cX10_reached 4 = .ok (.getfield 62, 3) := by decide +kernel
theorem dX10_reached_7 : decode cX10_reached 7 = .ok (.getfield 202, 3) := by decide +kernel
theorem dX10_reached_10 : decode cX10_reached 10 = .ok (.getfield 232, 3) := by decide +kernel
theorem dX10_reached_13 : decode cX10_reached 13 = .ok (.ireturn, 1) := by decide +kernel
theorem dX10_isConsistent_0 : decode cX10_isConsistent 0 = .ok (.aload_n 0, 1) := by decide +kernel
theorem dX10_isConsistent_1 : decode cX10_isConsistent 1 = .ok (.getfield 12, 3) := by decide +kernel
theorem dX10_isConsistent_4 : decode cX10_isConsistent 4 = .ok (.getfield 62, 3) := by decide +kernel
theorem dX10_isConsistent_7 : decode cX10_isConsistent 7 = .ok (.astore_n 1, 1) := by decide +kernel
theorem dX10_isConsistent_8 : decode cX10_isConsistent 8 = .ok (.aload_n 0, 1) := by decide +kernel
theorem dX10_isConsistent_9 : decode cX10_isConsistent 9 = .ok (.getfield 12, 3) := by decide +kernel
theorem dX10_isConsistent_12 : decode cX10_isConsistent 12 = .ok (.getfield 106, 3) := by decide +kernel
theorem dX10_isConsistent_15 : decode cX10_isConsistent 15 = .ok (.aload_n 1, 1) := by decide +kernel
theorem dX10_isConsistent_16 : decode cX10_isConsistent 16 = .ok (.getfield 65, 3) := by decide +kernel
theorem dX10_isConsistent_19 : decode cX10_isConsistent 19 = .ok (.invokevirtual 245, 3) := by decide +kernel
theorem dX10_isConsistent_22 : decode cX10_isConsistent 22 = .ok (.ifCond .eq 75, 3) := by decide +kernel
theorem dX10_isConsistent_25 : decode cX10_isConsistent 25 = .ok (.aload_n 0, 1) := by decide +kernel
theorem dX10_isConsistent_26 : decode cX10_isConsistent 26 = .ok (.getfield 12, 3) := by decide +kernel
theorem dX10_isConsistent_29 : decode cX10_isConsistent 29 = .ok (.getfield 106, 3) := by decide +kernel
theorem dX10_isConsistent_32 : decode cX10_isConsistent 32 = .ok (.aload_n 1, 1) := by decide +kernel
theorem dX10_isConsistent_33 : decode cX10_isConsistent 33 = .ok (.getfield 65, 3) := by decide +kernel
theorem dX10_isConsistent_36 : decode cX10_isConsistent 36 = .ok (.invokevirtual 128, 3) := by decide +kernel
theorem dX10_isConsistent_39 : decode cX10_isConsistent 39 = .ok (.aload_n 0, 1) := by decide +kernel
theorem dX10_isConsistent_40 : decode cX10_isConsistent 40 = .ok (.getfield 12, 3) := by decide +kernel
theorem dX10_isConsistent_43 : decode cX10_isConsistent 43 = .ok (.getfield 106, 3) := by decide +kernel
theorem dX10_isConsistent_46 : decode cX10_isConsistent 46 = .ok (.aload_n 1, 1) := by decide +kernel
theorem dX10_isConsistent_47 : decode cX10_isConsistent 47 = .ok (.getfield 65, 3) := by decide +kernel
theorem dX10_isConsistent_50 : decode cX10_isConsistent 50 = .ok (.invokevirtual 132, 3) := by decide +kernel
theorem dX10_isConsistent_53 : decode cX10_isConsistent 53 = .ok (.if_icmp .ne 44, 3) := by decide +kernel
theorem dX10_isConsistent_56 : decode cX10_isConsistent 56 = .ok (.aload_n 1, 1) := by decide +kernel
theorem dX10_isConsistent_57 : decode cX10_isConsistent 57 = .ok (.getfield 202, 3) := by decide +kernel
theorem dX10_isConsistent_60 : decode cX10_isConsistent 60 = .ok (.invokevirtual 220, 3) := by decide +kernel
theorem dX10_isConsistent_63 : decode cX10_isConsistent 63 = .ok (.aload_n 1, 1) := by decide +kernel
theorem dX10_isConsistent_64 : decode cX10_isConsistent 64 = .ok (.getfield 202, 3) := by decide +kernel
theorem dX10_isConsistent_67 : decode cX10_isConsistent 67 = .ok (.invokevirtual 223, 3) := by decide +kernel
theorem dX10_isConsistent_70 : decode cX10_isConsistent 70 = .ok (.if_icmp .ne 27, 3) := by decide +kernel
theorem dX10_isConsistent_73 : decode cX10_isConsistent 73 = .ok (.aload_n 1, 1) := by decide +kernel
theorem dX10_isConsistent_74 : decode cX10_isConsistent 74 = .ok (.getfield 144, 3) := by decide +kernel
theorem dX10_isConsistent_77 : decode cX10_isConsistent 77 = .ok (.invokevirtual 148, 3) := by decide +kernel
theorem dX10_isConsistent_80 : decode cX10_isConsistent 80 = .ok (.ifCond .ne 13, 3) := by decide +kernel
theorem dX10_isConsistent_83 : decode cX10_isConsistent 83 = .ok (.aload_n 1, 1) := by decide +kernel
theorem dX10_isConsistent_84 : decode cX10_isConsistent 84 = .ok (.getfield 144, 3) := by decide +kernel
theorem dX10_isConsistent_87 : decode cX10_isConsistent 87 = .ok (.getfield 196, 3) := by decide +kernel
theorem dX10_isConsistent_90 : decode cX10_isConsistent 90 = .ok (.ifCond .ne 7, 3) := by decide +kernel
theorem dX10_isConsistent_93 : decode cX10_isConsistent 93 = .ok (.iconst 1, 1) := by decide +kernel
theorem dX10_isConsistent_94 : decode cX10_isConsistent 94 = .ok (.goto 4, 3) := by decide +kernel
theorem dX10_isConsistent_97 : decode cX10_isConsistent 97 = .ok (.iconst 0, 1) := by decide +kernel
theorem dX10_isConsistent_98 : decode cX10_isConsistent 98 = .ok (.ireturn, 1) := by decide +kernel
theorem dX10_writeRoute_0 : decode cX10_writeRoute 0 = .ok (.aload_n 0, 1) := by decide +kernel
theorem dX10_writeRoute_1 : decode cX10_writeRoute 1 = .ok (.getfield 12, 3) := by decide +kernel
theorem dX10_writeRoute_4 : decode cX10_writeRoute 4 = .ok (.getfield 62, 3) := by decide +kernel
theorem dX10_writeRoute_7 : decode cX10_writeRoute 7 = .ok (.getfield 144, 3) := by decide +kernel
theorem dX10_writeRoute_10 : decode cX10_writeRoute 10 = .ok (.astore_n 1, 1) := by decide +kernel
theorem dX10_writeRoute_11 : decode cX10_writeRoute 11 = .ok (.aload_n 0, 1) := by decide +kernel
theorem dX10_writeRoute_12 : decode cX10_writeRoute 12 = .ok (.getfield 43, 3) := by decide +kernel
theorem dX10_writeRoute_15 : decode cX10_writeRoute 15 = .ok (.invokevirtual 249, 3) := by decide +kernel
theorem dX10_writeRoute_18 : decode cX10_writeRoute 18 = .ok (.iconst 0, 1) := by decide +kernel
theorem dX10_writeRoute_19 : decode cX10_writeRoute 19 = .ok (.istore_n 2, 1) := by decide +kernel
theorem dX10_writeRoute_20 : decode cX10_writeRoute 20 = .ok (.iload_n 2, 1) := by decide +kernel
theorem dX10_writeRoute_21 : decode cX10_writeRoute 21 = .ok (.aload_n 1, 1) := by decide +kernel
theorem dX10_writeRoute_22 : decode cX10_writeRoute 22 = .ok (.getfield 157, 3) := by decide +kernel
theorem dX10_writeRoute_25 : decode cX10_writeRoute 25 = .ok (.if_icmp .ge 74, 3) := by decide +kernel
theorem dX10_writeRoute_28 : decode cX10_writeRoute 28 = .ok (.iload_n 2, 1) := by decide +kernel
theorem dX10_writeRoute_29 : decode cX10_writeRoute 29 = .ok (.ifCond .le 12, 3) := by decide +kernel
theorem dX10_writeRoute_32 : decode cX10_writeRoute 32 = .ok (.aload_n 0, 1) := by decide +kernel
theorem dX10_writeRoute_33 : decode cX10_writeRoute 33 = .ok (.getfield 43, 3) := by decide +kernel
theorem dX10_writeRoute_36 : decode cX10_writeRoute 36 = .ok (.bipush 32, 2) := by decide +kernel
theorem dX10_writeRoute_38 : decode cX10_writeRoute 38 = .ok (.invokevirtual 252, 3) := by decide +kernel
theorem dX10_writeRoute_41 : decode cX10_writeRoute 41 = .ok (.iload_n 2, 1) := by decide +kernel
theorem dX10_writeRoute_42 : decode cX10_writeRoute 42 = .ok (.aload_n 1, 1) := by decide +kernel
theorem dX10_writeRoute_43 : decode cX10_writeRoute 43 = .ok (.getfield 256, 3) := by decide +kernel
theorem dX10_writeRoute_46 : decode cX10_writeRoute 46 = .ok (.if_icmp .ne 12, 3) := by decide +kernel
theorem dX10_writeRoute_49 : decode cX10_writeRoute 49 = .ok (.aload_n 0, 1) := by decide +kernel
theorem dX10_writeRoute_50 : decode cX10_writeRoute 50 = .ok (.getfield 43, 3) := by decide +kernel
theorem dX10_writeRoute_53 : decode cX10_writeRoute 53 = .ok (.bipush 42, 2) := by decide +kernel
theorem dX10_writeRoute_55 : decode cX10_writeRoute 55 = .ok (.invokevirtual 252, 3) := by decide +kernel
theorem dX10_writeRoute_58 : decode cX10_writeRoute 58 = .ok (.aload_n 0, 1) := by decide +kernel
theorem dX10_writeRoute_59 : decode cX10_writeRoute 59 = .ok (.getfield 43, 3) := by decide +kernel
theorem dX10_writeRoute_62 : decode cX10_writeRoute 62 = .ok (.aload_n 1, 1) := by decide +kernel
theorem dX10_writeRoute_63 : decode cX10_writeRoute 63 = .ok (.iload_n 2, 1) := by decide +kernel
theorem dX10_writeRoute_64 : decode cX10_writeRoute 64 = .ok (.invokevirtual 161, 3) := by decide +kernel
theorem dX10_writeRoute_67 : decode cX10_writeRoute 67 = .ok (.invokevirtual 259, 3) := by decide +kernel
theorem dX10_writeRoute_70 : decode cX10_writeRoute 70 = .ok (.aload_n 1, 1) := by decide +kernel
theorem dX10_writeRoute_71 : decode cX10_writeRoute 71 = .ok (.iload_n 2, 1) := by decide +kernel
theorem dX10_writeRoute_72 : decode cX10_writeRoute 72 = .ok (.invokevirtual 164, 3) := by decide +kernel
theorem dX10_writeRoute_75 : decode cX10_writeRoute 75 = .ok (.ifCond .eq 18, 3) := by decide +kernel
theorem dX10_writeRoute_78 : decode cX10_writeRoute 78 = .ok (.aload_n 0, 1) := by decide +kernel
theorem dX10_writeRoute_79 : decode cX10_writeRoute 79 = .ok (.getfield 43, 3) := by decide +kernel
theorem dX10_writeRoute_82 : decode cX10_writeRoute 82 = .ok (.aload_n 0, 1) := by decide +kernel
theorem dX10_writeRoute_83 : decode cX10_writeRoute 83 = .ok (.getfield 12, 3) := by decide +kernel
theorem dX10_writeRoute_86 : decode cX10_writeRoute 86 = .ok (.iload_n 2, 1) := by decide +kernel
theorem dX10_writeRoute_87 : decode cX10_writeRoute 87 = .ok (.invokevirtual 170, 3) := by decide +kernel
theorem dX10_writeRoute_90 : decode cX10_writeRoute 90 = .ok (.invokevirtual 252, 3) := by decide +kernel
theorem dX10_writeRoute_93 : decode cX10_writeRoute 93 = .ok (.iinc 2 1, 3) := by decide +kernel
theorem dX10_writeRoute_96 : decode cX10_writeRoute 96 = .ok (.goto (-76), 3) := by decide +kernel
theorem dX10_writeRoute_99 : decode cX10_writeRoute 99 = .ok (.aload_n 0, 1) := by decide +kernel
theorem dX10_writeRoute_100 : decode cX10_writeRoute 100 = .ok (.getfield 43, 3) := by decide +kernel
theorem dX10_writeRoute_103 : decode cX10_writeRoute 103 = .ok (.getfield 262, 3) := by decide +kernel
theorem dX10_writeRoute_106 : decode cX10_writeRoute 106 = .ok (.ireturn, 1) := by decide +kernel
theorem dX10_writeTrails_0 : decode cX10_writeTrails 0 = .ok (.aload_n 0, 1) := by decide +kernel
theorem dX10_writeTrails_1 : decode cX10_writeTrails 1 = .ok (.iload_n 1, 1) := by decide +kernel
theorem dX10_writeTrails_2 : decode cX10_writeTrails 2 = .ok (.invokevirtual 74, 3) := by decide +kernel
theorem dX10_writeTrails_5 : decode cX10_writeTrails 5 = .ok (.aload_n 0, 1) := by decide +kernel
theorem dX10_writeTrails_6 : decode cX10_writeTrails 6 = .ok (.getfield 12, 3) := by decide +kernel
theorem dX10_writeTrails_9 : decode cX10_writeTrails 9 = .ok (.getfield 62, 3) := by decide +kernel
theorem dX10_writeTrails_12 : decode cX10_writeTrails 12 = .ok (.getfield 65, 3) := by decide +kernel
theorem dX10_writeTrails_15 : decode cX10_writeTrails 15 = .ok (.astore_n 2, 1) := by decide +kernel
theorem dX10_writeTrails_16 : decode cX10_writeTrails 16 = .ok (.aload_n 0, 1) := by decide +kernel
theorem dX10_writeTrails_17 : decode cX10_writeTrails 17 = .ok (.getfield 43, 3) := by decide +kernel
theorem dX10_writeTrails_20 : decode cX10_writeTrails 20 = .ok (.invokevirtual 249, 3) := by decide +kernel
theorem dX10_writeTrails_23 : decode cX10_writeTrails 23 = .ok (.iconst 0, 1) := by decide +kernel
theorem dX10_writeTrails_24 : decode cX10_writeTrails 24 = .ok (.istore_n 3, 1) := by decide +kernel
theorem dX10_writeTrails_25 : decode cX10_writeTrails 25 = .ok (.iload_n 3, 1) := by decide +kernel
theorem dX10_writeTrails_26 : decode cX10_writeTrails 26 = .ok (.aload_n 2, 1) := by decide +kernel
theorem dX10_writeTrails_27 : decode cX10_writeTrails 27 = .ok (.getfield 69, 3) := by decide +kernel
theorem dX10_writeTrails_30 : decode cX10_writeTrails 30 = .ok (.if_icmp .ge 57, 3) := by decide +kernel
theorem dX10_writeTrails_33 : decode cX10_writeTrails 33 = .ok (.aload_n 2, 1) := by decide +kernel
theorem dX10_writeTrails_34 : decode cX10_writeTrails 34 = .ok (.iload_n 1, 1) := by decide +kernel
theorem dX10_writeTrails_35 : decode cX10_writeTrails 35 = .ok (.iload_n 3, 1) := by decide +kernel
theorem dX10_writeTrails_36 : decode cX10_writeTrails 36 = .ok (.invokevirtual 91, 3) := by decide +kernel
theorem dX10_writeTrails_39 : decode cX10_writeTrails 39 = .ok (.ifCond .eq 42, 3) := by decide +kernel
theorem dX10_writeTrails_42 : decode cX10_writeTrails 42 = .ok (.aload_n 0, 1) := by decide +kernel
theorem dX10_writeTrails_43 : decode cX10_writeTrails 43 = .ok (.getfield 43, 3) := by decide +kernel
theorem dX10_writeTrails_46 : decode cX10_writeTrails 46 = .ok (.bipush 45, 2) := by decide +kernel
theorem dX10_writeTrails_48 : decode cX10_writeTrails 48 = .ok (.invokevirtual 252, 3) := by decide +kernel
theorem dX10_writeTrails_51 : decode cX10_writeTrails 51 = .ok (.aload_n 0, 1) := by decide +kernel
theorem dX10_writeTrails_52 : decode cX10_writeTrails 52 = .ok (.getfield 43, 3) := by decide +kernel
theorem dX10_writeTrails_55 : decode cX10_writeTrails 55 = .ok (.iload_n 3, 1) := by decide +kernel
theorem dX10_writeTrails_56 : decode cX10_writeTrails 56 = .ok (.invokevirtual 259, 3) := by decide +kernel
theorem dX10_writeTrails_59 : decode cX10_writeTrails 59 = .ok (.aload_n 0, 1) := by decide +kernel
theorem dX10_writeTrails_60 : decode cX10_writeTrails 60 = .ok (.getfield 43, 3) := by decide +kernel
theorem dX10_writeTrails_63 : decode cX10_writeTrails 63 = .ok (.bipush 61, 2) := by decide +kernel
theorem dX10_writeTrails_65 : decode cX10_writeTrails 65 = .ok (.invokevirtual 252, 3) := by decide +kernel
theorem dX10_writeTrails_68 : decode cX10_writeTrails 68 = .ok (.aload_n 0, 1) := by decide +kernel
theorem dX10_writeTrails_69 : decode cX10_writeTrails 69 = .ok (.getfield 43, 3) := by decide +kernel
theorem dX10_writeTrails_72 : decode cX10_writeTrails 72 = .ok (.aload_n 2, 1) := by decide +kernel
theorem dX10_writeTrails_73 : decode cX10_writeTrails 73 = .ok (.iload_n 1, 1) := by decide +kernel
theorem dX10_writeTrails_74 : decode cX10_writeTrails 74 = .ok (.iload_n 3, 1) := by decide +kernel
theorem dX10_writeTrails_75 : decode cX10_writeTrails 75 = .ok (.invokevirtual 102, 3) := by decide +kernel
theorem dX10_writeTrails_78 : decode cX10_writeTrails 78 = .ok (.invokevirtual 259, 3) := by decide +kernel
theorem dX10_writeTrails_81 : decode cX10_writeTrails 81 = .ok (.iinc 3 1, 3) := by decide +kernel
theorem dX10_writeTrails_84 : decode cX10_writeTrails 84 = .ok (.goto (-59), 3) := by decide +kernel
theorem dX10_writeTrails_87 : decode cX10_writeTrails 87 = .ok (.aload_n 0, 1) := by decide +kernel
theorem dX10_writeTrails_88 : decode cX10_writeTrails 88 = .ok (.getfield 43, 3) := by decide +kernel
theorem dX10_writeTrails_91 : decode cX10_writeTrails 91 = .ok (.getfield 262, 3) := by decide +kernel
theorem dX10_writeTrails_94 : decode cX10_writeTrails 94 = .ok (.ireturn, 1) := by decide +kernel
theorem dX10_type_0 : decode cX10_type 0 = .ok (.aload_n 0, 1) := by decide +kernel
theorem dX10_type_1 : decode cX10_type 1 = .ok (.getfield 36, 3) := by decide +kernel
theorem dX10_type_4 : decode cX10_type 4 = .ok (.invokevirtual 273, 3) := by decide +kernel
theorem dX10_type_7 : decode cX10_type 7 = .ok (.ifCond .eq 14, 3) := by decide +kernel
theorem dX10_type_10 : decode cX10_type 10 = .ok (.new 276, 3) := by decide +kernel
theorem dX10_type_13 : decode cX10_type 13 = .ok (.dup, 1) := by decide +kernel
theorem dX10_type_14 : decode cX10_type 14 = .ok (.ldc_w 278, 3) := by decide +kernel
theorem dX10_type_17 : decode cX10_type 17 = .ok (.invokespecial 280, 3) := by decide +kernel
theorem dX10_type_20 : decode cX10_type 20 = .ok (.athrow, 1) := by decide +kernel
theorem dX10_type_21 : decode cX10_type 21 = .ok (.aload_n 0, 1) := by decide +kernel
theorem dX10_type_22 : decode cX10_type 22 = .ok (.getfield 36, 3) := by decide +kernel
theorem dX10_type_25 : decode cX10_type 25 = .ok (.iload_n 1, 1) := by decide +kernel
theorem dX10_type_26 : decode cX10_type 26 = .ok (.invokevirtual 281, 3) := by decide +kernel
theorem dX10_type_29 : decode cX10_type 29 = .ok (.ireturn, 1) := by decide +kernel
theorem dX10_run_0 : decode cX10_run 0 = .ok (.aload_n 0, 1) := by decide +kernel
theorem dX10_run_1 : decode cX10_run 1 = .ok (.getfield 36, 3) := by decide +kernel
theorem dX10_run_4 : decode cX10_run 4 = .ok (.invokevirtual 285, 3) := by decide +kernel
theorem dX10_run_7 : decode cX10_run 7 = .ok (.istore_n 1, 1) := by decide +kernel
theorem dX10_run_8 : decode cX10_run 8 = .ok (.aload_n 0, 1) := by decide +kernel
theorem dX10_run_9 : decode cX10_run 9 = .ok (.getfield 36, 3) := by decide +kernel
theorem dX10_run_12 : decode cX10_run 12 = .ok (.invokevirtual 288, 3) := by decide +kernel
theorem dX10_run_15 : decode cX10_run 15 = .ok (.iload_n 1, 1) := by decide +kernel
theorem dX10_run_16 : decode cX10_run 16 = .ok (.ifCond .ne 25, 3) := by decide +kernel
theorem dX10_run_19 : decode cX10_run 19 = .ok (.aload_n 0, 1) := by decide +kernel
theorem dX10_run_20 : decode cX10_run 20 = .ok (.aload_n 0, 1) := by decide +kernel
theorem dX10_run_21 : decode cX10_run 21 = .ok (.getfield 36, 3) := by decide +kernel
theorem dX10_run_24 : decode cX10_run 24 = .ok (.getfield 291, 3) := by decide +kernel
theorem dX10_run_27 : decode cX10_run 27 = .ok (.putfield 51, 3) := by decide +kernel
theorem dX10_run_30 : decode cX10_run 30 = .ok (.new 294, 3) := by decide +kernel
theorem dX10_run_33 : decode cX10_run 33 = .ok (.dup, 1) := by decide +kernel
theorem dX10_run_34 : decode cX10_run 34 = .ok (.ldc_w 296, 3) := by decide +kernel
theorem dX10_run_37 : decode cX10_run 37 = .ok (.invokespecial 298, 3) := by decide +kernel
theorem dX10_run_40 : decode cX10_run 40 = .ok (.athrow, 1) := by decide +kernel
theorem dX10_run_41 : decode cX10_run 41 = .ok (.aload_n 0, 1) := by decide +kernel
theorem dX10_run_42 : decode cX10_run 42 = .ok (.getfield 30, 3) := by decide +kernel
theorem dX10_run_45 : decode cX10_run 45 = .ok (.aload_n 0, 1) := by decide +kernel
theorem dX10_run_46 : decode cX10_run 46 = .ok (.getfield 12, 3) := by decide +kernel
theorem dX10_run_49 : decode cX10_run 49 = .ok (.getfield 62, 3) := by decide +kernel
theorem dX10_run_52 : decode cX10_run 52 = .ok (.invokevirtual 299, 3) := by decide +kernel
theorem dX10_run_55 : decode cX10_run 55 = .ok (.aload_n 0, 1) := by decide +kernel
theorem dX10_run_56 : decode cX10_run 56 = .ok (.invokevirtual 303, 3) := by decide +kernel
theorem dX10_run_59 : decode cX10_run 59 = .ok (.istore_n 2, 1) := by decide +kernel
theorem dX10_run_60 : decode cX10_run 60 = .ok (.iload_n 2, 1) := by decide +kernel
theorem dX10_run_61 : decode cX10_run 61 = .ok (.iconst (-1), 1) := by decide +kernel
theorem dX10_run_62 : decode cX10_run 62 = .ok (.if_icmp .eq 33, 3) := by decide +kernel
theorem dX10_run_65 : decode cX10_run 65 = .ok (.aload_n 0, 1) := by decide +kernel
theorem dX10_run_66 : decode cX10_run 66 = .ok (.getfield 12, 3) := by decide +kernel
theorem dX10_run_69 : decode cX10_run 69 = .ok (.getfield 62, 3) := by decide +kernel
theorem dX10_run_72 : decode cX10_run 72 = .ok (.aload_n 0, 1) := by decide +kernel
theorem dX10_run_73 : decode cX10_run 73 = .ok (.getfield 30, 3) := by decide +kernel
theorem dX10_run_76 : decode cX10_run 76 = .ok (.invokevirtual 299, 3) := by decide +kernel
theorem dX10_run_79 : decode cX10_run 79 = .ok (.aload_n 0, 1) := by decide +kernel
theorem dX10_run_80 : decode cX10_run 80 = .ok (.iload_n 2, 1) := by decide +kernel
theorem dX10_run_81 : decode cX10_run 81 = .ok (.putfield 55, 3) := by decide +kernel
theorem dX10_run_84 : decode cX10_run 84 = .ok (.new 306, 3) := by decide +kernel
theorem dX10_run_87 : decode cX10_run 87 = .ok (.dup, 1) := by decide +kernel
theorem dX10_run_88 : decode cX10_run 88 = .ok (.ldc_w 308, 3) := by decide +kernel
theorem dX10_run_91 : decode cX10_run 91 = .ok (.invokespecial 310, 3) := by decide +kernel
theorem dX10_run_94 : decode cX10_run 94 = .ok (.athrow, 1) := by decide +kernel
theorem dX10_run_95 : decode cX10_run 95 = .ok (.aload_n 0, 1) := by decide +kernel
theorem dX10_run_96 : decode cX10_run 96 = .ok (.getfield 19, 3) := by decide +kernel
theorem dX10_run_99 : decode cX10_run 99 = .ok (.aload_n 0, 1) := by decide +kernel
theorem dX10_run_100 : decode cX10_run 100 = .ok (.getfield 30, 3) := by decide +kernel
theorem dX10_run_103 : decode cX10_run 103 = .ok (.invokevirtual 311, 3) := by decide +kernel
theorem dX10_run_106 : decode cX10_run 106 = .ok (.aload_n 0, 1) := by decide +kernel
theorem dX10_run_107 : decode cX10_run 107 = .ok (.getfield 36, 3) := by decide +kernel
theorem dX10_run_110 : decode cX10_run 110 = .ok (.getfield 314, 3) := by decide +kernel
theorem dX10_run_113 : decode cX10_run 113 = .ok (.ireturn, 1) := by decide +kernel
theorem dX10_undo_0 : decode cX10_undo 0 = .ok (.aload_n 0, 1) := by decide +kernel
theorem dX10_undo_1 : decode cX10_undo 1 = .ok (.getfield 19, 3) := by decide +kernel
theorem dX10_undo_4 : decode cX10_undo 4 = .ok (.getfield 319, 3) := by decide +kernel
theorem dX10_undo_7 : decode cX10_undo 7 = .ok (.ifCond .ne 14, 3) := by decide +kernel
theorem dX10_undo_10 : decode cX10_undo 10 = .ok (.new 276, 3) := by decide +kernel
theorem dX10_undo_13 : decode cX10_undo 13 = .ok (.dup, 1) := by decide +kernel
theorem dX10_undo_14 : decode cX10_undo 14 = .ok (.ldc_w 320, 3) := by decide +kernel
theorem dX10_undo_17 : decode cX10_undo 17 = .ok (.invokespecial 280, 3) := by decide +kernel
theorem dX10_undo_20 : decode cX10_undo 20 = .ok (.athrow, 1) := by decide +kernel
theorem dX10_undo_21 : decode cX10_undo 21 = .ok (.aload_n 0, 1) := by decide +kernel
theorem dX10_undo_22 : decode cX10_undo 22 = .ok (.getfield 19, 3) := by decide +kernel
theorem dX10_undo_25 : decode cX10_undo 25 = .ok (.aload_n 0, 1) := by decide +kernel
theorem dX10_undo_26 : decode cX10_undo 26 = .ok (.getfield 12, 3) := by decide +kernel
theorem dX10_undo_29 : decode cX10_undo 29 = .ok (.getfield 62, 3) := by decide +kernel
theorem dX10_undo_32 : decode cX10_undo 32 = .ok (.invokevirtual 322, 3) := by decide +kernel
theorem dX10_undo_35 : decode cX10_undo 35 = .ok (.aload_n 0, 1) := by decide +kernel
theorem dX10_undo_36 : decode cX10_undo 36 = .ok (.getfield 19, 3) := by decide +kernel
theorem dX10_undo_39 : decode cX10_undo 39 = .ok (.getfield 319, 3) := by decide +kernel
theorem dX10_undo_42 : decode cX10_undo 42 = .ok (.ireturn, 1) := by decide +kernel
theorem dX10_save_0 : decode cX10_save 0 = .ok (.aload_n 0, 1) := by decide +kernel
theorem dX10_save_1 : decode cX10_save 1 = .ok (.getfield 26, 3) := by decide +kernel
theorem dX10_save_4 : decode cX10_save 4 = .ok (.aload_n 0, 1) := by decide +kernel
theorem dX10_save_5 : decode cX10_save 5 = .ok (.getfield 12, 3) := by decide +kernel
theorem dX10_save_8 : decode cX10_save 8 = .ok (.getfield 62, 3) := by decide +kernel
theorem dX10_save_11 : decode cX10_save 11 = .ok (.invokevirtual 299, 3) := by decide +kernel
theorem dX10_save_14 : decode cX10_save 14 = .ok (.aload_n 0, 1) := by decide +kernel
theorem dX10_save_15 : decode cX10_save 15 = .ok (.iconst 1, 1) := by decide +kernel
theorem dX10_save_16 : decode cX10_save 16 = .ok (.putfield 47, 3) := by decide +kernel
theorem dX10_save_19 : decode cX10_save 19 = .ok (.aload_n 0, 1) := by decide +kernel
theorem dX10_save_20 : decode cX10_save 20 = .ok (.getfield 26, 3) := by decide +kernel
theorem dX10_save_23 : decode cX10_save 23 = .ok (.getfield 65, 3) := by decide +kernel
theorem dX10_save_26 : decode cX10_save 26 = .ok (.getfield 69, 3) := by decide +kernel
theorem dX10_save_29 : decode cX10_save 29 = .ok (.ireturn, 1) := by decide +kernel
theorem dX10_restore_0 : decode cX10_restore 0 = .ok (.aload_n 0, 1) := by decide +kernel
theorem dX10_restore_1 : decode cX10_restore 1 = .ok (.getfield 47, 3) := by decide +kernel
theorem dX10_restore_4 : decode cX10_restore 4 = .ok (.ifCond .ne 14, 3) := by decide +kernel
theorem dX10_restore_7 : decode cX10_restore 7 = .ok (.new 276, 3) := by decide +kernel
theorem dX10_restore_10 : decode cX10_restore 10 = .ok (.dup, 1) := by decide +kernel
theorem dX10_restore_11 : decode cX10_restore 11 = .ok (.ldc_w 325, 3) := by decide +kernel
theorem dX10_restore_14 : decode cX10_restore 14 = .ok (.invokespecial 280, 3) := by decide +kernel
theorem dX10_restore_17 : decode cX10_restore 17 = .ok (.athrow, 1) := by decide +kernel
theorem dX10_restore_18 : decode cX10_restore 18 = .ok (.aload_n 0, 1) := by decide +kernel
theorem dX10_restore_19 : decode cX10_restore 19 = .ok (.getfield 12, 3) := by decide +kernel
theorem dX10_restore_22 : decode cX10_restore 22 = .ok (.getfield 62, 3) := by decide +kernel
theorem dX10_restore_25 : decode cX10_restore 25 = .ok (.aload_n 0, 1) := by decide +kernel
theorem dX10_restore_26 : decode cX10_restore 26 = .ok (.getfield 26, 3) := by decide +kernel
theorem dX10_restore_29 : decode cX10_restore 29 = .ok (.invokevirtual 299, 3) := by decide +kernel
theorem dX10_restore_32 : decode cX10_restore 32 = .ok (.aload_n 0, 1) := by decide +kernel
theorem dX10_restore_33 : decode cX10_restore 33 = .ok (.getfield 19, 3) := by decide +kernel
theorem dX10_restore_36 : decode cX10_restore 36 = .ok (.invokevirtual 327, 3) := by decide +kernel
theorem dX10_restore_39 : decode cX10_restore 39 = .ok (.aload_n 0, 1) := by decide +kernel
theorem dX10_restore_40 : decode cX10_restore 40 = .ok (.getfield 12, 3) := by decide +kernel
theorem dX10_restore_43 : decode cX10_restore 43 = .ok (.getfield 62, 3) := by decide +kernel
theorem dX10_restore_46 : decode cX10_restore 46 = .ok (.getfield 65, 3) := by decide +kernel
theorem dX10_restore_49 : decode cX10_restore 49 = .ok (.getfield 69, 3) := by decide +kernel
theorem dX10_restore_52 : decode cX10_restore 52 = .ok (.ireturn, 1) := by decide +kernel
theorem dX10_change_0 : decode cX10_change 0 = .ok (.aload_n 0, 1) := by decide +kernel
theorem dX10_change_1 : decode cX10_change 1 = .ok (.getfield 12, 3) := by decide +kernel
theorem dX10_change_4 : decode cX10_change 4 = .ok (.iload_n 1, 1) := by decide +kernel
theorem dX10_change_5 : decode cX10_change 5 = .ok (.iload_n 2, 1) := by decide +kernel
theorem dX10_change_6 : decode cX10_change 6 = .ok (.iload_n 3, 1) := by decide +kernel
theorem dX10_change_7 : decode cX10_change 7 = .ok (.iload 4, 2) := by decide +kernel
theorem dX10_change_9 : decode cX10_change 9 = .ok (.invokevirtual 330, 3) := by decide +kernel
theorem dX10_change_12 : decode cX10_change 12 = .ok (.invokestatic 333, 3) := by decide +kernel
theorem dX10_change_15 : decode cX10_change 15 = .ok (.aload_n 0, 1) := by decide +kernel
theorem dX10_change_16 : decode cX10_change 16 = .ok (.getfield 19, 3) := by decide +kernel
theorem dX10_change_19 : decode cX10_change 19 = .ok (.aload_n 0, 1) := by decide +kernel
theorem dX10_change_20 : decode cX10_change 20 = .ok (.getfield 12, 3) := by decide +kernel
theorem dX10_change_23 : decode cX10_change 23 = .ok (.getfield 62, 3) := by decide +kernel
theorem dX10_change_26 : decode cX10_change 26 = .ok (.invokevirtual 311, 3) := by decide +kernel
theorem dX10_change_29 : decode cX10_change 29 = .ok (.aload_n 0, 1) := by decide +kernel
theorem dX10_change_30 : decode cX10_change 30 = .ok (.getfield 12, 3) := by decide +kernel
theorem dX10_change_33 : decode cX10_change 33 = .ok (.iload_n 1, 1) := by decide +kernel
theorem dX10_change_34 : decode cX10_change 34 = .ok (.iload_n 2, 1) := by decide +kernel
theorem dX10_change_35 : decode cX10_change 35 = .ok (.iload_n 3, 1) := by decide +kernel
theorem dX10_change_36 : decode cX10_change 36 = .ok (.iload 4, 2) := by decide +kernel
theorem dX10_change_38 : decode cX10_change 38 = .ok (.invokevirtual 336, 3) := by decide +kernel
theorem dX10_change_41 : decode cX10_change 41 = .ok (.ireturn, 1) := by decide +kernel
theorem dX10_firstFailure_0 : decode cX10_firstFailure 0 = .ok (.iconst 0, 1) := by decide +kernel
theorem dX10_firstFailure_1 : decode cX10_firstFailure 1 = .ok (.istore_n 1, 1) := by decide +kernel
theorem dX10_firstFailure_2 : decode cX10_firstFailure 2 = .ok (.iload_n 1, 1) := by decide +kernel
theorem dX10_firstFailure_3 : decode cX10_firstFailure 3 = .ok (.aload_n 0, 1) := by decide +kernel
theorem dX10_firstFailure_4 : decode cX10_firstFailure 4 = .ok (.getfield 36, 3) := by decide +kernel
theorem dX10_firstFailure_7 : decode cX10_firstFailure 7 = .ok (.getfield 314, 3) := by decide +kernel
theorem dX10_firstFailure_10 : decode cX10_firstFailure 10 = .ok (.if_icmp .ge 82, 3) := by decide +kernel
theorem dX10_firstFailure_13 : decode cX10_firstFailure 13 = .ok (.aload_n 0, 1) := by decide +kernel
theorem dX10_firstFailure_14 : decode cX10_firstFailure 14 = .ok (.getfield 36, 3) := by decide +kernel
theorem dX10_firstFailure_17 : decode cX10_firstFailure 17 = .ok (.iload_n 1, 1) := by decide +kernel
theorem dX10_firstFailure_18 : decode cX10_firstFailure 18 = .ok (.invokevirtual 339, 3) := by decide +kernel
theorem dX10_firstFailure_21 : decode cX10_firstFailure 21 = .ok (.istore_n 2, 1) := by decide +kernel
theorem dX10_firstFailure_22 : decode cX10_firstFailure 22 = .ok (.aload_n 0, 1) := by decide +kernel
theorem dX10_firstFailure_23 : decode cX10_firstFailure 23 = .ok (.getfield 36, 3) := by decide +kernel
theorem dX10_firstFailure_26 : decode cX10_firstFailure 26 = .ok (.iload_n 1, 1) := by decide +kernel
theorem dX10_firstFailure_27 : decode cX10_firstFailure 27 = .ok (.iconst 0, 1) := by decide +kernel
theorem dX10_firstFailure_28 : decode cX10_firstFailure 28 = .ok (.invokevirtual 342, 3) := by decide +kernel
theorem dX10_firstFailure_31 : decode cX10_firstFailure 31 = .ok (.istore_n 3, 1) := by decide +kernel
theorem dX10_firstFailure_32 : decode cX10_firstFailure 32 = .ok (.aload_n 0, 1) := by decide +kernel
theorem dX10_firstFailure_33 : decode cX10_firstFailure 33 = .ok (.getfield 36, 3) := by decide +kernel
theorem dX10_firstFailure_36 : decode cX10_firstFailure 36 = .ok (.iload_n 1, 1) := by decide +kernel
theorem dX10_firstFailure_37 : decode cX10_firstFailure 37 = .ok (.iconst 1, 1) := by decide +kernel
theorem dX10_firstFailure_38 : decode cX10_firstFailure 38 = .ok (.invokevirtual 342, 3) := by decide +kernel
theorem dX10_firstFailure_41 : decode cX10_firstFailure 41 = .ok (.istore 4, 2) := by decide +kernel
theorem dX10_firstFailure_43 : decode cX10_firstFailure 43 = .ok (.aload_n 0, 1) := by decide +kernel
theorem dX10_firstFailure_44 : decode cX10_firstFailure 44 = .ok (.getfield 36, 3) := by decide +kernel
theorem dX10_firstFailure_47 : decode cX10_firstFailure 47 = .ok (.iload_n 1, 1) := by decide +kernel
theorem dX10_firstFailure_48 : decode cX10_firstFailure 48 = .ok (.iconst 2, 1) := by decide +kernel
theorem dX10_firstFailure_49 : decode cX10_firstFailure 49 = .ok (.invokevirtual 342, 3) := by decide +kernel
theorem dX10_firstFailure_52 : decode cX10_firstFailure 52 = .ok (.istore 5, 2) := by decide +kernel
theorem dX10_firstFailure_54 : decode cX10_firstFailure 54 = .ok (.aload_n 0, 1) := by decide +kernel
theorem dX10_firstFailure_55 : decode cX10_firstFailure 55 = .ok (.getfield 12, 3) := by decide +kernel
theorem dX10_firstFailure_58 : decode cX10_firstFailure 58 = .ok (.iload_n 2, 1) := by decide +kernel
theorem dX10_firstFailure_59 : decode cX10_firstFailure 59 = .ok (.iload_n 3, 1) := by decide +kernel
theorem dX10_firstFailure_60 : decode cX10_firstFailure 60 = .ok (.iload 4, 2) := by decide +kernel
theorem dX10_firstFailure_62 : decode cX10_firstFailure 62 = .ok (.iload 5, 2) := by decide +kernel
theorem dX10_firstFailure_64 : decode cX10_firstFailure 64 = .ok (.invokevirtual 330, 3) := by decide +kernel
theorem dX10_firstFailure_67 : decode cX10_firstFailure 67 = .ok (.ifCond .eq 5, 3) := by decide +kernel
theorem dX10_firstFailure_70 : decode cX10_firstFailure 70 = .ok (.iload_n 1, 1) := by decide +kernel
theorem dX10_firstFailure_71 : decode cX10_firstFailure 71 = .ok (.ireturn, 1) := by decide +kernel
theorem dX10_firstFailure_72 : decode cX10_firstFailure 72 = .ok (.aload_n 0, 1) := by decide +kernel
theorem dX10_firstFailure_73 : decode cX10_firstFailure 73 = .ok (.getfield 12, 3) := by decide +kernel
theorem dX10_firstFailure_76 : decode cX10_firstFailure 76 = .ok (.iload_n 2, 1) := by decide +kernel
theorem dX10_firstFailure_77 : decode cX10_firstFailure 77 = .ok (.iload_n 3, 1) := by decide +kernel
theorem dX10_firstFailure_78 : decode cX10_firstFailure 78 = .ok (.iload 4, 2) := by decide +kernel
theorem dX10_firstFailure_80 : decode cX10_firstFailure 80 = .ok (.iload 5, 2) := by decide +kernel
theorem dX10_firstFailure_82 : decode cX10_firstFailure 82 = .ok (.invokevirtual 336, 3) := by decide +kernel
theorem dX10_firstFailure_85 : decode cX10_firstFailure 85 = .ok (.pop, 1) := by decide +kernel
theorem dX10_firstFailure_86 : decode cX10_firstFailure 86 = .ok (.iinc 1 1, 3) := by decide +kernel
theorem dX10_firstFailure_89 : decode cX10_firstFailure 89 = .ok (.goto (-87), 3) := by decide +kernel
theorem dX10_firstFailure_92 : decode cX10_firstFailure 92 = .ok (.iconst (-1), 1) := by decide +kernel
theorem dX10_firstFailure_93 : decode cX10_firstFailure 93 = .ok (.ireturn, 1) := by decide +kernel
theorem dX10_refuse_0 : decode cX10_refuse 0 = .ok (.iload_n 0, 1) := by decide +kernel
theorem dX10_refuse_1 : decode cX10_refuse 1 = .ok (.tableswitch 90 1 5 #[35, 46, 57, 68, 79], 35) := by decide +kernel
theorem dX10_refuse_36 : decode cX10_refuse 36 = .ok (.new 265, 3) := by decide +kernel
theorem dX10_refuse_39 : decode cX10_refuse 39 = .ok (.dup, 1) := by decide +kernel
theorem dX10_refuse_40 : decode cX10_refuse 40 = .ok (.ldc_w 345, 3) := by decide +kernel
theorem dX10_refuse_43 : decode cX10_refuse 43 = .ok (.invokespecial 269, 3) := by decide +kernel
theorem dX10_refuse_46 : decode cX10_refuse 46 = .ok (.athrow, 1) := by decide +kernel
theorem dX10_refuse_47 : decode cX10_refuse 47 = .ok (.new 294, 3) := by decide +kernel
theorem dX10_refuse_50 : decode cX10_refuse 50 = .ok (.dup, 1) := by decide +kernel
theorem dX10_refuse_51 : decode cX10_refuse 51 = .ok (.ldc_w 347, 3) := by decide +kernel
theorem dX10_refuse_54 : decode cX10_refuse 54 = .ok (.invokespecial 298, 3) := by decide +kernel
theorem dX10_refuse_57 : decode cX10_refuse 57 = .ok (.athrow, 1) := by decide +kernel
theorem dX10_refuse_58 : decode cX10_refuse 58 = .ok (.new 276, 3) := by decide +kernel
theorem dX10_refuse_61 : decode cX10_refuse 61 = .ok (.dup, 1) := by decide +kernel
theorem dX10_refuse_62 : decode cX10_refuse 62 = .ok (.ldc_w 349, 3) := by decide +kernel
theorem dX10_refuse_65 : decode cX10_refuse 65 = .ok (.invokespecial 280, 3) := by decide +kernel
theorem dX10_refuse_68 : decode cX10_refuse 68 = .ok (.athrow, 1) := by decide +kernel
theorem dX10_refuse_69 : decode cX10_refuse 69 = .ok (.new 95, 3) := by decide +kernel
theorem dX10_refuse_72 : decode cX10_refuse 72 = .ok (.dup, 1) := by decide +kernel
theorem dX10_refuse_73 : decode cX10_refuse 73 = .ok (.ldc_w 351, 3) := by decide +kernel
theorem dX10_refuse_76 : decode cX10_refuse 76 = .ok (.invokespecial 99, 3) := by decide +kernel
theorem dX10_refuse_79 : decode cX10_refuse 79 = .ok (.athrow, 1) := by decide +kernel
theorem dX10_refuse_80 : decode cX10_refuse 80 = .ok (.new 306, 3) := by decide +kernel
theorem dX10_refuse_83 : decode cX10_refuse 83 = .ok (.dup, 1) := by decide +kernel
theorem dX10_refuse_84 : decode cX10_refuse 84 = .ok (.ldc_w 353, 3) := by decide +kernel
theorem dX10_refuse_87 : decode cX10_refuse 87 = .ok (.invokespecial 310, 3) := by decide +kernel
theorem dX10_refuse_90 : decode cX10_refuse 90 = .ok (.athrow, 1) := by decide +kernel
theorem dX10_refuse_91 : decode cX10_refuse 91 = .ok (.return_, 1) := by decide +kernel
theorem dX10_requireWaypoint_0 : decode cX10_requireWaypoint 0 = .ok (.aload_n 0, 1) := by decide +kernel
theorem dX10_requireWaypoint_1 : decode cX10_requireWaypoint 1 = .ok (.getfield 12, 3) := by decide +kernel
theorem dX10_requireWaypoint_4 : decode cX10_requireWaypoint 4 = .ok (.getfield 62, 3) := by decide +kernel
theorem dX10_requireWaypoint_7 : decode cX10_requireWaypoint 7 = .ok (.getfield 65, 3) := by decide +kernel
theorem dX10_requireWaypoint_10 : decode cX10_requireWaypoint 10 = .ok (.iload_n 1, 1) := by decide +kernel
theorem dX10_requireWaypoint_11 : decode cX10_requireWaypoint 11 = .ok (.invokevirtual 355, 3) := by decide +kernel
theorem dX10_requireWaypoint_14 : decode cX10_requireWaypoint 14 = .ok (.ifCond .ne 14, 3) := by decide +kernel
theorem dX10_requireWaypoint_17 : decode cX10_requireWaypoint 17 = .ok (.new 265, 3) := by decide +kernel
theorem dX10_requireWaypoint_20 : decode cX10_requireWaypoint 20 = .ok (.dup, 1) := by decide +kernel
theorem dX10_requireWaypoint_21 : decode cX10_requireWaypoint 21 = .ok (.ldc_w 345, 3) := by decide +kernel
theorem dX10_requireWaypoint_24 : decode cX10_requireWaypoint 24 = .ok (.invokespecial 269, 3) := by decide +kernel
theorem dX10_requireWaypoint_27 : decode cX10_requireWaypoint 27 = .ok (.athrow, 1) := by decide +kernel
theorem dX10_requireWaypoint_28 : decode cX10_requireWaypoint 28 = .ok (.return_, 1) := by decide +kernel
theorem dX10_requirePath_0 : decode cX10_requirePath 0 = .ok (.iload_n 0, 1) := by decide +kernel
theorem dX10_requirePath_1 : decode cX10_requirePath 1 = .ok (.ldc_w 358, 3) := by decide +kernel
theorem dX10_requirePath_4 : decode cX10_requirePath 4 = .ok (.if_icmp .lt 14, 3) := by decide +kernel
theorem dX10_requirePath_7 : decode cX10_requirePath 7 = .ok (.new 95, 3) := by decide +kernel
theorem dX10_requirePath_10 : decode cX10_requirePath 10 = .ok (.dup, 1) := by decide +kernel
theorem dX10_requirePath_11 : decode cX10_requirePath 11 = .ok (.ldc_w 359, 3) := by decide +kernel
theorem dX10_requirePath_14 : decode cX10_requirePath 14 = .ok (.invokespecial 99, 3) := by decide +kernel
theorem dX10_requirePath_17 : decode cX10_requirePath 17 = .ok (.athrow, 1) := by decide +kernel
theorem dX10_requirePath_18 : decode cX10_requirePath 18 = .ok (.return_, 1) := by decide +kernel
theorem dX10_requireCoordinates_0 : decode cX10_requireCoordinates 0 = .ok (.iload_n 0, 1) := by decide +kernel
theorem dX10_requireCoordinates_1 : decode cX10_requireCoordinates 1 = .ok (.iload_n 1, 1) := by decide +kernel
theorem dX10_requireCoordinates_2 : decode cX10_requireCoordinates 2 = .ok (.invokestatic 361, 3) := by decide +kernel
theorem dX10_requireCoordinates_5 : decode cX10_requireCoordinates 5 = .ok (.ifCond .ne 14, 3) := by decide +kernel
theorem dX10_requireCoordinates_8 : decode cX10_requireCoordinates 8 = .ok (.new 294, 3) := by decide +kernel
theorem dX10_requireCoordinates_11 : decode cX10_requireCoordinates 11 = .ok (.dup, 1) := by decide +kernel
theorem dX10_requireCoordinates_12 : decode cX10_requireCoordinates 12 = .ok (.ldc_w 364, 3) := by decide +kernel
theorem dX10_requireCoordinates_15 : decode cX10_requireCoordinates 15 = .ok (.invokespecial 298, 3) := by decide +kernel
theorem dX10_requireCoordinates_18 : decode cX10_requireCoordinates 18 = .ok (.athrow, 1) := by decide +kernel
theorem dX10_requireCoordinates_19 : decode cX10_requireCoordinates 19 = .ok (.return_, 1) := by decide +kernel
theorem dX10_requireTour_0 : decode cX10_requireTour 0 = .ok (.aload_n 0, 1) := by decide +kernel
theorem dX10_requireTour_1 : decode cX10_requireTour 1 = .ok (.getfield 12, 3) := by decide +kernel
theorem dX10_requireTour_4 : decode cX10_requireTour 4 = .ok (.getfield 62, 3) := by decide +kernel
theorem dX10_requireTour_7 : decode cX10_requireTour 7 = .ok (.getfield 144, 3) := by decide +kernel
theorem dX10_requireTour_10 : decode cX10_requireTour 10 = .ok (.invokevirtual 148, 3) := by decide +kernel
theorem dX10_requireTour_13 : decode cX10_requireTour 13 = .ok (.ifCond .ne 14, 3) := by decide +kernel
theorem dX10_requireTour_16 : decode cX10_requireTour 16 = .ok (.new 276, 3) := by decide +kernel
theorem dX10_requireTour_19 : decode cX10_requireTour 19 = .ok (.dup, 1) := by decide +kernel
theorem dX10_requireTour_20 : decode cX10_requireTour 20 = .ok (.ldc_w 366, 3) := by decide +kernel
theorem dX10_requireTour_23 : decode cX10_requireTour 23 = .ok (.invokespecial 280, 3) := by decide +kernel
theorem dX10_requireTour_26 : decode cX10_requireTour 26 = .ok (.athrow, 1) := by decide +kernel
theorem dX10_requireTour_27 : decode cX10_requireTour 27 = .ok (.return_, 1) := by decide +kernel
theorem dX10_requireRouteIndex_0 : decode cX10_requireRouteIndex 0 = .ok (.aload_n 0, 1) := by decide +kernel
theorem dX10_requireRouteIndex_1 : decode cX10_requireRouteIndex 1 = .ok (.getfield 12, 3) := by decide +kernel
theorem dX10_requireRouteIndex_4 : decode cX10_requireRouteIndex 4 = .ok (.getfield 62, 3) := by decide +kernel
theorem dX10_requireRouteIndex_7 : decode cX10_requireRouteIndex 7 = .ok (.getfield 144, 3) := by decide +kernel
theorem dX10_requireRouteIndex_10 : decode cX10_requireRouteIndex 10 = .ok (.iload_n 1, 1) := by decide +kernel
theorem dX10_requireRouteIndex_11 : decode cX10_requireRouteIndex 11 = .ok (.invokevirtual 368, 3) := by decide +kernel
theorem dX10_requireRouteIndex_14 : decode cX10_requireRouteIndex 14 = .ok (.ifCond .ne 14, 3) := by decide +kernel
theorem dX10_requireRouteIndex_17 : decode cX10_requireRouteIndex 17 = .ok (.new 265, 3) := by decide +kernel
theorem dX10_requireRouteIndex_20 : decode cX10_requireRouteIndex 20 = .ok (.dup, 1) := by decide +kernel
theorem dX10_requireRouteIndex_21 : decode cX10_requireRouteIndex 21 = .ok (.ldc_w 371, 3) := by decide +kernel
theorem dX10_requireRouteIndex_24 : decode cX10_requireRouteIndex 24 = .ok (.invokespecial 269, 3) := by decide +kernel
theorem dX10_requireRouteIndex_27 : decode cX10_requireRouteIndex 27 = .ok (.athrow, 1) := by decide +kernel
theorem dX10_requireRouteIndex_28 : decode cX10_requireRouteIndex 28 = .ok (.return_, 1) := by decide +kernel
theorem dX10_isWithin_0 : decode cX10_isWithin 0 = .ok (.iload_n 0, 1) := by decide +kernel
theorem dX10_isWithin_1 : decode cX10_isWithin 1 = .ok (.iload_n 1, 1) := by decide +kernel
theorem dX10_isWithin_2 : decode cX10_isWithin 2 = .ok (.if_icmp .lt 12, 3) := by decide +kernel
theorem dX10_isWithin_5 : decode cX10_isWithin 5 = .ok (.iload_n 0, 1) := by decide +kernel
theorem dX10_isWithin_6 : decode cX10_isWithin 6 = .ok (.iload_n 2, 1) := by decide +kernel
theorem dX10_isWithin_7 : decode cX10_isWithin 7 = .ok (.if_icmp .gt 7, 3) := by decide +kernel
theorem dX10_isWithin_10 : decode cX10_isWithin 10 = .ok (.iconst 1, 1) := by decide +kernel
theorem dX10_isWithin_11 : decode cX10_isWithin 11 = .ok (.goto 4, 3) := by decide +kernel
theorem dX10_isWithin_14 : decode cX10_isWithin 14 = .ok (.iconst 0, 1) := by decide +kernel
theorem dX10_isWithin_15 : decode cX10_isWithin 15 = .ok (.ireturn, 1) := by decide +kernel
theorem dX10_areCoordinates_0 : decode cX10_areCoordinates 0 = .ok (.iload_n 0, 1) := by decide +kernel
theorem dX10_areCoordinates_1 : decode cX10_areCoordinates 1 = .ok (.iconst 0, 1) := by decide +kernel
theorem dX10_areCoordinates_2 : decode cX10_areCoordinates 2 = .ok (.bipush 99, 2) := by decide +kernel
theorem dX10_areCoordinates_4 : decode cX10_areCoordinates 4 = .ok (.invokestatic 373, 3) := by decide +kernel
theorem dX10_areCoordinates_7 : decode cX10_areCoordinates 7 = .ok (.ifCond .eq 17, 3) := by decide +kernel
theorem dX10_areCoordinates_10 : decode cX10_areCoordinates 10 = .ok (.iload_n 1, 1) := by decide +kernel
theorem dX10_areCoordinates_11 : decode cX10_areCoordinates 11 = .ok (.iconst 0, 1) := by decide +kernel
theorem dX10_areCoordinates_12 : decode cX10_areCoordinates 12 = .ok (.bipush 99, 2) := by decide +kernel
theorem dX10_areCoordinates_14 : decode cX10_areCoordinates 14 = .ok (.invokestatic 373, 3) := by decide +kernel
theorem dX10_areCoordinates_17 : decode cX10_areCoordinates 17 = .ok (.ifCond .eq 7, 3) := by decide +kernel
theorem dX10_areCoordinates_20 : decode cX10_areCoordinates 20 = .ok (.iconst 1, 1) := by decide +kernel
theorem dX10_areCoordinates_21 : decode cX10_areCoordinates 21 = .ok (.goto 4, 3) := by decide +kernel
theorem dX10_areCoordinates_24 : decode cX10_areCoordinates 24 = .ok (.iconst 0, 1) := by decide +kernel
theorem dX10_areCoordinates_25 : decode cX10_areCoordinates 25 = .ok (.ireturn, 1) := by decide +kernel
theorem dJ5_init_d00df_0 : decode cJ5_init_d00df 0 = .ok (.aload_n 0, 1) := by decide +kernel
theorem dJ5_init_d00df_1 : decode cJ5_init_d00df 1 = .ok (.invokespecial 3, 3) := by decide +kernel
theorem dJ5_init_d00df_4 : decode cJ5_init_d00df 4 = .ok (.getstatic 18, 3) := by decide +kernel
theorem dJ5_init_d00df_7 : decode cJ5_init_d00df 7 = .ok (.ifCond .eq 18, 3) := by decide +kernel
theorem dJ5_init_d00df_10 : decode cJ5_init_d00df 10 = .ok (.aload_n 0, 1) := by decide +kernel
theorem dJ5_init_d00df_11 : decode cJ5_init_d00df 11 = .ok (.iload_n 1, 1) := by decide +kernel
theorem dJ5_init_d00df_12 : decode cJ5_init_d00df 12 = .ok (.newarray .byte, 2) := by decide +kernel
theorem dJ5_init_d00df_14 : decode cJ5_init_d00df 14 = .ok (.putfield 15, 3) := by decide +kernel
theorem dJ5_init_d00df_17 : decode cJ5_init_d00df 17 = .ok (.aload_n 0, 1) := by decide +kernel
theorem dJ5_init_d00df_18 : decode cJ5_init_d00df 18 = .ok (.iconst 0, 1) := by decide +kernel
theorem dJ5_init_d00df_19 : decode cJ5_init_d00df 19 = .ok (.putfield 22, 3) := by decide +kernel
theorem dJ5_init_d00df_22 : decode cJ5_init_d00df 22 = .ok (.goto 16, 3) := by decide +kernel
theorem dJ5_init_d00df_25 : decode cJ5_init_d00df 25 = .ok (.aload_n 0, 1) := by decide +kernel
theorem dJ5_init_d00df_26 : decode cJ5_init_d00df 26 = .ok (.iload_n 1, 1) := by decide +kernel
theorem dJ5_init_d00df_27 : decode cJ5_init_d00df 27 = .ok (.invokestatic 26, 3) := by decide +kernel
theorem dJ5_init_d00df_30 : decode cJ5_init_d00df 30 = .ok (.putfield 15, 3) := by decide +kernel
theorem dJ5_init_d00df_33 : decode cJ5_init_d00df 33 = .ok (.aload_n 0, 1) := by decide +kernel
theorem dJ5_init_d00df_34 : decode cJ5_init_d00df 34 = .ok (.iconst 1, 1) := by decide +kernel
theorem dJ5_init_d00df_35 : decode cJ5_init_d00df 35 = .ok (.putfield 22, 3) := by decide +kernel
theorem dJ5_init_d00df_38 : decode cJ5_init_d00df 38 = .ok (.return_, 1) := by decide +kernel
theorem dJ5_length_8abf5_0 : decode cJ5_length_8abf5 0 = .ok (.aload_n 0, 1) := by decide +kernel
theorem dJ5_length_8abf5_1 : decode cJ5_length_8abf5 1 = .ok (.getfield 79, 3) := by decide +kernel
theorem dJ5_length_8abf5_4 : decode cJ5_length_8abf5 4 = .ok (.ireturn, 1) := by decide +kernel
theorem dJ5_ensureCapacityInternal_d00df_0 : decode cJ5_ensureCapacityInternal_d00df 0 = .ok (.aload_n 0, 1) := by decide +kernel
theorem dJ5_ensureCapacityInternal_d00df_1 : decode cJ5_ensureCapacityInternal_d00df 1 = .ok (.getfield 15, 3) := by decide +kernel
theorem dJ5_ensureCapacityInternal_d00df_4 : decode cJ5_ensureCapacityInternal_d00df 4 = .ok (.arraylength, 1) := by decide +kernel
theorem dJ5_ensureCapacityInternal_d00df_5 : decode cJ5_ensureCapacityInternal_d00df 5 = .ok (.aload_n 0, 1) := by decide +kernel
theorem dJ5_ensureCapacityInternal_d00df_6 : decode cJ5_ensureCapacityInternal_d00df 6 = .ok (.getfield 22, 3) := by decide +kernel
theorem dJ5_ensureCapacityInternal_d00df_9 : decode cJ5_ensureCapacityInternal_d00df 9 = .ok (.ishr, 1) := by decide +kernel
theorem dJ5_ensureCapacityInternal_d00df_10 : decode cJ5_ensureCapacityInternal_d00df 10 = .ok (.istore_n 2, 1) := by decide +kernel
theorem dJ5_ensureCapacityInternal_d00df_11 : decode cJ5_ensureCapacityInternal_d00df 11 = .ok (.iload_n 1, 1) := by decide +kernel
theorem dJ5_ensureCapacityInternal_d00df_12 : decode cJ5_ensureCapacityInternal_d00df 12 = .ok (.iload_n 2, 1) := by decide +kernel
theorem dJ5_ensureCapacityInternal_d00df_13 : decode cJ5_ensureCapacityInternal_d00df 13 = .ok (.isub, 1) := by decide +kernel
theorem dJ5_ensureCapacityInternal_d00df_14 : decode cJ5_ensureCapacityInternal_d00df 14 = .ok (.ifCond .le 24, 3) := by decide +kernel
theorem dJ5_ensureCapacityInternal_d00df_17 : decode cJ5_ensureCapacityInternal_d00df 17 = .ok (.aload_n 0, 1) := by decide +kernel
theorem dJ5_ensureCapacityInternal_d00df_18 : decode cJ5_ensureCapacityInternal_d00df 18 = .ok (.aload_n 0, 1) := by decide +kernel
theorem dJ5_ensureCapacityInternal_d00df_19 : decode cJ5_ensureCapacityInternal_d00df 19 = .ok (.getfield 15, 3) := by decide +kernel
theorem dJ5_ensureCapacityInternal_d00df_22 : decode cJ5_ensureCapacityInternal_d00df 22 = .ok (.aload_n 0, 1) := by decide +kernel
theorem dJ5_ensureCapacityInternal_d00df_23 : decode cJ5_ensureCapacityInternal_d00df 23 = .ok (.iload_n 1, 1) := by decide +kernel
theorem dJ5_ensureCapacityInternal_d00df_24 : decode cJ5_ensureCapacityInternal_d00df 24 = .ok (.invokevirtual 104, 3) := by decide +kernel
theorem dJ5_ensureCapacityInternal_d00df_27 : decode cJ5_ensureCapacityInternal_d00df 27 = .ok (.aload_n 0, 1) := by decide +kernel
theorem dJ5_ensureCapacityInternal_d00df_28 : decode cJ5_ensureCapacityInternal_d00df 28 = .ok (.getfield 22, 3) := by decide +kernel
theorem dJ5_ensureCapacityInternal_d00df_31 : decode cJ5_ensureCapacityInternal_d00df 31 = .ok (.ishl, 1) := by decide +kernel
theorem dJ5_ensureCapacityInternal_d00df_32 : decode cJ5_ensureCapacityInternal_d00df 32 = .ok (.invokestatic 108, 3) := by decide +kernel
theorem dJ5_ensureCapacityInternal_d00df_35 : decode cJ5_ensureCapacityInternal_d00df 35 = .ok (.putfield 15, 3) := by decide +kernel
theorem dJ5_ensureCapacityInternal_d00df_38 : decode cJ5_ensureCapacityInternal_d00df 38 = .ok (.return_, 1) := by decide +kernel
theorem dJ5_newCapacity_0f7a4_0 : decode cJ5_newCapacity_0f7a4 0 = .ok (.aload_n 0, 1) := by decide +kernel
theorem dJ5_newCapacity_0f7a4_1 : decode cJ5_newCapacity_0f7a4 1 = .ok (.getfield 15, 3) := by decide +kernel
theorem dJ5_newCapacity_0f7a4_4 : decode cJ5_newCapacity_0f7a4 4 = .ok (.arraylength, 1) := by decide +kernel
theorem dJ5_newCapacity_0f7a4_5 : decode cJ5_newCapacity_0f7a4 5 = .ok (.istore_n 2, 1) := by decide +kernel
theorem dJ5_newCapacity_0f7a4_6 : decode cJ5_newCapacity_0f7a4 6 = .ok (.iload_n 1, 1) := by decide +kernel
theorem dJ5_newCapacity_0f7a4_7 : decode cJ5_newCapacity_0f7a4 7 = .ok (.aload_n 0, 1) := by decide +kernel
theorem dJ5_newCapacity_0f7a4_8 : decode cJ5_newCapacity_0f7a4 8 = .ok (.getfield 22, 3) := by decide +kernel
theorem dJ5_newCapacity_0f7a4_11 : decode cJ5_newCapacity_0f7a4 11 = .ok (.ishl, 1) := by decide +kernel
theorem dJ5_newCapacity_0f7a4_12 : decode cJ5_newCapacity_0f7a4 12 = .ok (.istore_n 3, 1) := by decide +kernel
theorem dJ5_newCapacity_0f7a4_13 : decode cJ5_newCapacity_0f7a4 13 = .ok (.iload_n 3, 1) := by decide +kernel
theorem dJ5_newCapacity_0f7a4_14 : decode cJ5_newCapacity_0f7a4 14 = .ok (.iload_n 2, 1) := by decide +kernel
theorem dJ5_newCapacity_0f7a4_15 : decode cJ5_newCapacity_0f7a4 15 = .ok (.isub, 1) := by decide +kernel
theorem dJ5_newCapacity_0f7a4_16 : decode cJ5_newCapacity_0f7a4 16 = .ok (.istore 4, 2) := by decide +kernel
theorem dJ5_newCapacity_0f7a4_18 : decode cJ5_newCapacity_0f7a4 18 = .ok (.iload_n 2, 1) := by decide +kernel
theorem dJ5_newCapacity_0f7a4_19 : decode cJ5_newCapacity_0f7a4 19 = .ok (.iload 4, 2) := by decide +kernel
theorem dJ5_newCapacity_0f7a4_21 : decode cJ5_newCapacity_0f7a4 21 = .ok (.iload_n 2, 1) := by decide +kernel
theorem dJ5_newCapacity_0f7a4_22 : decode cJ5_newCapacity_0f7a4 22 = .ok (.iconst 2, 1) := by decide +kernel
theorem dJ5_newCapacity_0f7a4_23 : decode cJ5_newCapacity_0f7a4 23 = .ok (.aload_n 0, 1) := by decide +kernel
theorem dJ5_newCapacity_0f7a4_24 : decode cJ5_newCapacity_0f7a4 24 = .ok (.getfield 22, 3) := by decide +kernel
theorem dJ5_newCapacity_0f7a4_27 : decode cJ5_newCapacity_0f7a4 27 = .ok (.ishl, 1) := by decide +kernel
theorem dJ5_newCapacity_0f7a4_28 : decode cJ5_newCapacity_0f7a4 28 = .ok (.iadd, 1) := by decide +kernel
theorem dJ5_newCapacity_0f7a4_29 : decode cJ5_newCapacity_0f7a4 29 = .ok (.invokestatic 114, 3) := by decide +kernel
theorem dJ5_newCapacity_0f7a4_32 : decode cJ5_newCapacity_0f7a4 32 = .ok (.istore 5, 2) := by decide +kernel
theorem dJ5_newCapacity_0f7a4_34 : decode cJ5_newCapacity_0f7a4 34 = .ok (.iload 5, 2) := by decide +kernel
theorem dJ5_newCapacity_0f7a4_36 : decode cJ5_newCapacity_0f7a4 36 = .ok (.ldc 39, 2) := by decide +kernel
theorem dJ5_newCapacity_0f7a4_38 : decode cJ5_newCapacity_0f7a4 38 = .ok (.if_icmp .ne 13, 3) := by decide +kernel
theorem dJ5_newCapacity_0f7a4_41 : decode cJ5_newCapacity_0f7a4 41 = .ok (.new 120, 3) := by decide +kernel
theorem dJ5_newCapacity_0f7a4_44 : decode cJ5_newCapacity_0f7a4 44 = .ok (.dup, 1) := by decide +kernel
theorem dJ5_newCapacity_0f7a4_45 : decode cJ5_newCapacity_0f7a4 45 = .ok (.ldc 122, 2) := by decide +kernel
theorem dJ5_newCapacity_0f7a4_47 : decode cJ5_newCapacity_0f7a4 47 = .ok (.invokespecial 124, 3) := by decide +kernel
theorem dJ5_newCapacity_0f7a4_50 : decode cJ5_newCapacity_0f7a4 50 = .ok (.athrow, 1) := by decide +kernel
theorem dJ5_newCapacity_0f7a4_51 : decode cJ5_newCapacity_0f7a4 51 = .ok (.iload 5, 2) := by decide +kernel
theorem dJ5_newCapacity_0f7a4_53 : decode cJ5_newCapacity_0f7a4 53 = .ok (.aload_n 0, 1) := by decide +kernel
theorem dJ5_newCapacity_0f7a4_54 : decode cJ5_newCapacity_0f7a4 54 = .ok (.getfield 22, 3) := by decide +kernel
theorem dJ5_newCapacity_0f7a4_57 : decode cJ5_newCapacity_0f7a4 57 = .ok (.ishr, 1) := by decide +kernel
theorem dJ5_newCapacity_0f7a4_58 : decode cJ5_newCapacity_0f7a4 58 = .ok (.ireturn, 1) := by decide +kernel
theorem dJ5_inflate_da8c8_0 : decode cJ5_inflate_da8c8 0 = .ok (.aload_n 0, 1) := by decide +kernel
theorem dJ5_inflate_da8c8_1 : decode cJ5_inflate_da8c8 1 = .ok (.invokevirtual 83, 3) := by decide +kernel
theorem dJ5_inflate_da8c8_4 : decode cJ5_inflate_da8c8 4 = .ok (.ifCond .ne 4, 3) := by decide +kernel
theorem dJ5_inflate_da8c8_7 : decode cJ5_inflate_da8c8 7 = .ok (.return_, 1) := by decide +kernel
theorem dJ5_inflate_da8c8_8 : decode cJ5_inflate_da8c8 8 = .ok (.aload_n 0, 1) := by decide +kernel
theorem dJ5_inflate_da8c8_9 : decode cJ5_inflate_da8c8 9 = .ok (.getfield 15, 3) := by decide +kernel
theorem dJ5_inflate_da8c8_12 : decode cJ5_inflate_da8c8 12 = .ok (.arraylength, 1) := by decide +kernel
theorem dJ5_inflate_da8c8_13 : decode cJ5_inflate_da8c8 13 = .ok (.invokestatic 26, 3) := by decide +kernel
theorem dJ5_inflate_da8c8_16 : decode cJ5_inflate_da8c8 16 = .ok (.astore_n 1, 1) := by decide +kernel
theorem dJ5_inflate_da8c8_17 : decode cJ5_inflate_da8c8 17 = .ok (.aload_n 0, 1) := by decide +kernel
theorem dJ5_inflate_da8c8_18 : decode cJ5_inflate_da8c8 18 = .ok (.getfield 15, 3) := by decide +kernel
theorem dJ5_inflate_da8c8_21 : decode cJ5_inflate_da8c8 21 = .ok (.iconst 0, 1) := by decide +kernel
theorem dJ5_inflate_da8c8_22 : decode cJ5_inflate_da8c8 22 = .ok (.aload_n 1, 1) := by decide +kernel
theorem dJ5_inflate_da8c8_23 : decode cJ5_inflate_da8c8 23 = .ok (.iconst 0, 1) := by decide +kernel
theorem dJ5_inflate_da8c8_24 : decode cJ5_inflate_da8c8 24 = .ok (.aload_n 0, 1) := by decide +kernel
theorem dJ5_inflate_da8c8_25 : decode cJ5_inflate_da8c8 25 = .ok (.getfield 79, 3) := by decide +kernel
theorem dJ5_inflate_da8c8_28 : decode cJ5_inflate_da8c8 28 = .ok (.invokestatic 125, 3) := by decide +kernel
theorem dJ5_inflate_da8c8_31 : decode cJ5_inflate_da8c8 31 = .ok (.aload_n 0, 1) := by decide +kernel
theorem dJ5_inflate_da8c8_32 : decode cJ5_inflate_da8c8 32 = .ok (.aload_n 1, 1) := by decide +kernel
theorem dJ5_inflate_da8c8_33 : decode cJ5_inflate_da8c8 33 = .ok (.putfield 15, 3) := by decide +kernel
theorem dJ5_inflate_da8c8_36 : decode cJ5_inflate_da8c8 36 = .ok (.aload_n 0, 1) := by decide +kernel
theorem dJ5_inflate_da8c8_37 : decode cJ5_inflate_da8c8 37 = .ok (.iconst 1, 1) := by decide +kernel
theorem dJ5_inflate_da8c8_38 : decode cJ5_inflate_da8c8 38 = .ok (.putfield 22, 3) := by decide +kernel
theorem dJ5_inflate_da8c8_41 : decode cJ5_inflate_da8c8 41 = .ok (.return_, 1) := by decide +kernel
theorem dJ5_append_cf1ce_0 : decode cJ5_append_cf1ce 0 = .ok (.aload_n 1, 1) := by decide +kernel
theorem dJ5_append_cf1ce_1 : decode cJ5_append_cf1ce 1 = .ok (.ifnonnull 8, 3) := by decide +kernel
theorem dJ5_append_cf1ce_4 : decode cJ5_append_cf1ce 4 = .ok (.aload_n 0, 1) := by decide +kernel
theorem dJ5_append_cf1ce_5 : decode cJ5_append_cf1ce 5 = .ok (.invokevirtual 204, 3) := by decide +kernel
theorem dJ5_append_cf1ce_8 : decode cJ5_append_cf1ce 8 = .ok (.areturn, 1) := by decide +kernel
theorem dJ5_append_cf1ce_9 : decode cJ5_append_cf1ce 9 = .ok (.aload_n 1, 1) := by decide +kernel
theorem dJ5_append_cf1ce_10 : decode cJ5_append_cf1ce 10 = .ok (.invokevirtual 32, 3) := by decide +kernel
theorem dJ5_append_cf1ce_13 : decode cJ5_append_cf1ce 13 = .ok (.istore_n 2, 1) := by decide +kernel
theorem dJ5_append_cf1ce_14 : decode cJ5_append_cf1ce 14 = .ok (.aload_n 0, 1) := by decide +kernel
theorem dJ5_append_cf1ce_15 : decode cJ5_append_cf1ce 15 = .ok (.aload_n 0, 1) := by decide +kernel
theorem dJ5_append_cf1ce_16 : decode cJ5_append_cf1ce 16 = .ok (.getfield 79, 3) := by decide +kernel
theorem dJ5_append_cf1ce_19 : decode cJ5_append_cf1ce 19 = .ok (.iload_n 2, 1) := by decide +kernel
theorem dJ5_append_cf1ce_20 : decode cJ5_append_cf1ce 20 = .ok (.iadd, 1) := by decide +kernel
theorem dJ5_append_cf1ce_21 : decode cJ5_append_cf1ce 21 = .ok (.invokevirtual 100, 3) := by decide +kernel
theorem dJ5_append_cf1ce_24 : decode cJ5_append_cf1ce 24 = .ok (.aload_n 0, 1) := by decide +kernel
theorem dJ5_append_cf1ce_25 : decode cJ5_append_cf1ce 25 = .ok (.aload_n 0, 1) := by decide +kernel
theorem dJ5_append_cf1ce_26 : decode cJ5_append_cf1ce 26 = .ok (.getfield 79, 3) := by decide +kernel
theorem dJ5_append_cf1ce_29 : decode cJ5_append_cf1ce 29 = .ok (.aload_n 1, 1) := by decide +kernel
theorem dJ5_append_cf1ce_30 : decode cJ5_append_cf1ce 30 = .ok (.invokevirtual 208, 3) := by decide +kernel
theorem dJ5_append_cf1ce_33 : decode cJ5_append_cf1ce 33 = .ok (.aload_n 0, 1) := by decide +kernel
theorem dJ5_append_cf1ce_34 : decode cJ5_append_cf1ce 34 = .ok (.dup, 1) := by decide +kernel
theorem dJ5_append_cf1ce_35 : decode cJ5_append_cf1ce 35 = .ok (.getfield 79, 3) := by decide +kernel
theorem dJ5_append_cf1ce_38 : decode cJ5_append_cf1ce 38 = .ok (.iload_n 2, 1) := by decide +kernel
theorem dJ5_append_cf1ce_39 : decode cJ5_append_cf1ce 39 = .ok (.iadd, 1) := by decide +kernel
theorem dJ5_append_cf1ce_40 : decode cJ5_append_cf1ce 40 = .ok (.putfield 79, 3) := by decide +kernel
theorem dJ5_append_cf1ce_43 : decode cJ5_append_cf1ce 43 = .ok (.aload_n 0, 1) := by decide +kernel
theorem dJ5_append_cf1ce_44 : decode cJ5_append_cf1ce 44 = .ok (.areturn, 1) := by decide +kernel
theorem dJ5_appendNull_278bc_0 : decode cJ5_appendNull_278bc 0 = .ok (.aload_n 0, 1) := by decide +kernel
theorem dJ5_appendNull_278bc_1 : decode cJ5_appendNull_278bc 1 = .ok (.aload_n 0, 1) := by decide +kernel
theorem dJ5_appendNull_278bc_2 : decode cJ5_appendNull_278bc 2 = .ok (.getfield 79, 3) := by decide +kernel
theorem dJ5_appendNull_278bc_5 : decode cJ5_appendNull_278bc 5 = .ok (.iconst 4, 1) := by decide +kernel
theorem dJ5_appendNull_278bc_6 : decode cJ5_appendNull_278bc 6 = .ok (.iadd, 1) := by decide +kernel
theorem dJ5_appendNull_278bc_7 : decode cJ5_appendNull_278bc 7 = .ok (.invokevirtual 100, 3) := by decide +kernel
theorem dJ5_appendNull_278bc_10 : decode cJ5_appendNull_278bc 10 = .ok (.aload_n 0, 1) := by decide +kernel
theorem dJ5_appendNull_278bc_11 : decode cJ5_appendNull_278bc 11 = .ok (.getfield 79, 3) := by decide +kernel
theorem dJ5_appendNull_278bc_14 : decode cJ5_appendNull_278bc 14 = .ok (.istore_n 1, 1) := by decide +kernel
theorem dJ5_appendNull_278bc_15 : decode cJ5_appendNull_278bc 15 = .ok (.aload_n 0, 1) := by decide +kernel
theorem dJ5_appendNull_278bc_16 : decode cJ5_appendNull_278bc 16 = .ok (.getfield 15, 3) := by decide +kernel
theorem dJ5_appendNull_278bc_19 : decode cJ5_appendNull_278bc 19 = .ok (.astore_n 2, 1) := by decide +kernel
theorem dJ5_appendNull_278bc_20 : decode cJ5_appendNull_278bc 20 = .ok (.aload_n 0, 1) := by decide +kernel
theorem dJ5_appendNull_278bc_21 : decode cJ5_appendNull_278bc 21 = .ok (.invokevirtual 83, 3) := by decide +kernel
theorem dJ5_appendNull_278bc_24 : decode cJ5_appendNull_278bc 24 = .ok (.ifCond .eq 38, 3) := by decide +kernel
theorem dJ5_appendNull_278bc_27 : decode cJ5_appendNull_278bc 27 = .ok (.aload_n 2, 1) := by decide +kernel
theorem dJ5_appendNull_278bc_28 : decode cJ5_appendNull_278bc 28 = .ok (.iload_n 1, 1) := by decide +kernel
theorem dJ5_appendNull_278bc_29 : decode cJ5_appendNull_278bc 29 = .ok (.iinc 1 1, 3) := by decide +kernel
theorem dJ5_appendNull_278bc_32 : decode cJ5_appendNull_278bc 32 = .ok (.bipush 110, 2) := by decide +kernel
theorem dJ5_appendNull_278bc_34 : decode cJ5_appendNull_278bc 34 = .ok (.bastore, 1) := by decide +kernel
theorem dJ5_appendNull_278bc_35 : decode cJ5_appendNull_278bc 35 = .ok (.aload_n 2, 1) := by decide +kernel
theorem dJ5_appendNull_278bc_36 : decode cJ5_appendNull_278bc 36 = .ok (.iload_n 1, 1) := by decide +kernel
theorem dJ5_appendNull_278bc_37 : decode cJ5_appendNull_278bc 37 = .ok (.iinc 1 1, 3) := by decide +kernel
theorem dJ5_appendNull_278bc_40 : decode cJ5_appendNull_278bc 40 = .ok (.bipush 117, 2) := by decide +kernel
theorem dJ5_appendNull_278bc_42 : decode cJ5_appendNull_278bc 42 = .ok (.bastore, 1) := by decide +kernel
theorem dJ5_appendNull_278bc_43 : decode cJ5_appendNull_278bc 43 = .ok (.aload_n 2, 1) := by decide +kernel
theorem dJ5_appendNull_278bc_44 : decode cJ5_appendNull_278bc 44 = .ok (.iload_n 1, 1) := by decide +kernel
theorem dJ5_appendNull_278bc_45 : decode cJ5_appendNull_278bc 45 = .ok (.iinc 1 1, 3) := by decide +kernel
theorem dJ5_appendNull_278bc_48 : decode cJ5_appendNull_278bc 48 = .ok (.bipush 108, 2) := by decide +kernel
theorem dJ5_appendNull_278bc_50 : decode cJ5_appendNull_278bc 50 = .ok (.bastore, 1) := by decide +kernel
theorem dJ5_appendNull_278bc_51 : decode cJ5_appendNull_278bc 51 = .ok (.aload_n 2, 1) := by decide +kernel
theorem dJ5_appendNull_278bc_52 : decode cJ5_appendNull_278bc 52 = .ok (.iload_n 1, 1) := by decide +kernel
theorem dJ5_appendNull_278bc_53 : decode cJ5_appendNull_278bc 53 = .ok (.iinc 1 1, 3) := by decide +kernel
theorem dJ5_appendNull_278bc_56 : decode cJ5_appendNull_278bc 56 = .ok (.bipush 108, 2) := by decide +kernel
theorem dJ5_appendNull_278bc_58 : decode cJ5_appendNull_278bc 58 = .ok (.bastore, 1) := by decide +kernel
theorem dJ5_appendNull_278bc_59 : decode cJ5_appendNull_278bc 59 = .ok (.goto 17, 3) := by decide +kernel
theorem dJ5_appendNull_278bc_62 : decode cJ5_appendNull_278bc 62 = .ok (.aload_n 2, 1) := by decide +kernel
theorem dJ5_appendNull_278bc_63 : decode cJ5_appendNull_278bc 63 = .ok (.iload_n 1, 1) := by decide +kernel
theorem dJ5_appendNull_278bc_64 : decode cJ5_appendNull_278bc 64 = .ok (.bipush 110, 2) := by decide +kernel
theorem dJ5_appendNull_278bc_66 : decode cJ5_appendNull_278bc 66 = .ok (.bipush 117, 2) := by decide +kernel
theorem dJ5_appendNull_278bc_68 : decode cJ5_appendNull_278bc 68 = .ok (.bipush 108, 2) := by decide +kernel
theorem dJ5_appendNull_278bc_70 : decode cJ5_appendNull_278bc 70 = .ok (.bipush 108, 2) := by decide +kernel
theorem dJ5_appendNull_278bc_72 : decode cJ5_appendNull_278bc 72 = .ok (.invokestatic 226, 3) := by decide +kernel
theorem dJ5_appendNull_278bc_75 : decode cJ5_appendNull_278bc 75 = .ok (.istore_n 1, 1) := by decide +kernel
theorem dJ5_appendNull_278bc_76 : decode cJ5_appendNull_278bc 76 = .ok (.aload_n 0, 1) := by decide +kernel
theorem dJ5_appendNull_278bc_77 : decode cJ5_appendNull_278bc 77 = .ok (.iload_n 1, 1) := by decide +kernel
theorem dJ5_appendNull_278bc_78 : decode cJ5_appendNull_278bc 78 = .ok (.putfield 79, 3) := by decide +kernel
theorem dJ5_appendNull_278bc_81 : decode cJ5_appendNull_278bc 81 = .ok (.aload_n 0, 1) := by decide +kernel
theorem dJ5_appendNull_278bc_82 : decode cJ5_appendNull_278bc 82 = .ok (.areturn, 1) := by decide +kernel
theorem dJ5_append_c97b9_0 : decode cJ5_append_c97b9 0 = .ok (.aload_n 0, 1) := by decide +kernel
theorem dJ5_append_c97b9_1 : decode cJ5_append_c97b9 1 = .ok (.getfield 79, 3) := by decide +kernel
theorem dJ5_append_c97b9_4 : decode cJ5_append_c97b9 4 = .ok (.istore_n 2, 1) := by decide +kernel
theorem dJ5_append_c97b9_5 : decode cJ5_append_c97b9 5 = .ok (.iload_n 2, 1) := by decide +kernel
theorem dJ5_append_c97b9_6 : decode cJ5_append_c97b9 6 = .ok (.iload_n 1, 1) := by decide +kernel
theorem dJ5_append_c97b9_7 : decode cJ5_append_c97b9 7 = .ok (.invokestatic 245, 3) := by decide +kernel
theorem dJ5_append_c97b9_10 : decode cJ5_append_c97b9 10 = .ok (.iadd, 1) := by decide +kernel
theorem dJ5_append_c97b9_11 : decode cJ5_append_c97b9 11 = .ok (.istore_n 3, 1) := by decide +kernel
theorem dJ5_append_c97b9_12 : decode cJ5_append_c97b9 12 = .ok (.aload_n 0, 1) := by decide +kernel
theorem dJ5_append_c97b9_13 : decode cJ5_append_c97b9 13 = .ok (.iload_n 3, 1) := by decide +kernel
theorem dJ5_append_c97b9_14 : decode cJ5_append_c97b9 14 = .ok (.invokevirtual 100, 3) := by decide +kernel
theorem dJ5_append_c97b9_17 : decode cJ5_append_c97b9 17 = .ok (.aload_n 0, 1) := by decide +kernel
theorem dJ5_append_c97b9_18 : decode cJ5_append_c97b9 18 = .ok (.invokevirtual 83, 3) := by decide +kernel
theorem dJ5_append_c97b9_21 : decode cJ5_append_c97b9 21 = .ok (.ifCond .eq 16, 3) := by decide +kernel
theorem dJ5_append_c97b9_24 : decode cJ5_append_c97b9 24 = .ok (.iload_n 1, 1) := by decide +kernel
theorem dJ5_append_c97b9_25 : decode cJ5_append_c97b9 25 = .ok (.iload_n 3, 1) := by decide +kernel
theorem dJ5_append_c97b9_26 : decode cJ5_append_c97b9 26 = .ok (.aload_n 0, 1) := by decide +kernel
theorem dJ5_append_c97b9_27 : decode cJ5_append_c97b9 27 = .ok (.getfield 15, 3) := by decide +kernel
theorem dJ5_append_c97b9_30 : decode cJ5_append_c97b9 30 = .ok (.invokestatic 248, 3) := by decide +kernel
theorem dJ5_append_c97b9_33 : decode cJ5_append_c97b9 33 = .ok (.pop, 1) := by decide +kernel
theorem dJ5_append_c97b9_34 : decode cJ5_append_c97b9 34 = .ok (.goto 14, 3) := by decide +kernel
theorem dJ5_append_c97b9_37 : decode cJ5_append_c97b9 37 = .ok (.iload_n 1, 1) := by decide +kernel
theorem dJ5_append_c97b9_38 : decode cJ5_append_c97b9 38 = .ok (.iload_n 2, 1) := by decide +kernel
theorem dJ5_append_c97b9_39 : decode cJ5_append_c97b9 39 = .ok (.iload_n 3, 1) := by decide +kernel
theorem dJ5_append_c97b9_40 : decode cJ5_append_c97b9 40 = .ok (.aload_n 0, 1) := by decide +kernel
theorem dJ5_append_c97b9_41 : decode cJ5_append_c97b9 41 = .ok (.getfield 15, 3) := by decide +kernel
theorem dJ5_append_c97b9_44 : decode cJ5_append_c97b9 44 = .ok (.invokestatic 251, 3) := by decide +kernel
theorem dJ5_append_c97b9_47 : decode cJ5_append_c97b9 47 = .ok (.pop, 1) := by decide +kernel
theorem dJ5_append_c97b9_48 : decode cJ5_append_c97b9 48 = .ok (.aload_n 0, 1) := by decide +kernel
theorem dJ5_append_c97b9_49 : decode cJ5_append_c97b9 49 = .ok (.iload_n 3, 1) := by decide +kernel
theorem dJ5_append_c97b9_50 : decode cJ5_append_c97b9 50 = .ok (.putfield 79, 3) := by decide +kernel
theorem dJ5_append_c97b9_53 : decode cJ5_append_c97b9 53 = .ok (.aload_n 0, 1) := by decide +kernel
theorem dJ5_append_c97b9_54 : decode cJ5_append_c97b9 54 = .ok (.areturn, 1) := by decide +kernel
theorem dJ5_getValue_6d5f1_0 : decode cJ5_getValue_6d5f1 0 = .ok (.aload_n 0, 1) := by decide +kernel
theorem dJ5_getValue_6d5f1_1 : decode cJ5_getValue_6d5f1 1 = .ok (.getfield 15, 3) := by decide +kernel
theorem dJ5_getValue_6d5f1_4 : decode cJ5_getValue_6d5f1 4 = .ok (.areturn, 1) := by decide +kernel
theorem dJ5_isLatin1_aae02_0 : decode cJ5_isLatin1_aae02 0 = .ok (.getstatic 18, 3) := by decide +kernel
theorem dJ5_isLatin1_aae02_3 : decode cJ5_isLatin1_aae02 3 = .ok (.ifCond .eq 14, 3) := by decide +kernel
theorem dJ5_isLatin1_aae02_6 : decode cJ5_isLatin1_aae02 6 = .ok (.aload_n 0, 1) := by decide +kernel
theorem dJ5_isLatin1_aae02_7 : decode cJ5_isLatin1_aae02 7 = .ok (.getfield 22, 3) := by decide +kernel
theorem dJ5_isLatin1_aae02_10 : decode cJ5_isLatin1_aae02 10 = .ok (.ifCond .ne 7, 3) := by decide +kernel
theorem dJ5_isLatin1_aae02_13 : decode cJ5_isLatin1_aae02 13 = .ok (.iconst 1, 1) := by decide +kernel
theorem dJ5_isLatin1_aae02_14 : decode cJ5_isLatin1_aae02 14 = .ok (.goto 4, 3) := by decide +kernel
theorem dJ5_isLatin1_aae02_17 : decode cJ5_isLatin1_aae02 17 = .ok (.iconst 0, 1) := by decide +kernel
theorem dJ5_isLatin1_aae02_18 : decode cJ5_isLatin1_aae02 18 = .ok (.ireturn, 1) := by decide +kernel
theorem dJ5_inflateIfNeededFor_a7421_0 : decode cJ5_inflateIfNeededFor_a7421 0 = .ok (.getstatic 18, 3) := by decide +kernel
theorem dJ5_inflateIfNeededFor_a7421_3 : decode cJ5_inflateIfNeededFor_a7421 3 = .ok (.ifCond .eq 18, 3) := by decide +kernel
theorem dJ5_inflateIfNeededFor_a7421_6 : decode cJ5_inflateIfNeededFor_a7421 6 = .ok (.aload_n 0, 1) := by decide +kernel
theorem dJ5_inflateIfNeededFor_a7421_7 : decode cJ5_inflateIfNeededFor_a7421 7 = .ok (.getfield 22, 3) := by decide +kernel
theorem dJ5_inflateIfNeededFor_a7421_10 : decode cJ5_inflateIfNeededFor_a7421 10 = .ok (.aload_n 1, 1) := by decide +kernel
theorem dJ5_inflateIfNeededFor_a7421_11 : decode cJ5_inflateIfNeededFor_a7421 11 = .ok (.invokevirtual 40, 3) := by decide +kernel
theorem dJ5_inflateIfNeededFor_a7421_14 : decode cJ5_inflateIfNeededFor_a7421 14 = .ok (.if_icmp .eq 7, 3) := by decide +kernel
theorem dJ5_inflateIfNeededFor_a7421_17 : decode cJ5_inflateIfNeededFor_a7421 17 = .ok (.aload_n 0, 1) := by decide +kernel
theorem dJ5_inflateIfNeededFor_a7421_18 : decode cJ5_inflateIfNeededFor_a7421 18 = .ok (.invokevirtual 195, 3) := by decide +kernel
theorem dJ5_inflateIfNeededFor_a7421_21 : decode cJ5_inflateIfNeededFor_a7421 21 = .ok (.return_, 1) := by decide +kernel
theorem dJ5_putStringAt_47b60_0 : decode cJ5_putStringAt_47b60 0 = .ok (.aload_n 0, 1) := by decide +kernel
theorem dJ5_putStringAt_47b60_1 : decode cJ5_putStringAt_47b60 1 = .ok (.aload_n 2, 1) := by decide +kernel
theorem dJ5_putStringAt_47b60_2 : decode cJ5_putStringAt_47b60 2 = .ok (.invokevirtual 397, 3) := by decide +kernel
theorem dJ5_putStringAt_47b60_5 : decode cJ5_putStringAt_47b60 5 = .ok (.aload_n 2, 1) := by decide +kernel
theorem dJ5_putStringAt_47b60_6 : decode cJ5_putStringAt_47b60 6 = .ok (.aload_n 0, 1) := by decide +kernel
theorem dJ5_putStringAt_47b60_7 : decode cJ5_putStringAt_47b60 7 = .ok (.getfield 15, 3) := by decide +kernel
theorem dJ5_putStringAt_47b60_10 : decode cJ5_putStringAt_47b60 10 = .ok (.iload_n 1, 1) := by decide +kernel
theorem dJ5_putStringAt_47b60_11 : decode cJ5_putStringAt_47b60 11 = .ok (.aload_n 0, 1) := by decide +kernel
theorem dJ5_putStringAt_47b60_12 : decode cJ5_putStringAt_47b60 12 = .ok (.getfield 22, 3) := by decide +kernel
theorem dJ5_putStringAt_47b60_15 : decode cJ5_putStringAt_47b60 15 = .ok (.invokevirtual 399, 3) := by decide +kernel
theorem dJ5_putStringAt_47b60_18 : decode cJ5_putStringAt_47b60 18 = .ok (.return_, 1) := by decide +kernel
theorem dJx00060_init_a7421_0 : decode cJx00060_init_a7421 0 = .ok (.aload_n 0, 1) := by decide +kernel
theorem dJx00060_init_a7421_1 : decode cJx00060_init_a7421 1 = .ok (.aload_n 1, 1) := by decide +kernel
theorem dJx00060_init_a7421_2 : decode cJx00060_init_a7421 2 = .ok (.invokespecial 7, 3) := by decide +kernel
theorem dJx00060_init_a7421_5 : decode cJx00060_init_a7421 5 = .ok (.return_, 1) := by decide +kernel
theorem dJ6_getChars_ba4f3_0 : decode cJ6_getChars_ba4f3 0 = .ok (.iload_n 1, 1) := by decide +kernel
theorem dJ6_getChars_ba4f3_1 : decode cJ6_getChars_ba4f3 1 = .ok (.istore 5, 2) := by decide +kernel
theorem dJ6_getChars_ba4f3_3 : decode cJ6_getChars_ba4f3 3 = .ok (.iload_n 0, 1) := by decide +kernel
theorem dJ6_getChars_ba4f3_4 : decode cJ6_getChars_ba4f3 4 = .ok (.ifCond .ge 7, 3) := by decide +kernel
theorem dJ6_getChars_ba4f3_7 : decode cJ6_getChars_ba4f3 7 = .ok (.iconst 1, 1) := by decide +kernel
theorem dJ6_getChars_ba4f3_8 : decode cJ6_getChars_ba4f3 8 = .ok (.goto 4, 3) := by decide +kernel
theorem dJ6_getChars_ba4f3_11 : decode cJ6_getChars_ba4f3 11 = .ok (.iconst 0, 1) := by decide +kernel
theorem dJ6_getChars_ba4f3_12 : decode cJ6_getChars_ba4f3 12 = .ok (.istore 6, 2) := by decide +kernel
theorem dJ6_getChars_ba4f3_14 : decode cJ6_getChars_ba4f3 14 = .ok (.iload 6, 2) := by decide +kernel
theorem dJ6_getChars_ba4f3_16 : decode cJ6_getChars_ba4f3 16 = .ok (.ifCond .ne 6, 3) := by decide +kernel
theorem dJ6_getChars_ba4f3_19 : decode cJ6_getChars_ba4f3 19 = .ok (.iload_n 0, 1) := by decide +kernel
theorem dJ6_getChars_ba4f3_20 : decode cJ6_getChars_ba4f3 20 = .ok (.ineg, 1) := by decide +kernel
theorem dJ6_getChars_ba4f3_21 : decode cJ6_getChars_ba4f3 21 = .ok (.istore_n 0, 1) := by decide +kernel
theorem dJ6_getChars_ba4f3_22 : decode cJ6_getChars_ba4f3 22 = .ok (.iload_n 0, 1) := by decide +kernel
theorem dJ6_getChars_ba4f3_23 : decode cJ6_getChars_ba4f3 23 = .ok (.bipush (-100), 2) := by decide +kernel
theorem dJ6_getChars_ba4f3_25 : decode cJ6_getChars_ba4f3 25 = .ok (.if_icmp .gt 47, 3) := by decide +kernel
theorem dJ6_getChars_ba4f3_28 : decode cJ6_getChars_ba4f3 28 = .ok (.iload_n 0, 1) := by decide +kernel
theorem dJ6_getChars_ba4f3_29 : decode cJ6_getChars_ba4f3 29 = .ok (.bipush 100, 2) := by decide +kernel
theorem dJ6_getChars_ba4f3_31 : decode cJ6_getChars_ba4f3 31 = .ok (.idiv, 1) := by decide +kernel
theorem dJ6_getChars_ba4f3_32 : decode cJ6_getChars_ba4f3 32 = .ok (.istore_n 3, 1) := by decide +kernel
theorem dJ6_getChars_ba4f3_33 : decode cJ6_getChars_ba4f3 33 = .ok (.iload_n 3, 1) := by decide +kernel
theorem dJ6_getChars_ba4f3_34 : decode cJ6_getChars_ba4f3 34 = .ok (.bipush 100, 2) := by decide +kernel
theorem dJ6_getChars_ba4f3_36 : decode cJ6_getChars_ba4f3 36 = .ok (.imul, 1) := by decide +kernel
theorem dJ6_getChars_ba4f3_37 : decode cJ6_getChars_ba4f3 37 = .ok (.iload_n 0, 1) := by decide +kernel
theorem dJ6_getChars_ba4f3_38 : decode cJ6_getChars_ba4f3 38 = .ok (.isub, 1) := by decide +kernel
theorem dJ6_getChars_ba4f3_39 : decode cJ6_getChars_ba4f3 39 = .ok (.istore 4, 2) := by decide +kernel
theorem dJ6_getChars_ba4f3_41 : decode cJ6_getChars_ba4f3 41 = .ok (.iload_n 3, 1) := by decide +kernel
theorem dJ6_getChars_ba4f3_42 : decode cJ6_getChars_ba4f3 42 = .ok (.istore_n 0, 1) := by decide +kernel
theorem dJ6_getChars_ba4f3_43 : decode cJ6_getChars_ba4f3 43 = .ok (.aload_n 2, 1) := by decide +kernel
theorem dJ6_getChars_ba4f3_44 : decode cJ6_getChars_ba4f3 44 = .ok (.iinc 5 (-1), 3) := by decide +kernel
theorem dJ6_getChars_ba4f3_47 : decode cJ6_getChars_ba4f3 47 = .ok (.iload 5, 2) := by decide +kernel
theorem dJ6_getChars_ba4f3_49 : decode cJ6_getChars_ba4f3 49 = .ok (.getstatic 83, 3) := by decide +kernel
theorem dJ6_getChars_ba4f3_52 : decode cJ6_getChars_ba4f3 52 = .ok (.iload 4, 2) := by decide +kernel
theorem dJ6_getChars_ba4f3_54 : decode cJ6_getChars_ba4f3 54 = .ok (.baload, 1) := by decide +kernel
theorem dJ6_getChars_ba4f3_55 : decode cJ6_getChars_ba4f3 55 = .ok (.bastore, 1) := by decide +kernel
theorem dJ6_getChars_ba4f3_56 : decode cJ6_getChars_ba4f3 56 = .ok (.aload_n 2, 1) := by decide +kernel
theorem dJ6_getChars_ba4f3_57 : decode cJ6_getChars_ba4f3 57 = .ok (.iinc 5 (-1), 3) := by decide +kernel
theorem dJ6_getChars_ba4f3_60 : decode cJ6_getChars_ba4f3 60 = .ok (.iload 5, 2) := by decide +kernel
theorem dJ6_getChars_ba4f3_62 : decode cJ6_getChars_ba4f3 62 = .ok (.getstatic 87, 3) := by decide +kernel
theorem dJ6_getChars_ba4f3_65 : decode cJ6_getChars_ba4f3 65 = .ok (.iload 4, 2) := by decide +kernel
theorem dJ6_getChars_ba4f3_67 : decode cJ6_getChars_ba4f3 67 = .ok (.baload, 1) := by decide +kernel
theorem dJ6_getChars_ba4f3_68 : decode cJ6_getChars_ba4f3 68 = .ok (.bastore, 1) := by decide +kernel
theorem dJ6_getChars_ba4f3_69 : decode cJ6_getChars_ba4f3 69 = .ok (.goto (-47), 3) := by decide +kernel
theorem dJ6_getChars_ba4f3_72 : decode cJ6_getChars_ba4f3 72 = .ok (.aload_n 2, 1) := by decide +kernel
theorem dJ6_getChars_ba4f3_73 : decode cJ6_getChars_ba4f3 73 = .ok (.iinc 5 (-1), 3) := by decide +kernel
theorem dJ6_getChars_ba4f3_76 : decode cJ6_getChars_ba4f3 76 = .ok (.iload 5, 2) := by decide +kernel
theorem dJ6_getChars_ba4f3_78 : decode cJ6_getChars_ba4f3 78 = .ok (.getstatic 83, 3) := by decide +kernel
theorem dJ6_getChars_ba4f3_81 : decode cJ6_getChars_ba4f3 81 = .ok (.iload_n 0, 1) := by decide +kernel
theorem dJ6_getChars_ba4f3_82 : decode cJ6_getChars_ba4f3 82 = .ok (.ineg, 1) := by decide +kernel
theorem dJ6_getChars_ba4f3_83 : decode cJ6_getChars_ba4f3 83 = .ok (.baload, 1) := by decide +kernel
theorem dJ6_getChars_ba4f3_84 : decode cJ6_getChars_ba4f3 84 = .ok (.bastore, 1) := by decide +kernel
theorem dJ6_getChars_ba4f3_85 : decode cJ6_getChars_ba4f3 85 = .ok (.iload_n 0, 1) := by decide +kernel
theorem dJ6_getChars_ba4f3_86 : decode cJ6_getChars_ba4f3 86 = .ok (.bipush (-9), 2) := by decide +kernel
theorem dJ6_getChars_ba4f3_88 : decode cJ6_getChars_ba4f3 88 = .ok (.if_icmp .ge 16, 3) := by decide +kernel
theorem dJ6_getChars_ba4f3_91 : decode cJ6_getChars_ba4f3 91 = .ok (.aload_n 2, 1) := by decide +kernel
theorem dJ6_getChars_ba4f3_92 : decode cJ6_getChars_ba4f3 92 = .ok (.iinc 5 (-1), 3) := by decide +kernel
theorem dJ6_getChars_ba4f3_95 : decode cJ6_getChars_ba4f3 95 = .ok (.iload 5, 2) := by decide +kernel
theorem dJ6_getChars_ba4f3_97 : decode cJ6_getChars_ba4f3 97 = .ok (.getstatic 87, 3) := by decide +kernel
theorem dJ6_getChars_ba4f3_100 : decode cJ6_getChars_ba4f3 100 = .ok (.iload_n 0, 1) := by decide +kernel
theorem dJ6_getChars_ba4f3_101 : decode cJ6_getChars_ba4f3 101 = .ok (.ineg, 1) := by decide +kernel
theorem dJ6_getChars_ba4f3_102 : decode cJ6_getChars_ba4f3 102 = .ok (.baload, 1) := by decide +kernel
theorem dJ6_getChars_ba4f3_103 : decode cJ6_getChars_ba4f3 103 = .ok (.bastore, 1) := by decide +kernel
theorem dJ6_getChars_ba4f3_104 : decode cJ6_getChars_ba4f3 104 = .ok (.iload 6, 2) := by decide +kernel
theorem dJ6_getChars_ba4f3_106 : decode cJ6_getChars_ba4f3 106 = .ok (.ifCond .eq 12, 3) := by decide +kernel
theorem dJ6_getChars_ba4f3_109 : decode cJ6_getChars_ba4f3 109 = .ok (.aload_n 2, 1) := by decide +kernel
theorem dJ6_getChars_ba4f3_110 : decode cJ6_getChars_ba4f3 110 = .ok (.iinc 5 (-1), 3) := by decide +kernel
theorem dJ6_getChars_ba4f3_113 : decode cJ6_getChars_ba4f3 113 = .ok (.iload 5, 2) := by decide +kernel
theorem dJ6_getChars_ba4f3_115 : decode cJ6_getChars_ba4f3 115 = .ok (.bipush 45, 2) := by decide +kernel
theorem dJ6_getChars_ba4f3_117 : decode cJ6_getChars_ba4f3 117 = .ok (.bastore, 1) := by decide +kernel
theorem dJ6_getChars_ba4f3_118 : decode cJ6_getChars_ba4f3 118 = .ok (.iload 5, 2) := by decide +kernel
theorem dJ6_getChars_ba4f3_120 : decode cJ6_getChars_ba4f3 120 = .ok (.ireturn, 1) := by decide +kernel
theorem dJ6_stringSize_0f7a4_0 : decode cJ6_stringSize_0f7a4 0 = .ok (.iconst 1, 1) := by decide +kernel
theorem dJ6_stringSize_0f7a4_1 : decode cJ6_stringSize_0f7a4 1 = .ok (.istore_n 1, 1) := by decide +kernel
theorem dJ6_stringSize_0f7a4_2 : decode cJ6_stringSize_0f7a4 2 = .ok (.iload_n 0, 1) := by decide +kernel
theorem dJ6_stringSize_0f7a4_3 : decode cJ6_stringSize_0f7a4 3 = .ok (.ifCond .lt 8, 3) := by decide +kernel
theorem dJ6_stringSize_0f7a4_6 : decode cJ6_stringSize_0f7a4 6 = .ok (.iconst 0, 1) := by decide +kernel
theorem dJ6_stringSize_0f7a4_7 : decode cJ6_stringSize_0f7a4 7 = .ok (.istore_n 1, 1) := by decide +kernel
theorem dJ6_stringSize_0f7a4_8 : decode cJ6_stringSize_0f7a4 8 = .ok (.iload_n 0, 1) := by decide +kernel
theorem dJ6_stringSize_0f7a4_9 : decode cJ6_stringSize_0f7a4 9 = .ok (.ineg, 1) := by decide +kernel
theorem dJ6_stringSize_0f7a4_10 : decode cJ6_stringSize_0f7a4 10 = .ok (.istore_n 0, 1) := by decide +kernel
theorem dJ6_stringSize_0f7a4_11 : decode cJ6_stringSize_0f7a4 11 = .ok (.bipush (-10), 2) := by decide +kernel
theorem dJ6_stringSize_0f7a4_13 : decode cJ6_stringSize_0f7a4 13 = .ok (.istore_n 2, 1) := by decide +kernel
theorem dJ6_stringSize_0f7a4_14 : decode cJ6_stringSize_0f7a4 14 = .ok (.iconst 1, 1) := by decide +kernel
theorem dJ6_stringSize_0f7a4_15 : decode cJ6_stringSize_0f7a4 15 = .ok (.istore_n 3, 1) := by decide +kernel
theorem dJ6_stringSize_0f7a4_16 : decode cJ6_stringSize_0f7a4 16 = .ok (.iload_n 3, 1) := by decide +kernel
theorem dJ6_stringSize_0f7a4_17 : decode cJ6_stringSize_0f7a4 17 = .ok (.bipush 10, 2) := by decide +kernel
theorem dJ6_stringSize_0f7a4_19 : decode cJ6_stringSize_0f7a4 19 = .ok (.if_icmp .ge 23, 3) := by decide +kernel
theorem dJ6_stringSize_0f7a4_22 : decode cJ6_stringSize_0f7a4 22 = .ok (.iload_n 0, 1) := by decide +kernel
theorem dJ6_stringSize_0f7a4_23 : decode cJ6_stringSize_0f7a4 23 = .ok (.iload_n 2, 1) := by decide +kernel
theorem dJ6_stringSize_0f7a4_24 : decode cJ6_stringSize_0f7a4 24 = .ok (.if_icmp .le 7, 3) := by decide +kernel
theorem dJ6_stringSize_0f7a4_27 : decode cJ6_stringSize_0f7a4 27 = .ok (.iload_n 3, 1) := by decide +kernel
theorem dJ6_stringSize_0f7a4_28 : decode cJ6_stringSize_0f7a4 28 = .ok (.iload_n 1, 1) := by decide +kernel
theorem dJ6_stringSize_0f7a4_29 : decode cJ6_stringSize_0f7a4 29 = .ok (.iadd, 1) := by decide +kernel
theorem dJ6_stringSize_0f7a4_30 : decode cJ6_stringSize_0f7a4 30 = .ok (.ireturn, 1) := by decide +kernel
theorem dJ6_stringSize_0f7a4_31 : decode cJ6_stringSize_0f7a4 31 = .ok (.bipush 10, 2) := by decide +kernel
theorem dJ6_stringSize_0f7a4_33 : decode cJ6_stringSize_0f7a4 33 = .ok (.iload_n 2, 1) := by decide +kernel
theorem dJ6_stringSize_0f7a4_34 : decode cJ6_stringSize_0f7a4 34 = .ok (.imul, 1) := by decide +kernel
theorem dJ6_stringSize_0f7a4_35 : decode cJ6_stringSize_0f7a4 35 = .ok (.istore_n 2, 1) := by decide +kernel
theorem dJ6_stringSize_0f7a4_36 : decode cJ6_stringSize_0f7a4 36 = .ok (.iinc 3 1, 3) := by decide +kernel
theorem dJ6_stringSize_0f7a4_39 : decode cJ6_stringSize_0f7a4 39 = .ok (.goto (-23), 3) := by decide +kernel
theorem dJ6_stringSize_0f7a4_42 : decode cJ6_stringSize_0f7a4 42 = .ok (.bipush 10, 2) := by decide +kernel
theorem dJ6_stringSize_0f7a4_44 : decode cJ6_stringSize_0f7a4 44 = .ok (.iload_n 1, 1) := by decide +kernel
theorem dJ6_stringSize_0f7a4_45 : decode cJ6_stringSize_0f7a4 45 = .ok (.iadd, 1) := by decide +kernel
theorem dJ6_stringSize_0f7a4_46 : decode cJ6_stringSize_0f7a4 46 = .ok (.ireturn, 1) := by decide +kernel
theorem dJ9_max_7cf53_0 : decode cJ9_max_7cf53 0 = .ok (.iload_n 0, 1) := by decide +kernel
theorem dJ9_max_7cf53_1 : decode cJ9_max_7cf53 1 = .ok (.iload_n 1, 1) := by decide +kernel
theorem dJ9_max_7cf53_2 : decode cJ9_max_7cf53 2 = .ok (.if_icmp .lt 7, 3) := by decide +kernel
theorem dJ9_max_7cf53_5 : decode cJ9_max_7cf53 5 = .ok (.iload_n 0, 1) := by decide +kernel
theorem dJ9_max_7cf53_6 : decode cJ9_max_7cf53 6 = .ok (.goto 4, 3) := by decide +kernel
theorem dJ9_max_7cf53_9 : decode cJ9_max_7cf53 9 = .ok (.iload_n 1, 1) := by decide +kernel
theorem dJ9_max_7cf53_10 : decode cJ9_max_7cf53 10 = .ok (.ireturn, 1) := by decide +kernel
theorem dJ9_min_7cf53_0 : decode cJ9_min_7cf53 0 = .ok (.iload_n 0, 1) := by decide +kernel
theorem dJ9_min_7cf53_1 : decode cJ9_min_7cf53 1 = .ok (.iload_n 1, 1) := by decide +kernel
theorem dJ9_min_7cf53_2 : decode cJ9_min_7cf53 2 = .ok (.if_icmp .gt 7, 3) := by decide +kernel
theorem dJ9_min_7cf53_5 : decode cJ9_min_7cf53 5 = .ok (.iload_n 0, 1) := by decide +kernel
theorem dJ9_min_7cf53_6 : decode cJ9_min_7cf53 6 = .ok (.goto 4, 3) := by decide +kernel
theorem dJ9_min_7cf53_9 : decode cJ9_min_7cf53 9 = .ok (.iload_n 1, 1) := by decide +kernel
theorem dJ9_min_7cf53_10 : decode cJ9_min_7cf53 10 = .ok (.ireturn, 1) := by decide +kernel
theorem dJ0_init_81219_0 : decode cJ0_init_81219 0 = .ok (.aload_n 0, 1) := by decide +kernel
theorem dJ0_init_81219_1 : decode cJ0_init_81219 1 = .ok (.aload_n 1, 1) := by decide +kernel
theorem dJ0_init_81219_2 : decode cJ0_init_81219 2 = .ok (.aconst_null, 1) := by decide +kernel
theorem dJ0_init_81219_3 : decode cJ0_init_81219 3 = .ok (.invokespecial 489, 3) := by decide +kernel
theorem dJ0_init_81219_6 : decode cJ0_init_81219 6 = .ok (.return_, 1) := by decide +kernel
theorem dJ0_length_8abf5_0 : decode cJ0_length_8abf5 0 = .ok (.aload_n 0, 1) := by decide +kernel
theorem dJ0_length_8abf5_1 : decode cJ0_length_8abf5 1 = .ok (.getfield 9, 3) := by decide +kernel
theorem dJ0_length_8abf5_4 : decode cJ0_length_8abf5 4 = .ok (.arraylength, 1) := by decide +kernel
theorem dJ0_length_8abf5_5 : decode cJ0_length_8abf5 5 = .ok (.aload_n 0, 1) := by decide +kernel
theorem dJ0_length_8abf5_6 : decode cJ0_length_8abf5 6 = .ok (.invokevirtual 335, 3) := by decide +kernel
theorem dJ0_length_8abf5_9 : decode cJ0_length_8abf5 9 = .ok (.ishr, 1) := by decide +kernel
theorem dJ0_length_8abf5_10 : decode cJ0_length_8abf5 10 = .ok (.ireturn, 1) := by decide +kernel
theorem dJ0_charAt_5068e_0 : decode cJ0_charAt_5068e 0 = .ok (.aload_n 0, 1) := by decide +kernel
theorem dJ0_charAt_5068e_1 : decode cJ0_charAt_5068e 1 = .ok (.invokevirtual 492, 3) := by decide +kernel
theorem dJ0_charAt_5068e_4 : decode cJ0_charAt_5068e 4 = .ok (.ifCond .eq 12, 3) := by decide +kernel
theorem dJ0_charAt_5068e_7 : decode cJ0_charAt_5068e 7 = .ok (.aload_n 0, 1) := by decide +kernel
theorem dJ0_charAt_5068e_8 : decode cJ0_charAt_5068e 8 = .ok (.getfield 9, 3) := by decide +kernel
theorem dJ0_charAt_5068e_11 : decode cJ0_charAt_5068e 11 = .ok (.iload_n 1, 1) := by decide +kernel
theorem dJ0_charAt_5068e_12 : decode cJ0_charAt_5068e 12 = .ok (.invokestatic 495, 3) := by decide +kernel
theorem dJ0_charAt_5068e_15 : decode cJ0_charAt_5068e 15 = .ok (.ireturn, 1) := by decide +kernel
theorem dJ0_charAt_5068e_16 : decode cJ0_charAt_5068e 16 = .ok (.aload_n 0, 1) := by decide +kernel
theorem dJ0_charAt_5068e_17 : decode cJ0_charAt_5068e 17 = .ok (.getfield 9, 3) := by decide +kernel
theorem dJ0_charAt_5068e_20 : decode cJ0_charAt_5068e 20 = .ok (.iload_n 1, 1) := by decide +kernel
theorem dJ0_charAt_5068e_21 : decode cJ0_charAt_5068e 21 = .ok (.invokestatic 498, 3) := by decide +kernel
theorem dJ0_charAt_5068e_24 : decode cJ0_charAt_5068e 24 = .ok (.ireturn, 1) := by decide +kernel
theorem dJ0_getBytes_840e7_0 : decode cJ0_getBytes_840e7 0 = .ok (.aload_n 0, 1) := by decide +kernel
theorem dJ0_getBytes_840e7_1 : decode cJ0_getBytes_840e7 1 = .ok (.invokevirtual 335, 3) := by decide +kernel
theorem dJ0_getBytes_840e7_4 : decode cJ0_getBytes_840e7 4 = .ok (.iload_n 3, 1) := by decide +kernel
theorem dJ0_getBytes_840e7_5 : decode cJ0_getBytes_840e7 5 = .ok (.if_icmp .ne 23, 3) := by decide +kernel
theorem dJ0_getBytes_840e7_8 : decode cJ0_getBytes_840e7 8 = .ok (.aload_n 0, 1) := by decide +kernel
theorem dJ0_getBytes_840e7_9 : decode cJ0_getBytes_840e7 9 = .ok (.getfield 9, 3) := by decide +kernel
theorem dJ0_getBytes_840e7_12 : decode cJ0_getBytes_840e7 12 = .ok (.iconst 0, 1) := by decide +kernel
theorem dJ0_getBytes_840e7_13 : decode cJ0_getBytes_840e7 13 = .ok (.aload_n 1, 1) := by decide +kernel
theorem dJ0_getBytes_840e7_14 : decode cJ0_getBytes_840e7 14 = .ok (.iload_n 2, 1) := by decide +kernel
theorem dJ0_getBytes_840e7_15 : decode cJ0_getBytes_840e7 15 = .ok (.iload_n 3, 1) := by decide +kernel
theorem dJ0_getBytes_840e7_16 : decode cJ0_getBytes_840e7 16 = .ok (.ishl, 1) := by decide +kernel
theorem dJ0_getBytes_840e7_17 : decode cJ0_getBytes_840e7 17 = .ok (.aload_n 0, 1) := by decide +kernel
theorem dJ0_getBytes_840e7_18 : decode cJ0_getBytes_840e7 18 = .ok (.getfield 9, 3) := by decide +kernel
theorem dJ0_getBytes_840e7_21 : decode cJ0_getBytes_840e7 21 = .ok (.arraylength, 1) := by decide +kernel
theorem dJ0_getBytes_840e7_22 : decode cJ0_getBytes_840e7 22 = .ok (.invokestatic 212, 3) := by decide +kernel
theorem dJ0_getBytes_840e7_25 : decode cJ0_getBytes_840e7 25 = .ok (.goto 18, 3) := by decide +kernel
theorem dJ0_getBytes_840e7_28 : decode cJ0_getBytes_840e7 28 = .ok (.aload_n 0, 1) := by decide +kernel
theorem dJ0_getBytes_840e7_29 : decode cJ0_getBytes_840e7 29 = .ok (.getfield 9, 3) := by decide +kernel
theorem dJ0_getBytes_840e7_32 : decode cJ0_getBytes_840e7 32 = .ok (.iconst 0, 1) := by decide +kernel
theorem dJ0_getBytes_840e7_33 : decode cJ0_getBytes_840e7 33 = .ok (.aload_n 1, 1) := by decide +kernel
theorem dJ0_getBytes_840e7_34 : decode cJ0_getBytes_840e7 34 = .ok (.iload_n 2, 1) := by decide +kernel
theorem dJ0_getBytes_840e7_35 : decode cJ0_getBytes_840e7 35 = .ok (.aload_n 0, 1) := by decide +kernel
theorem dJ0_getBytes_840e7_36 : decode cJ0_getBytes_840e7 36 = .ok (.getfield 9, 3) := by decide +kernel
theorem dJ0_getBytes_840e7_39 : decode cJ0_getBytes_840e7 39 = .ok (.arraylength, 1) := by decide +kernel
theorem dJ0_getBytes_840e7_40 : decode cJ0_getBytes_840e7 40 = .ok (.invokestatic 106, 3) := by decide +kernel
theorem dJ0_getBytes_840e7_43 : decode cJ0_getBytes_840e7 43 = .ok (.return_, 1) := by decide +kernel
theorem dJ0_init_db425_0 : decode cJ0_init_db425 0 = .ok (.aload_n 0, 1) := by decide +kernel
theorem dJ0_init_db425_1 : decode cJ0_init_db425 1 = .ok (.invokespecial 1, 3) := by decide +kernel
theorem dJ0_init_db425_4 : decode cJ0_init_db425 4 = .ok (.aload_n 1, 1) := by decide +kernel
theorem dJ0_init_db425_5 : decode cJ0_init_db425 5 = .ok (.invokevirtual 552, 3) := by decide +kernel
theorem dJ0_init_db425_8 : decode cJ0_init_db425 8 = .ok (.astore_n 3, 1) := by decide +kernel
theorem dJ0_init_db425_9 : decode cJ0_init_db425 9 = .ok (.aload_n 1, 1) := by decide +kernel
theorem dJ0_init_db425_10 : decode cJ0_init_db425 10 = .ok (.invokevirtual 549, 3) := by decide +kernel
theorem dJ0_init_db425_13 : decode cJ0_init_db425 13 = .ok (.istore 4, 2) := by decide +kernel
theorem dJ0_init_db425_15 : decode cJ0_init_db425 15 = .ok (.aload_n 1, 1) := by decide +kernel
theorem dJ0_init_db425_16 : decode cJ0_init_db425 16 = .ok (.invokevirtual 1047, 3) := by decide +kernel
theorem dJ0_init_db425_19 : decode cJ0_init_db425 19 = .ok (.ifCond .eq 22, 3) := by decide +kernel
theorem dJ0_init_db425_22 : decode cJ0_init_db425 22 = .ok (.aload_n 0, 1) := by decide +kernel
theorem dJ0_init_db425_23 : decode cJ0_init_db425 23 = .ok (.iconst 0, 1) := by decide +kernel
theorem dJ0_init_db425_24 : decode cJ0_init_db425 24 = .ok (.putfield 15, 3) := by decide +kernel
theorem dJ0_init_db425_27 : decode cJ0_init_db425 27 = .ok (.aload_n 0, 1) := by decide +kernel
theorem dJ0_init_db425_28 : decode cJ0_init_db425 28 = .ok (.aload_n 3, 1) := by decide +kernel
theorem dJ0_init_db425_29 : decode cJ0_init_db425 29 = .ok (.iconst 0, 1) := by decide +kernel
theorem dJ0_init_db425_30 : decode cJ0_init_db425 30 = .ok (.iload 4, 2) := by decide +kernel
theorem dJ0_init_db425_32 : decode cJ0_init_db425 32 = .ok (.invokestatic 54, 3) := by decide +kernel
theorem dJ0_init_db425_35 : decode cJ0_init_db425 35 = .ok (.putfield 9, 3) := by decide +kernel
theorem dJ0_init_db425_38 : decode cJ0_init_db425 38 = .ok (.goto 59, 3) := by decide +kernel
theorem dJ0_init_db425_41 : decode cJ0_init_db425 41 = .ok (.getstatic 38, 3) := by decide +kernel
theorem dJ0_init_db425_44 : decode cJ0_init_db425 44 = .ok (.ifCond .eq 35, 3) := by decide +kernel
theorem dJ0_init_db425_47 : decode cJ0_init_db425 47 = .ok (.aload_n 1, 1) := by decide +kernel
theorem dJ0_init_db425_48 : decode cJ0_init_db425 48 = .ok (.getfield 1048, 3) := by decide +kernel
theorem dJ0_init_db425_51 : decode cJ0_init_db425 51 = .ok (.ifCond .eq 28, 3) := by decide +kernel
theorem dJ0_init_db425_54 : decode cJ0_init_db425 54 = .ok (.aload_n 0, 1) := by decide +kernel
theorem dJ0_init_db425_55 : decode cJ0_init_db425 55 = .ok (.aload_n 3, 1) := by decide +kernel
theorem dJ0_init_db425_56 : decode cJ0_init_db425 56 = .ok (.iconst 0, 1) := by decide +kernel
theorem dJ0_init_db425_57 : decode cJ0_init_db425 57 = .ok (.iload 4, 2) := by decide +kernel
theorem dJ0_init_db425_59 : decode cJ0_init_db425 59 = .ok (.invokestatic 1051, 3) := by decide +kernel
theorem dJ0_init_db425_62 : decode cJ0_init_db425 62 = .ok (.putfield 9, 3) := by decide +kernel
theorem dJ0_init_db425_65 : decode cJ0_init_db425 65 = .ok (.aload_n 0, 1) := by decide +kernel
theorem dJ0_init_db425_66 : decode cJ0_init_db425 66 = .ok (.aload_n 0, 1) := by decide +kernel
theorem dJ0_init_db425_67 : decode cJ0_init_db425 67 = .ok (.getfield 9, 3) := by decide +kernel
theorem dJ0_init_db425_70 : decode cJ0_init_db425 70 = .ok (.iload 4, 2) := by decide +kernel
theorem dJ0_init_db425_72 : decode cJ0_init_db425 72 = .ok (.invokestatic 47, 3) := by decide +kernel
theorem dJ0_init_db425_75 : decode cJ0_init_db425 75 = .ok (.putfield 15, 3) := by decide +kernel
theorem dJ0_init_db425_78 : decode cJ0_init_db425 78 = .ok (.return_, 1) := by decide +kernel
theorem dJ0_init_db425_79 : decode cJ0_init_db425 79 = .ok (.aload_n 0, 1) := by decide +kernel
theorem dJ0_init_db425_80 : decode cJ0_init_db425 80 = .ok (.iconst 1, 1) := by decide +kernel
theorem dJ0_init_db425_81 : decode cJ0_init_db425 81 = .ok (.putfield 15, 3) := by decide +kernel
theorem dJ0_init_db425_84 : decode cJ0_init_db425 84 = .ok (.aload_n 0, 1) := by decide +kernel
theorem dJ0_init_db425_85 : decode cJ0_init_db425 85 = .ok (.aload_n 3, 1) := by decide +kernel
theorem dJ0_init_db425_86 : decode cJ0_init_db425 86 = .ok (.iconst 0, 1) := by decide +kernel
theorem dJ0_init_db425_87 : decode cJ0_init_db425 87 = .ok (.iload 4, 2) := by decide +kernel
theorem dJ0_init_db425_89 : decode cJ0_init_db425 89 = .ok (.iconst 1, 1) := by decide +kernel
theorem dJ0_init_db425_90 : decode cJ0_init_db425 90 = .ok (.ishl, 1) := by decide +kernel
theorem dJ0_init_db425_91 : decode cJ0_init_db425 91 = .ok (.invokestatic 54, 3) := by decide +kernel
theorem dJ0_init_db425_94 : decode cJ0_init_db425 94 = .ok (.putfield 9, 3) := by decide +kernel
theorem dJ0_init_db425_97 : decode cJ0_init_db425 97 = .ok (.return_, 1) := by decide +kernel
theorem dJ0_coder_7d493_0 : decode cJ0_coder_7d493 0 = .ok (.getstatic 38, 3) := by decide +kernel
theorem dJ0_coder_7d493_3 : decode cJ0_coder_7d493 3 = .ok (.ifCond .eq 10, 3) := by decide +kernel
theorem dJ0_coder_7d493_6 : decode cJ0_coder_7d493 6 = .ok (.aload_n 0, 1) := by decide +kernel
theorem dJ0_coder_7d493_7 : decode cJ0_coder_7d493 7 = .ok (.getfield 15, 3) := by decide +kernel
theorem dJ0_coder_7d493_10 : decode cJ0_coder_7d493 10 = .ok (.goto 4, 3) := by decide +kernel
theorem dJ0_coder_7d493_13 : decode cJ0_coder_7d493 13 = .ok (.iconst 1, 1) := by decide +kernel
theorem dJ0_coder_7d493_14 : decode cJ0_coder_7d493 14 = .ok (.ireturn, 1) := by decide +kernel
theorem dJ0_isLatin1_aae02_0 : decode cJ0_isLatin1_aae02 0 = .ok (.getstatic 38, 3) := by decide +kernel
theorem dJ0_isLatin1_aae02_3 : decode cJ0_isLatin1_aae02 3 = .ok (.ifCond .eq 14, 3) := by decide +kernel
theorem dJ0_isLatin1_aae02_6 : decode cJ0_isLatin1_aae02 6 = .ok (.aload_n 0, 1) := by decide +kernel
theorem dJ0_isLatin1_aae02_7 : decode cJ0_isLatin1_aae02 7 = .ok (.getfield 15, 3) := by decide +kernel
theorem dJ0_isLatin1_aae02_10 : decode cJ0_isLatin1_aae02 10 = .ok (.ifCond .ne 7, 3) := by decide +kernel
theorem dJ0_isLatin1_aae02_13 : decode cJ0_isLatin1_aae02 13 = .ok (.iconst 1, 1) := by decide +kernel
theorem dJ0_isLatin1_aae02_14 : decode cJ0_isLatin1_aae02 14 = .ok (.goto 4, 3) := by decide +kernel
theorem dJ0_isLatin1_aae02_17 : decode cJ0_isLatin1_aae02 17 = .ok (.iconst 0, 1) := by decide +kernel
theorem dJ0_isLatin1_aae02_18 : decode cJ0_isLatin1_aae02 18 = .ok (.ireturn, 1) := by decide +kernel
theorem dJ0_checkIndex_df160_0 : decode cJ0_checkIndex_df160 0 = .ok (.iload_n 0, 1) := by decide +kernel
theorem dJ0_checkIndex_df160_1 : decode cJ0_checkIndex_df160 1 = .ok (.iload_n 1, 1) := by decide +kernel
theorem dJ0_checkIndex_df160_2 : decode cJ0_checkIndex_df160 2 = .ok (.getstatic 1053, 3) := by decide +kernel
theorem dJ0_checkIndex_df160_5 : decode cJ0_checkIndex_df160 5 = .ok (.invokestatic 1059, 3) := by decide +kernel
theorem dJ0_checkIndex_df160_8 : decode cJ0_checkIndex_df160 8 = .ok (.pop, 1) := by decide +kernel
theorem dJ0_checkIndex_df160_9 : decode cJ0_checkIndex_df160 9 = .ok (.return_, 1) := by decide +kernel
theorem dJ0_checkBoundsOffCount_cabcc_0 : decode cJ0_checkBoundsOffCount_cabcc 0 = .ok (.iload_n 0, 1) := by decide +kernel
theorem dJ0_checkBoundsOffCount_cabcc_1 : decode cJ0_checkBoundsOffCount_cabcc 1 = .ok (.iload_n 1, 1) := by decide +kernel
theorem dJ0_checkBoundsOffCount_cabcc_2 : decode cJ0_checkBoundsOffCount_cabcc 2 = .ok (.iload_n 2, 1) := by decide +kernel
theorem dJ0_checkBoundsOffCount_cabcc_3 : decode cJ0_checkBoundsOffCount_cabcc 3 = .ok (.getstatic 1053, 3) := by decide +kernel
theorem dJ0_checkBoundsOffCount_cabcc_6 : decode cJ0_checkBoundsOffCount_cabcc 6 = .ok (.invokestatic 1065, 3) := by decide +kernel
theorem dJ0_checkBoundsOffCount_cabcc_9 : decode cJ0_checkBoundsOffCount_cabcc 9 = .ok (.ireturn, 1) := by decide +kernel
theorem dJ0_checkBoundsBeginEnd_23922_0 : decode cJ0_checkBoundsBeginEnd_23922 0 = .ok (.iload_n 0, 1) := by decide +kernel
theorem dJ0_checkBoundsBeginEnd_23922_1 : decode cJ0_checkBoundsBeginEnd_23922 1 = .ok (.iload_n 1, 1) := by decide +kernel
theorem dJ0_checkBoundsBeginEnd_23922_2 : decode cJ0_checkBoundsBeginEnd_23922 2 = .ok (.iload_n 2, 1) := by decide +kernel
theorem dJ0_checkBoundsBeginEnd_23922_3 : decode cJ0_checkBoundsBeginEnd_23922 3 = .ok (.getstatic 1053, 3) := by decide +kernel
theorem dJ0_checkBoundsBeginEnd_23922_6 : decode cJ0_checkBoundsBeginEnd_23922 6 = .ok (.invokestatic 1062, 3) := by decide +kernel
theorem dJ0_checkBoundsBeginEnd_23922_9 : decode cJ0_checkBoundsBeginEnd_23922 9 = .ok (.pop, 1) := by decide +kernel
theorem dJ0_checkBoundsBeginEnd_23922_10 : decode cJ0_checkBoundsBeginEnd_23922 10 = .ok (.return_, 1) := by decide +kernel
theorem dJ4_init_da8c8_0 : decode cJ4_init_da8c8 0 = .ok (.aload_n 0, 1) := by decide +kernel
theorem dJ4_init_da8c8_1 : decode cJ4_init_da8c8 1 = .ok (.bipush 16, 2) := by decide +kernel
theorem dJ4_init_da8c8_3 : decode cJ4_init_da8c8 3 = .ok (.invokespecial 1, 3) := by decide +kernel
theorem dJ4_init_da8c8_6 : decode cJ4_init_da8c8 6 = .ok (.return_, 1) := by decide +kernel
theorem dJ4_append_15ec4_0 : decode cJ4_append_15ec4 0 = .ok (.aload_n 0, 1) := by decide +kernel
theorem dJ4_append_15ec4_1 : decode cJ4_append_15ec4 1 = .ok (.aload_n 1, 1) := by decide +kernel
theorem dJ4_append_15ec4_2 : decode cJ4_append_15ec4 2 = .ok (.invokespecial 29, 3) := by decide +kernel
theorem dJ4_append_15ec4_5 : decode cJ4_append_15ec4 5 = .ok (.pop, 1) := by decide +kernel
theorem dJ4_append_15ec4_6 : decode cJ4_append_15ec4 6 = .ok (.aload_n 0, 1) := by decide +kernel
theorem dJ4_append_15ec4_7 : decode cJ4_append_15ec4 7 = .ok (.areturn, 1) := by decide +kernel
theorem dJ4_append_bf812_0 : decode cJ4_append_bf812 0 = .ok (.aload_n 0, 1) := by decide +kernel
theorem dJ4_append_bf812_1 : decode cJ4_append_bf812 1 = .ok (.iload_n 1, 1) := by decide +kernel
theorem dJ4_append_bf812_2 : decode cJ4_append_bf812 2 = .ok (.invokespecial 53, 3) := by decide +kernel
theorem dJ4_append_bf812_5 : decode cJ4_append_bf812 5 = .ok (.pop, 1) := by decide +kernel
theorem dJ4_append_bf812_6 : decode cJ4_append_bf812 6 = .ok (.aload_n 0, 1) := by decide +kernel
theorem dJ4_append_bf812_7 : decode cJ4_append_bf812 7 = .ok (.areturn, 1) := by decide +kernel
theorem dJ4_toString_0e30d_0 : decode cJ4_toString_0e30d 0 = .ok (.new 18, 3) := by decide +kernel
theorem dJ4_toString_0e30d_3 : decode cJ4_toString_0e30d 3 = .ok (.dup, 1) := by decide +kernel
theorem dJ4_toString_0e30d_4 : decode cJ4_toString_0e30d 4 = .ok (.aload_n 0, 1) := by decide +kernel
theorem dJ4_toString_0e30d_5 : decode cJ4_toString_0e30d 5 = .ok (.invokespecial 137, 3) := by decide +kernel
theorem dJ4_toString_0e30d_8 : decode cJ4_toString_0e30d 8 = .ok (.areturn, 1) := by decide +kernel
theorem dJ4_length_8abf5_0 : decode cJ4_length_8abf5 0 = .ok (.aload_n 0, 1) := by decide +kernel
theorem dJ4_length_8abf5_1 : decode cJ4_length_8abf5 1 = .ok (.invokespecial 343, 3) := by decide +kernel
theorem dJ4_length_8abf5_4 : decode cJ4_length_8abf5 4 = .ok (.ireturn, 1) := by decide +kernel
theorem dJ1_charAt_3b067_0 : decode cJ1_charAt_3b067 0 = .ok (.iload_n 1, 1) := by decide +kernel
theorem dJ1_charAt_3b067_1 : decode cJ1_charAt_3b067 1 = .ok (.aload_n 0, 1) := by decide +kernel
theorem dJ1_charAt_3b067_2 : decode cJ1_charAt_3b067 2 = .ok (.arraylength, 1) := by decide +kernel
theorem dJ1_charAt_3b067_3 : decode cJ1_charAt_3b067 3 = .ok (.invokestatic 9, 3) := by decide +kernel
theorem dJ1_charAt_3b067_6 : decode cJ1_charAt_3b067 6 = .ok (.aload_n 0, 1) := by decide +kernel
theorem dJ1_charAt_3b067_7 : decode cJ1_charAt_3b067 7 = .ok (.iload_n 1, 1) := by decide +kernel
theorem dJ1_charAt_3b067_8 : decode cJ1_charAt_3b067 8 = .ok (.baload, 1) := by decide +kernel
theorem dJ1_charAt_3b067_9 : decode cJ1_charAt_3b067 9 = .ok (.sipush 255, 3) := by decide +kernel
theorem dJ1_charAt_3b067_12 : decode cJ1_charAt_3b067 12 = .ok (.iand, 1) := by decide +kernel
theorem dJ1_charAt_3b067_13 : decode cJ1_charAt_3b067 13 = .ok (.i2c, 1) := by decide +kernel
theorem dJ1_charAt_3b067_14 : decode cJ1_charAt_3b067 14 = .ok (.ireturn, 1) := by decide +kernel
theorem dJ1_inflate_0e8fd_0 : decode cJ1_inflate_0e8fd 0 = .ok (.aload_n 0, 1) := by decide +kernel
theorem dJ1_inflate_0e8fd_1 : decode cJ1_inflate_0e8fd 1 = .ok (.iload_n 1, 1) := by decide +kernel
theorem dJ1_inflate_0e8fd_2 : decode cJ1_inflate_0e8fd 2 = .ok (.aload_n 2, 1) := by decide +kernel
theorem dJ1_inflate_0e8fd_3 : decode cJ1_inflate_0e8fd 3 = .ok (.iload_n 3, 1) := by decide +kernel
theorem dJ1_inflate_0e8fd_4 : decode cJ1_inflate_0e8fd 4 = .ok (.iload 4, 2) := by decide +kernel
theorem dJ1_inflate_0e8fd_6 : decode cJ1_inflate_0e8fd 6 = .ok (.invokestatic 240, 3) := by decide +kernel
theorem dJ1_inflate_0e8fd_9 : decode cJ1_inflate_0e8fd 9 = .ok (.return_, 1) := by decide +kernel
theorem dJ2_newBytesFor_77867_0 : decode cJ2_newBytesFor_77867 0 = .ok (.iload_n 0, 1) := by decide +kernel
theorem dJ2_newBytesFor_77867_1 : decode cJ2_newBytesFor_77867 1 = .ok (.invokestatic 11, 3) := by decide +kernel
theorem dJ2_newBytesFor_77867_4 : decode cJ2_newBytesFor_77867 4 = .ok (.newarray .byte, 2) := by decide +kernel
theorem dJ2_newBytesFor_77867_6 : decode cJ2_newBytesFor_77867 6 = .ok (.areturn, 1) := by decide +kernel
theorem dJ2_newBytesLength_0f7a4_0 : decode cJ2_newBytesLength_0f7a4 0 = .ok (.iload_n 0, 1) := by decide +kernel
theorem dJ2_newBytesLength_0f7a4_1 : decode cJ2_newBytesLength_0f7a4 1 = .ok (.ifCond .ge 11, 3) := by decide +kernel
theorem dJ2_newBytesLength_0f7a4_4 : decode cJ2_newBytesLength_0f7a4 4 = .ok (.new 17, 3) := by decide +kernel
theorem dJ2_newBytesLength_0f7a4_7 : decode cJ2_newBytesLength_0f7a4 7 = .ok (.dup, 1) := by decide +kernel
theorem dJ2_newBytesLength_0f7a4_8 : decode cJ2_newBytesLength_0f7a4 8 = .ok (.invokespecial 19, 3) := by decide +kernel
theorem dJ2_newBytesLength_0f7a4_11 : decode cJ2_newBytesLength_0f7a4 11 = .ok (.athrow, 1) := by decide +kernel
theorem dJ2_newBytesLength_0f7a4_12 : decode cJ2_newBytesLength_0f7a4 12 = .ok (.iload_n 0, 1) := by decide +kernel
theorem dJ2_newBytesLength_0f7a4_13 : decode cJ2_newBytesLength_0f7a4 13 = .ok (.ldc 20, 2) := by decide +kernel
theorem dJ2_newBytesLength_0f7a4_15 : decode cJ2_newBytesLength_0f7a4 15 = .ok (.if_icmp .lt 40, 3) := by decide +kernel
theorem dJ2_newBytesLength_0f7a4_18 : decode cJ2_newBytesLength_0f7a4 18 = .ok (.new 21, 3) := by decide +kernel
theorem dJ2_newBytesLength_0f7a4_21 : decode cJ2_newBytesLength_0f7a4 21 = .ok (.dup, 1) := by decide +kernel
theorem dJ2_newBytesLength_0f7a4_22 : decode cJ2_newBytesLength_0f7a4 22 = .ok (.new 23, 3) := by decide +kernel
theorem dJ2_newBytesLength_0f7a4_25 : decode cJ2_newBytesLength_0f7a4 25 = .ok (.dup, 1) := by decide +kernel
theorem dJ2_newBytesLength_0f7a4_26 : decode cJ2_newBytesLength_0f7a4 26 = .ok (.invokespecial 25, 3) := by decide +kernel
theorem dJ2_newBytesLength_0f7a4_29 : decode cJ2_newBytesLength_0f7a4 29 = .ok (.ldc 26, 2) := by decide +kernel
theorem dJ2_newBytesLength_0f7a4_31 : decode cJ2_newBytesLength_0f7a4 31 = .ok (.invokevirtual 28, 3) := by decide +kernel
theorem dJ2_newBytesLength_0f7a4_34 : decode cJ2_newBytesLength_0f7a4 34 = .ok (.iload_n 0, 1) := by decide +kernel
theorem dJ2_newBytesLength_0f7a4_35 : decode cJ2_newBytesLength_0f7a4 35 = .ok (.invokevirtual 32, 3) := by decide +kernel
theorem dJ2_newBytesLength_0f7a4_38 : decode cJ2_newBytesLength_0f7a4 38 = .ok (.ldc 35, 2) := by decide +kernel
theorem dJ2_newBytesLength_0f7a4_40 : decode cJ2_newBytesLength_0f7a4 40 = .ok (.invokevirtual 28, 3) := by decide +kernel
theorem dJ2_newBytesLength_0f7a4_43 : decode cJ2_newBytesLength_0f7a4 43 = .ok (.ldc 20, 2) := by decide +kernel
theorem dJ2_newBytesLength_0f7a4_45 : decode cJ2_newBytesLength_0f7a4 45 = .ok (.invokevirtual 32, 3) := by decide +kernel
theorem dJ2_newBytesLength_0f7a4_48 : decode cJ2_newBytesLength_0f7a4 48 = .ok (.invokevirtual 37, 3) := by decide +kernel
theorem dJ2_newBytesLength_0f7a4_51 : decode cJ2_newBytesLength_0f7a4 51 = .ok (.invokespecial 41, 3) := by decide +kernel
theorem dJ2_newBytesLength_0f7a4_54 : decode cJ2_newBytesLength_0f7a4 54 = .ok (.athrow, 1) := by decide +kernel
theorem dJ2_newBytesLength_0f7a4_55 : decode cJ2_newBytesLength_0f7a4 55 = .ok (.iload_n 0, 1) := by decide +kernel
theorem dJ2_newBytesLength_0f7a4_56 : decode cJ2_newBytesLength_0f7a4 56 = .ok (.iconst 1, 1) := by decide +kernel
theorem dJ2_newBytesLength_0f7a4_57 : decode cJ2_newBytesLength_0f7a4 57 = .ok (.ishl, 1) := by decide +kernel
theorem dJ2_newBytesLength_0f7a4_58 : decode cJ2_newBytesLength_0f7a4 58 = .ok (.ireturn, 1) := by decide +kernel
theorem dJ2_putChar_b72d1_0 : decode cJ2_putChar_b72d1 0 = .ok (.getstatic 44, 3) := by decide +kernel
theorem dJ2_putChar_b72d1_3 : decode cJ2_putChar_b72d1 3 = .ok (.ifCond .ne 25, 3) := by decide +kernel
theorem dJ2_putChar_b72d1_6 : decode cJ2_putChar_b72d1 6 = .ok (.iload_n 1, 1) := by decide +kernel
theorem dJ2_putChar_b72d1_7 : decode cJ2_putChar_b72d1 7 = .ok (.ifCond .lt 11, 3) := by decide +kernel
theorem dJ2_putChar_b72d1_10 : decode cJ2_putChar_b72d1 10 = .ok (.iload_n 1, 1) := by decide +kernel
theorem dJ2_putChar_b72d1_11 : decode cJ2_putChar_b72d1 11 = .ok (.aload_n 0, 1) := by decide +kernel
theorem dJ2_putChar_b72d1_12 : decode cJ2_putChar_b72d1 12 = .ok (.invokestatic 48, 3) := by decide +kernel
theorem dJ2_putChar_b72d1_15 : decode cJ2_putChar_b72d1 15 = .ok (.if_icmp .lt 13, 3) := by decide +kernel
theorem dJ2_putChar_b72d1_18 : decode cJ2_putChar_b72d1 18 = .ok (.new 52, 3) := by decide +kernel
theorem dJ2_putChar_b72d1_21 : decode cJ2_putChar_b72d1 21 = .ok (.dup, 1) := by decide +kernel
theorem dJ2_putChar_b72d1_22 : decode cJ2_putChar_b72d1 22 = .ok (.ldc 54, 2) := by decide +kernel
theorem dJ2_putChar_b72d1_24 : decode cJ2_putChar_b72d1 24 = .ok (.invokespecial 56, 3) := by decide +kernel
theorem dJ2_putChar_b72d1_27 : decode cJ2_putChar_b72d1 27 = .ok (.athrow, 1) := by decide +kernel
theorem dJ2_putChar_b72d1_28 : decode cJ2_putChar_b72d1 28 = .ok (.iload_n 1, 1) := by decide +kernel
theorem dJ2_putChar_b72d1_29 : decode cJ2_putChar_b72d1 29 = .ok (.iconst 1, 1) := by decide +kernel
theorem dJ2_putChar_b72d1_30 : decode cJ2_putChar_b72d1 30 = .ok (.ishl, 1) := by decide +kernel
theorem dJ2_putChar_b72d1_31 : decode cJ2_putChar_b72d1 31 = .ok (.istore_n 1, 1) := by decide +kernel
theorem dJ2_putChar_b72d1_32 : decode cJ2_putChar_b72d1 32 = .ok (.aload_n 0, 1) := by decide +kernel
theorem dJ2_putChar_b72d1_33 : decode cJ2_putChar_b72d1 33 = .ok (.iload_n 1, 1) := by decide +kernel
theorem dJ2_putChar_b72d1_34 : decode cJ2_putChar_b72d1 34 = .ok (.iinc 1 1, 3) := by decide +kernel
theorem dJ2_putChar_b72d1_37 : decode cJ2_putChar_b72d1 37 = .ok (.iload_n 2, 1) := by decide +kernel
theorem dJ2_putChar_b72d1_38 : decode cJ2_putChar_b72d1 38 = .ok (.getstatic 59, 3) := by decide +kernel
theorem dJ2_putChar_b72d1_41 : decode cJ2_putChar_b72d1 41 = .ok (.ishr, 1) := by decide +kernel
theorem dJ2_putChar_b72d1_42 : decode cJ2_putChar_b72d1 42 = .ok (.i2b, 1) := by decide +kernel
theorem dJ2_putChar_b72d1_43 : decode cJ2_putChar_b72d1 43 = .ok (.bastore, 1) := by decide +kernel
theorem dJ2_putChar_b72d1_44 : decode cJ2_putChar_b72d1 44 = .ok (.aload_n 0, 1) := by decide +kernel
theorem dJ2_putChar_b72d1_45 : decode cJ2_putChar_b72d1 45 = .ok (.iload_n 1, 1) := by decide +kernel
theorem dJ2_putChar_b72d1_46 : decode cJ2_putChar_b72d1 46 = .ok (.iload_n 2, 1) := by decide +kernel
theorem dJ2_putChar_b72d1_47 : decode cJ2_putChar_b72d1 47 = .ok (.getstatic 63, 3) := by decide +kernel
theorem dJ2_putChar_b72d1_50 : decode cJ2_putChar_b72d1 50 = .ok (.ishr, 1) := by decide +kernel
theorem dJ2_putChar_b72d1_51 : decode cJ2_putChar_b72d1 51 = .ok (.i2b, 1) := by decide +kernel
theorem dJ2_putChar_b72d1_52 : decode cJ2_putChar_b72d1 52 = .ok (.bastore, 1) := by decide +kernel
theorem dJ2_putChar_b72d1_53 : decode cJ2_putChar_b72d1 53 = .ok (.return_, 1) := by decide +kernel
theorem dJ2_getChar_3b067_0 : decode cJ2_getChar_3b067 0 = .ok (.getstatic 44, 3) := by decide +kernel
theorem dJ2_getChar_3b067_3 : decode cJ2_getChar_3b067 3 = .ok (.ifCond .ne 25, 3) := by decide +kernel
theorem dJ2_getChar_3b067_6 : decode cJ2_getChar_3b067 6 = .ok (.iload_n 1, 1) := by decide +kernel
theorem dJ2_getChar_3b067_7 : decode cJ2_getChar_3b067 7 = .ok (.ifCond .lt 11, 3) := by decide +kernel
theorem dJ2_getChar_3b067_10 : decode cJ2_getChar_3b067 10 = .ok (.iload_n 1, 1) := by decide +kernel
theorem dJ2_getChar_3b067_11 : decode cJ2_getChar_3b067 11 = .ok (.aload_n 0, 1) := by decide +kernel
theorem dJ2_getChar_3b067_12 : decode cJ2_getChar_3b067 12 = .ok (.invokestatic 48, 3) := by decide +kernel
theorem dJ2_getChar_3b067_15 : decode cJ2_getChar_3b067 15 = .ok (.if_icmp .lt 13, 3) := by decide +kernel
theorem dJ2_getChar_3b067_18 : decode cJ2_getChar_3b067 18 = .ok (.new 52, 3) := by decide +kernel
theorem dJ2_getChar_3b067_21 : decode cJ2_getChar_3b067 21 = .ok (.dup, 1) := by decide +kernel
theorem dJ2_getChar_3b067_22 : decode cJ2_getChar_3b067 22 = .ok (.ldc 54, 2) := by decide +kernel
theorem dJ2_getChar_3b067_24 : decode cJ2_getChar_3b067 24 = .ok (.invokespecial 56, 3) := by decide +kernel
theorem dJ2_getChar_3b067_27 : decode cJ2_getChar_3b067 27 = .ok (.athrow, 1) := by decide +kernel
theorem dJ2_getChar_3b067_28 : decode cJ2_getChar_3b067 28 = .ok (.iload_n 1, 1) := by decide +kernel
theorem dJ2_getChar_3b067_29 : decode cJ2_getChar_3b067 29 = .ok (.iconst 1, 1) := by decide +kernel
theorem dJ2_getChar_3b067_30 : decode cJ2_getChar_3b067 30 = .ok (.ishl, 1) := by decide +kernel
theorem dJ2_getChar_3b067_31 : decode cJ2_getChar_3b067 31 = .ok (.istore_n 1, 1) := by decide +kernel
theorem dJ2_getChar_3b067_32 : decode cJ2_getChar_3b067 32 = .ok (.aload_n 0, 1) := by decide +kernel
theorem dJ2_getChar_3b067_33 : decode cJ2_getChar_3b067 33 = .ok (.iload_n 1, 1) := by decide +kernel
theorem dJ2_getChar_3b067_34 : decode cJ2_getChar_3b067 34 = .ok (.iinc 1 1, 3) := by decide +kernel
theorem dJ2_getChar_3b067_37 : decode cJ2_getChar_3b067 37 = .ok (.baload, 1) := by decide +kernel
theorem dJ2_getChar_3b067_38 : decode cJ2_getChar_3b067 38 = .ok (.sipush 255, 3) := by decide +kernel
theorem dJ2_getChar_3b067_41 : decode cJ2_getChar_3b067 41 = .ok (.iand, 1) := by decide +kernel
theorem dJ2_getChar_3b067_42 : decode cJ2_getChar_3b067 42 = .ok (.getstatic 59, 3) := by decide +kernel
theorem dJ2_getChar_3b067_45 : decode cJ2_getChar_3b067 45 = .ok (.ishl, 1) := by decide +kernel
theorem dJ2_getChar_3b067_46 : decode cJ2_getChar_3b067 46 = .ok (.aload_n 0, 1) := by decide +kernel
theorem dJ2_getChar_3b067_47 : decode cJ2_getChar_3b067 47 = .ok (.iload_n 1, 1) := by decide +kernel
theorem dJ2_getChar_3b067_48 : decode cJ2_getChar_3b067 48 = .ok (.baload, 1) := by decide +kernel
theorem dJ2_getChar_3b067_49 : decode cJ2_getChar_3b067 49 = .ok (.sipush 255, 3) := by decide +kernel
theorem dJ2_getChar_3b067_52 : decode cJ2_getChar_3b067 52 = .ok (.iand, 1) := by decide +kernel
theorem dJ2_getChar_3b067_53 : decode cJ2_getChar_3b067 53 = .ok (.getstatic 63, 3) := by decide +kernel
theorem dJ2_getChar_3b067_56 : decode cJ2_getChar_3b067 56 = .ok (.ishl, 1) := by decide +kernel
theorem dJ2_getChar_3b067_57 : decode cJ2_getChar_3b067 57 = .ok (.ior, 1) := by decide +kernel
theorem dJ2_getChar_3b067_58 : decode cJ2_getChar_3b067 58 = .ok (.i2c, 1) := by decide +kernel
theorem dJ2_getChar_3b067_59 : decode cJ2_getChar_3b067 59 = .ok (.ireturn, 1) := by decide +kernel
theorem dJ2_length_9d52b_0 : decode cJ2_length_9d52b 0 = .ok (.aload_n 0, 1) := by decide +kernel
theorem dJ2_length_9d52b_1 : decode cJ2_length_9d52b 1 = .ok (.arraylength, 1) := by decide +kernel
theorem dJ2_length_9d52b_2 : decode cJ2_length_9d52b 2 = .ok (.iconst 1, 1) := by decide +kernel
theorem dJ2_length_9d52b_3 : decode cJ2_length_9d52b 3 = .ok (.ishr, 1) := by decide +kernel
theorem dJ2_length_9d52b_4 : decode cJ2_length_9d52b 4 = .ok (.ireturn, 1) := by decide +kernel
theorem dJ2_coderFromArrayLen_85cad_0 : decode cJ2_coderFromArrayLen_85cad 0 = .ok (.iload_n 1, 1) := by decide +kernel
theorem dJ2_coderFromArrayLen_85cad_1 : decode cJ2_coderFromArrayLen_85cad 1 = .ok (.aload_n 0, 1) := by decide +kernel
theorem dJ2_coderFromArrayLen_85cad_2 : decode cJ2_coderFromArrayLen_85cad 2 = .ok (.arraylength, 1) := by decide +kernel
theorem dJ2_coderFromArrayLen_85cad_3 : decode cJ2_coderFromArrayLen_85cad 3 = .ok (.isub, 1) := by decide +kernel
theorem dJ2_coderFromArrayLen_85cad_4 : decode cJ2_coderFromArrayLen_85cad 4 = .ok (.bipush 31, 2) := by decide +kernel
theorem dJ2_coderFromArrayLen_85cad_6 : decode cJ2_coderFromArrayLen_85cad 6 = .ok (.iushr, 1) := by decide +kernel
theorem dJ2_coderFromArrayLen_85cad_7 : decode cJ2_coderFromArrayLen_85cad 7 = .ok (.i2b, 1) := by decide +kernel
theorem dJ2_coderFromArrayLen_85cad_8 : decode cJ2_coderFromArrayLen_85cad 8 = .ok (.ireturn, 1) := by decide +kernel
theorem dJ2_compress_39247_0 : decode cJ2_compress_39247 0 = .ok (.iload_n 2, 1) := by decide +kernel
theorem dJ2_compress_39247_1 : decode cJ2_compress_39247 1 = .ok (.newarray .byte, 2) := by decide +kernel
theorem dJ2_compress_39247_3 : decode cJ2_compress_39247 3 = .ok (.astore_n 3, 1) := by decide +kernel
theorem dJ2_compress_39247_4 : decode cJ2_compress_39247 4 = .ok (.aload_n 0, 1) := by decide +kernel
theorem dJ2_compress_39247_5 : decode cJ2_compress_39247 5 = .ok (.iload_n 1, 1) := by decide +kernel
theorem dJ2_compress_39247_6 : decode cJ2_compress_39247 6 = .ok (.aload_n 3, 1) := by decide +kernel
theorem dJ2_compress_39247_7 : decode cJ2_compress_39247 7 = .ok (.iconst 0, 1) := by decide +kernel
theorem dJ2_compress_39247_8 : decode cJ2_compress_39247 8 = .ok (.iload_n 2, 1) := by decide +kernel
theorem dJ2_compress_39247_9 : decode cJ2_compress_39247 9 = .ok (.invokestatic 123, 3) := by decide +kernel
theorem dJ2_compress_39247_12 : decode cJ2_compress_39247 12 = .ok (.istore 4, 2) := by decide +kernel
theorem dJ2_compress_39247_14 : decode cJ2_compress_39247 14 = .ok (.iload 4, 2) := by decide +kernel
theorem dJ2_compress_39247_16 : decode cJ2_compress_39247 16 = .ok (.iload_n 2, 1) := by decide +kernel
theorem dJ2_compress_39247_17 : decode cJ2_compress_39247 17 = .ok (.if_icmp .eq 47, 3) := by decide +kernel
theorem dJ2_compress_39247_20 : decode cJ2_compress_39247 20 = .ok (.aload_n 0, 1) := by decide +kernel
theorem dJ2_compress_39247_21 : decode cJ2_compress_39247 21 = .ok (.iload_n 1, 1) := by decide +kernel
theorem dJ2_compress_39247_22 : decode cJ2_compress_39247 22 = .ok (.iconst 1, 1) := by decide +kernel
theorem dJ2_compress_39247_23 : decode cJ2_compress_39247 23 = .ok (.ishl, 1) := by decide +kernel
theorem dJ2_compress_39247_24 : decode cJ2_compress_39247 24 = .ok (.iload_n 1, 1) := by decide +kernel
theorem dJ2_compress_39247_25 : decode cJ2_compress_39247 25 = .ok (.iload_n 2, 1) := by decide +kernel
theorem dJ2_compress_39247_26 : decode cJ2_compress_39247 26 = .ok (.iadd, 1) := by decide +kernel
theorem dJ2_compress_39247_27 : decode cJ2_compress_39247 27 = .ok (.invokestatic 11, 3) := by decide +kernel
theorem dJ2_compress_39247_30 : decode cJ2_compress_39247 30 = .ok (.invokestatic 126, 3) := by decide +kernel
theorem dJ2_compress_39247_33 : decode cJ2_compress_39247 33 = .ok (.astore 5, 2) := by decide +kernel
theorem dJ2_compress_39247_35 : decode cJ2_compress_39247 35 = .ok (.aload 5, 2) := by decide +kernel
theorem dJ2_compress_39247_37 : decode cJ2_compress_39247 37 = .ok (.iload 4, 2) := by decide +kernel
theorem dJ2_compress_39247_39 : decode cJ2_compress_39247 39 = .ok (.invokestatic 71, 3) := by decide +kernel
theorem dJ2_compress_39247_42 : decode cJ2_compress_39247 42 = .ok (.sipush 255, 3) := by decide +kernel
theorem dJ2_compress_39247_45 : decode cJ2_compress_39247 45 = .ok (.if_icmp .gt 16, 3) := by decide +kernel
theorem dJ2_compress_39247_48 : decode cJ2_compress_39247 48 = .ok (.aload 5, 2) := by decide +kernel
theorem dJ2_compress_39247_50 : decode cJ2_compress_39247 50 = .ok (.iconst 0, 1) := by decide +kernel
theorem dJ2_compress_39247_51 : decode cJ2_compress_39247 51 = .ok (.aload_n 3, 1) := by decide +kernel
theorem dJ2_compress_39247_52 : decode cJ2_compress_39247 52 = .ok (.iconst 0, 1) := by decide +kernel
theorem dJ2_compress_39247_53 : decode cJ2_compress_39247 53 = .ok (.iload_n 2, 1) := by decide +kernel
theorem dJ2_compress_39247_54 : decode cJ2_compress_39247 54 = .ok (.invokestatic 123, 3) := by decide +kernel
theorem dJ2_compress_39247_57 : decode cJ2_compress_39247 57 = .ok (.iload_n 2, 1) := by decide +kernel
theorem dJ2_compress_39247_58 : decode cJ2_compress_39247 58 = .ok (.if_icmp .eq 6, 3) := by decide +kernel
theorem dJ2_compress_39247_61 : decode cJ2_compress_39247 61 = .ok (.aload 5, 2) := by decide +kernel
theorem dJ2_compress_39247_63 : decode cJ2_compress_39247 63 = .ok (.areturn, 1) := by decide +kernel
theorem dJ2_compress_39247_64 : decode cJ2_compress_39247 64 = .ok (.aload_n 3, 1) := by decide +kernel
theorem dJ2_compress_39247_65 : decode cJ2_compress_39247 65 = .ok (.areturn, 1) := by decide +kernel
theorem dJ2_compress_5af95_0 : decode cJ2_compress_5af95 0 = .ok (.iload_n 1, 1) := by decide +kernel
theorem dJ2_compress_5af95_1 : decode cJ2_compress_5af95 1 = .ok (.iload 4, 2) := by decide +kernel
theorem dJ2_compress_5af95_3 : decode cJ2_compress_5af95 3 = .ok (.aload_n 0, 1) := by decide +kernel
theorem dJ2_compress_5af95_4 : decode cJ2_compress_5af95 4 = .ok (.invokestatic 173, 3) := by decide +kernel
theorem dJ2_compress_5af95_7 : decode cJ2_compress_5af95 7 = .ok (.iconst 0, 1) := by decide +kernel
theorem dJ2_compress_5af95_8 : decode cJ2_compress_5af95 8 = .ok (.istore 5, 2) := by decide +kernel
theorem dJ2_compress_5af95_10 : decode cJ2_compress_5af95 10 = .ok (.iload 5, 2) := by decide +kernel
theorem dJ2_compress_5af95_12 : decode cJ2_compress_5af95 12 = .ok (.iload 4, 2) := by decide +kernel
theorem dJ2_compress_5af95_14 : decode cJ2_compress_5af95 14 = .ok (.if_icmp .ge 39, 3) := by decide +kernel
theorem dJ2_compress_5af95_17 : decode cJ2_compress_5af95 17 = .ok (.aload_n 0, 1) := by decide +kernel
theorem dJ2_compress_5af95_18 : decode cJ2_compress_5af95 18 = .ok (.iload_n 1, 1) := by decide +kernel
theorem dJ2_compress_5af95_19 : decode cJ2_compress_5af95 19 = .ok (.invokestatic 71, 3) := by decide +kernel
theorem dJ2_compress_5af95_22 : decode cJ2_compress_5af95 22 = .ok (.istore 6, 2) := by decide +kernel
theorem dJ2_compress_5af95_24 : decode cJ2_compress_5af95 24 = .ok (.iload 6, 2) := by decide +kernel
theorem dJ2_compress_5af95_26 : decode cJ2_compress_5af95 26 = .ok (.sipush 255, 3) := by decide +kernel
theorem dJ2_compress_5af95_29 : decode cJ2_compress_5af95 29 = .ok (.if_icmp .le 6, 3) := by decide +kernel
theorem dJ2_compress_5af95_32 : decode cJ2_compress_5af95 32 = .ok (.iload 5, 2) := by decide +kernel
theorem dJ2_compress_5af95_34 : decode cJ2_compress_5af95 34 = .ok (.ireturn, 1) := by decide +kernel
theorem dJ2_compress_5af95_35 : decode cJ2_compress_5af95 35 = .ok (.aload_n 2, 1) := by decide +kernel
theorem dJ2_compress_5af95_36 : decode cJ2_compress_5af95 36 = .ok (.iload_n 3, 1) := by decide +kernel
theorem dJ2_compress_5af95_37 : decode cJ2_compress_5af95 37 = .ok (.iload 6, 2) := by decide +kernel
theorem dJ2_compress_5af95_39 : decode cJ2_compress_5af95 39 = .ok (.i2b, 1) := by decide +kernel
theorem dJ2_compress_5af95_40 : decode cJ2_compress_5af95 40 = .ok (.bastore, 1) := by decide +kernel
theorem dJ2_compress_5af95_41 : decode cJ2_compress_5af95 41 = .ok (.iinc 1 1, 3) := by decide +kernel
theorem dJ2_compress_5af95_44 : decode cJ2_compress_5af95 44 = .ok (.iinc 3 1, 3) := by decide +kernel
theorem dJ2_compress_5af95_47 : decode cJ2_compress_5af95 47 = .ok (.iinc 5 1, 3) := by decide +kernel
theorem dJ2_compress_5af95_50 : decode cJ2_compress_5af95 50 = .ok (.goto (-40), 3) := by decide +kernel
theorem dJ2_compress_5af95_53 : decode cJ2_compress_5af95 53 = .ok (.iload 4, 2) := by decide +kernel
theorem dJ2_compress_5af95_55 : decode cJ2_compress_5af95 55 = .ok (.ireturn, 1) := by decide +kernel
theorem dJ2_getChars_46870_0 : decode cJ2_getChars_46870 0 = .ok (.iload_n 1, 1) := by decide +kernel
theorem dJ2_getChars_46870_1 : decode cJ2_getChars_46870 1 = .ok (.iload_n 2, 1) := by decide +kernel
theorem dJ2_getChars_46870_2 : decode cJ2_getChars_46870 2 = .ok (.aload_n 3, 1) := by decide +kernel
theorem dJ2_getChars_46870_3 : decode cJ2_getChars_46870 3 = .ok (.invokestatic 96, 3) := by decide +kernel
theorem dJ2_getChars_46870_6 : decode cJ2_getChars_46870 6 = .ok (.iload_n 0, 1) := by decide +kernel
theorem dJ2_getChars_46870_7 : decode cJ2_getChars_46870 7 = .ok (.iload_n 2, 1) := by decide +kernel
theorem dJ2_getChars_46870_8 : decode cJ2_getChars_46870 8 = .ok (.aload_n 3, 1) := by decide +kernel
theorem dJ2_getChars_46870_9 : decode cJ2_getChars_46870 9 = .ok (.invokestatic 393, 3) := by decide +kernel
theorem dJ2_getChars_46870_12 : decode cJ2_getChars_46870 12 = .ok (.istore 4, 2) := by decide +kernel
theorem dJ2_getChars_46870_14 : decode cJ2_getChars_46870 14 = .ok (.getstatic 44, 3) := by decide +kernel
theorem dJ2_getChars_46870_17 : decode cJ2_getChars_46870 17 = .ok (.ifCond .ne 17, 3) := by decide +kernel
theorem dJ2_getChars_46870_20 : decode cJ2_getChars_46870 20 = .ok (.iload_n 1, 1) := by decide +kernel
theorem dJ2_getChars_46870_21 : decode cJ2_getChars_46870 21 = .ok (.iload 4, 2) := by decide +kernel
theorem dJ2_getChars_46870_23 : decode cJ2_getChars_46870 23 = .ok (.if_icmp .eq 11, 3) := by decide +kernel
theorem dJ2_getChars_46870_26 : decode cJ2_getChars_46870 26 = .ok (.new 52, 3) := by decide +kernel
theorem dJ2_getChars_46870_29 : decode cJ2_getChars_46870 29 = .ok (.dup, 1) := by decide +kernel
theorem dJ2_getChars_46870_30 : decode cJ2_getChars_46870 30 = .ok (.invokespecial 66, 3) := by decide +kernel
theorem dJ2_getChars_46870_33 : decode cJ2_getChars_46870 33 = .ok (.athrow, 1) := by decide +kernel
theorem dJ2_getChars_46870_34 : decode cJ2_getChars_46870 34 = .ok (.iload 4, 2) := by decide +kernel
theorem dJ2_getChars_46870_36 : decode cJ2_getChars_46870 36 = .ok (.ireturn, 1) := by decide +kernel
theorem dJ2_putCharsAt_cd4e5_0 : decode cJ2_putCharsAt_cd4e5 0 = .ok (.iload_n 1, 1) := by decide +kernel
theorem dJ2_putCharsAt_cd4e5_1 : decode cJ2_putCharsAt_cd4e5 1 = .ok (.iconst 4, 1) := by decide +kernel
theorem dJ2_putCharsAt_cd4e5_2 : decode cJ2_putCharsAt_cd4e5 2 = .ok (.iadd, 1) := by decide +kernel
theorem dJ2_putCharsAt_cd4e5_3 : decode cJ2_putCharsAt_cd4e5 3 = .ok (.istore 6, 2) := by decide +kernel
theorem dJ2_putCharsAt_cd4e5_5 : decode cJ2_putCharsAt_cd4e5 5 = .ok (.iload_n 1, 1) := by decide +kernel
theorem dJ2_putCharsAt_cd4e5_6 : decode cJ2_putCharsAt_cd4e5 6 = .ok (.iload 6, 2) := by decide +kernel
theorem dJ2_putCharsAt_cd4e5_8 : decode cJ2_putCharsAt_cd4e5 8 = .ok (.aload_n 0, 1) := by decide +kernel
theorem dJ2_putCharsAt_cd4e5_9 : decode cJ2_putCharsAt_cd4e5 9 = .ok (.invokestatic 96, 3) := by decide +kernel
theorem dJ2_putCharsAt_cd4e5_12 : decode cJ2_putCharsAt_cd4e5 12 = .ok (.aload_n 0, 1) := by decide +kernel
theorem dJ2_putCharsAt_cd4e5_13 : decode cJ2_putCharsAt_cd4e5 13 = .ok (.iload_n 1, 1) := by decide +kernel
theorem dJ2_putCharsAt_cd4e5_14 : decode cJ2_putCharsAt_cd4e5 14 = .ok (.iinc 1 1, 3) := by decide +kernel
theorem dJ2_putCharsAt_cd4e5_17 : decode cJ2_putCharsAt_cd4e5 17 = .ok (.iload_n 2, 1) := by decide +kernel
theorem dJ2_putCharsAt_cd4e5_18 : decode cJ2_putCharsAt_cd4e5 18 = .ok (.invokestatic 111, 3) := by decide +kernel
theorem dJ2_putCharsAt_cd4e5_21 : decode cJ2_putCharsAt_cd4e5 21 = .ok (.aload_n 0, 1) := by decide +kernel
theorem dJ2_putCharsAt_cd4e5_22 : decode cJ2_putCharsAt_cd4e5 22 = .ok (.iload_n 1, 1) := by decide +kernel
theorem dJ2_putCharsAt_cd4e5_23 : decode cJ2_putCharsAt_cd4e5 23 = .ok (.iinc 1 1, 3) := by decide +kernel
theorem dJ2_putCharsAt_cd4e5_26 : decode cJ2_putCharsAt_cd4e5 26 = .ok (.iload_n 3, 1) := by decide +kernel
theorem dJ2_putCharsAt_cd4e5_27 : decode cJ2_putCharsAt_cd4e5 27 = .ok (.invokestatic 111, 3) := by decide +kernel
theorem dJ2_putCharsAt_cd4e5_30 : decode cJ2_putCharsAt_cd4e5 30 = .ok (.aload_n 0, 1) := by decide +kernel
theorem dJ2_putCharsAt_cd4e5_31 : decode cJ2_putCharsAt_cd4e5 31 = .ok (.iload_n 1, 1) := by decide +kernel
theorem dJ2_putCharsAt_cd4e5_32 : decode cJ2_putCharsAt_cd4e5 32 = .ok (.iinc 1 1, 3) := by decide +kernel
theorem dJ2_putCharsAt_cd4e5_35 : decode cJ2_putCharsAt_cd4e5 35 = .ok (.iload 4, 2) := by decide +kernel
theorem dJ2_putCharsAt_cd4e5_37 : decode cJ2_putCharsAt_cd4e5 37 = .ok (.invokestatic 111, 3) := by decide +kernel
theorem dJ2_putCharsAt_cd4e5_40 : decode cJ2_putCharsAt_cd4e5 40 = .ok (.aload_n 0, 1) := by decide +kernel
theorem dJ2_putCharsAt_cd4e5_41 : decode cJ2_putCharsAt_cd4e5 41 = .ok (.iload_n 1, 1) := by decide +kernel
theorem dJ2_putCharsAt_cd4e5_42 : decode cJ2_putCharsAt_cd4e5 42 = .ok (.iinc 1 1, 3) := by decide +kernel
theorem dJ2_putCharsAt_cd4e5_45 : decode cJ2_putCharsAt_cd4e5 45 = .ok (.iload 5, 2) := by decide +kernel
theorem dJ2_putCharsAt_cd4e5_47 : decode cJ2_putCharsAt_cd4e5 47 = .ok (.invokestatic 111, 3) := by decide +kernel
theorem dJ2_putCharsAt_cd4e5_50 : decode cJ2_putCharsAt_cd4e5 50 = .ok (.getstatic 44, 3) := by decide +kernel
theorem dJ2_putCharsAt_cd4e5_53 : decode cJ2_putCharsAt_cd4e5 53 = .ok (.ifCond .ne 17, 3) := by decide +kernel
theorem dJ2_putCharsAt_cd4e5_56 : decode cJ2_putCharsAt_cd4e5 56 = .ok (.iload_n 1, 1) := by decide +kernel
theorem dJ2_putCharsAt_cd4e5_57 : decode cJ2_putCharsAt_cd4e5 57 = .ok (.iload 6, 2) := by decide +kernel
theorem dJ2_putCharsAt_cd4e5_59 : decode cJ2_putCharsAt_cd4e5 59 = .ok (.if_icmp .eq 11, 3) := by decide +kernel
theorem dJ2_putCharsAt_cd4e5_62 : decode cJ2_putCharsAt_cd4e5 62 = .ok (.new 52, 3) := by decide +kernel
theorem dJ2_putCharsAt_cd4e5_65 : decode cJ2_putCharsAt_cd4e5 65 = .ok (.dup, 1) := by decide +kernel
theorem dJ2_putCharsAt_cd4e5_66 : decode cJ2_putCharsAt_cd4e5 66 = .ok (.invokespecial 66, 3) := by decide +kernel
theorem dJ2_putCharsAt_cd4e5_69 : decode cJ2_putCharsAt_cd4e5 69 = .ok (.athrow, 1) := by decide +kernel
theorem dJ2_putCharsAt_cd4e5_70 : decode cJ2_putCharsAt_cd4e5 70 = .ok (.iload 6, 2) := by decide +kernel
theorem dJ2_putCharsAt_cd4e5_72 : decode cJ2_putCharsAt_cd4e5 72 = .ok (.ireturn, 1) := by decide +kernel
theorem dJ2_charAt_3b067_0 : decode cJ2_charAt_3b067 0 = .ok (.iload_n 1, 1) := by decide +kernel
theorem dJ2_charAt_3b067_1 : decode cJ2_charAt_3b067 1 = .ok (.aload_n 0, 1) := by decide +kernel
theorem dJ2_charAt_3b067_2 : decode cJ2_charAt_3b067 2 = .ok (.invokestatic 67, 3) := by decide +kernel
theorem dJ2_charAt_3b067_5 : decode cJ2_charAt_3b067 5 = .ok (.aload_n 0, 1) := by decide +kernel
theorem dJ2_charAt_3b067_6 : decode cJ2_charAt_3b067 6 = .ok (.iload_n 1, 1) := by decide +kernel
theorem dJ2_charAt_3b067_7 : decode cJ2_charAt_3b067 7 = .ok (.invokestatic 71, 3) := by decide +kernel
theorem dJ2_charAt_3b067_10 : decode cJ2_charAt_3b067 10 = .ok (.ireturn, 1) := by decide +kernel
theorem dJ2_inflate_0e8fd_0 : decode cJ2_inflate_0e8fd 0 = .ok (.iload_n 3, 1) := by decide +kernel
theorem dJ2_inflate_0e8fd_1 : decode cJ2_inflate_0e8fd 1 = .ok (.iload 4, 2) := by decide +kernel
theorem dJ2_inflate_0e8fd_3 : decode cJ2_inflate_0e8fd 3 = .ok (.aload_n 2, 1) := by decide +kernel
theorem dJ2_inflate_0e8fd_4 : decode cJ2_inflate_0e8fd 4 = .ok (.invokestatic 173, 3) := by decide +kernel
theorem dJ2_inflate_0e8fd_7 : decode cJ2_inflate_0e8fd 7 = .ok (.iconst 0, 1) := by decide +kernel
theorem dJ2_inflate_0e8fd_8 : decode cJ2_inflate_0e8fd 8 = .ok (.istore 5, 2) := by decide +kernel
theorem dJ2_inflate_0e8fd_10 : decode cJ2_inflate_0e8fd 10 = .ok (.iload 5, 2) := by decide +kernel
theorem dJ2_inflate_0e8fd_12 : decode cJ2_inflate_0e8fd 12 = .ok (.iload 4, 2) := by decide +kernel
theorem dJ2_inflate_0e8fd_14 : decode cJ2_inflate_0e8fd 14 = .ok (.if_icmp .ge 27, 3) := by decide +kernel
theorem dJ2_inflate_0e8fd_17 : decode cJ2_inflate_0e8fd 17 = .ok (.aload_n 2, 1) := by decide +kernel
theorem dJ2_inflate_0e8fd_18 : decode cJ2_inflate_0e8fd 18 = .ok (.iload_n 3, 1) := by decide +kernel
theorem dJ2_inflate_0e8fd_19 : decode cJ2_inflate_0e8fd 19 = .ok (.iinc 3 1, 3) := by decide +kernel
theorem dJ2_inflate_0e8fd_22 : decode cJ2_inflate_0e8fd 22 = .ok (.aload_n 0, 1) := by decide +kernel
theorem dJ2_inflate_0e8fd_23 : decode cJ2_inflate_0e8fd 23 = .ok (.iload_n 1, 1) := by decide +kernel
theorem dJ2_inflate_0e8fd_24 : decode cJ2_inflate_0e8fd 24 = .ok (.iinc 1 1, 3) := by decide +kernel
theorem dJ2_inflate_0e8fd_27 : decode cJ2_inflate_0e8fd 27 = .ok (.baload, 1) := by decide +kernel
theorem dJ2_inflate_0e8fd_28 : decode cJ2_inflate_0e8fd 28 = .ok (.sipush 255, 3) := by decide +kernel
theorem dJ2_inflate_0e8fd_31 : decode cJ2_inflate_0e8fd 31 = .ok (.iand, 1) := by decide +kernel
theorem dJ2_inflate_0e8fd_32 : decode cJ2_inflate_0e8fd 32 = .ok (.invokestatic 111, 3) := by decide +kernel
theorem dJ2_inflate_0e8fd_35 : decode cJ2_inflate_0e8fd 35 = .ok (.iinc 5 1, 3) := by decide +kernel
theorem dJ2_inflate_0e8fd_38 : decode cJ2_inflate_0e8fd 38 = .ok (.goto (-28), 3) := by decide +kernel
theorem dJ2_inflate_0e8fd_41 : decode cJ2_inflate_0e8fd 41 = .ok (.return_, 1) := by decide +kernel
theorem dJ2_getChars_ba4f3_0 : decode cJ2_getChars_ba4f3 0 = .ok (.iload_n 1, 1) := by decide +kernel
theorem dJ2_getChars_ba4f3_1 : decode cJ2_getChars_ba4f3 1 = .ok (.istore 5, 2) := by decide +kernel
theorem dJ2_getChars_ba4f3_3 : decode cJ2_getChars_ba4f3 3 = .ok (.iload_n 0, 1) := by decide +kernel
theorem dJ2_getChars_ba4f3_4 : decode cJ2_getChars_ba4f3 4 = .ok (.ifCond .ge 7, 3) := by decide +kernel
theorem dJ2_getChars_ba4f3_7 : decode cJ2_getChars_ba4f3 7 = .ok (.iconst 1, 1) := by decide +kernel
theorem dJ2_getChars_ba4f3_8 : decode cJ2_getChars_ba4f3 8 = .ok (.goto 4, 3) := by decide +kernel
theorem dJ2_getChars_ba4f3_11 : decode cJ2_getChars_ba4f3 11 = .ok (.iconst 0, 1) := by decide +kernel
theorem dJ2_getChars_ba4f3_12 : decode cJ2_getChars_ba4f3 12 = .ok (.istore 6, 2) := by decide +kernel
theorem dJ2_getChars_ba4f3_14 : decode cJ2_getChars_ba4f3 14 = .ok (.iload 6, 2) := by decide +kernel
theorem dJ2_getChars_ba4f3_16 : decode cJ2_getChars_ba4f3 16 = .ok (.ifCond .ne 6, 3) := by decide +kernel
theorem dJ2_getChars_ba4f3_19 : decode cJ2_getChars_ba4f3 19 = .ok (.iload_n 0, 1) := by decide +kernel
theorem dJ2_getChars_ba4f3_20 : decode cJ2_getChars_ba4f3 20 = .ok (.ineg, 1) := by decide +kernel
theorem dJ2_getChars_ba4f3_21 : decode cJ2_getChars_ba4f3 21 = .ok (.istore_n 0, 1) := by decide +kernel
theorem dJ2_getChars_ba4f3_22 : decode cJ2_getChars_ba4f3 22 = .ok (.iload_n 0, 1) := by decide +kernel
theorem dJ2_getChars_ba4f3_23 : decode cJ2_getChars_ba4f3 23 = .ok (.bipush (-100), 2) := by decide +kernel
theorem dJ2_getChars_ba4f3_25 : decode cJ2_getChars_ba4f3 25 = .ok (.if_icmp .gt 51, 3) := by decide +kernel
theorem dJ2_getChars_ba4f3_28 : decode cJ2_getChars_ba4f3 28 = .ok (.iload_n 0, 1) := by decide +kernel
theorem dJ2_getChars_ba4f3_29 : decode cJ2_getChars_ba4f3 29 = .ok (.bipush 100, 2) := by decide +kernel
theorem dJ2_getChars_ba4f3_31 : decode cJ2_getChars_ba4f3 31 = .ok (.idiv, 1) := by decide +kernel
theorem dJ2_getChars_ba4f3_32 : decode cJ2_getChars_ba4f3 32 = .ok (.istore_n 3, 1) := by decide +kernel
theorem dJ2_getChars_ba4f3_33 : decode cJ2_getChars_ba4f3 33 = .ok (.iload_n 3, 1) := by decide +kernel
theorem dJ2_getChars_ba4f3_34 : decode cJ2_getChars_ba4f3 34 = .ok (.bipush 100, 2) := by decide +kernel
theorem dJ2_getChars_ba4f3_36 : decode cJ2_getChars_ba4f3 36 = .ok (.imul, 1) := by decide +kernel
theorem dJ2_getChars_ba4f3_37 : decode cJ2_getChars_ba4f3 37 = .ok (.iload_n 0, 1) := by decide +kernel
theorem dJ2_getChars_ba4f3_38 : decode cJ2_getChars_ba4f3 38 = .ok (.isub, 1) := by decide +kernel
theorem dJ2_getChars_ba4f3_39 : decode cJ2_getChars_ba4f3 39 = .ok (.istore 4, 2) := by decide +kernel
theorem dJ2_getChars_ba4f3_41 : decode cJ2_getChars_ba4f3 41 = .ok (.iload_n 3, 1) := by decide +kernel
theorem dJ2_getChars_ba4f3_42 : decode cJ2_getChars_ba4f3 42 = .ok (.istore_n 0, 1) := by decide +kernel
theorem dJ2_getChars_ba4f3_43 : decode cJ2_getChars_ba4f3 43 = .ok (.aload_n 2, 1) := by decide +kernel
theorem dJ2_getChars_ba4f3_44 : decode cJ2_getChars_ba4f3 44 = .ok (.iinc 5 (-1), 3) := by decide +kernel
theorem dJ2_getChars_ba4f3_47 : decode cJ2_getChars_ba4f3 47 = .ok (.iload 5, 2) := by decide +kernel
theorem dJ2_getChars_ba4f3_49 : decode cJ2_getChars_ba4f3 49 = .ok (.getstatic 403, 3) := by decide +kernel
theorem dJ2_getChars_ba4f3_52 : decode cJ2_getChars_ba4f3 52 = .ok (.iload 4, 2) := by decide +kernel
theorem dJ2_getChars_ba4f3_54 : decode cJ2_getChars_ba4f3 54 = .ok (.baload, 1) := by decide +kernel
theorem dJ2_getChars_ba4f3_55 : decode cJ2_getChars_ba4f3 55 = .ok (.invokestatic 111, 3) := by decide +kernel
theorem dJ2_getChars_ba4f3_58 : decode cJ2_getChars_ba4f3 58 = .ok (.aload_n 2, 1) := by decide +kernel
theorem dJ2_getChars_ba4f3_59 : decode cJ2_getChars_ba4f3 59 = .ok (.iinc 5 (-1), 3) := by decide +kernel
theorem dJ2_getChars_ba4f3_62 : decode cJ2_getChars_ba4f3 62 = .ok (.iload 5, 2) := by decide +kernel
theorem dJ2_getChars_ba4f3_64 : decode cJ2_getChars_ba4f3 64 = .ok (.getstatic 407, 3) := by decide +kernel
theorem dJ2_getChars_ba4f3_67 : decode cJ2_getChars_ba4f3 67 = .ok (.iload 4, 2) := by decide +kernel
theorem dJ2_getChars_ba4f3_69 : decode cJ2_getChars_ba4f3 69 = .ok (.baload, 1) := by decide +kernel
theorem dJ2_getChars_ba4f3_70 : decode cJ2_getChars_ba4f3 70 = .ok (.invokestatic 111, 3) := by decide +kernel
theorem dJ2_getChars_ba4f3_73 : decode cJ2_getChars_ba4f3 73 = .ok (.goto (-51), 3) := by decide +kernel
theorem dJ2_getChars_ba4f3_76 : decode cJ2_getChars_ba4f3 76 = .ok (.aload_n 2, 1) := by decide +kernel
theorem dJ2_getChars_ba4f3_77 : decode cJ2_getChars_ba4f3 77 = .ok (.iinc 5 (-1), 3) := by decide +kernel
theorem dJ2_getChars_ba4f3_80 : decode cJ2_getChars_ba4f3 80 = .ok (.iload 5, 2) := by decide +kernel
theorem dJ2_getChars_ba4f3_82 : decode cJ2_getChars_ba4f3 82 = .ok (.getstatic 403, 3) := by decide +kernel
theorem dJ2_getChars_ba4f3_85 : decode cJ2_getChars_ba4f3 85 = .ok (.iload_n 0, 1) := by decide +kernel
theorem dJ2_getChars_ba4f3_86 : decode cJ2_getChars_ba4f3 86 = .ok (.ineg, 1) := by decide +kernel
theorem dJ2_getChars_ba4f3_87 : decode cJ2_getChars_ba4f3 87 = .ok (.baload, 1) := by decide +kernel
theorem dJ2_getChars_ba4f3_88 : decode cJ2_getChars_ba4f3 88 = .ok (.invokestatic 111, 3) := by decide +kernel
theorem dJ2_getChars_ba4f3_91 : decode cJ2_getChars_ba4f3 91 = .ok (.iload_n 0, 1) := by decide +kernel
theorem dJ2_getChars_ba4f3_92 : decode cJ2_getChars_ba4f3 92 = .ok (.bipush (-9), 2) := by decide +kernel
theorem dJ2_getChars_ba4f3_94 : decode cJ2_getChars_ba4f3 94 = .ok (.if_icmp .ge 18, 3) := by decide +kernel
theorem dJ2_getChars_ba4f3_97 : decode cJ2_getChars_ba4f3 97 = .ok (.aload_n 2, 1) := by decide +kernel
theorem dJ2_getChars_ba4f3_98 : decode cJ2_getChars_ba4f3 98 = .ok (.iinc 5 (-1), 3) := by decide +kernel
theorem dJ2_getChars_ba4f3_101 : decode cJ2_getChars_ba4f3 101 = .ok (.iload 5, 2) := by decide +kernel
theorem dJ2_getChars_ba4f3_103 : decode cJ2_getChars_ba4f3 103 = .ok (.getstatic 407, 3) := by decide +kernel
theorem dJ2_getChars_ba4f3_106 : decode cJ2_getChars_ba4f3 106 = .ok (.iload_n 0, 1) := by decide +kernel
theorem dJ2_getChars_ba4f3_107 : decode cJ2_getChars_ba4f3 107 = .ok (.ineg, 1) := by decide +kernel
theorem dJ2_getChars_ba4f3_108 : decode cJ2_getChars_ba4f3 108 = .ok (.baload, 1) := by decide +kernel
theorem dJ2_getChars_ba4f3_109 : decode cJ2_getChars_ba4f3 109 = .ok (.invokestatic 111, 3) := by decide +kernel
theorem dJ2_getChars_ba4f3_112 : decode cJ2_getChars_ba4f3 112 = .ok (.iload 6, 2) := by decide +kernel
theorem dJ2_getChars_ba4f3_114 : decode cJ2_getChars_ba4f3 114 = .ok (.ifCond .eq 14, 3) := by decide +kernel
theorem dJ2_getChars_ba4f3_117 : decode cJ2_getChars_ba4f3 117 = .ok (.aload_n 2, 1) := by decide +kernel
theorem dJ2_getChars_ba4f3_118 : decode cJ2_getChars_ba4f3 118 = .ok (.iinc 5 (-1), 3) := by decide +kernel
theorem dJ2_getChars_ba4f3_121 : decode cJ2_getChars_ba4f3 121 = .ok (.iload 5, 2) := by decide +kernel
theorem dJ2_getChars_ba4f3_123 : decode cJ2_getChars_ba4f3 123 = .ok (.bipush 45, 2) := by decide +kernel
theorem dJ2_getChars_ba4f3_125 : decode cJ2_getChars_ba4f3 125 = .ok (.invokestatic 111, 3) := by decide +kernel
theorem dJ2_getChars_ba4f3_128 : decode cJ2_getChars_ba4f3 128 = .ok (.iload 5, 2) := by decide +kernel
theorem dJ2_getChars_ba4f3_130 : decode cJ2_getChars_ba4f3 130 = .ok (.ireturn, 1) := by decide +kernel
theorem dJ2_checkIndex_2214a_0 : decode cJ2_checkIndex_2214a 0 = .ok (.iload_n 0, 1) := by decide +kernel
theorem dJ2_checkIndex_2214a_1 : decode cJ2_checkIndex_2214a 1 = .ok (.aload_n 1, 1) := by decide +kernel
theorem dJ2_checkIndex_2214a_2 : decode cJ2_checkIndex_2214a 2 = .ok (.invokestatic 48, 3) := by decide +kernel
theorem dJ2_checkIndex_2214a_5 : decode cJ2_checkIndex_2214a 5 = .ok (.invokestatic 414, 3) := by decide +kernel
theorem dJ2_checkIndex_2214a_8 : decode cJ2_checkIndex_2214a 8 = .ok (.return_, 1) := by decide +kernel
theorem dJ2_checkBoundsBeginEnd_d044e_0 : decode cJ2_checkBoundsBeginEnd_d044e 0 = .ok (.iload_n 0, 1) := by decide +kernel
theorem dJ2_checkBoundsBeginEnd_d044e_1 : decode cJ2_checkBoundsBeginEnd_d044e 1 = .ok (.iload_n 1, 1) := by decide +kernel
theorem dJ2_checkBoundsBeginEnd_d044e_2 : decode cJ2_checkBoundsBeginEnd_d044e 2 = .ok (.aload_n 2, 1) := by decide +kernel
theorem dJ2_checkBoundsBeginEnd_d044e_3 : decode cJ2_checkBoundsBeginEnd_d044e 3 = .ok (.invokestatic 48, 3) := by decide +kernel
theorem dJ2_checkBoundsBeginEnd_d044e_6 : decode cJ2_checkBoundsBeginEnd_d044e 6 = .ok (.invokestatic 241, 3) := by decide +kernel
theorem dJ2_checkBoundsBeginEnd_d044e_9 : decode cJ2_checkBoundsBeginEnd_d044e 9 = .ok (.return_, 1) := by decide +kernel
theorem dJ2_checkBoundsOffCount_d044e_0 : decode cJ2_checkBoundsOffCount_d044e 0 = .ok (.iload_n 0, 1) := by decide +kernel
theorem dJ2_checkBoundsOffCount_d044e_1 : decode cJ2_checkBoundsOffCount_d044e 1 = .ok (.iload_n 1, 1) := by decide +kernel
theorem dJ2_checkBoundsOffCount_d044e_2 : decode cJ2_checkBoundsOffCount_d044e 2 = .ok (.aload_n 2, 1) := by decide +kernel
theorem dJ2_checkBoundsOffCount_d044e_3 : decode cJ2_checkBoundsOffCount_d044e 3 = .ok (.invokestatic 48, 3) := by decide +kernel
theorem dJ2_checkBoundsOffCount_d044e_6 : decode cJ2_checkBoundsOffCount_d044e 6 = .ok (.invokestatic 419, 3) := by decide +kernel
theorem dJ2_checkBoundsOffCount_d044e_9 : decode cJ2_checkBoundsOffCount_d044e 9 = .ok (.pop, 1) := by decide +kernel
theorem dJ2_checkBoundsOffCount_d044e_10 : decode cJ2_checkBoundsOffCount_d044e 10 = .ok (.return_, 1) := by decide +kernel
theorem dJ7_copyOf_9075b_0 : decode cJ7_copyOf_9075b 0 = .ok (.iload_n 1, 1) := by decide +kernel
theorem dJ7_copyOf_9075b_1 : decode cJ7_copyOf_9075b 1 = .ok (.aload_n 0, 1) := by decide +kernel
theorem dJ7_copyOf_9075b_2 : decode cJ7_copyOf_9075b 2 = .ok (.arraylength, 1) := by decide +kernel
theorem dJ7_copyOf_9075b_3 : decode cJ7_copyOf_9075b 3 = .ok (.if_icmp .ne 11, 3) := by decide +kernel
theorem dJ7_copyOf_9075b_6 : decode cJ7_copyOf_9075b 6 = .ok (.aload_n 0, 1) := by decide +kernel
theorem dJ7_copyOf_9075b_7 : decode cJ7_copyOf_9075b 7 = .ok (.invokevirtual 310, 3) := by decide +kernel
theorem dJ7_copyOf_9075b_10 : decode cJ7_copyOf_9075b 10 = .ok (.checkcast 311, 3) := by decide +kernel
theorem dJ7_copyOf_9075b_13 : decode cJ7_copyOf_9075b 13 = .ok (.areturn, 1) := by decide +kernel
theorem dJ7_copyOf_9075b_14 : decode cJ7_copyOf_9075b 14 = .ok (.iload_n 1, 1) := by decide +kernel
theorem dJ7_copyOf_9075b_15 : decode cJ7_copyOf_9075b 15 = .ok (.newarray .byte, 2) := by decide +kernel
theorem dJ7_copyOf_9075b_17 : decode cJ7_copyOf_9075b 17 = .ok (.astore_n 2, 1) := by decide +kernel
theorem dJ7_copyOf_9075b_18 : decode cJ7_copyOf_9075b 18 = .ok (.aload_n 0, 1) := by decide +kernel
theorem dJ7_copyOf_9075b_19 : decode cJ7_copyOf_9075b 19 = .ok (.iconst 0, 1) := by decide +kernel
theorem dJ7_copyOf_9075b_20 : decode cJ7_copyOf_9075b 20 = .ok (.aload_n 2, 1) := by decide +kernel
theorem dJ7_copyOf_9075b_21 : decode cJ7_copyOf_9075b 21 = .ok (.iconst 0, 1) := by decide +kernel
theorem dJ7_copyOf_9075b_22 : decode cJ7_copyOf_9075b 22 = .ok (.aload_n 0, 1) := by decide +kernel
theorem dJ7_copyOf_9075b_23 : decode cJ7_copyOf_9075b 23 = .ok (.arraylength, 1) := by decide +kernel
theorem dJ7_copyOf_9075b_24 : decode cJ7_copyOf_9075b 24 = .ok (.iload_n 1, 1) := by decide +kernel
theorem dJ7_copyOf_9075b_25 : decode cJ7_copyOf_9075b 25 = .ok (.invokestatic 304, 3) := by decide +kernel
theorem dJ7_copyOf_9075b_28 : decode cJ7_copyOf_9075b 28 = .ok (.invokestatic 150, 3) := by decide +kernel
theorem dJ7_copyOf_9075b_31 : decode cJ7_copyOf_9075b 31 = .ok (.aload_n 2, 1) := by decide +kernel
theorem dJ7_copyOf_9075b_32 : decode cJ7_copyOf_9075b 32 = .ok (.areturn, 1) := by decide +kernel
theorem dJ7_checkLength_df160_0 : decode cJ7_checkLength_df160 0 = .ok (.iload_n 1, 1) := by decide +kernel
theorem dJ7_checkLength_df160_1 : decode cJ7_checkLength_df160 1 = .ok (.iload_n 0, 1) := by decide +kernel
theorem dJ7_checkLength_df160_2 : decode cJ7_checkLength_df160 2 = .ok (.if_icmp .ge 35, 3) := by decide +kernel
theorem dJ7_checkLength_df160_5 : decode cJ7_checkLength_df160 5 = .ok (.new 43, 3) := by decide +kernel
theorem dJ7_checkLength_df160_8 : decode cJ7_checkLength_df160 8 = .ok (.dup, 1) := by decide +kernel
theorem dJ7_checkLength_df160_9 : decode cJ7_checkLength_df160 9 = .ok (.new 45, 3) := by decide +kernel
theorem dJ7_checkLength_df160_12 : decode cJ7_checkLength_df160 12 = .ok (.dup, 1) := by decide +kernel
theorem dJ7_checkLength_df160_13 : decode cJ7_checkLength_df160 13 = .ok (.invokespecial 47, 3) := by decide +kernel
theorem dJ7_checkLength_df160_16 : decode cJ7_checkLength_df160 16 = .ok (.iload_n 0, 1) := by decide +kernel
theorem dJ7_checkLength_df160_17 : decode cJ7_checkLength_df160 17 = .ok (.invokevirtual 54, 3) := by decide +kernel
theorem dJ7_checkLength_df160_20 : decode cJ7_checkLength_df160 20 = .ok (.ldc_w 337, 3) := by decide +kernel
theorem dJ7_checkLength_df160_23 : decode cJ7_checkLength_df160 23 = .ok (.invokevirtual 50, 3) := by decide +kernel
theorem dJ7_checkLength_df160_26 : decode cJ7_checkLength_df160 26 = .ok (.iload_n 1, 1) := by decide +kernel
theorem dJ7_checkLength_df160_27 : decode cJ7_checkLength_df160 27 = .ok (.invokevirtual 54, 3) := by decide +kernel
theorem dJ7_checkLength_df160_30 : decode cJ7_checkLength_df160 30 = .ok (.invokevirtual 61, 3) := by decide +kernel
theorem dJ7_checkLength_df160_33 : decode cJ7_checkLength_df160 33 = .ok (.invokespecial 65, 3) := by decide +kernel
theorem dJ7_checkLength_df160_36 : decode cJ7_checkLength_df160 36 = .ok (.athrow, 1) := by decide +kernel
theorem dJ7_checkLength_df160_37 : decode cJ7_checkLength_df160 37 = .ok (.return_, 1) := by decide +kernel
theorem dJ7_copyOfRange_39247_0 : decode cJ7_copyOfRange_39247 0 = .ok (.iload_n 1, 1) := by decide +kernel
theorem dJ7_copyOfRange_39247_1 : decode cJ7_copyOfRange_39247 1 = .ok (.ifCond .ne 9, 3) := by decide +kernel
theorem dJ7_copyOfRange_39247_4 : decode cJ7_copyOfRange_39247 4 = .ok (.iload_n 2, 1) := by decide +kernel
theorem dJ7_copyOfRange_39247_5 : decode cJ7_copyOfRange_39247 5 = .ok (.aload_n 0, 1) := by decide +kernel
theorem dJ7_copyOfRange_39247_6 : decode cJ7_copyOfRange_39247 6 = .ok (.arraylength, 1) := by decide +kernel
theorem dJ7_copyOfRange_39247_7 : decode cJ7_copyOfRange_39247 7 = .ok (.if_icmp .eq 10, 3) := by decide +kernel
theorem dJ7_copyOfRange_39247_10 : decode cJ7_copyOfRange_39247 10 = .ok (.aload_n 0, 1) := by decide +kernel
theorem dJ7_copyOfRange_39247_11 : decode cJ7_copyOfRange_39247 11 = .ok (.iload_n 1, 1) := by decide +kernel
theorem dJ7_copyOfRange_39247_12 : decode cJ7_copyOfRange_39247 12 = .ok (.iload_n 2, 1) := by decide +kernel
theorem dJ7_copyOfRange_39247_13 : decode cJ7_copyOfRange_39247 13 = .ok (.invokestatic 339, 3) := by decide +kernel
theorem dJ7_copyOfRange_39247_16 : decode cJ7_copyOfRange_39247 16 = .ok (.areturn, 1) := by decide +kernel
theorem dJ7_copyOfRange_39247_17 : decode cJ7_copyOfRange_39247 17 = .ok (.aload_n 0, 1) := by decide +kernel
theorem dJ7_copyOfRange_39247_18 : decode cJ7_copyOfRange_39247 18 = .ok (.invokevirtual 310, 3) := by decide +kernel
theorem dJ7_copyOfRange_39247_21 : decode cJ7_copyOfRange_39247 21 = .ok (.checkcast 311, 3) := by decide +kernel
theorem dJ7_copyOfRange_39247_24 : decode cJ7_copyOfRange_39247 24 = .ok (.areturn, 1) := by decide +kernel
theorem dJ7_copyOfRangeByte_39247_0 : decode cJ7_copyOfRangeByte_39247 0 = .ok (.iload_n 1, 1) := by decide +kernel
theorem dJ7_copyOfRangeByte_39247_1 : decode cJ7_copyOfRangeByte_39247 1 = .ok (.iload_n 2, 1) := by decide +kernel
theorem dJ7_copyOfRangeByte_39247_2 : decode cJ7_copyOfRangeByte_39247 2 = .ok (.invokestatic 343, 3) := by decide +kernel
theorem dJ7_copyOfRangeByte_39247_5 : decode cJ7_copyOfRangeByte_39247 5 = .ok (.iload_n 2, 1) := by decide +kernel
theorem dJ7_copyOfRangeByte_39247_6 : decode cJ7_copyOfRangeByte_39247 6 = .ok (.iload_n 1, 1) := by decide +kernel
theorem dJ7_copyOfRangeByte_39247_7 : decode cJ7_copyOfRangeByte_39247 7 = .ok (.isub, 1) := by decide +kernel
theorem dJ7_copyOfRangeByte_39247_8 : decode cJ7_copyOfRangeByte_39247 8 = .ok (.istore_n 3, 1) := by decide +kernel
theorem dJ7_copyOfRangeByte_39247_9 : decode cJ7_copyOfRangeByte_39247 9 = .ok (.iload_n 3, 1) := by decide +kernel
theorem dJ7_copyOfRangeByte_39247_10 : decode cJ7_copyOfRangeByte_39247 10 = .ok (.newarray .byte, 2) := by decide +kernel
theorem dJ7_copyOfRangeByte_39247_12 : decode cJ7_copyOfRangeByte_39247 12 = .ok (.astore 4, 2) := by decide +kernel
theorem dJ7_copyOfRangeByte_39247_14 : decode cJ7_copyOfRangeByte_39247 14 = .ok (.aload_n 0, 1) := by decide +kernel
theorem dJ7_copyOfRangeByte_39247_15 : decode cJ7_copyOfRangeByte_39247 15 = .ok (.iload_n 1, 1) := by decide +kernel
theorem dJ7_copyOfRangeByte_39247_16 : decode cJ7_copyOfRangeByte_39247 16 = .ok (.aload 4, 2) := by decide +kernel
theorem dJ7_copyOfRangeByte_39247_18 : decode cJ7_copyOfRangeByte_39247 18 = .ok (.iconst 0, 1) := by decide +kernel
theorem dJ7_copyOfRangeByte_39247_19 : decode cJ7_copyOfRangeByte_39247 19 = .ok (.aload_n 0, 1) := by decide +kernel
theorem dJ7_copyOfRangeByte_39247_20 : decode cJ7_copyOfRangeByte_39247 20 = .ok (.arraylength, 1) := by decide +kernel
theorem dJ7_copyOfRangeByte_39247_21 : decode cJ7_copyOfRangeByte_39247 21 = .ok (.iload_n 1, 1) := by decide +kernel
theorem dJ7_copyOfRangeByte_39247_22 : decode cJ7_copyOfRangeByte_39247 22 = .ok (.isub, 1) := by decide +kernel
theorem dJ7_copyOfRangeByte_39247_23 : decode cJ7_copyOfRangeByte_39247 23 = .ok (.iload_n 3, 1) := by decide +kernel
theorem dJ7_copyOfRangeByte_39247_24 : decode cJ7_copyOfRangeByte_39247 24 = .ok (.invokestatic 304, 3) := by decide +kernel
theorem dJ7_copyOfRangeByte_39247_27 : decode cJ7_copyOfRangeByte_39247 27 = .ok (.invokestatic 150, 3) := by decide +kernel
theorem dJ7_copyOfRangeByte_39247_30 : decode cJ7_copyOfRangeByte_39247 30 = .ok (.aload 4, 2) := by decide +kernel
theorem dJ7_copyOfRangeByte_39247_32 : decode cJ7_copyOfRangeByte_39247 32 = .ok (.areturn, 1) := by decide +kernel
theorem dJ8_newLength_cabcc_0 : decode cJ8_newLength_cabcc 0 = .ok (.iload_n 0, 1) := by decide +kernel
theorem dJ8_newLength_cabcc_1 : decode cJ8_newLength_cabcc 1 = .ok (.iload_n 1, 1) := by decide +kernel
theorem dJ8_newLength_cabcc_2 : decode cJ8_newLength_cabcc 2 = .ok (.iload_n 2, 1) := by decide +kernel
theorem dJ8_newLength_cabcc_3 : decode cJ8_newLength_cabcc 3 = .ok (.invokestatic 194, 3) := by decide +kernel
theorem dJ8_newLength_cabcc_6 : decode cJ8_newLength_cabcc 6 = .ok (.iadd, 1) := by decide +kernel
theorem dJ8_newLength_cabcc_7 : decode cJ8_newLength_cabcc 7 = .ok (.istore_n 3, 1) := by decide +kernel
theorem dJ8_newLength_cabcc_8 : decode cJ8_newLength_cabcc 8 = .ok (.iconst 0, 1) := by decide +kernel
theorem dJ8_newLength_cabcc_9 : decode cJ8_newLength_cabcc 9 = .ok (.iload_n 3, 1) := by decide +kernel
theorem dJ8_newLength_cabcc_10 : decode cJ8_newLength_cabcc 10 = .ok (.if_icmp .ge 11, 3) := by decide +kernel
theorem dJ8_newLength_cabcc_13 : decode cJ8_newLength_cabcc 13 = .ok (.iload_n 3, 1) := by decide +kernel
theorem dJ8_newLength_cabcc_14 : decode cJ8_newLength_cabcc 14 = .ok (.ldc 200, 2) := by decide +kernel
theorem dJ8_newLength_cabcc_16 : decode cJ8_newLength_cabcc 16 = .ok (.if_icmp .gt 5, 3) := by decide +kernel
theorem dJ8_newLength_cabcc_19 : decode cJ8_newLength_cabcc 19 = .ok (.iload_n 3, 1) := by decide +kernel
theorem dJ8_newLength_cabcc_20 : decode cJ8_newLength_cabcc 20 = .ok (.ireturn, 1) := by decide +kernel
theorem dJ8_newLength_cabcc_21 : decode cJ8_newLength_cabcc 21 = .ok (.iload_n 0, 1) := by decide +kernel
theorem dJ8_newLength_cabcc_22 : decode cJ8_newLength_cabcc 22 = .ok (.iload_n 1, 1) := by decide +kernel
theorem dJ8_newLength_cabcc_23 : decode cJ8_newLength_cabcc 23 = .ok (.invokestatic 201, 3) := by decide +kernel
theorem dJ8_newLength_cabcc_26 : decode cJ8_newLength_cabcc 26 = .ok (.ireturn, 1) := by decide +kernel
theorem dJ8_hugeLength_7cf53_0 : decode cJ8_hugeLength_7cf53 0 = .ok (.iload_n 0, 1) := by decide +kernel
theorem dJ8_hugeLength_7cf53_1 : decode cJ8_hugeLength_7cf53 1 = .ok (.iload_n 1, 1) := by decide +kernel
theorem dJ8_hugeLength_7cf53_2 : decode cJ8_hugeLength_7cf53 2 = .ok (.iadd, 1) := by decide +kernel
theorem dJ8_hugeLength_7cf53_3 : decode cJ8_hugeLength_7cf53 3 = .ok (.istore_n 2, 1) := by decide +kernel
theorem dJ8_hugeLength_7cf53_4 : decode cJ8_hugeLength_7cf53 4 = .ok (.iload_n 2, 1) := by decide +kernel
theorem dJ8_hugeLength_7cf53_5 : decode cJ8_hugeLength_7cf53 5 = .ok (.ifCond .ge 44, 3) := by decide +kernel
theorem dJ8_hugeLength_7cf53_8 : decode cJ8_hugeLength_7cf53 8 = .ok (.new 204, 3) := by decide +kernel
theorem dJ8_hugeLength_7cf53_11 : decode cJ8_hugeLength_7cf53 11 = .ok (.dup, 1) := by decide +kernel
theorem dJ8_hugeLength_7cf53_12 : decode cJ8_hugeLength_7cf53 12 = .ok (.new 89, 3) := by decide +kernel
theorem dJ8_hugeLength_7cf53_15 : decode cJ8_hugeLength_7cf53 15 = .ok (.dup, 1) := by decide +kernel
theorem dJ8_hugeLength_7cf53_16 : decode cJ8_hugeLength_7cf53 16 = .ok (.invokespecial 91, 3) := by decide +kernel
theorem dJ8_hugeLength_7cf53_19 : decode cJ8_hugeLength_7cf53 19 = .ok (.ldc 206, 2) := by decide +kernel
theorem dJ8_hugeLength_7cf53_21 : decode cJ8_hugeLength_7cf53 21 = .ok (.invokevirtual 94, 3) := by decide +kernel
theorem dJ8_hugeLength_7cf53_24 : decode cJ8_hugeLength_7cf53 24 = .ok (.iload_n 0, 1) := by decide +kernel
theorem dJ8_hugeLength_7cf53_25 : decode cJ8_hugeLength_7cf53 25 = .ok (.invokevirtual 98, 3) := by decide +kernel
theorem dJ8_hugeLength_7cf53_28 : decode cJ8_hugeLength_7cf53 28 = .ok (.ldc 208, 2) := by decide +kernel
theorem dJ8_hugeLength_7cf53_30 : decode cJ8_hugeLength_7cf53 30 = .ok (.invokevirtual 94, 3) := by decide +kernel
theorem dJ8_hugeLength_7cf53_33 : decode cJ8_hugeLength_7cf53 33 = .ok (.iload_n 1, 1) := by decide +kernel
theorem dJ8_hugeLength_7cf53_34 : decode cJ8_hugeLength_7cf53 34 = .ok (.invokevirtual 98, 3) := by decide +kernel
theorem dJ8_hugeLength_7cf53_37 : decode cJ8_hugeLength_7cf53 37 = .ok (.ldc 210, 2) := by decide +kernel
theorem dJ8_hugeLength_7cf53_39 : decode cJ8_hugeLength_7cf53 39 = .ok (.invokevirtual 94, 3) := by decide +kernel
theorem dJ8_hugeLength_7cf53_42 : decode cJ8_hugeLength_7cf53 42 = .ok (.invokevirtual 101, 3) := by decide +kernel
theorem dJ8_hugeLength_7cf53_45 : decode cJ8_hugeLength_7cf53 45 = .ok (.invokespecial 212, 3) := by decide +kernel
theorem dJ8_hugeLength_7cf53_48 : decode cJ8_hugeLength_7cf53 48 = .ok (.athrow, 1) := by decide +kernel
theorem dJ8_hugeLength_7cf53_49 : decode cJ8_hugeLength_7cf53 49 = .ok (.iload_n 2, 1) := by decide +kernel
theorem dJ8_hugeLength_7cf53_50 : decode cJ8_hugeLength_7cf53 50 = .ok (.ldc 200, 2) := by decide +kernel
theorem dJ8_hugeLength_7cf53_52 : decode cJ8_hugeLength_7cf53 52 = .ok (.if_icmp .gt 6, 3) := by decide +kernel
theorem dJ8_hugeLength_7cf53_55 : decode cJ8_hugeLength_7cf53 55 = .ok (.ldc 200, 2) := by decide +kernel
theorem dJ8_hugeLength_7cf53_57 : decode cJ8_hugeLength_7cf53 57 = .ok (.ireturn, 1) := by decide +kernel
theorem dJ8_hugeLength_7cf53_58 : decode cJ8_hugeLength_7cf53 58 = .ok (.iload_n 2, 1) := by decide +kernel
theorem dJ8_hugeLength_7cf53_59 : decode cJ8_hugeLength_7cf53 59 = .ok (.ireturn, 1) := by decide +kernel
theorem dJ3_checkIndex_8e157_0 : decode cJ3_checkIndex_8e157 0 = .ok (.iload_n 0, 1) := by decide +kernel
theorem dJ3_checkIndex_8e157_1 : decode cJ3_checkIndex_8e157 1 = .ok (.ifCond .lt 8, 3) := by decide +kernel
theorem dJ3_checkIndex_8e157_4 : decode cJ3_checkIndex_8e157 4 = .ok (.iload_n 0, 1) := by decide +kernel
theorem dJ3_checkIndex_8e157_5 : decode cJ3_checkIndex_8e157 5 = .ok (.iload_n 1, 1) := by decide +kernel
theorem dJ3_checkIndex_8e157_6 : decode cJ3_checkIndex_8e157 6 = .ok (.if_icmp .lt 10, 3) := by decide +kernel
theorem dJ3_checkIndex_8e157_9 : decode cJ3_checkIndex_8e157 9 = .ok (.aload_n 2, 1) := by decide +kernel
theorem dJ3_checkIndex_8e157_10 : decode cJ3_checkIndex_8e157 10 = .ok (.iload_n 0, 1) := by decide +kernel
theorem dJ3_checkIndex_8e157_11 : decode cJ3_checkIndex_8e157 11 = .ok (.iload_n 1, 1) := by decide +kernel
theorem dJ3_checkIndex_8e157_12 : decode cJ3_checkIndex_8e157 12 = .ok (.invokestatic 95, 3) := by decide +kernel
theorem dJ3_checkIndex_8e157_15 : decode cJ3_checkIndex_8e157 15 = .ok (.athrow, 1) := by decide +kernel
theorem dJ3_checkIndex_8e157_16 : decode cJ3_checkIndex_8e157 16 = .ok (.iload_n 0, 1) := by decide +kernel
theorem dJ3_checkIndex_8e157_17 : decode cJ3_checkIndex_8e157 17 = .ok (.ireturn, 1) := by decide +kernel
theorem dJ3_checkFromToIndex_8c36e_0 : decode cJ3_checkFromToIndex_8c36e 0 = .ok (.iload_n 0, 1) := by decide +kernel
theorem dJ3_checkFromToIndex_8c36e_1 : decode cJ3_checkFromToIndex_8c36e 1 = .ok (.ifCond .lt 13, 3) := by decide +kernel
theorem dJ3_checkFromToIndex_8c36e_4 : decode cJ3_checkFromToIndex_8c36e 4 = .ok (.iload_n 0, 1) := by decide +kernel
theorem dJ3_checkFromToIndex_8c36e_5 : decode cJ3_checkFromToIndex_8c36e 5 = .ok (.iload_n 1, 1) := by decide +kernel
theorem dJ3_checkFromToIndex_8c36e_6 : decode cJ3_checkFromToIndex_8c36e 6 = .ok (.if_icmp .gt 8, 3) := by decide +kernel
theorem dJ3_checkFromToIndex_8c36e_9 : decode cJ3_checkFromToIndex_8c36e 9 = .ok (.iload_n 1, 1) := by decide +kernel
theorem dJ3_checkFromToIndex_8c36e_10 : decode cJ3_checkFromToIndex_8c36e 10 = .ok (.iload_n 2, 1) := by decide +kernel
theorem dJ3_checkFromToIndex_8c36e_11 : decode cJ3_checkFromToIndex_8c36e 11 = .ok (.if_icmp .le 11, 3) := by decide +kernel
theorem dJ3_checkFromToIndex_8c36e_14 : decode cJ3_checkFromToIndex_8c36e 14 = .ok (.aload_n 3, 1) := by decide +kernel
theorem dJ3_checkFromToIndex_8c36e_15 : decode cJ3_checkFromToIndex_8c36e 15 = .ok (.iload_n 0, 1) := by decide +kernel
theorem dJ3_checkFromToIndex_8c36e_16 : decode cJ3_checkFromToIndex_8c36e 16 = .ok (.iload_n 1, 1) := by decide +kernel
theorem dJ3_checkFromToIndex_8c36e_17 : decode cJ3_checkFromToIndex_8c36e 17 = .ok (.iload_n 2, 1) := by decide +kernel
theorem dJ3_checkFromToIndex_8c36e_18 : decode cJ3_checkFromToIndex_8c36e 18 = .ok (.invokestatic 99, 3) := by decide +kernel
theorem dJ3_checkFromToIndex_8c36e_21 : decode cJ3_checkFromToIndex_8c36e 21 = .ok (.athrow, 1) := by decide +kernel
theorem dJ3_checkFromToIndex_8c36e_22 : decode cJ3_checkFromToIndex_8c36e 22 = .ok (.iload_n 0, 1) := by decide +kernel
theorem dJ3_checkFromToIndex_8c36e_23 : decode cJ3_checkFromToIndex_8c36e 23 = .ok (.ireturn, 1) := by decide +kernel
theorem dJ3_checkFromIndexSize_8c36e_0 : decode cJ3_checkFromIndexSize_8c36e 0 = .ok (.iload_n 2, 1) := by decide +kernel
theorem dJ3_checkFromIndexSize_8c36e_1 : decode cJ3_checkFromIndexSize_8c36e 1 = .ok (.iload_n 0, 1) := by decide +kernel
theorem dJ3_checkFromIndexSize_8c36e_2 : decode cJ3_checkFromIndexSize_8c36e 2 = .ok (.ior, 1) := by decide +kernel
theorem dJ3_checkFromIndexSize_8c36e_3 : decode cJ3_checkFromIndexSize_8c36e 3 = .ok (.iload_n 1, 1) := by decide +kernel
theorem dJ3_checkFromIndexSize_8c36e_4 : decode cJ3_checkFromIndexSize_8c36e 4 = .ok (.ior, 1) := by decide +kernel
theorem dJ3_checkFromIndexSize_8c36e_5 : decode cJ3_checkFromIndexSize_8c36e 5 = .ok (.ifCond .lt 10, 3) := by decide +kernel
theorem dJ3_checkFromIndexSize_8c36e_8 : decode cJ3_checkFromIndexSize_8c36e 8 = .ok (.iload_n 1, 1) := by decide +kernel
theorem dJ3_checkFromIndexSize_8c36e_9 : decode cJ3_checkFromIndexSize_8c36e 9 = .ok (.iload_n 2, 1) := by decide +kernel
theorem dJ3_checkFromIndexSize_8c36e_10 : decode cJ3_checkFromIndexSize_8c36e 10 = .ok (.iload_n 0, 1) := by decide +kernel
theorem dJ3_checkFromIndexSize_8c36e_11 : decode cJ3_checkFromIndexSize_8c36e 11 = .ok (.isub, 1) := by decide +kernel
theorem dJ3_checkFromIndexSize_8c36e_12 : decode cJ3_checkFromIndexSize_8c36e 12 = .ok (.if_icmp .le 11, 3) := by decide +kernel
theorem dJ3_checkFromIndexSize_8c36e_15 : decode cJ3_checkFromIndexSize_8c36e 15 = .ok (.aload_n 3, 1) := by decide +kernel
theorem dJ3_checkFromIndexSize_8c36e_16 : decode cJ3_checkFromIndexSize_8c36e 16 = .ok (.iload_n 0, 1) := by decide +kernel
theorem dJ3_checkFromIndexSize_8c36e_17 : decode cJ3_checkFromIndexSize_8c36e 17 = .ok (.iload_n 1, 1) := by decide +kernel
theorem dJ3_checkFromIndexSize_8c36e_18 : decode cJ3_checkFromIndexSize_8c36e 18 = .ok (.iload_n 2, 1) := by decide +kernel
theorem dJ3_checkFromIndexSize_8c36e_19 : decode cJ3_checkFromIndexSize_8c36e 19 = .ok (.invokestatic 103, 3) := by decide +kernel
theorem dJ3_checkFromIndexSize_8c36e_22 : decode cJ3_checkFromIndexSize_8c36e 22 = .ok (.athrow, 1) := by decide +kernel
theorem dJ3_checkFromIndexSize_8c36e_23 : decode cJ3_checkFromIndexSize_8c36e 23 = .ok (.iload_n 0, 1) := by decide +kernel
theorem dJ3_checkFromIndexSize_8c36e_24 : decode cJ3_checkFromIndexSize_8c36e 24 = .ok (.ireturn, 1) := by decide +kernel
theorem dL_cell_0 : decode cL_cell 0 = .ok (.ldc 7, 2) := by decide +kernel
theorem dL_cell_2 : decode cL_cell 2 = .ok (.iload_n 1, 1) := by decide +kernel
theorem dL_cell_3 : decode cL_cell 3 = .ok (.aload_n 0, 1) := by decide +kernel
theorem dL_cell_4 : decode cL_cell 4 = .ok (.arraylength, 1) := by decide +kernel
theorem dL_cell_5 : decode cL_cell 5 = .ok (.if_icmp .ge 9, 3) := by decide +kernel
theorem dL_cell_8 : decode cL_cell 8 = .ok (.aload_n 0, 1) := by decide +kernel
theorem dL_cell_9 : decode cL_cell 9 = .ok (.iload_n 1, 1) := by decide +kernel
theorem dL_cell_10 : decode cL_cell 10 = .ok (.iaload, 1) := by decide +kernel
theorem dL_cell_11 : decode cL_cell 11 = .ok (.goto 4, 3) := by decide +kernel
theorem dL_cell_14 : decode cL_cell 14 = .ok (.iconst 0, 1) := by decide +kernel
theorem dL_cell_15 : decode cL_cell 15 = .ok (.sipush 1009, 3) := by decide +kernel
theorem dL_cell_18 : decode cL_cell 18 = .ok (.iload_n 1, 1) := by decide +kernel
theorem dL_cell_19 : decode cL_cell 19 = .ok (.imul, 1) := by decide +kernel
theorem dL_cell_20 : decode cL_cell 20 = .ok (.iadd, 1) := by decide +kernel
theorem dL_cell_21 : decode cL_cell 21 = .ok (.imul, 1) := by decide +kernel
theorem dL_cell_22 : decode cL_cell 22 = .ok (.sipush 12345, 3) := by decide +kernel
theorem dL_cell_25 : decode cL_cell 25 = .ok (.iadd, 1) := by decide +kernel
theorem dL_cell_26 : decode cL_cell 26 = .ok (.istore_n 2, 1) := by decide +kernel
theorem dL_cell_27 : decode cL_cell 27 = .ok (.iload_n 2, 1) := by decide +kernel
theorem dL_cell_28 : decode cL_cell 28 = .ok (.iload_n 2, 1) := by decide +kernel
theorem dL_cell_29 : decode cL_cell 29 = .ok (.bipush 13, 2) := by decide +kernel
theorem dL_cell_31 : decode cL_cell 31 = .ok (.iushr, 1) := by decide +kernel
theorem dL_cell_32 : decode cL_cell 32 = .ok (.ixor, 1) := by decide +kernel
theorem dL_cell_33 : decode cL_cell 33 = .ok (.ldc 8, 2) := by decide +kernel
theorem dL_cell_35 : decode cL_cell 35 = .ok (.imul, 1) := by decide +kernel
theorem dL_cell_36 : decode cL_cell 36 = .ok (.istore_n 2, 1) := by decide +kernel
theorem dL_cell_37 : decode cL_cell 37 = .ok (.iload_n 2, 1) := by decide +kernel
theorem dL_cell_38 : decode cL_cell 38 = .ok (.iload_n 2, 1) := by decide +kernel
theorem dL_cell_39 : decode cL_cell 39 = .ok (.bipush 16, 2) := by decide +kernel
theorem dL_cell_41 : decode cL_cell 41 = .ok (.iushr, 1) := by decide +kernel
theorem dL_cell_42 : decode cL_cell 42 = .ok (.ixor, 1) := by decide +kernel
theorem dL_cell_43 : decode cL_cell 43 = .ok (.ireturn, 1) := by decide +kernel
theorem dL_addWaypoint_0 : decode cL_addWaypoint 0 = .ok (.aload_n 0, 1) := by decide +kernel
theorem dL_addWaypoint_1 : decode cL_addWaypoint 1 = .ok (.iload_n 1, 1) := by decide +kernel
theorem dL_addWaypoint_2 : decode cL_addWaypoint 2 = .ok (.iload_n 2, 1) := by decide +kernel
theorem dL_addWaypoint_3 : decode cL_addWaypoint 3 = .ok (.iload_n 3, 1) := by decide +kernel
theorem dL_addWaypoint_4 : decode cL_addWaypoint 4 = .ok (.invokevirtual 9, 3) := by decide +kernel
theorem dL_addWaypoint_7 : decode cL_addWaypoint 7 = .ok (.ireturn, 1) := by decide +kernel
theorem dL_addWaypoint_8 : decode cL_addWaypoint 8 = .ok (.astore 4, 2) := by decide +kernel
theorem dL_addWaypoint_10 : decode cL_addWaypoint 10 = .ok (.ldc 17, 2) := by decide +kernel
theorem dL_addWaypoint_12 : decode cL_addWaypoint 12 = .ok (.ireturn, 1) := by decide +kernel
theorem dL_addWaypoint_13 : decode cL_addWaypoint 13 = .ok (.astore 4, 2) := by decide +kernel
theorem dL_addWaypoint_15 : decode cL_addWaypoint 15 = .ok (.ldc 20, 2) := by decide +kernel
theorem dL_addWaypoint_17 : decode cL_addWaypoint 17 = .ok (.ireturn, 1) := by decide +kernel
theorem dL_addTrail_0 : decode cL_addTrail 0 = .ok (.aload_n 0, 1) := by decide +kernel
theorem dL_addTrail_1 : decode cL_addTrail 1 = .ok (.iload_n 1, 1) := by decide +kernel
theorem dL_addTrail_2 : decode cL_addTrail 2 = .ok (.iload_n 2, 1) := by decide +kernel
theorem dL_addTrail_3 : decode cL_addTrail 3 = .ok (.iload_n 3, 1) := by decide +kernel
theorem dL_addTrail_4 : decode cL_addTrail 4 = .ok (.invokevirtual 21, 3) := by decide +kernel
theorem dL_addTrail_7 : decode cL_addTrail 7 = .ok (.ireturn, 1) := by decide +kernel
theorem dL_addTrail_8 : decode cL_addTrail 8 = .ok (.astore 4, 2) := by decide +kernel
theorem dL_addTrail_10 : decode cL_addTrail 10 = .ok (.ldc 17, 2) := by decide +kernel
theorem dL_addTrail_12 : decode cL_addTrail 12 = .ok (.ireturn, 1) := by decide +kernel
theorem dL_addTrail_13 : decode cL_addTrail 13 = .ok (.astore 4, 2) := by decide +kernel
theorem dL_addTrail_15 : decode cL_addTrail 15 = .ok (.ldc 20, 2) := by decide +kernel
theorem dL_addTrail_17 : decode cL_addTrail 17 = .ok (.ireturn, 1) := by decide +kernel
theorem dL_addTrail_18 : decode cL_addTrail 18 = .ok (.astore 4, 2) := by decide +kernel
theorem dL_addTrail_20 : decode cL_addTrail 20 = .ok (.ldc 26, 2) := by decide +kernel
theorem dL_addTrail_22 : decode cL_addTrail 22 = .ok (.ireturn, 1) := by decide +kernel
theorem dL_removeTrail_0 : decode cL_removeTrail 0 = .ok (.aload_n 0, 1) := by decide +kernel
theorem dL_removeTrail_1 : decode cL_removeTrail 1 = .ok (.iload_n 1, 1) := by decide +kernel
theorem dL_removeTrail_2 : decode cL_removeTrail 2 = .ok (.iload_n 2, 1) := by decide +kernel
theorem dL_removeTrail_3 : decode cL_removeTrail 3 = .ok (.invokevirtual 27, 3) := by decide +kernel
theorem dL_removeTrail_6 : decode cL_removeTrail 6 = .ok (.ireturn, 1) := by decide +kernel
theorem dL_removeTrail_7 : decode cL_removeTrail 7 = .ok (.astore_n 3, 1) := by decide +kernel
theorem dL_removeTrail_8 : decode cL_removeTrail 8 = .ok (.ldc 17, 2) := by decide +kernel
theorem dL_removeTrail_10 : decode cL_removeTrail 10 = .ok (.ireturn, 1) := by decide +kernel
theorem dL_removeTrail_11 : decode cL_removeTrail 11 = .ok (.astore_n 3, 1) := by decide +kernel
theorem dL_removeTrail_12 : decode cL_removeTrail 12 = .ok (.ldc 20, 2) := by decide +kernel
theorem dL_removeTrail_14 : decode cL_removeTrail 14 = .ok (.ireturn, 1) := by decide +kernel
theorem dL_startTour_0 : decode cL_startTour 0 = .ok (.aload_n 0, 1) := by decide +kernel
theorem dL_startTour_1 : decode cL_startTour 1 = .ok (.iload_n 1, 1) := by decide +kernel
theorem dL_startTour_2 : decode cL_startTour 2 = .ok (.iload_n 2, 1) := by decide +kernel
theorem dL_startTour_3 : decode cL_startTour 3 = .ok (.invokevirtual 33, 3) := by decide +kernel
theorem dL_startTour_6 : decode cL_startTour 6 = .ok (.ireturn, 1) := by decide +kernel
theorem dL_startTour_7 : decode cL_startTour 7 = .ok (.astore_n 3, 1) := by decide +kernel
theorem dL_startTour_8 : decode cL_startTour 8 = .ok (.ldc 17, 2) := by decide +kernel
theorem dL_startTour_10 : decode cL_startTour 10 = .ok (.ireturn, 1) := by decide +kernel
theorem dL_startTour_11 : decode cL_startTour 11 = .ok (.astore_n 3, 1) := by decide +kernel
theorem dL_startTour_12 : decode cL_startTour 12 = .ok (.ldc 20, 2) := by decide +kernel
theorem dL_startTour_14 : decode cL_startTour 14 = .ok (.ireturn, 1) := by decide +kernel
theorem dL_startTour_15 : decode cL_startTour 15 = .ok (.astore_n 3, 1) := by decide +kernel
theorem dL_startTour_16 : decode cL_startTour 16 = .ok (.ldc 26, 2) := by decide +kernel
theorem dL_startTour_18 : decode cL_startTour 18 = .ok (.ireturn, 1) := by decide +kernel
theorem dL_startTour_19 : decode cL_startTour 19 = .ok (.astore_n 3, 1) := by decide +kernel
theorem dL_startTour_20 : decode cL_startTour 20 = .ok (.ldc 36, 2) := by decide +kernel
theorem dL_startTour_22 : decode cL_startTour 22 = .ok (.ireturn, 1) := by decide +kernel
theorem dL_stopTour_0 : decode cL_stopTour 0 = .ok (.aload_n 0, 1) := by decide +kernel
theorem dL_stopTour_1 : decode cL_stopTour 1 = .ok (.invokevirtual 37, 3) := by decide +kernel
theorem dL_stopTour_4 : decode cL_stopTour 4 = .ok (.ireturn, 1) := by decide +kernel
theorem dL_stopTour_5 : decode cL_stopTour 5 = .ok (.astore_n 1, 1) := by decide +kernel
theorem dL_stopTour_6 : decode cL_stopTour 6 = .ok (.ldc 17, 2) := by decide +kernel
theorem dL_stopTour_8 : decode cL_stopTour 8 = .ok (.ireturn, 1) := by decide +kernel
theorem dL_setTolerance_0 : decode cL_setTolerance 0 = .ok (.aload_n 0, 1) := by decide +kernel
theorem dL_setTolerance_1 : decode cL_setTolerance 1 = .ok (.iload_n 1, 1) := by decide +kernel
theorem dL_setTolerance_2 : decode cL_setTolerance 2 = .ok (.invokevirtual 41, 3) := by decide +kernel
theorem dL_setTolerance_5 : decode cL_setTolerance 5 = .ok (.ireturn, 1) := by decide +kernel
theorem dL_setTolerance_6 : decode cL_setTolerance 6 = .ok (.astore_n 2, 1) := by decide +kernel
theorem dL_setTolerance_7 : decode cL_setTolerance 7 = .ok (.ldc 17, 2) := by decide +kernel
theorem dL_setTolerance_9 : decode cL_setTolerance 9 = .ok (.ireturn, 1) := by decide +kernel
theorem dL_setMode_0 : decode cL_setMode 0 = .ok (.aload_n 0, 1) := by decide +kernel
theorem dL_setMode_1 : decode cL_setMode 1 = .ok (.iload_n 1, 1) := by decide +kernel
theorem dL_setMode_2 : decode cL_setMode 2 = .ok (.invokevirtual 45, 3) := by decide +kernel
theorem dL_setMode_5 : decode cL_setMode 5 = .ok (.ireturn, 1) := by decide +kernel
theorem dL_setMode_6 : decode cL_setMode 6 = .ok (.astore_n 2, 1) := by decide +kernel
theorem dL_setMode_7 : decode cL_setMode 7 = .ok (.ldc 17, 2) := by decide +kernel
theorem dL_setMode_9 : decode cL_setMode 9 = .ok (.ireturn, 1) := by decide +kernel
theorem dL_charge_0 : decode cL_charge 0 = .ok (.aload_n 0, 1) := by decide +kernel
theorem dL_charge_1 : decode cL_charge 1 = .ok (.iload_n 1, 1) := by decide +kernel
theorem dL_charge_2 : decode cL_charge 2 = .ok (.invokevirtual 48, 3) := by decide +kernel
theorem dL_charge_5 : decode cL_charge 5 = .ok (.ireturn, 1) := by decide +kernel
theorem dL_charge_6 : decode cL_charge 6 = .ok (.astore_n 2, 1) := by decide +kernel
theorem dL_charge_7 : decode cL_charge 7 = .ok (.ldc 17, 2) := by decide +kernel
theorem dL_charge_9 : decode cL_charge 9 = .ok (.ireturn, 1) := by decide +kernel
theorem dL_distance_0 : decode cL_distance 0 = .ok (.aload_n 0, 1) := by decide +kernel
theorem dL_distance_1 : decode cL_distance 1 = .ok (.iload_n 1, 1) := by decide +kernel
theorem dL_distance_2 : decode cL_distance 2 = .ok (.iload_n 2, 1) := by decide +kernel
theorem dL_distance_3 : decode cL_distance 3 = .ok (.invokevirtual 51, 3) := by decide +kernel
theorem dL_distance_6 : decode cL_distance 6 = .ok (.ireturn, 1) := by decide +kernel
theorem dL_distance_7 : decode cL_distance 7 = .ok (.astore_n 3, 1) := by decide +kernel
theorem dL_distance_8 : decode cL_distance 8 = .ok (.ldc 17, 2) := by decide +kernel
theorem dL_distance_10 : decode cL_distance 10 = .ok (.ireturn, 1) := by decide +kernel
theorem dL_distance_11 : decode cL_distance 11 = .ok (.astore_n 3, 1) := by decide +kernel
theorem dL_distance_12 : decode cL_distance 12 = .ok (.ldc 20, 2) := by decide +kernel
theorem dL_distance_14 : decode cL_distance 14 = .ok (.ireturn, 1) := by decide +kernel
theorem dL_distanceByRelaxation_0 : decode cL_distanceByRelaxation 0 = .ok (.aload_n 0, 1) := by decide +kernel
theorem dL_distanceByRelaxation_1 : decode cL_distanceByRelaxation 1 = .ok (.iload_n 1, 1) := by decide +kernel
theorem dL_distanceByRelaxation_2 : decode cL_distanceByRelaxation 2 = .ok (.iload_n 2, 1) := by decide +kernel
theorem dL_distanceByRelaxation_3 : decode cL_distanceByRelaxation 3 = .ok (.invokevirtual 54, 3) := by decide +kernel
theorem dL_distanceByRelaxation_6 : decode cL_distanceByRelaxation 6 = .ok (.ireturn, 1) := by decide +kernel
theorem dL_distanceByRelaxation_7 : decode cL_distanceByRelaxation 7 = .ok (.astore_n 3, 1) := by decide +kernel
theorem dL_distanceByRelaxation_8 : decode cL_distanceByRelaxation 8 = .ok (.ldc 17, 2) := by decide +kernel
theorem dL_distanceByRelaxation_10 : decode cL_distanceByRelaxation 10 = .ok (.ireturn, 1) := by decide +kernel
theorem dL_distanceByRelaxation_11 : decode cL_distanceByRelaxation 11 = .ok (.astore_n 3, 1) := by decide +kernel
theorem dL_distanceByRelaxation_12 : decode cL_distanceByRelaxation 12 = .ok (.ldc 20, 2) := by decide +kernel
theorem dL_distanceByRelaxation_14 : decode cL_distanceByRelaxation 14 = .ok (.ireturn, 1) := by decide +kernel
theorem dL_nearest_0 : decode cL_nearest 0 = .ok (.aload_n 0, 1) := by decide +kernel
theorem dL_nearest_1 : decode cL_nearest 1 = .ok (.iload_n 1, 1) := by decide +kernel
theorem dL_nearest_2 : decode cL_nearest 2 = .ok (.iload_n 2, 1) := by decide +kernel
theorem dL_nearest_3 : decode cL_nearest 3 = .ok (.invokevirtual 57, 3) := by decide +kernel
theorem dL_nearest_6 : decode cL_nearest 6 = .ok (.ireturn, 1) := by decide +kernel
theorem dL_nearest_7 : decode cL_nearest 7 = .ok (.astore_n 3, 1) := by decide +kernel
theorem dL_nearest_8 : decode cL_nearest 8 = .ok (.ldc 17, 2) := by decide +kernel
theorem dL_nearest_10 : decode cL_nearest 10 = .ok (.ireturn, 1) := by decide +kernel
theorem dL_nearest_11 : decode cL_nearest 11 = .ok (.astore_n 3, 1) := by decide +kernel
theorem dL_nearest_12 : decode cL_nearest 12 = .ok (.ldc 20, 2) := by decide +kernel
theorem dL_nearest_14 : decode cL_nearest 14 = .ok (.ireturn, 1) := by decide +kernel
theorem dL_target_0 : decode cL_target 0 = .ok (.aload_n 0, 1) := by decide +kernel
theorem dL_target_1 : decode cL_target 1 = .ok (.invokevirtual 60, 3) := by decide +kernel
theorem dL_target_4 : decode cL_target 4 = .ok (.ireturn, 1) := by decide +kernel
theorem dL_target_5 : decode cL_target 5 = .ok (.astore_n 1, 1) := by decide +kernel
theorem dL_target_6 : decode cL_target 6 = .ok (.ldc 17, 2) := by decide +kernel
theorem dL_target_8 : decode cL_target 8 = .ok (.ireturn, 1) := by decide +kernel
theorem dL_drift_0 : decode cL_drift 0 = .ok (.aload_n 0, 1) := by decide +kernel
theorem dL_drift_1 : decode cL_drift 1 = .ok (.invokevirtual 63, 3) := by decide +kernel
theorem dL_drift_4 : decode cL_drift 4 = .ok (.ireturn, 1) := by decide +kernel
theorem dL_drift_5 : decode cL_drift 5 = .ok (.astore_n 1, 1) := by decide +kernel
theorem dL_drift_6 : decode cL_drift 6 = .ok (.ldc 17, 2) := by decide +kernel
theorem dL_drift_8 : decode cL_drift 8 = .ok (.ireturn, 1) := by decide +kernel
theorem dL_run_0 : decode cL_run 0 = .ok (.aload_n 0, 1) := by decide +kernel
theorem dL_run_1 : decode cL_run 1 = .ok (.invokevirtual 66, 3) := by decide +kernel
theorem dL_run_4 : decode cL_run 4 = .ok (.ireturn, 1) := by decide +kernel
theorem dL_run_5 : decode cL_run 5 = .ok (.astore_n 1, 1) := by decide +kernel
theorem dL_run_6 : decode cL_run 6 = .ok (.ldc 17, 2) := by decide +kernel
theorem dL_run_8 : decode cL_run 8 = .ok (.ireturn, 1) := by decide +kernel
theorem dL_run_9 : decode cL_run 9 = .ok (.astore_n 1, 1) := by decide +kernel
theorem dL_run_10 : decode cL_run 10 = .ok (.ldc 20, 2) := by decide +kernel
theorem dL_run_12 : decode cL_run 12 = .ok (.ireturn, 1) := by decide +kernel
theorem dL_undo_0 : decode cL_undo 0 = .ok (.aload_n 0, 1) := by decide +kernel
theorem dL_undo_1 : decode cL_undo 1 = .ok (.invokevirtual 71, 3) := by decide +kernel
theorem dL_undo_4 : decode cL_undo 4 = .ok (.ireturn, 1) := by decide +kernel
theorem dL_undo_5 : decode cL_undo 5 = .ok (.astore_n 1, 1) := by decide +kernel
theorem dL_undo_6 : decode cL_undo 6 = .ok (.ldc 17, 2) := by decide +kernel
theorem dL_undo_8 : decode cL_undo 8 = .ok (.ireturn, 1) := by decide +kernel
theorem dL_restore_0 : decode cL_restore 0 = .ok (.aload_n 0, 1) := by decide +kernel
theorem dL_restore_1 : decode cL_restore 1 = .ok (.invokevirtual 74, 3) := by decide +kernel
theorem dL_restore_4 : decode cL_restore 4 = .ok (.ireturn, 1) := by decide +kernel
theorem dL_restore_5 : decode cL_restore 5 = .ok (.astore_n 1, 1) := by decide +kernel
theorem dL_restore_6 : decode cL_restore 6 = .ok (.ldc 17, 2) := by decide +kernel
theorem dL_restore_8 : decode cL_restore 8 = .ok (.ireturn, 1) := by decide +kernel
theorem dL_update_0 : decode cL_update 0 = .ok (.aload_n 0, 1) := by decide +kernel
theorem dL_update_1 : decode cL_update 1 = .ok (.iload_n 1, 1) := by decide +kernel
theorem dL_update_2 : decode cL_update 2 = .ok (.iload_n 2, 1) := by decide +kernel
theorem dL_update_3 : decode cL_update 3 = .ok (.invokevirtual 77, 3) := by decide +kernel
theorem dL_update_6 : decode cL_update 6 = .ok (.ifCond .eq 7, 3) := by decide +kernel
theorem dL_update_9 : decode cL_update 9 = .ok (.iconst 1, 1) := by decide +kernel
theorem dL_update_10 : decode cL_update 10 = .ok (.goto 4, 3) := by decide +kernel
theorem dL_update_13 : decode cL_update 13 = .ok (.iconst 0, 1) := by decide +kernel
theorem dL_update_14 : decode cL_update 14 = .ok (.ireturn, 1) := by decide +kernel
theorem dL_update_15 : decode cL_update 15 = .ok (.astore_n 3, 1) := by decide +kernel
theorem dL_update_16 : decode cL_update 16 = .ok (.ldc 17, 2) := by decide +kernel
theorem dL_update_18 : decode cL_update 18 = .ok (.ireturn, 1) := by decide +kernel
theorem dL_update_19 : decode cL_update 19 = .ok (.astore_n 3, 1) := by decide +kernel
theorem dL_update_20 : decode cL_update 20 = .ok (.ldc 20, 2) := by decide +kernel
theorem dL_update_22 : decode cL_update 22 = .ok (.ireturn, 1) := by decide +kernel
theorem dL_update_23 : decode cL_update 23 = .ok (.astore_n 3, 1) := by decide +kernel
theorem dL_update_24 : decode cL_update 24 = .ok (.ldc 26, 2) := by decide +kernel
theorem dL_update_26 : decode cL_update 26 = .ok (.ireturn, 1) := by decide +kernel
theorem dL_in_0 : decode cL_in 0 = .ok (.aload_n 0, 1) := by decide +kernel
theorem dL_in_1 : decode cL_in 1 = .ok (.iload_n 1, 1) := by decide +kernel
theorem dL_in_2 : decode cL_in 2 = .ok (.invokestatic 81, 3) := by decide +kernel
theorem dL_in_5 : decode cL_in 5 = .ok (.ldc 87, 2) := by decide +kernel
theorem dL_in_7 : decode cL_in 7 = .ok (.iand, 1) := by decide +kernel
theorem dL_in_8 : decode cL_in 8 = .ok (.iload_n 2, 1) := by decide +kernel
theorem dL_in_9 : decode cL_in 9 = .ok (.irem, 1) := by decide +kernel
theorem dL_in_10 : decode cL_in 10 = .ok (.ireturn, 1) := by decide +kernel
theorem dL_does_0 : decode cL_does 0 = .ok (.iconst 0, 1) := by decide +kernel
theorem dL_does_1 : decode cL_does 1 = .ok (.istore_n 2, 1) := by decide +kernel
theorem dL_does_2 : decode cL_does 2 = .ok (.iconst 0, 1) := by decide +kernel
theorem dL_does_3 : decode cL_does 3 = .ok (.istore_n 3, 1) := by decide +kernel
theorem dL_does_4 : decode cL_does 4 = .ok (.iload_n 3, 1) := by decide +kernel
theorem dL_does_5 : decode cL_does 5 = .ok (.aload_n 1, 1) := by decide +kernel
theorem dL_does_6 : decode cL_does 6 = .ok (.invokevirtual 88, 3) := by decide +kernel
theorem dL_does_9 : decode cL_does 9 = .ok (.if_icmp .ge 21, 3) := by decide +kernel
theorem dL_does_12 : decode cL_does 12 = .ok (.iload_n 2, 1) := by decide +kernel
theorem dL_does_13 : decode cL_does 13 = .ok (.aload_n 0, 1) := by decide +kernel
theorem dL_does_14 : decode cL_does 14 = .ok (.aload_n 1, 1) := by decide +kernel
theorem dL_does_15 : decode cL_does 15 = .ok (.iload_n 3, 1) := by decide +kernel
theorem dL_does_16 : decode cL_does 16 = .ok (.invokevirtual 93, 3) := by decide +kernel
theorem dL_does_19 : decode cL_does 19 = .ok (.invokevirtual 97, 3) := by decide +kernel
theorem dL_does_22 : decode cL_does 22 = .ok (.iadd, 1) := by decide +kernel
theorem dL_does_23 : decode cL_does 23 = .ok (.istore_n 2, 1) := by decide +kernel
theorem dL_does_24 : decode cL_does 24 = .ok (.iinc 3 1, 3) := by decide +kernel
theorem dL_does_27 : decode cL_does 27 = .ok (.goto (-23), 3) := by decide +kernel
theorem dL_does_30 : decode cL_does 30 = .ok (.iload_n 2, 1) := by decide +kernel
theorem dL_does_31 : decode cL_does 31 = .ok (.ifCond .ge 8, 3) := by decide +kernel
theorem dL_does_34 : decode cL_does 34 = .ok (.ldc 101, 2) := by decide +kernel
theorem dL_does_36 : decode cL_does 36 = .ok (.goto 7, 3) := by decide +kernel
theorem dL_does_39 : decode cL_does 39 = .ok (.aload_n 0, 1) := by decide +kernel
theorem dL_does_40 : decode cL_does 40 = .ok (.invokestatic 102, 3) := by decide +kernel
theorem dL_does_43 : decode cL_does 43 = .ok (.ireturn, 1) := by decide +kernel
theorem dL_begun_0 : decode cL_begun 0 = .ok (.new 10, 3) := by decide +kernel
theorem dL_begun_3 : decode cL_begun 3 = .ok (.dup, 1) := by decide +kernel
theorem dL_begun_4 : decode cL_begun 4 = .ok (.invokespecial 105, 3) := by decide +kernel
theorem dL_begun_7 : decode cL_begun 7 = .ok (.astore_n 1, 1) := by decide +kernel
theorem dL_begun_8 : decode cL_begun 8 = .ok (.iconst 0, 1) := by decide +kernel
theorem dL_begun_9 : decode cL_begun 9 = .ok (.istore_n 2, 1) := by decide +kernel
theorem dL_begun_10 : decode cL_begun 10 = .ok (.iconst 4, 1) := by decide +kernel
theorem dL_begun_11 : decode cL_begun 11 = .ok (.aload_n 0, 1) := by decide +kernel
theorem dL_begun_12 : decode cL_begun 12 = .ok (.iconst 0, 1) := by decide +kernel
theorem dL_begun_13 : decode cL_begun 13 = .ok (.iconst 5, 1) := by decide +kernel
theorem dL_begun_14 : decode cL_begun 14 = .ok (.invokestatic 106, 3) := by decide +kernel
theorem dL_begun_17 : decode cL_begun 17 = .ok (.iadd, 1) := by decide +kernel
theorem dL_begun_18 : decode cL_begun 18 = .ok (.istore_n 3, 1) := by decide +kernel
theorem dL_begun_19 : decode cL_begun 19 = .ok (.aload_n 0, 1) := by decide +kernel
theorem dL_begun_20 : decode cL_begun 20 = .ok (.iconst 1, 1) := by decide +kernel
theorem dL_begun_21 : decode cL_begun 21 = .ok (.iconst 2, 1) := by decide +kernel
theorem dL_begun_22 : decode cL_begun 22 = .ok (.invokestatic 106, 3) := by decide +kernel
theorem dL_begun_25 : decode cL_begun 25 = .ok (.ifCond .ne 8, 3) := by decide +kernel
theorem dL_begun_28 : decode cL_begun 28 = .ok (.bipush 20, 2) := by decide +kernel
theorem dL_begun_30 : decode cL_begun 30 = .ok (.goto 5, 3) := by decide +kernel
theorem dL_begun_33 : decode cL_begun 33 = .ok (.bipush 100, 2) := by decide +kernel
theorem dL_begun_35 : decode cL_begun 35 = .ok (.istore 4, 2) := by decide +kernel
theorem dL_begun_37 : decode cL_begun 37 = .ok (.iconst 0, 1) := by decide +kernel
theorem dL_begun_38 : decode cL_begun 38 = .ok (.istore 5, 2) := by decide +kernel
theorem dL_begun_40 : decode cL_begun 40 = .ok (.iload 5, 2) := by decide +kernel
theorem dL_begun_42 : decode cL_begun 42 = .ok (.iload_n 3, 1) := by decide +kernel
theorem dL_begun_43 : decode cL_begun 43 = .ok (.if_icmp .ge 50, 3) := by decide +kernel
theorem dL_begun_46 : decode cL_begun 46 = .ok (.iload_n 2, 1) := by decide +kernel
theorem dL_begun_47 : decode cL_begun 47 = .ok (.aload_n 1, 1) := by decide +kernel
theorem dL_begun_48 : decode cL_begun 48 = .ok (.aload_n 0, 1) := by decide +kernel
theorem dL_begun_49 : decode cL_begun 49 = .ok (.iconst 2, 1) := by decide +kernel
theorem dL_begun_50 : decode cL_begun 50 = .ok (.iload 5, 2) := by decide +kernel
theorem dL_begun_52 : decode cL_begun 52 = .ok (.iadd, 1) := by decide +kernel
theorem dL_begun_53 : decode cL_begun 53 = .ok (.iload 4, 2) := by decide +kernel
theorem dL_begun_55 : decode cL_begun 55 = .ok (.invokestatic 106, 3) := by decide +kernel
theorem dL_begun_58 : decode cL_begun 58 = .ok (.aload_n 0, 1) := by decide +kernel
theorem dL_begun_59 : decode cL_begun 59 = .ok (.bipush 11, 2) := by decide +kernel
theorem dL_begun_61 : decode cL_begun 61 = .ok (.iload 5, 2) := by decide +kernel
theorem dL_begun_63 : decode cL_begun 63 = .ok (.iadd, 1) := by decide +kernel
theorem dL_begun_64 : decode cL_begun 64 = .ok (.iload 4, 2) := by decide +kernel
theorem dL_begun_66 : decode cL_begun 66 = .ok (.invokestatic 106, 3) := by decide +kernel
theorem dL_begun_69 : decode cL_begun 69 = .ok (.iconst 1, 1) := by decide +kernel
theorem dL_begun_70 : decode cL_begun 70 = .ok (.aload_n 0, 1) := by decide +kernel
theorem dL_begun_71 : decode cL_begun 71 = .ok (.bipush 20, 2) := by decide +kernel
theorem dL_begun_73 : decode cL_begun 73 = .ok (.iload 5, 2) := by decide +kernel
theorem dL_begun_75 : decode cL_begun 75 = .ok (.iadd, 1) := by decide +kernel
theorem dL_begun_76 : decode cL_begun 76 = .ok (.bipush 9, 2) := by decide +kernel
theorem dL_begun_78 : decode cL_begun 78 = .ok (.invokestatic 106, 3) := by decide +kernel
theorem dL_begun_81 : decode cL_begun 81 = .ok (.iadd, 1) := by decide +kernel
theorem dL_begun_82 : decode cL_begun 82 = .ok (.invokestatic 110, 3) := by decide +kernel
theorem dL_begun_85 : decode cL_begun 85 = .ok (.iadd, 1) := by decide +kernel
theorem dL_begun_86 : decode cL_begun 86 = .ok (.istore_n 2, 1) := by decide +kernel
theorem dL_begun_87 : decode cL_begun 87 = .ok (.iinc 5 1, 3) := by decide +kernel
theorem dL_begun_90 : decode cL_begun 90 = .ok (.goto (-50), 3) := by decide +kernel
theorem dL_begun_93 : decode cL_begun 93 = .ok (.iconst 0, 1) := by decide +kernel
theorem dL_begun_94 : decode cL_begun 94 = .ok (.istore 5, 2) := by decide +kernel
theorem dL_begun_96 : decode cL_begun 96 = .ok (.iload 5, 2) := by decide +kernel
theorem dL_begun_98 : decode cL_begun 98 = .ok (.bipush 12, 2) := by decide +kernel
theorem dL_begun_100 : decode cL_begun 100 = .ok (.if_icmp .ge 49, 3) := by decide +kernel
theorem dL_begun_103 : decode cL_begun 103 = .ok (.iload_n 2, 1) := by decide +kernel
theorem dL_begun_104 : decode cL_begun 104 = .ok (.aload_n 1, 1) := by decide +kernel
theorem dL_begun_105 : decode cL_begun 105 = .ok (.aload_n 0, 1) := by decide +kernel
theorem dL_begun_106 : decode cL_begun 106 = .ok (.bipush 29, 2) := by decide +kernel
theorem dL_begun_108 : decode cL_begun 108 = .ok (.iload 5, 2) := by decide +kernel
theorem dL_begun_110 : decode cL_begun 110 = .ok (.iadd, 1) := by decide +kernel
theorem dL_begun_111 : decode cL_begun 111 = .ok (.iload_n 3, 1) := by decide +kernel
theorem dL_begun_112 : decode cL_begun 112 = .ok (.invokestatic 106, 3) := by decide +kernel
theorem dL_begun_115 : decode cL_begun 115 = .ok (.aload_n 0, 1) := by decide +kernel
theorem dL_begun_116 : decode cL_begun 116 = .ok (.bipush 41, 2) := by decide +kernel
theorem dL_begun_118 : decode cL_begun 118 = .ok (.iload 5, 2) := by decide +kernel
theorem dL_begun_120 : decode cL_begun 120 = .ok (.iadd, 1) := by decide +kernel
theorem dL_begun_121 : decode cL_begun 121 = .ok (.iload_n 3, 1) := by decide +kernel
theorem dL_begun_122 : decode cL_begun 122 = .ok (.invokestatic 106, 3) := by decide +kernel
theorem dL_begun_125 : decode cL_begun 125 = .ok (.iconst 1, 1) := by decide +kernel
theorem dL_begun_126 : decode cL_begun 126 = .ok (.aload_n 0, 1) := by decide +kernel
theorem dL_begun_127 : decode cL_begun 127 = .ok (.bipush 53, 2) := by decide +kernel
theorem dL_begun_129 : decode cL_begun 129 = .ok (.iload 5, 2) := by decide +kernel
theorem dL_begun_131 : decode cL_begun 131 = .ok (.iadd, 1) := by decide +kernel
theorem dL_begun_132 : decode cL_begun 132 = .ok (.bipush 12, 2) := by decide +kernel
theorem dL_begun_134 : decode cL_begun 134 = .ok (.invokestatic 106, 3) := by decide +kernel
theorem dL_begun_137 : decode cL_begun 137 = .ok (.iadd, 1) := by decide +kernel
theorem dL_begun_138 : decode cL_begun 138 = .ok (.invokestatic 113, 3) := by decide +kernel
theorem dL_begun_141 : decode cL_begun 141 = .ok (.iadd, 1) := by decide +kernel
theorem dL_begun_142 : decode cL_begun 142 = .ok (.istore_n 2, 1) := by decide +kernel
theorem dL_begun_143 : decode cL_begun 143 = .ok (.iinc 5 1, 3) := by decide +kernel
theorem dL_begun_146 : decode cL_begun 146 = .ok (.goto (-50), 3) := by decide +kernel
theorem dL_begun_149 : decode cL_begun 149 = .ok (.iload_n 2, 1) := by decide +kernel
theorem dL_begun_150 : decode cL_begun 150 = .ok (.aload_n 0, 1) := by decide +kernel
theorem dL_begun_151 : decode cL_begun 151 = .ok (.bipush 65, 2) := by decide +kernel
theorem dL_begun_153 : decode cL_begun 153 = .ok (.iconst 4, 1) := by decide +kernel
theorem dL_begun_154 : decode cL_begun 154 = .ok (.invokestatic 106, 3) := by decide +kernel
theorem dL_begun_157 : decode cL_begun 157 = .ok (.ifCond .le 24, 3) := by decide +kernel
theorem dL_begun_160 : decode cL_begun 160 = .ok (.aload_n 1, 1) := by decide +kernel
theorem dL_begun_161 : decode cL_begun 161 = .ok (.aload_n 0, 1) := by decide +kernel
theorem dL_begun_162 : decode cL_begun 162 = .ok (.bipush 66, 2) := by decide +kernel
theorem dL_begun_164 : decode cL_begun 164 = .ok (.iload_n 3, 1) := by decide +kernel
theorem dL_begun_165 : decode cL_begun 165 = .ok (.invokestatic 106, 3) := by decide +kernel
theorem dL_begun_168 : decode cL_begun 168 = .ok (.aload_n 0, 1) := by decide +kernel
theorem dL_begun_169 : decode cL_begun 169 = .ok (.bipush 67, 2) := by decide +kernel
theorem dL_begun_171 : decode cL_begun 171 = .ok (.iload_n 3, 1) := by decide +kernel
theorem dL_begun_172 : decode cL_begun 172 = .ok (.invokestatic 106, 3) := by decide +kernel
theorem dL_begun_175 : decode cL_begun 175 = .ok (.invokestatic 115, 3) := by decide +kernel
theorem dL_begun_178 : decode cL_begun 178 = .ok (.goto 4, 3) := by decide +kernel
theorem dL_begun_181 : decode cL_begun 181 = .ok (.iconst 0, 1) := by decide +kernel
theorem dL_begun_182 : decode cL_begun 182 = .ok (.iadd, 1) := by decide +kernel
theorem dL_begun_183 : decode cL_begun 183 = .ok (.istore_n 2, 1) := by decide +kernel
theorem dL_begun_184 : decode cL_begun 184 = .ok (.iload_n 2, 1) := by decide +kernel
theorem dL_begun_185 : decode cL_begun 185 = .ok (.ldc 118, 2) := by decide +kernel
theorem dL_begun_187 : decode cL_begun 187 = .ok (.if_icmp .ge 7, 3) := by decide +kernel
theorem dL_begun_190 : decode cL_begun 190 = .ok (.aconst_null, 1) := by decide +kernel
theorem dL_begun_191 : decode cL_begun 191 = .ok (.goto 4, 3) := by decide +kernel
theorem dL_begun_194 : decode cL_begun 194 = .ok (.aload_n 1, 1) := by decide +kernel
theorem dL_begun_195 : decode cL_begun 195 = .ok (.areturn, 1) := by decide +kernel
theorem dL_acts_0 : decode cL_acts 0 = .ok (.aload_n 1, 1) := by decide +kernel
theorem dL_acts_1 : decode cL_acts 1 = .ok (.iload_n 2, 1) := by decide +kernel
theorem dL_acts_2 : decode cL_acts 2 = .ok (.iconst 1, 1) := by decide +kernel
theorem dL_acts_3 : decode cL_acts 3 = .ok (.iadd, 1) := by decide +kernel
theorem dL_acts_4 : decode cL_acts 4 = .ok (.bipush 9, 2) := by decide +kernel
theorem dL_acts_6 : decode cL_acts 6 = .ok (.invokestatic 106, 3) := by decide +kernel
theorem dL_acts_9 : decode cL_acts 9 = .ok (.istore_n 3, 1) := by decide +kernel
theorem dL_acts_10 : decode cL_acts 10 = .ok (.aload_n 1, 1) := by decide +kernel
theorem dL_acts_11 : decode cL_acts 11 = .ok (.iload_n 2, 1) := by decide +kernel
theorem dL_acts_12 : decode cL_acts 12 = .ok (.iconst 2, 1) := by decide +kernel
theorem dL_acts_13 : decode cL_acts 13 = .ok (.iadd, 1) := by decide +kernel
theorem dL_acts_14 : decode cL_acts 14 = .ok (.bipush 9, 2) := by decide +kernel
theorem dL_acts_16 : decode cL_acts 16 = .ok (.invokestatic 106, 3) := by decide +kernel
theorem dL_acts_19 : decode cL_acts 19 = .ok (.istore 4, 2) := by decide +kernel
theorem dL_acts_21 : decode cL_acts 21 = .ok (.aload_n 1, 1) := by decide +kernel
theorem dL_acts_22 : decode cL_acts 22 = .ok (.iload_n 2, 1) := by decide +kernel
theorem dL_acts_23 : decode cL_acts 23 = .ok (.iconst 3, 1) := by decide +kernel
theorem dL_acts_24 : decode cL_acts 24 = .ok (.iadd, 1) := by decide +kernel
theorem dL_acts_25 : decode cL_acts 25 = .ok (.bipush 40, 2) := by decide +kernel
theorem dL_acts_27 : decode cL_acts 27 = .ok (.invokestatic 106, 3) := by decide +kernel
theorem dL_acts_30 : decode cL_acts 30 = .ok (.istore 5, 2) := by decide +kernel
theorem dL_acts_32 : decode cL_acts 32 = .ok (.aload_n 1, 1) := by decide +kernel
theorem dL_acts_33 : decode cL_acts 33 = .ok (.iload_n 2, 1) := by decide +kernel
theorem dL_acts_34 : decode cL_acts 34 = .ok (.bipush 22, 2) := by decide +kernel
theorem dL_acts_36 : decode cL_acts 36 = .ok (.invokestatic 106, 3) := by decide +kernel
theorem dL_acts_39 : decode cL_acts 39 = .ok (.tableswitch 236 0 17 #[85, 104, 104, 104, 114, 114, 122, 122, 122, 130, 135, 135, 135, 135, 135, 209, 218, 226], 85) := by decide +kernel
theorem dL_acts_124 : decode cL_acts 124 = .ok (.aload_n 0, 1) := by decide +kernel
theorem dL_acts_125 : decode cL_acts 125 = .ok (.iconst 3, 1) := by decide +kernel
theorem dL_acts_126 : decode cL_acts 126 = .ok (.iload 5, 2) := by decide +kernel
theorem dL_acts_128 : decode cL_acts 128 = .ok (.imul, 1) := by decide +kernel
theorem dL_acts_129 : decode cL_acts 129 = .ok (.iconst 5, 1) := by decide +kernel
theorem dL_acts_130 : decode cL_acts 130 = .ok (.isub, 1) := by decide +kernel
theorem dL_acts_131 : decode cL_acts 131 = .ok (.bipush 11, 2) := by decide +kernel
theorem dL_acts_133 : decode cL_acts 133 = .ok (.iload_n 3, 1) := by decide +kernel
theorem dL_acts_134 : decode cL_acts 134 = .ok (.imul, 1) := by decide +kernel
theorem dL_acts_135 : decode cL_acts 135 = .ok (.iload 4, 2) := by decide +kernel
theorem dL_acts_137 : decode cL_acts 137 = .ok (.iconst 1, 1) := by decide +kernel
theorem dL_acts_138 : decode cL_acts 138 = .ok (.iadd, 1) := by decide +kernel
theorem dL_acts_139 : decode cL_acts 139 = .ok (.invokestatic 110, 3) := by decide +kernel
theorem dL_acts_142 : decode cL_acts 142 = .ok (.ireturn, 1) := by decide +kernel
theorem dL_acts_143 : decode cL_acts 143 = .ok (.aload_n 0, 1) := by decide +kernel
theorem dL_acts_144 : decode cL_acts 144 = .ok (.iload_n 3, 1) := by decide +kernel
theorem dL_acts_145 : decode cL_acts 145 = .ok (.iload 4, 2) := by decide +kernel
theorem dL_acts_147 : decode cL_acts 147 = .ok (.iload 5, 2) := by decide +kernel
theorem dL_acts_149 : decode cL_acts 149 = .ok (.invokestatic 113, 3) := by decide +kernel
theorem dL_acts_152 : decode cL_acts 152 = .ok (.ireturn, 1) := by decide +kernel
theorem dL_acts_153 : decode cL_acts 153 = .ok (.aload_n 0, 1) := by decide +kernel
theorem dL_acts_154 : decode cL_acts 154 = .ok (.iload_n 3, 1) := by decide +kernel
theorem dL_acts_155 : decode cL_acts 155 = .ok (.iload 4, 2) := by decide +kernel
theorem dL_acts_157 : decode cL_acts 157 = .ok (.invokestatic 119, 3) := by decide +kernel
theorem dL_acts_160 : decode cL_acts 160 = .ok (.ireturn, 1) := by decide +kernel
theorem dL_acts_161 : decode cL_acts 161 = .ok (.aload_n 0, 1) := by decide +kernel
theorem dL_acts_162 : decode cL_acts 162 = .ok (.iload_n 3, 1) := by decide +kernel
theorem dL_acts_163 : decode cL_acts 163 = .ok (.iload 4, 2) := by decide +kernel
theorem dL_acts_165 : decode cL_acts 165 = .ok (.invokestatic 115, 3) := by decide +kernel
theorem dL_acts_168 : decode cL_acts 168 = .ok (.ireturn, 1) := by decide +kernel
theorem dL_acts_169 : decode cL_acts 169 = .ok (.aload_n 0, 1) := by decide +kernel
theorem dL_acts_170 : decode cL_acts 170 = .ok (.invokestatic 121, 3) := by decide +kernel
theorem dL_acts_173 : decode cL_acts 173 = .ok (.ireturn, 1) := by decide +kernel
theorem dL_acts_174 : decode cL_acts 174 = .ok (.aload_n 0, 1) := by decide +kernel
theorem dL_acts_175 : decode cL_acts 175 = .ok (.invokevirtual 123, 3) := by decide +kernel
theorem dL_acts_178 : decode cL_acts 178 = .ok (.ifCond .eq 55, 3) := by decide +kernel
theorem dL_acts_181 : decode cL_acts 181 = .ok (.iload 5, 2) := by decide +kernel
theorem dL_acts_183 : decode cL_acts 183 = .ok (.iconst 4, 1) := by decide +kernel
theorem dL_acts_184 : decode cL_acts 184 = .ok (.irem, 1) := by decide +kernel
theorem dL_acts_185 : decode cL_acts 185 = .ok (.ifCond .le 48, 3) := by decide +kernel
theorem dL_acts_188 : decode cL_acts 188 = .ok (.aload_n 0, 1) := by decide +kernel
theorem dL_acts_189 : decode cL_acts 189 = .ok (.iconst 0, 1) := by decide +kernel
theorem dL_acts_190 : decode cL_acts 190 = .ok (.aload_n 0, 1) := by decide +kernel
theorem dL_acts_191 : decode cL_acts 191 = .ok (.aload_n 0, 1) := by decide +kernel
theorem dL_acts_192 : decode cL_acts 192 = .ok (.invokevirtual 60, 3) := by decide +kernel
theorem dL_acts_195 : decode cL_acts 195 = .ok (.invokevirtual 127, 3) := by decide +kernel
theorem dL_acts_198 : decode cL_acts 198 = .ok (.iload_n 3, 1) := by decide +kernel
theorem dL_acts_199 : decode cL_acts 199 = .ok (.iadd, 1) := by decide +kernel
theorem dL_acts_200 : decode cL_acts 200 = .ok (.iconst 4, 1) := by decide +kernel
theorem dL_acts_201 : decode cL_acts 201 = .ok (.isub, 1) := by decide +kernel
theorem dL_acts_202 : decode cL_acts 202 = .ok (.invokestatic 130, 3) := by decide +kernel
theorem dL_acts_205 : decode cL_acts 205 = .ok (.iconst 0, 1) := by decide +kernel
theorem dL_acts_206 : decode cL_acts 206 = .ok (.bipush 99, 2) := by decide +kernel
theorem dL_acts_208 : decode cL_acts 208 = .ok (.aload_n 0, 1) := by decide +kernel
theorem dL_acts_209 : decode cL_acts 209 = .ok (.aload_n 0, 1) := by decide +kernel
theorem dL_acts_210 : decode cL_acts 210 = .ok (.invokevirtual 60, 3) := by decide +kernel
theorem dL_acts_213 : decode cL_acts 213 = .ok (.invokevirtual 135, 3) := by decide +kernel
theorem dL_acts_216 : decode cL_acts 216 = .ok (.iload 4, 2) := by decide +kernel
theorem dL_acts_218 : decode cL_acts 218 = .ok (.iadd, 1) := by decide +kernel
theorem dL_acts_219 : decode cL_acts 219 = .ok (.iconst 4, 1) := by decide +kernel
theorem dL_acts_220 : decode cL_acts 220 = .ok (.isub, 1) := by decide +kernel
theorem dL_acts_221 : decode cL_acts 221 = .ok (.invokestatic 138, 3) := by decide +kernel
theorem dL_acts_224 : decode cL_acts 224 = .ok (.invokestatic 130, 3) := by decide +kernel
theorem dL_acts_227 : decode cL_acts 227 = .ok (.invokestatic 141, 3) := by decide +kernel
theorem dL_acts_230 : decode cL_acts 230 = .ok (.goto 17, 3) := by decide +kernel
theorem dL_acts_233 : decode cL_acts 233 = .ok (.aload_n 0, 1) := by decide +kernel
theorem dL_acts_234 : decode cL_acts 234 = .ok (.iconst 3, 1) := by decide +kernel
theorem dL_acts_235 : decode cL_acts 235 = .ok (.iload 5, 2) := by decide +kernel
theorem dL_acts_237 : decode cL_acts 237 = .ok (.imul, 1) := by decide +kernel
theorem dL_acts_238 : decode cL_acts 238 = .ok (.iconst 4, 1) := by decide +kernel
theorem dL_acts_239 : decode cL_acts 239 = .ok (.isub, 1) := by decide +kernel
theorem dL_acts_240 : decode cL_acts 240 = .ok (.bipush 11, 2) := by decide +kernel
theorem dL_acts_242 : decode cL_acts 242 = .ok (.iload_n 3, 1) := by decide +kernel
theorem dL_acts_243 : decode cL_acts 243 = .ok (.imul, 1) := by decide +kernel
theorem dL_acts_244 : decode cL_acts 244 = .ok (.invokestatic 141, 3) := by decide +kernel
theorem dL_acts_247 : decode cL_acts 247 = .ok (.ireturn, 1) := by decide +kernel
theorem dL_acts_248 : decode cL_acts 248 = .ok (.aload_n 0, 1) := by decide +kernel
theorem dL_acts_249 : decode cL_acts 249 = .ok (.iload 5, 2) := by decide +kernel
theorem dL_acts_251 : decode cL_acts 251 = .ok (.iconst 2, 1) := by decide +kernel
theorem dL_acts_252 : decode cL_acts 252 = .ok (.isub, 1) := by decide +kernel
theorem dL_acts_253 : decode cL_acts 253 = .ok (.invokestatic 143, 3) := by decide +kernel
theorem dL_acts_256 : decode cL_acts 256 = .ok (.ireturn, 1) := by decide +kernel
theorem dL_acts_257 : decode cL_acts 257 = .ok (.aload_n 0, 1) := by decide +kernel
theorem dL_acts_258 : decode cL_acts 258 = .ok (.iload_n 3, 1) := by decide +kernel
theorem dL_acts_259 : decode cL_acts 259 = .ok (.iconst 4, 1) := by decide +kernel
theorem dL_acts_260 : decode cL_acts 260 = .ok (.irem, 1) := by decide +kernel
theorem dL_acts_261 : decode cL_acts 261 = .ok (.invokestatic 146, 3) := by decide +kernel
theorem dL_acts_264 : decode cL_acts 264 = .ok (.ireturn, 1) := by decide +kernel
theorem dL_acts_265 : decode cL_acts 265 = .ok (.aload_n 0, 1) := by decide +kernel
theorem dL_acts_266 : decode cL_acts 266 = .ok (.bipush 25, 2) := by decide +kernel
theorem dL_acts_268 : decode cL_acts 268 = .ok (.iload 5, 2) := by decide +kernel
theorem dL_acts_270 : decode cL_acts 270 = .ok (.imul, 1) := by decide +kernel
theorem dL_acts_271 : decode cL_acts 271 = .ok (.invokestatic 148, 3) := by decide +kernel
theorem dL_acts_274 : decode cL_acts 274 = .ok (.ireturn, 1) := by decide +kernel
theorem dL_acts_275 : decode cL_acts 275 = .ok (.aload_n 0, 1) := by decide +kernel
theorem dL_acts_276 : decode cL_acts 276 = .ok (.new 150, 3) := by decide +kernel
theorem dL_acts_279 : decode cL_acts 279 = .ok (.dup, 1) := by decide +kernel
theorem dL_acts_280 : decode cL_acts 280 = .ok (.invokespecial 152, 3) := by decide +kernel
theorem dL_acts_283 : decode cL_acts 283 = .ok (.ldc 153, 2) := by decide +kernel
theorem dL_acts_285 : decode cL_acts 285 = .ok (.invokevirtual 155, 3) := by decide +kernel
theorem dL_acts_288 : decode cL_acts 288 = .ok (.iconst 2, 1) := by decide +kernel
theorem dL_acts_289 : decode cL_acts 289 = .ok (.iload 5, 2) := by decide +kernel
theorem dL_acts_291 : decode cL_acts 291 = .ok (.imul, 1) := by decide +kernel
theorem dL_acts_292 : decode cL_acts 292 = .ok (.invokevirtual 159, 3) := by decide +kernel
theorem dL_acts_295 : decode cL_acts 295 = .ok (.ldc 162, 2) := by decide +kernel
theorem dL_acts_297 : decode cL_acts 297 = .ok (.invokevirtual 155, 3) := by decide +kernel
theorem dL_acts_300 : decode cL_acts 300 = .ok (.bipush 11, 2) := by decide +kernel
theorem dL_acts_302 : decode cL_acts 302 = .ok (.iload_n 3, 1) := by decide +kernel
theorem dL_acts_303 : decode cL_acts 303 = .ok (.imul, 1) := by decide +kernel
theorem dL_acts_304 : decode cL_acts 304 = .ok (.invokevirtual 159, 3) := by decide +kernel
theorem dL_acts_307 : decode cL_acts 307 = .ok (.iload 5, 2) := by decide +kernel
theorem dL_acts_309 : decode cL_acts 309 = .ok (.iconst 3, 1) := by decide +kernel
theorem dL_acts_310 : decode cL_acts 310 = .ok (.irem, 1) := by decide +kernel
theorem dL_acts_311 : decode cL_acts 311 = .ok (.ifCond .ne 8, 3) := by decide +kernel
theorem dL_acts_314 : decode cL_acts 314 = .ok (.ldc 164, 2) := by decide +kernel
theorem dL_acts_316 : decode cL_acts 316 = .ok (.goto 92, 3) := by decide +kernel
theorem dL_acts_319 : decode cL_acts 319 = .ok (.iload 5, 2) := by decide +kernel
theorem dL_acts_321 : decode cL_acts 321 = .ok (.iconst 3, 1) := by decide +kernel
theorem dL_acts_322 : decode cL_acts 322 = .ok (.irem, 1) := by decide +kernel
theorem dL_acts_323 : decode cL_acts 323 = .ok (.iconst 1, 1) := by decide +kernel
theorem dL_acts_324 : decode cL_acts 324 = .ok (.if_icmp .ne 26, 3) := by decide +kernel
theorem dL_acts_327 : decode cL_acts 327 = .ok (.new 150, 3) := by decide +kernel
theorem dL_acts_330 : decode cL_acts 330 = .ok (.dup, 1) := by decide +kernel
theorem dL_acts_331 : decode cL_acts 331 = .ok (.invokespecial 152, 3) := by decide +kernel
theorem dL_acts_334 : decode cL_acts 334 = .ok (.ldc 166, 2) := by decide +kernel
theorem dL_acts_336 : decode cL_acts 336 = .ok (.invokevirtual 155, 3) := by decide +kernel
theorem dL_acts_339 : decode cL_acts 339 = .ok (.iload 4, 2) := by decide +kernel
theorem dL_acts_341 : decode cL_acts 341 = .ok (.invokevirtual 159, 3) := by decide +kernel
theorem dL_acts_344 : decode cL_acts 344 = .ok (.invokevirtual 168, 3) := by decide +kernel
theorem dL_acts_347 : decode cL_acts 347 = .ok (.goto 61, 3) := by decide +kernel
theorem dL_acts_350 : decode cL_acts 350 = .ok (.new 150, 3) := by decide +kernel
theorem dL_acts_353 : decode cL_acts 353 = .ok (.dup, 1) := by decide +kernel
theorem dL_acts_354 : decode cL_acts 354 = .ok (.invokespecial 152, 3) := by decide +kernel
theorem dL_acts_357 : decode cL_acts 357 = .ok (.ldc 172, 2) := by decide +kernel
theorem dL_acts_359 : decode cL_acts 359 = .ok (.invokevirtual 155, 3) := by decide +kernel
theorem dL_acts_362 : decode cL_acts 362 = .ok (.iload_n 3, 1) := by decide +kernel
theorem dL_acts_363 : decode cL_acts 363 = .ok (.invokevirtual 159, 3) := by decide +kernel
theorem dL_acts_366 : decode cL_acts 366 = .ok (.ldc 174, 2) := by decide +kernel
theorem dL_acts_368 : decode cL_acts 368 = .ok (.invokevirtual 155, 3) := by decide +kernel
theorem dL_acts_371 : decode cL_acts 371 = .ok (.iload 4, 2) := by decide +kernel
theorem dL_acts_373 : decode cL_acts 373 = .ok (.invokevirtual 159, 3) := by decide +kernel
theorem dL_acts_376 : decode cL_acts 376 = .ok (.ldc 176, 2) := by decide +kernel
theorem dL_acts_378 : decode cL_acts 378 = .ok (.invokevirtual 155, 3) := by decide +kernel
theorem dL_acts_381 : decode cL_acts 381 = .ok (.iload_n 3, 1) := by decide +kernel
theorem dL_acts_382 : decode cL_acts 382 = .ok (.invokevirtual 159, 3) := by decide +kernel
theorem dL_acts_385 : decode cL_acts 385 = .ok (.ldc 174, 2) := by decide +kernel
theorem dL_acts_387 : decode cL_acts 387 = .ok (.invokevirtual 155, 3) := by decide +kernel
theorem dL_acts_390 : decode cL_acts 390 = .ok (.iload 4, 2) := by decide +kernel
theorem dL_acts_392 : decode cL_acts 392 = .ok (.invokevirtual 159, 3) := by decide +kernel
theorem dL_acts_395 : decode cL_acts 395 = .ok (.ldc 178, 2) := by decide +kernel
theorem dL_acts_397 : decode cL_acts 397 = .ok (.invokevirtual 155, 3) := by decide +kernel
theorem dL_acts_400 : decode cL_acts 400 = .ok (.iload 5, 2) := by decide +kernel
theorem dL_acts_402 : decode cL_acts 402 = .ok (.invokevirtual 159, 3) := by decide +kernel
theorem dL_acts_405 : decode cL_acts 405 = .ok (.invokevirtual 168, 3) := by decide +kernel
theorem dL_acts_408 : decode cL_acts 408 = .ok (.invokevirtual 155, 3) := by decide +kernel
theorem dL_acts_411 : decode cL_acts 411 = .ok (.invokevirtual 168, 3) := by decide +kernel
theorem dL_acts_414 : decode cL_acts 414 = .ok (.invokestatic 180, 3) := by decide +kernel
theorem dL_acts_417 : decode cL_acts 417 = .ok (.ireturn, 1) := by decide +kernel
theorem dL_seen_0 : decode cL_seen 0 = .ok (.sipush 220, 3) := by decide +kernel
theorem dL_seen_3 : decode cL_seen 3 = .ok (.newarray .int, 2) := by decide +kernel
theorem dL_seen_5 : decode cL_seen 5 = .ok (.astore_n 1, 1) := by decide +kernel
theorem dL_seen_6 : decode cL_seen 6 = .ok (.aload_n 1, 1) := by decide +kernel
theorem dL_seen_7 : decode cL_seen 7 = .ok (.iconst 0, 1) := by decide +kernel
theorem dL_seen_8 : decode cL_seen 8 = .ok (.aload_n 0, 1) := by decide +kernel
theorem dL_seen_9 : decode cL_seen 9 = .ok (.invokevirtual 184, 3) := by decide +kernel
theorem dL_seen_12 : decode cL_seen 12 = .ok (.iastore, 1) := by decide +kernel
theorem dL_seen_13 : decode cL_seen 13 = .ok (.aload_n 1, 1) := by decide +kernel
theorem dL_seen_14 : decode cL_seen 14 = .ok (.iconst 1, 1) := by decide +kernel
theorem dL_seen_15 : decode cL_seen 15 = .ok (.aload_n 0, 1) := by decide +kernel
theorem dL_seen_16 : decode cL_seen 16 = .ok (.invokevirtual 187, 3) := by decide +kernel
theorem dL_seen_19 : decode cL_seen 19 = .ok (.iastore, 1) := by decide +kernel
theorem dL_seen_20 : decode cL_seen 20 = .ok (.aload_n 1, 1) := by decide +kernel
theorem dL_seen_21 : decode cL_seen 21 = .ok (.iconst 2, 1) := by decide +kernel
theorem dL_seen_22 : decode cL_seen 22 = .ok (.aload_n 0, 1) := by decide +kernel
theorem dL_seen_23 : decode cL_seen 23 = .ok (.invokevirtual 190, 3) := by decide +kernel
theorem dL_seen_26 : decode cL_seen 26 = .ok (.iastore, 1) := by decide +kernel
theorem dL_seen_27 : decode cL_seen 27 = .ok (.aload_n 1, 1) := by decide +kernel
theorem dL_seen_28 : decode cL_seen 28 = .ok (.iconst 3, 1) := by decide +kernel
theorem dL_seen_29 : decode cL_seen 29 = .ok (.aload_n 0, 1) := by decide +kernel
theorem dL_seen_30 : decode cL_seen 30 = .ok (.invokevirtual 193, 3) := by decide +kernel
theorem dL_seen_33 : decode cL_seen 33 = .ok (.iastore, 1) := by decide +kernel
theorem dL_seen_34 : decode cL_seen 34 = .ok (.aload_n 1, 1) := by decide +kernel
theorem dL_seen_35 : decode cL_seen 35 = .ok (.iconst 4, 1) := by decide +kernel
theorem dL_seen_36 : decode cL_seen 36 = .ok (.aload_n 0, 1) := by decide +kernel
theorem dL_seen_37 : decode cL_seen 37 = .ok (.invokevirtual 196, 3) := by decide +kernel
theorem dL_seen_40 : decode cL_seen 40 = .ok (.iastore, 1) := by decide +kernel
theorem dL_seen_41 : decode cL_seen 41 = .ok (.aload_n 1, 1) := by decide +kernel
theorem dL_seen_42 : decode cL_seen 42 = .ok (.iconst 5, 1) := by decide +kernel
theorem dL_seen_43 : decode cL_seen 43 = .ok (.aload_n 0, 1) := by decide +kernel
theorem dL_seen_44 : decode cL_seen 44 = .ok (.invokevirtual 199, 3) := by decide +kernel
theorem dL_seen_47 : decode cL_seen 47 = .ok (.iastore, 1) := by decide +kernel
theorem dL_seen_48 : decode cL_seen 48 = .ok (.aload_n 1, 1) := by decide +kernel
theorem dL_seen_49 : decode cL_seen 49 = .ok (.bipush 6, 2) := by decide +kernel
theorem dL_seen_51 : decode cL_seen 51 = .ok (.aload_n 0, 1) := by decide +kernel
theorem dL_seen_52 : decode cL_seen 52 = .ok (.invokevirtual 202, 3) := by decide +kernel
theorem dL_seen_55 : decode cL_seen 55 = .ok (.iastore, 1) := by decide +kernel
theorem dL_seen_56 : decode cL_seen 56 = .ok (.aload_n 1, 1) := by decide +kernel
theorem dL_seen_57 : decode cL_seen 57 = .ok (.bipush 7, 2) := by decide +kernel
theorem dL_seen_59 : decode cL_seen 59 = .ok (.aload_n 0, 1) := by decide +kernel
theorem dL_seen_60 : decode cL_seen 60 = .ok (.invokevirtual 205, 3) := by decide +kernel
theorem dL_seen_63 : decode cL_seen 63 = .ok (.iastore, 1) := by decide +kernel
theorem dL_seen_64 : decode cL_seen 64 = .ok (.aload_n 1, 1) := by decide +kernel
theorem dL_seen_65 : decode cL_seen 65 = .ok (.bipush 8, 2) := by decide +kernel
theorem dL_seen_67 : decode cL_seen 67 = .ok (.aload_n 0, 1) := by decide +kernel
theorem dL_seen_68 : decode cL_seen 68 = .ok (.invokevirtual 208, 3) := by decide +kernel
theorem dL_seen_71 : decode cL_seen 71 = .ok (.ifCond .eq 7, 3) := by decide +kernel
theorem dL_seen_74 : decode cL_seen 74 = .ok (.iconst 1, 1) := by decide +kernel
theorem dL_seen_75 : decode cL_seen 75 = .ok (.goto 4, 3) := by decide +kernel
theorem dL_seen_78 : decode cL_seen 78 = .ok (.iconst 0, 1) := by decide +kernel
theorem dL_seen_79 : decode cL_seen 79 = .ok (.iastore, 1) := by decide +kernel
theorem dL_seen_80 : decode cL_seen 80 = .ok (.aload_n 1, 1) := by decide +kernel
theorem dL_seen_81 : decode cL_seen 81 = .ok (.bipush 9, 2) := by decide +kernel
theorem dL_seen_83 : decode cL_seen 83 = .ok (.aload_n 0, 1) := by decide +kernel
theorem dL_seen_84 : decode cL_seen 84 = .ok (.invokevirtual 123, 3) := by decide +kernel
theorem dL_seen_87 : decode cL_seen 87 = .ok (.ifCond .eq 10, 3) := by decide +kernel
theorem dL_seen_90 : decode cL_seen 90 = .ok (.aload_n 0, 1) := by decide +kernel
theorem dL_seen_91 : decode cL_seen 91 = .ok (.invokevirtual 211, 3) := by decide +kernel
theorem dL_seen_94 : decode cL_seen 94 = .ok (.goto 4, 3) := by decide +kernel
theorem dL_seen_97 : decode cL_seen 97 = .ok (.iconst 0, 1) := by decide +kernel
theorem dL_seen_98 : decode cL_seen 98 = .ok (.iastore, 1) := by decide +kernel
theorem dL_seen_99 : decode cL_seen 99 = .ok (.aload_n 1, 1) := by decide +kernel
theorem dL_seen_100 : decode cL_seen 100 = .ok (.bipush 10, 2) := by decide +kernel
theorem dL_seen_102 : decode cL_seen 102 = .ok (.aload_n 0, 1) := by decide +kernel
theorem dL_seen_103 : decode cL_seen 103 = .ok (.invokevirtual 123, 3) := by decide +kernel
theorem dL_seen_106 : decode cL_seen 106 = .ok (.ifCond .eq 10, 3) := by decide +kernel
theorem dL_seen_109 : decode cL_seen 109 = .ok (.aload_n 0, 1) := by decide +kernel
theorem dL_seen_110 : decode cL_seen 110 = .ok (.invokevirtual 60, 3) := by decide +kernel
theorem dL_seen_113 : decode cL_seen 113 = .ok (.goto 4, 3) := by decide +kernel
theorem dL_seen_116 : decode cL_seen 116 = .ok (.iconst 0, 1) := by decide +kernel
theorem dL_seen_117 : decode cL_seen 117 = .ok (.iastore, 1) := by decide +kernel
theorem dL_seen_118 : decode cL_seen 118 = .ok (.aload_n 1, 1) := by decide +kernel
theorem dL_seen_119 : decode cL_seen 119 = .ok (.bipush 11, 2) := by decide +kernel
theorem dL_seen_121 : decode cL_seen 121 = .ok (.aload_n 0, 1) := by decide +kernel
theorem dL_seen_122 : decode cL_seen 122 = .ok (.invokevirtual 123, 3) := by decide +kernel
theorem dL_seen_125 : decode cL_seen 125 = .ok (.ifCond .eq 10, 3) := by decide +kernel
theorem dL_seen_128 : decode cL_seen 128 = .ok (.aload_n 0, 1) := by decide +kernel
theorem dL_seen_129 : decode cL_seen 129 = .ok (.invokevirtual 214, 3) := by decide +kernel
theorem dL_seen_132 : decode cL_seen 132 = .ok (.goto 4, 3) := by decide +kernel
theorem dL_seen_135 : decode cL_seen 135 = .ok (.iconst 0, 1) := by decide +kernel
theorem dL_seen_136 : decode cL_seen 136 = .ok (.iastore, 1) := by decide +kernel
theorem dL_seen_137 : decode cL_seen 137 = .ok (.aload_n 1, 1) := by decide +kernel
theorem dL_seen_138 : decode cL_seen 138 = .ok (.bipush 12, 2) := by decide +kernel
theorem dL_seen_140 : decode cL_seen 140 = .ok (.aload_n 0, 1) := by decide +kernel
theorem dL_seen_141 : decode cL_seen 141 = .ok (.invokevirtual 123, 3) := by decide +kernel
theorem dL_seen_144 : decode cL_seen 144 = .ok (.ifCond .eq 10, 3) := by decide +kernel
theorem dL_seen_147 : decode cL_seen 147 = .ok (.aload_n 0, 1) := by decide +kernel
theorem dL_seen_148 : decode cL_seen 148 = .ok (.invokevirtual 217, 3) := by decide +kernel
theorem dL_seen_151 : decode cL_seen 151 = .ok (.goto 4, 3) := by decide +kernel
theorem dL_seen_154 : decode cL_seen 154 = .ok (.iconst 0, 1) := by decide +kernel
theorem dL_seen_155 : decode cL_seen 155 = .ok (.iastore, 1) := by decide +kernel
theorem dL_seen_156 : decode cL_seen 156 = .ok (.iconst 0, 1) := by decide +kernel
theorem dL_seen_157 : decode cL_seen 157 = .ok (.istore_n 2, 1) := by decide +kernel
theorem dL_seen_158 : decode cL_seen 158 = .ok (.iload_n 2, 1) := by decide +kernel
theorem dL_seen_159 : decode cL_seen 159 = .ok (.aload_n 1, 1) := by decide +kernel
theorem dL_seen_160 : decode cL_seen 160 = .ok (.bipush 9, 2) := by decide +kernel
theorem dL_seen_162 : decode cL_seen 162 = .ok (.iaload, 1) := by decide +kernel
theorem dL_seen_163 : decode cL_seen 163 = .ok (.if_icmp .ge 20, 3) := by decide +kernel
theorem dL_seen_166 : decode cL_seen 166 = .ok (.aload_n 1, 1) := by decide +kernel
theorem dL_seen_167 : decode cL_seen 167 = .ok (.bipush 14, 2) := by decide +kernel
theorem dL_seen_169 : decode cL_seen 169 = .ok (.iload_n 2, 1) := by decide +kernel
theorem dL_seen_170 : decode cL_seen 170 = .ok (.iadd, 1) := by decide +kernel
theorem dL_seen_171 : decode cL_seen 171 = .ok (.aload_n 0, 1) := by decide +kernel
theorem dL_seen_172 : decode cL_seen 172 = .ok (.iload_n 2, 1) := by decide +kernel
theorem dL_seen_173 : decode cL_seen 173 = .ok (.invokevirtual 220, 3) := by decide +kernel
theorem dL_seen_176 : decode cL_seen 176 = .ok (.iastore, 1) := by decide +kernel
theorem dL_seen_177 : decode cL_seen 177 = .ok (.iinc 2 1, 3) := by decide +kernel
theorem dL_seen_180 : decode cL_seen 180 = .ok (.goto (-22), 3) := by decide +kernel
theorem dL_seen_183 : decode cL_seen 183 = .ok (.iconst 0, 1) := by decide +kernel
theorem dL_seen_184 : decode cL_seen 184 = .ok (.istore_n 2, 1) := by decide +kernel
theorem dL_seen_185 : decode cL_seen 185 = .ok (.iload_n 2, 1) := by decide +kernel
theorem dL_seen_186 : decode cL_seen 186 = .ok (.aload_n 0, 1) := by decide +kernel
theorem dL_seen_187 : decode cL_seen 187 = .ok (.invokevirtual 184, 3) := by decide +kernel
theorem dL_seen_190 : decode cL_seen 190 = .ok (.if_icmp .ge 94, 3) := by decide +kernel
theorem dL_seen_193 : decode cL_seen 193 = .ok (.aload_n 1, 1) := by decide +kernel
theorem dL_seen_194 : decode cL_seen 194 = .ok (.bipush 30, 2) := by decide +kernel
theorem dL_seen_196 : decode cL_seen 196 = .ok (.iconst 3, 1) := by decide +kernel
theorem dL_seen_197 : decode cL_seen 197 = .ok (.iload_n 2, 1) := by decide +kernel
theorem dL_seen_198 : decode cL_seen 198 = .ok (.imul, 1) := by decide +kernel
theorem dL_seen_199 : decode cL_seen 199 = .ok (.iadd, 1) := by decide +kernel
theorem dL_seen_200 : decode cL_seen 200 = .ok (.aload_n 0, 1) := by decide +kernel
theorem dL_seen_201 : decode cL_seen 201 = .ok (.iload_n 2, 1) := by decide +kernel
theorem dL_seen_202 : decode cL_seen 202 = .ok (.invokevirtual 127, 3) := by decide +kernel
theorem dL_seen_205 : decode cL_seen 205 = .ok (.iastore, 1) := by decide +kernel
theorem dL_seen_206 : decode cL_seen 206 = .ok (.aload_n 1, 1) := by decide +kernel
theorem dL_seen_207 : decode cL_seen 207 = .ok (.bipush 31, 2) := by decide +kernel
theorem dL_seen_209 : decode cL_seen 209 = .ok (.iconst 3, 1) := by decide +kernel
theorem dL_seen_210 : decode cL_seen 210 = .ok (.iload_n 2, 1) := by decide +kernel
theorem dL_seen_211 : decode cL_seen 211 = .ok (.imul, 1) := by decide +kernel
theorem dL_seen_212 : decode cL_seen 212 = .ok (.iadd, 1) := by decide +kernel
theorem dL_seen_213 : decode cL_seen 213 = .ok (.aload_n 0, 1) := by decide +kernel
theorem dL_seen_214 : decode cL_seen 214 = .ok (.iload_n 2, 1) := by decide +kernel
theorem dL_seen_215 : decode cL_seen 215 = .ok (.invokevirtual 135, 3) := by decide +kernel
theorem dL_seen_218 : decode cL_seen 218 = .ok (.iastore, 1) := by decide +kernel
theorem dL_seen_219 : decode cL_seen 219 = .ok (.aload_n 1, 1) := by decide +kernel
theorem dL_seen_220 : decode cL_seen 220 = .ok (.bipush 32, 2) := by decide +kernel
theorem dL_seen_222 : decode cL_seen 222 = .ok (.iconst 3, 1) := by decide +kernel
theorem dL_seen_223 : decode cL_seen 223 = .ok (.iload_n 2, 1) := by decide +kernel
theorem dL_seen_224 : decode cL_seen 224 = .ok (.imul, 1) := by decide +kernel
theorem dL_seen_225 : decode cL_seen 225 = .ok (.iadd, 1) := by decide +kernel
theorem dL_seen_226 : decode cL_seen 226 = .ok (.aload_n 0, 1) := by decide +kernel
theorem dL_seen_227 : decode cL_seen 227 = .ok (.iload_n 2, 1) := by decide +kernel
theorem dL_seen_228 : decode cL_seen 228 = .ok (.invokevirtual 223, 3) := by decide +kernel
theorem dL_seen_231 : decode cL_seen 231 = .ok (.iastore, 1) := by decide +kernel
theorem dL_seen_232 : decode cL_seen 232 = .ok (.iconst 0, 1) := by decide +kernel
theorem dL_seen_233 : decode cL_seen 233 = .ok (.istore_n 3, 1) := by decide +kernel
theorem dL_seen_234 : decode cL_seen 234 = .ok (.iload_n 3, 1) := by decide +kernel
theorem dL_seen_235 : decode cL_seen 235 = .ok (.iload_n 2, 1) := by decide +kernel
theorem dL_seen_236 : decode cL_seen 236 = .ok (.if_icmp .ge 42, 3) := by decide +kernel
theorem dL_seen_239 : decode cL_seen 239 = .ok (.aload_n 1, 1) := by decide +kernel
theorem dL_seen_240 : decode cL_seen 240 = .ok (.bipush 70, 2) := by decide +kernel
theorem dL_seen_242 : decode cL_seen 242 = .ok (.iload_n 2, 1) := by decide +kernel
theorem dL_seen_243 : decode cL_seen 243 = .ok (.iload_n 2, 1) := by decide +kernel
theorem dL_seen_244 : decode cL_seen 244 = .ok (.iconst 1, 1) := by decide +kernel
theorem dL_seen_245 : decode cL_seen 245 = .ok (.isub, 1) := by decide +kernel
theorem dL_seen_246 : decode cL_seen 246 = .ok (.imul, 1) := by decide +kernel
theorem dL_seen_247 : decode cL_seen 247 = .ok (.iconst 2, 1) := by decide +kernel
theorem dL_seen_248 : decode cL_seen 248 = .ok (.idiv, 1) := by decide +kernel
theorem dL_seen_249 : decode cL_seen 249 = .ok (.iadd, 1) := by decide +kernel
theorem dL_seen_250 : decode cL_seen 250 = .ok (.iload_n 3, 1) := by decide +kernel
theorem dL_seen_251 : decode cL_seen 251 = .ok (.iadd, 1) := by decide +kernel
theorem dL_seen_252 : decode cL_seen 252 = .ok (.aload_n 0, 1) := by decide +kernel
theorem dL_seen_253 : decode cL_seen 253 = .ok (.iload_n 2, 1) := by decide +kernel
theorem dL_seen_254 : decode cL_seen 254 = .ok (.iload_n 3, 1) := by decide +kernel
theorem dL_seen_255 : decode cL_seen 255 = .ok (.invokevirtual 226, 3) := by decide +kernel
theorem dL_seen_258 : decode cL_seen 258 = .ok (.ifCond .eq 12, 3) := by decide +kernel
theorem dL_seen_261 : decode cL_seen 261 = .ok (.aload_n 0, 1) := by decide +kernel
theorem dL_seen_262 : decode cL_seen 262 = .ok (.iload_n 2, 1) := by decide +kernel
theorem dL_seen_263 : decode cL_seen 263 = .ok (.iload_n 3, 1) := by decide +kernel
theorem dL_seen_264 : decode cL_seen 264 = .ok (.invokevirtual 229, 3) := by decide +kernel
theorem dL_seen_267 : decode cL_seen 267 = .ok (.goto 4, 3) := by decide +kernel
theorem dL_seen_270 : decode cL_seen 270 = .ok (.iconst 0, 1) := by decide +kernel
theorem dL_seen_271 : decode cL_seen 271 = .ok (.iastore, 1) := by decide +kernel
theorem dL_seen_272 : decode cL_seen 272 = .ok (.iinc 3 1, 3) := by decide +kernel
theorem dL_seen_275 : decode cL_seen 275 = .ok (.goto (-41), 3) := by decide +kernel
theorem dL_seen_278 : decode cL_seen 278 = .ok (.iinc 2 1, 3) := by decide +kernel
theorem dL_seen_281 : decode cL_seen 281 = .ok (.goto (-96), 3) := by decide +kernel
theorem dL_seen_284 : decode cL_seen 284 = .ok (.aload_n 1, 1) := by decide +kernel
theorem dL_seen_285 : decode cL_seen 285 = .ok (.areturn, 1) := by decide +kernel
theorem dL_areAlike_0 : decode cL_areAlike 0 = .ok (.iconst 0, 1) := by decide +kernel
theorem dL_areAlike_1 : decode cL_areAlike 1 = .ok (.istore_n 2, 1) := by decide +kernel
theorem dL_areAlike_2 : decode cL_areAlike 2 = .ok (.iload_n 2, 1) := by decide +kernel
theorem dL_areAlike_3 : decode cL_areAlike 3 = .ok (.aload_n 0, 1) := by decide +kernel
theorem dL_areAlike_4 : decode cL_areAlike 4 = .ok (.arraylength, 1) := by decide +kernel
theorem dL_areAlike_5 : decode cL_areAlike 5 = .ok (.if_icmp .ge 20, 3) := by decide +kernel
theorem dL_areAlike_8 : decode cL_areAlike 8 = .ok (.aload_n 0, 1) := by decide +kernel
theorem dL_areAlike_9 : decode cL_areAlike 9 = .ok (.iload_n 2, 1) := by decide +kernel
theorem dL_areAlike_10 : decode cL_areAlike 10 = .ok (.iaload, 1) := by decide +kernel
theorem dL_areAlike_11 : decode cL_areAlike 11 = .ok (.aload_n 1, 1) := by decide +kernel
theorem dL_areAlike_12 : decode cL_areAlike 12 = .ok (.iload_n 2, 1) := by decide +kernel
theorem dL_areAlike_13 : decode cL_areAlike 13 = .ok (.iaload, 1) := by decide +kernel
theorem dL_areAlike_14 : decode cL_areAlike 14 = .ok (.if_icmp .eq 5, 3) := by decide +kernel
theorem dL_areAlike_17 : decode cL_areAlike 17 = .ok (.iconst 0, 1) := by decide +kernel
theorem dL_areAlike_18 : decode cL_areAlike 18 = .ok (.ireturn, 1) := by decide +kernel
theorem dL_areAlike_19 : decode cL_areAlike 19 = .ok (.iinc 2 1, 3) := by decide +kernel
theorem dL_areAlike_22 : decode cL_areAlike 22 = .ok (.goto (-20), 3) := by decide +kernel
theorem dL_areAlike_25 : decode cL_areAlike 25 = .ok (.iconst 1, 1) := by decide +kernel
theorem dL_areAlike_26 : decode cL_areAlike 26 = .ok (.ireturn, 1) := by decide +kernel
theorem dL_beyond_0 : decode cL_beyond 0 = .ok (.aload_n 0, 1) := by decide +kernel
theorem dL_beyond_1 : decode cL_beyond 1 = .ok (.iload_n 2, 1) := by decide +kernel
theorem dL_beyond_2 : decode cL_beyond 2 = .ok (.invokevirtual 127, 3) := by decide +kernel
theorem dL_beyond_5 : decode cL_beyond 5 = .ok (.aload_n 0, 1) := by decide +kernel
theorem dL_beyond_6 : decode cL_beyond 6 = .ok (.iload_n 1, 1) := by decide +kernel
theorem dL_beyond_7 : decode cL_beyond 7 = .ok (.invokevirtual 127, 3) := by decide +kernel
theorem dL_beyond_10 : decode cL_beyond 10 = .ok (.isub, 1) := by decide +kernel
theorem dL_beyond_11 : decode cL_beyond 11 = .ok (.i2l, 1) := by decide +kernel
theorem dL_beyond_12 : decode cL_beyond 12 = .ok (.lstore 6, 2) := by decide +kernel
theorem dL_beyond_14 : decode cL_beyond 14 = .ok (.aload_n 0, 1) := by decide +kernel
theorem dL_beyond_15 : decode cL_beyond 15 = .ok (.iload_n 2, 1) := by decide +kernel
theorem dL_beyond_16 : decode cL_beyond 16 = .ok (.invokevirtual 135, 3) := by decide +kernel
theorem dL_beyond_19 : decode cL_beyond 19 = .ok (.aload_n 0, 1) := by decide +kernel
theorem dL_beyond_20 : decode cL_beyond 20 = .ok (.iload_n 1, 1) := by decide +kernel
theorem dL_beyond_21 : decode cL_beyond 21 = .ok (.invokevirtual 135, 3) := by decide +kernel
theorem dL_beyond_24 : decode cL_beyond 24 = .ok (.isub, 1) := by decide +kernel
theorem dL_beyond_25 : decode cL_beyond 25 = .ok (.i2l, 1) := by decide +kernel
theorem dL_beyond_26 : decode cL_beyond 26 = .ok (.lstore 8, 2) := by decide +kernel
theorem dL_beyond_28 : decode cL_beyond 28 = .ok (.iload_n 3, 1) := by decide +kernel
theorem dL_beyond_29 : decode cL_beyond 29 = .ok (.aload_n 0, 1) := by decide +kernel
theorem dL_beyond_30 : decode cL_beyond 30 = .ok (.iload_n 1, 1) := by decide +kernel
theorem dL_beyond_31 : decode cL_beyond 31 = .ok (.invokevirtual 127, 3) := by decide +kernel
theorem dL_beyond_34 : decode cL_beyond 34 = .ok (.isub, 1) := by decide +kernel
theorem dL_beyond_35 : decode cL_beyond 35 = .ok (.i2l, 1) := by decide +kernel
theorem dL_beyond_36 : decode cL_beyond 36 = .ok (.lstore 10, 2) := by decide +kernel
theorem dL_beyond_38 : decode cL_beyond 38 = .ok (.iload 4, 2) := by decide +kernel
theorem dL_beyond_40 : decode cL_beyond 40 = .ok (.aload_n 0, 1) := by decide +kernel
theorem dL_beyond_41 : decode cL_beyond 41 = .ok (.iload_n 1, 1) := by decide +kernel
theorem dL_beyond_42 : decode cL_beyond 42 = .ok (.invokevirtual 135, 3) := by decide +kernel
theorem dL_beyond_45 : decode cL_beyond 45 = .ok (.isub, 1) := by decide +kernel
theorem dL_beyond_46 : decode cL_beyond 46 = .ok (.i2l, 1) := by decide +kernel
theorem dL_beyond_47 : decode cL_beyond 47 = .ok (.lstore 12, 2) := by decide +kernel
theorem dL_beyond_49 : decode cL_beyond 49 = .ok (.lload 10, 2) := by decide +kernel
theorem dL_beyond_51 : decode cL_beyond 51 = .ok (.lload 6, 2) := by decide +kernel
theorem dL_beyond_53 : decode cL_beyond 53 = .ok (.lmul, 1) := by decide +kernel
theorem dL_beyond_54 : decode cL_beyond 54 = .ok (.lload 12, 2) := by decide +kernel
theorem dL_beyond_56 : decode cL_beyond 56 = .ok (.lload 8, 2) := by decide +kernel
theorem dL_beyond_58 : decode cL_beyond 58 = .ok (.lmul, 1) := by decide +kernel
theorem dL_beyond_59 : decode cL_beyond 59 = .ok (.ladd, 1) := by decide +kernel
theorem dL_beyond_60 : decode cL_beyond 60 = .ok (.lstore 14, 2) := by decide +kernel
theorem dL_beyond_62 : decode cL_beyond 62 = .ok (.lload 6, 2) := by decide +kernel
theorem dL_beyond_64 : decode cL_beyond 64 = .ok (.lload 6, 2) := by decide +kernel
theorem dL_beyond_66 : decode cL_beyond 66 = .ok (.lmul, 1) := by decide +kernel
theorem dL_beyond_67 : decode cL_beyond 67 = .ok (.lload 8, 2) := by decide +kernel
theorem dL_beyond_69 : decode cL_beyond 69 = .ok (.lload 8, 2) := by decide +kernel
theorem dL_beyond_71 : decode cL_beyond 71 = .ok (.lmul, 1) := by decide +kernel
theorem dL_beyond_72 : decode cL_beyond 72 = .ok (.ladd, 1) := by decide +kernel
theorem dL_beyond_73 : decode cL_beyond 73 = .ok (.lstore 16, 2) := by decide +kernel
theorem dL_beyond_75 : decode cL_beyond 75 = .ok (.iload 5, 2) := by decide +kernel
theorem dL_beyond_77 : decode cL_beyond 77 = .ok (.i2l, 1) := by decide +kernel
theorem dL_beyond_78 : decode cL_beyond 78 = .ok (.iload 5, 2) := by decide +kernel
theorem dL_beyond_80 : decode cL_beyond 80 = .ok (.i2l, 1) := by decide +kernel
theorem dL_beyond_81 : decode cL_beyond 81 = .ok (.lmul, 1) := by decide +kernel
theorem dL_beyond_82 : decode cL_beyond 82 = .ok (.lstore 18, 2) := by decide +kernel
theorem dL_beyond_84 : decode cL_beyond 84 = .ok (.lload 14, 2) := by decide +kernel
theorem dL_beyond_86 : decode cL_beyond 86 = .ok (.lconst 0, 1) := by decide +kernel
theorem dL_beyond_87 : decode cL_beyond 87 = .ok (.lcmp, 1) := by decide +kernel
theorem dL_beyond_88 : decode cL_beyond 88 = .ok (.ifCond .gt 18, 3) := by decide +kernel
theorem dL_beyond_91 : decode cL_beyond 91 = .ok (.lload 10, 2) := by decide +kernel
theorem dL_beyond_93 : decode cL_beyond 93 = .ok (.lload 10, 2) := by decide +kernel
theorem dL_beyond_95 : decode cL_beyond 95 = .ok (.lmul, 1) := by decide +kernel
theorem dL_beyond_96 : decode cL_beyond 96 = .ok (.lload 12, 2) := by decide +kernel
theorem dL_beyond_98 : decode cL_beyond 98 = .ok (.lload 12, 2) := by decide +kernel
theorem dL_beyond_100 : decode cL_beyond 100 = .ok (.lmul, 1) := by decide +kernel
theorem dL_beyond_101 : decode cL_beyond 101 = .ok (.ladd, 1) := by decide +kernel
theorem dL_beyond_102 : decode cL_beyond 102 = .ok (.lload 18, 2) := by decide +kernel
theorem dL_beyond_104 : decode cL_beyond 104 = .ok (.lsub, 1) := by decide +kernel
theorem dL_beyond_105 : decode cL_beyond 105 = .ok (.lreturn, 1) := by decide +kernel
theorem dL_beyond_106 : decode cL_beyond 106 = .ok (.lload 14, 2) := by decide +kernel
theorem dL_beyond_108 : decode cL_beyond 108 = .ok (.lload 16, 2) := by decide +kernel
theorem dL_beyond_110 : decode cL_beyond 110 = .ok (.lcmp, 1) := by decide +kernel
theorem dL_beyond_111 : decode cL_beyond 111 = .ok (.ifCond .lt 30, 3) := by decide +kernel
theorem dL_beyond_114 : decode cL_beyond 114 = .ok (.lload 10, 2) := by decide +kernel
theorem dL_beyond_116 : decode cL_beyond 116 = .ok (.lload 6, 2) := by decide +kernel
theorem dL_beyond_118 : decode cL_beyond 118 = .ok (.lsub, 1) := by decide +kernel
theorem dL_beyond_119 : decode cL_beyond 119 = .ok (.lload 10, 2) := by decide +kernel
theorem dL_beyond_121 : decode cL_beyond 121 = .ok (.lload 6, 2) := by decide +kernel
theorem dL_beyond_123 : decode cL_beyond 123 = .ok (.lsub, 1) := by decide +kernel
theorem dL_beyond_124 : decode cL_beyond 124 = .ok (.lmul, 1) := by decide +kernel
theorem dL_beyond_125 : decode cL_beyond 125 = .ok (.lload 12, 2) := by decide +kernel
theorem dL_beyond_127 : decode cL_beyond 127 = .ok (.lload 8, 2) := by decide +kernel
theorem dL_beyond_129 : decode cL_beyond 129 = .ok (.lsub, 1) := by decide +kernel
theorem dL_beyond_130 : decode cL_beyond 130 = .ok (.lload 12, 2) := by decide +kernel
theorem dL_beyond_132 : decode cL_beyond 132 = .ok (.lload 8, 2) := by decide +kernel
theorem dL_beyond_134 : decode cL_beyond 134 = .ok (.lsub, 1) := by decide +kernel
theorem dL_beyond_135 : decode cL_beyond 135 = .ok (.lmul, 1) := by decide +kernel
theorem dL_beyond_136 : decode cL_beyond 136 = .ok (.ladd, 1) := by decide +kernel
theorem dL_beyond_137 : decode cL_beyond 137 = .ok (.lload 18, 2) := by decide +kernel
theorem dL_beyond_139 : decode cL_beyond 139 = .ok (.lsub, 1) := by decide +kernel
theorem dL_beyond_140 : decode cL_beyond 140 = .ok (.lreturn, 1) := by decide +kernel
theorem dL_beyond_141 : decode cL_beyond 141 = .ok (.lload 10, 2) := by decide +kernel
theorem dL_beyond_143 : decode cL_beyond 143 = .ok (.lload 8, 2) := by decide +kernel
theorem dL_beyond_145 : decode cL_beyond 145 = .ok (.lmul, 1) := by decide +kernel
theorem dL_beyond_146 : decode cL_beyond 146 = .ok (.lload 12, 2) := by decide +kernel
theorem dL_beyond_148 : decode cL_beyond 148 = .ok (.lload 6, 2) := by decide +kernel
theorem dL_beyond_150 : decode cL_beyond 150 = .ok (.lmul, 1) := by decide +kernel
theorem dL_beyond_151 : decode cL_beyond 151 = .ok (.lsub, 1) := by decide +kernel
theorem dL_beyond_152 : decode cL_beyond 152 = .ok (.lstore 20, 2) := by decide +kernel
theorem dL_beyond_154 : decode cL_beyond 154 = .ok (.lload 20, 2) := by decide +kernel
theorem dL_beyond_156 : decode cL_beyond 156 = .ok (.lload 20, 2) := by decide +kernel
theorem dL_beyond_158 : decode cL_beyond 158 = .ok (.lmul, 1) := by decide +kernel
theorem dL_beyond_159 : decode cL_beyond 159 = .ok (.lload 18, 2) := by decide +kernel
theorem dL_beyond_161 : decode cL_beyond 161 = .ok (.lload 16, 2) := by decide +kernel
theorem dL_beyond_163 : decode cL_beyond 163 = .ok (.lmul, 1) := by decide +kernel
theorem dL_beyond_164 : decode cL_beyond 164 = .ok (.lsub, 1) := by decide +kernel
theorem dL_beyond_165 : decode cL_beyond 165 = .ok (.lreturn, 1) := by decide +kernel
theorem dL_aim_0 : decode cL_aim 0 = .ok (.iconst 1, 1) := by decide +kernel
theorem dL_aim_1 : decode cL_aim 1 = .ok (.istore_n 1, 1) := by decide +kernel
theorem dL_aim_2 : decode cL_aim 2 = .ok (.iload_n 1, 1) := by decide +kernel
theorem dL_aim_3 : decode cL_aim 3 = .ok (.aload_n 0, 1) := by decide +kernel
theorem dL_aim_4 : decode cL_aim 4 = .ok (.invokevirtual 211, 3) := by decide +kernel
theorem dL_aim_7 : decode cL_aim 7 = .ok (.if_icmp .ge 21, 3) := by decide +kernel
theorem dL_aim_10 : decode cL_aim 10 = .ok (.aload_n 0, 1) := by decide +kernel
theorem dL_aim_11 : decode cL_aim 11 = .ok (.iload_n 1, 1) := by decide +kernel
theorem dL_aim_12 : decode cL_aim 12 = .ok (.invokevirtual 220, 3) := by decide +kernel
theorem dL_aim_15 : decode cL_aim 15 = .ok (.aload_n 0, 1) := by decide +kernel
theorem dL_aim_16 : decode cL_aim 16 = .ok (.invokevirtual 60, 3) := by decide +kernel
theorem dL_aim_19 : decode cL_aim 19 = .ok (.if_icmp .eq 9, 3) := by decide +kernel
theorem dL_aim_22 : decode cL_aim 22 = .ok (.iinc 1 1, 3) := by decide +kernel
theorem dL_aim_25 : decode cL_aim 25 = .ok (.goto (-23), 3) := by decide +kernel
theorem dL_aim_28 : decode cL_aim 28 = .ok (.iload_n 1, 1) := by decide +kernel
theorem dL_aim_29 : decode cL_aim 29 = .ok (.ireturn, 1) := by decide +kernel
theorem dL_isWell_0 : decode cL_isWell 0 = .ok (.iconst 0, 1) := by decide +kernel
theorem dL_isWell_1 : decode cL_isWell 1 = .ok (.istore_n 1, 1) := by decide +kernel
theorem dL_isWell_2 : decode cL_isWell 2 = .ok (.iconst 0, 1) := by decide +kernel
theorem dL_isWell_3 : decode cL_isWell 3 = .ok (.istore_n 2, 1) := by decide +kernel
theorem dL_isWell_4 : decode cL_isWell 4 = .ok (.iconst 0, 1) := by decide +kernel
theorem dL_isWell_5 : decode cL_isWell 5 = .ok (.istore_n 3, 1) := by decide +kernel
theorem dL_isWell_6 : decode cL_isWell 6 = .ok (.iload_n 3, 1) := by decide +kernel
theorem dL_isWell_7 : decode cL_isWell 7 = .ok (.aload_n 0, 1) := by decide +kernel
theorem dL_isWell_8 : decode cL_isWell 8 = .ok (.invokevirtual 184, 3) := by decide +kernel
theorem dL_isWell_11 : decode cL_isWell 11 = .ok (.if_icmp .ge 243, 3) := by decide +kernel
theorem dL_isWell_14 : decode cL_isWell 14 = .ok (.iconst 1, 1) := by decide +kernel
theorem dL_isWell_15 : decode cL_isWell 15 = .ok (.istore 4, 2) := by decide +kernel
theorem dL_isWell_17 : decode cL_isWell 17 = .ok (.iconst 0, 1) := by decide +kernel
theorem dL_isWell_18 : decode cL_isWell 18 = .ok (.istore 5, 2) := by decide +kernel
theorem dL_isWell_20 : decode cL_isWell 20 = .ok (.iload 5, 2) := by decide +kernel
theorem dL_isWell_22 : decode cL_isWell 22 = .ok (.aload_n 0, 1) := by decide +kernel
theorem dL_isWell_23 : decode cL_isWell 23 = .ok (.invokevirtual 184, 3) := by decide +kernel
theorem dL_isWell_26 : decode cL_isWell 26 = .ok (.if_icmp .ge 209, 3) := by decide +kernel
theorem dL_isWell_29 : decode cL_isWell 29 = .ok (.aload_n 0, 1) := by decide +kernel
theorem dL_isWell_30 : decode cL_isWell 30 = .ok (.iload_n 3, 1) := by decide +kernel
theorem dL_isWell_31 : decode cL_isWell 31 = .ok (.iload 5, 2) := by decide +kernel
theorem dL_isWell_33 : decode cL_isWell 33 = .ok (.invokestatic 232, 3) := by decide +kernel
theorem dL_isWell_36 : decode cL_isWell 36 = .ok (.istore 6, 2) := by decide +kernel
theorem dL_isWell_38 : decode cL_isWell 38 = .ok (.aload_n 0, 1) := by decide +kernel
theorem dL_isWell_39 : decode cL_isWell 39 = .ok (.iload_n 3, 1) := by decide +kernel
theorem dL_isWell_40 : decode cL_isWell 40 = .ok (.iload 5, 2) := by decide +kernel
theorem dL_isWell_42 : decode cL_isWell 42 = .ok (.invokevirtual 226, 3) := by decide +kernel
theorem dL_isWell_45 : decode cL_isWell 45 = .ok (.istore 7, 2) := by decide +kernel
theorem dL_isWell_47 : decode cL_isWell 47 = .ok (.iload_n 1, 1) := by decide +kernel
theorem dL_isWell_48 : decode cL_isWell 48 = .ok (.iload 7, 2) := by decide +kernel
theorem dL_isWell_50 : decode cL_isWell 50 = .ok (.ifCond .eq 13, 3) := by decide +kernel
theorem dL_isWell_53 : decode cL_isWell 53 = .ok (.iload 5, 2) := by decide +kernel
theorem dL_isWell_55 : decode cL_isWell 55 = .ok (.iload_n 3, 1) := by decide +kernel
theorem dL_isWell_56 : decode cL_isWell 56 = .ok (.if_icmp .ge 7, 3) := by decide +kernel
theorem dL_isWell_59 : decode cL_isWell 59 = .ok (.iconst 1, 1) := by decide +kernel
theorem dL_isWell_60 : decode cL_isWell 60 = .ok (.goto 4, 3) := by decide +kernel
theorem dL_isWell_63 : decode cL_isWell 63 = .ok (.iconst 0, 1) := by decide +kernel
theorem dL_isWell_64 : decode cL_isWell 64 = .ok (.iadd, 1) := by decide +kernel
theorem dL_isWell_65 : decode cL_isWell 65 = .ok (.istore_n 1, 1) := by decide +kernel
theorem dL_isWell_66 : decode cL_isWell 66 = .ok (.iload 4, 2) := by decide +kernel
theorem dL_isWell_68 : decode cL_isWell 68 = .ok (.iload 5, 2) := by decide +kernel
theorem dL_isWell_70 : decode cL_isWell 70 = .ok (.iload_n 3, 1) := by decide +kernel
theorem dL_isWell_71 : decode cL_isWell 71 = .ok (.if_icmp .ge 8, 3) := by decide +kernel
theorem dL_isWell_74 : decode cL_isWell 74 = .ok (.iload 6, 2) := by decide +kernel
theorem dL_isWell_76 : decode cL_isWell 76 = .ok (.ifCond .ge 7, 3) := by decide +kernel
theorem dL_isWell_79 : decode cL_isWell 79 = .ok (.iconst 1, 1) := by decide +kernel
theorem dL_isWell_80 : decode cL_isWell 80 = .ok (.goto 4, 3) := by decide +kernel
theorem dL_isWell_83 : decode cL_isWell 83 = .ok (.iconst 0, 1) := by decide +kernel
theorem dL_isWell_84 : decode cL_isWell 84 = .ok (.iand, 1) := by decide +kernel
theorem dL_isWell_85 : decode cL_isWell 85 = .ok (.istore 4, 2) := by decide +kernel
theorem dL_isWell_87 : decode cL_isWell 87 = .ok (.iload 6, 2) := by decide +kernel
theorem dL_isWell_89 : decode cL_isWell 89 = .ok (.aload_n 0, 1) := by decide +kernel
theorem dL_isWell_90 : decode cL_isWell 90 = .ok (.iload_n 3, 1) := by decide +kernel
theorem dL_isWell_91 : decode cL_isWell 91 = .ok (.iload 5, 2) := by decide +kernel
theorem dL_isWell_93 : decode cL_isWell 93 = .ok (.invokestatic 234, 3) := by decide +kernel
theorem dL_isWell_96 : decode cL_isWell 96 = .ok (.if_icmp .ne 65, 3) := by decide +kernel
theorem dL_isWell_99 : decode cL_isWell 99 = .ok (.iload 6, 2) := by decide +kernel
theorem dL_isWell_101 : decode cL_isWell 101 = .ok (.aload_n 0, 1) := by decide +kernel
theorem dL_isWell_102 : decode cL_isWell 102 = .ok (.iload 5, 2) := by decide +kernel
theorem dL_isWell_104 : decode cL_isWell 104 = .ok (.iload_n 3, 1) := by decide +kernel
theorem dL_isWell_105 : decode cL_isWell 105 = .ok (.invokestatic 232, 3) := by decide +kernel
theorem dL_isWell_108 : decode cL_isWell 108 = .ok (.if_icmp .ne 53, 3) := by decide +kernel
theorem dL_isWell_111 : decode cL_isWell 111 = .ok (.iload 7, 2) := by decide +kernel
theorem dL_isWell_113 : decode cL_isWell 113 = .ok (.aload_n 0, 1) := by decide +kernel
theorem dL_isWell_114 : decode cL_isWell 114 = .ok (.iload 5, 2) := by decide +kernel
theorem dL_isWell_116 : decode cL_isWell 116 = .ok (.iload_n 3, 1) := by decide +kernel
theorem dL_isWell_117 : decode cL_isWell 117 = .ok (.invokevirtual 226, 3) := by decide +kernel
theorem dL_isWell_120 : decode cL_isWell 120 = .ok (.if_icmp .ne 41, 3) := by decide +kernel
theorem dL_isWell_123 : decode cL_isWell 123 = .ok (.iload_n 3, 1) := by decide +kernel
theorem dL_isWell_124 : decode cL_isWell 124 = .ok (.iload 5, 2) := by decide +kernel
theorem dL_isWell_126 : decode cL_isWell 126 = .ok (.if_icmp .ne 13, 3) := by decide +kernel
theorem dL_isWell_129 : decode cL_isWell 129 = .ok (.iload 6, 2) := by decide +kernel
theorem dL_isWell_131 : decode cL_isWell 131 = .ok (.ifCond .ne 30, 3) := by decide +kernel
theorem dL_isWell_134 : decode cL_isWell 134 = .ok (.iload 7, 2) := by decide +kernel
theorem dL_isWell_136 : decode cL_isWell 136 = .ok (.ifCond .ne 25, 3) := by decide +kernel
theorem dL_isWell_139 : decode cL_isWell 139 = .ok (.iload 7, 2) := by decide +kernel
theorem dL_isWell_141 : decode cL_isWell 141 = .ok (.ifCond .eq 22, 3) := by decide +kernel
theorem dL_isWell_144 : decode cL_isWell 144 = .ok (.iload 6, 2) := by decide +kernel
theorem dL_isWell_146 : decode cL_isWell 146 = .ok (.ifCond .lt 15, 3) := by decide +kernel
theorem dL_isWell_149 : decode cL_isWell 149 = .ok (.iload 6, 2) := by decide +kernel
theorem dL_isWell_151 : decode cL_isWell 151 = .ok (.aload_n 0, 1) := by decide +kernel
theorem dL_isWell_152 : decode cL_isWell 152 = .ok (.iload_n 3, 1) := by decide +kernel
theorem dL_isWell_153 : decode cL_isWell 153 = .ok (.iload 5, 2) := by decide +kernel
theorem dL_isWell_155 : decode cL_isWell 155 = .ok (.invokevirtual 229, 3) := by decide +kernel
theorem dL_isWell_158 : decode cL_isWell 158 = .ok (.if_icmp .le 5, 3) := by decide +kernel
theorem dL_isWell_161 : decode cL_isWell 161 = .ok (.iconst 0, 1) := by decide +kernel
theorem dL_isWell_162 : decode cL_isWell 162 = .ok (.ireturn, 1) := by decide +kernel
theorem dL_isWell_163 : decode cL_isWell 163 = .ok (.iconst 0, 1) := by decide +kernel
theorem dL_isWell_164 : decode cL_isWell 164 = .ok (.istore 8, 2) := by decide +kernel
theorem dL_isWell_166 : decode cL_isWell 166 = .ok (.iload 8, 2) := by decide +kernel
theorem dL_isWell_168 : decode cL_isWell 168 = .ok (.aload_n 0, 1) := by decide +kernel
theorem dL_isWell_169 : decode cL_isWell 169 = .ok (.invokevirtual 184, 3) := by decide +kernel
theorem dL_isWell_172 : decode cL_isWell 172 = .ok (.if_icmp .ge 57, 3) := by decide +kernel
theorem dL_isWell_175 : decode cL_isWell 175 = .ok (.aload_n 0, 1) := by decide +kernel
theorem dL_isWell_176 : decode cL_isWell 176 = .ok (.iload_n 3, 1) := by decide +kernel
theorem dL_isWell_177 : decode cL_isWell 177 = .ok (.iload 8, 2) := by decide +kernel
theorem dL_isWell_179 : decode cL_isWell 179 = .ok (.invokestatic 232, 3) := by decide +kernel
theorem dL_isWell_182 : decode cL_isWell 182 = .ok (.istore 9, 2) := by decide +kernel
theorem dL_isWell_184 : decode cL_isWell 184 = .ok (.aload_n 0, 1) := by decide +kernel
theorem dL_isWell_185 : decode cL_isWell 185 = .ok (.iload 8, 2) := by decide +kernel
theorem dL_isWell_187 : decode cL_isWell 187 = .ok (.iload 5, 2) := by decide +kernel
theorem dL_isWell_189 : decode cL_isWell 189 = .ok (.invokevirtual 226, 3) := by decide +kernel
theorem dL_isWell_192 : decode cL_isWell 192 = .ok (.ifCond .eq 31, 3) := by decide +kernel
theorem dL_isWell_195 : decode cL_isWell 195 = .ok (.iload 9, 2) := by decide +kernel
theorem dL_isWell_197 : decode cL_isWell 197 = .ok (.ifCond .lt 26, 3) := by decide +kernel
theorem dL_isWell_200 : decode cL_isWell 200 = .ok (.iload 6, 2) := by decide +kernel
theorem dL_isWell_202 : decode cL_isWell 202 = .ok (.ifCond .lt 19, 3) := by decide +kernel
theorem dL_isWell_205 : decode cL_isWell 205 = .ok (.iload 6, 2) := by decide +kernel
theorem dL_isWell_207 : decode cL_isWell 207 = .ok (.iload 9, 2) := by decide +kernel
theorem dL_isWell_209 : decode cL_isWell 209 = .ok (.aload_n 0, 1) := by decide +kernel
theorem dL_isWell_210 : decode cL_isWell 210 = .ok (.iload 8, 2) := by decide +kernel
theorem dL_isWell_212 : decode cL_isWell 212 = .ok (.iload 5, 2) := by decide +kernel
theorem dL_isWell_214 : decode cL_isWell 214 = .ok (.invokevirtual 229, 3) := by decide +kernel
theorem dL_isWell_217 : decode cL_isWell 217 = .ok (.iadd, 1) := by decide +kernel
theorem dL_isWell_218 : decode cL_isWell 218 = .ok (.if_icmp .le 5, 3) := by decide +kernel
theorem dL_isWell_221 : decode cL_isWell 221 = .ok (.iconst 0, 1) := by decide +kernel
theorem dL_isWell_222 : decode cL_isWell 222 = .ok (.ireturn, 1) := by decide +kernel
theorem dL_isWell_223 : decode cL_isWell 223 = .ok (.iinc 8 1, 3) := by decide +kernel
theorem dL_isWell_226 : decode cL_isWell 226 = .ok (.goto (-60), 3) := by decide +kernel
theorem dL_isWell_229 : decode cL_isWell 229 = .ok (.iinc 5 1, 3) := by decide +kernel
theorem dL_isWell_232 : decode cL_isWell 232 = .ok (.goto (-212), 3) := by decide +kernel
theorem dL_isWell_235 : decode cL_isWell 235 = .ok (.iload_n 2, 1) := by decide +kernel
theorem dL_isWell_236 : decode cL_isWell 236 = .ok (.iload 4, 2) := by decide +kernel
theorem dL_isWell_238 : decode cL_isWell 238 = .ok (.ifCond .eq 7, 3) := by decide +kernel
theorem dL_isWell_241 : decode cL_isWell 241 = .ok (.iconst 1, 1) := by decide +kernel
theorem dL_isWell_242 : decode cL_isWell 242 = .ok (.goto 4, 3) := by decide +kernel
theorem dL_isWell_245 : decode cL_isWell 245 = .ok (.iconst 0, 1) := by decide +kernel
theorem dL_isWell_246 : decode cL_isWell 246 = .ok (.iadd, 1) := by decide +kernel
theorem dL_isWell_247 : decode cL_isWell 247 = .ok (.istore_n 2, 1) := by decide +kernel
theorem dL_isWell_248 : decode cL_isWell 248 = .ok (.iinc 3 1, 3) := by decide +kernel
theorem dL_isWell_251 : decode cL_isWell 251 = .ok (.goto (-245), 3) := by decide +kernel
theorem dL_isWell_254 : decode cL_isWell 254 = .ok (.aload_n 0, 1) := by decide +kernel
theorem dL_isWell_255 : decode cL_isWell 255 = .ok (.invokevirtual 193, 3) := by decide +kernel
theorem dL_isWell_258 : decode cL_isWell 258 = .ok (.ifCond .ne 7, 3) := by decide +kernel
theorem dL_isWell_261 : decode cL_isWell 261 = .ok (.iconst 1, 1) := by decide +kernel
theorem dL_isWell_262 : decode cL_isWell 262 = .ok (.goto 9, 3) := by decide +kernel
theorem dL_isWell_265 : decode cL_isWell 265 = .ok (.iconst 2, 1) := by decide +kernel
theorem dL_isWell_266 : decode cL_isWell 266 = .ok (.aload_n 0, 1) := by decide +kernel
theorem dL_isWell_267 : decode cL_isWell 267 = .ok (.invokevirtual 193, 3) := by decide +kernel
theorem dL_isWell_270 : decode cL_isWell 270 = .ok (.imul, 1) := by decide +kernel
theorem dL_isWell_271 : decode cL_isWell 271 = .ok (.istore_n 3, 1) := by decide +kernel
theorem dL_isWell_272 : decode cL_isWell 272 = .ok (.aload_n 0, 1) := by decide +kernel
theorem dL_isWell_273 : decode cL_isWell 273 = .ok (.invokevirtual 123, 3) := by decide +kernel
theorem dL_isWell_276 : decode cL_isWell 276 = .ok (.ifCond .eq 93, 3) := by decide +kernel
theorem dL_isWell_279 : decode cL_isWell 279 = .ok (.aload_n 0, 1) := by decide +kernel
theorem dL_isWell_280 : decode cL_isWell 280 = .ok (.invokevirtual 63, 3) := by decide +kernel
theorem dL_isWell_283 : decode cL_isWell 283 = .ok (.istore 4, 2) := by decide +kernel
theorem dL_isWell_285 : decode cL_isWell 285 = .ok (.aload_n 0, 1) := by decide +kernel
theorem dL_isWell_286 : decode cL_isWell 286 = .ok (.invokestatic 236, 3) := by decide +kernel
theorem dL_isWell_289 : decode cL_isWell 289 = .ok (.istore 5, 2) := by decide +kernel
theorem dL_isWell_291 : decode cL_isWell 291 = .ok (.iload 5, 2) := by decide +kernel
theorem dL_isWell_293 : decode cL_isWell 293 = .ok (.aload_n 0, 1) := by decide +kernel
theorem dL_isWell_294 : decode cL_isWell 294 = .ok (.invokevirtual 211, 3) := by decide +kernel
theorem dL_isWell_297 : decode cL_isWell 297 = .ok (.if_icmp .ge 67, 3) := by decide +kernel
theorem dL_isWell_300 : decode cL_isWell 300 = .ok (.aload_n 0, 1) := by decide +kernel
theorem dL_isWell_301 : decode cL_isWell 301 = .ok (.aload_n 0, 1) := by decide +kernel
theorem dL_isWell_302 : decode cL_isWell 302 = .ok (.iload 5, 2) := by decide +kernel
theorem dL_isWell_304 : decode cL_isWell 304 = .ok (.iconst 1, 1) := by decide +kernel
theorem dL_isWell_305 : decode cL_isWell 305 = .ok (.isub, 1) := by decide +kernel
theorem dL_isWell_306 : decode cL_isWell 306 = .ok (.invokevirtual 220, 3) := by decide +kernel
theorem dL_isWell_309 : decode cL_isWell 309 = .ok (.aload_n 0, 1) := by decide +kernel
theorem dL_isWell_310 : decode cL_isWell 310 = .ok (.invokevirtual 60, 3) := by decide +kernel
theorem dL_isWell_313 : decode cL_isWell 313 = .ok (.aload_n 0, 1) := by decide +kernel
theorem dL_isWell_314 : decode cL_isWell 314 = .ok (.invokevirtual 214, 3) := by decide +kernel
theorem dL_isWell_317 : decode cL_isWell 317 = .ok (.aload_n 0, 1) := by decide +kernel
theorem dL_isWell_318 : decode cL_isWell 318 = .ok (.invokevirtual 217, 3) := by decide +kernel
theorem dL_isWell_321 : decode cL_isWell 321 = .ok (.iload 4, 2) := by decide +kernel
theorem dL_isWell_323 : decode cL_isWell 323 = .ok (.invokestatic 239, 3) := by decide +kernel
theorem dL_isWell_326 : decode cL_isWell 326 = .ok (.lconst 0, 1) := by decide +kernel
theorem dL_isWell_327 : decode cL_isWell 327 = .ok (.lcmp, 1) := by decide +kernel
theorem dL_isWell_328 : decode cL_isWell 328 = .ok (.ifCond .lt 36, 3) := by decide +kernel
theorem dL_isWell_331 : decode cL_isWell 331 = .ok (.aload_n 0, 1) := by decide +kernel
theorem dL_isWell_332 : decode cL_isWell 332 = .ok (.aload_n 0, 1) := by decide +kernel
theorem dL_isWell_333 : decode cL_isWell 333 = .ok (.iload 5, 2) := by decide +kernel
theorem dL_isWell_335 : decode cL_isWell 335 = .ok (.iconst 1, 1) := by decide +kernel
theorem dL_isWell_336 : decode cL_isWell 336 = .ok (.isub, 1) := by decide +kernel
theorem dL_isWell_337 : decode cL_isWell 337 = .ok (.invokevirtual 220, 3) := by decide +kernel
theorem dL_isWell_340 : decode cL_isWell 340 = .ok (.aload_n 0, 1) := by decide +kernel
theorem dL_isWell_341 : decode cL_isWell 341 = .ok (.invokevirtual 60, 3) := by decide +kernel
theorem dL_isWell_344 : decode cL_isWell 344 = .ok (.aload_n 0, 1) := by decide +kernel
theorem dL_isWell_345 : decode cL_isWell 345 = .ok (.invokevirtual 214, 3) := by decide +kernel
theorem dL_isWell_348 : decode cL_isWell 348 = .ok (.aload_n 0, 1) := by decide +kernel
theorem dL_isWell_349 : decode cL_isWell 349 = .ok (.invokevirtual 217, 3) := by decide +kernel
theorem dL_isWell_352 : decode cL_isWell 352 = .ok (.iload 4, 2) := by decide +kernel
theorem dL_isWell_354 : decode cL_isWell 354 = .ok (.iconst 1, 1) := by decide +kernel
theorem dL_isWell_355 : decode cL_isWell 355 = .ok (.iadd, 1) := by decide +kernel
theorem dL_isWell_356 : decode cL_isWell 356 = .ok (.invokestatic 239, 3) := by decide +kernel
theorem dL_isWell_359 : decode cL_isWell 359 = .ok (.lconst 0, 1) := by decide +kernel
theorem dL_isWell_360 : decode cL_isWell 360 = .ok (.lcmp, 1) := by decide +kernel
theorem dL_isWell_361 : decode cL_isWell 361 = .ok (.ifCond .lt 5, 3) := by decide +kernel
theorem dL_isWell_364 : decode cL_isWell 364 = .ok (.iconst 0, 1) := by decide +kernel
theorem dL_isWell_365 : decode cL_isWell 365 = .ok (.ireturn, 1) := by decide +kernel
theorem dL_isWell_366 : decode cL_isWell 366 = .ok (.goto 37, 3) := by decide +kernel
theorem dL_isWell_369 : decode cL_isWell 369 = .ok (.aload_n 0, 1) := by decide +kernel
theorem dL_isWell_370 : decode cL_isWell 370 = .ok (.invokevirtual 208, 3) := by decide +kernel
theorem dL_isWell_373 : decode cL_isWell 373 = .ok (.ifCond .ne 28, 3) := by decide +kernel
theorem dL_isWell_376 : decode cL_isWell 376 = .ok (.aload_n 0, 1) := by decide +kernel
theorem dL_isWell_377 : decode cL_isWell 377 = .ok (.invokestatic 243, 3) := by decide +kernel
theorem dL_isWell_380 : decode cL_isWell 380 = .ok (.ldc 17, 2) := by decide +kernel
theorem dL_isWell_382 : decode cL_isWell 382 = .ok (.if_icmp .ne 19, 3) := by decide +kernel
theorem dL_isWell_385 : decode cL_isWell 385 = .ok (.aload_n 0, 1) := by decide +kernel
theorem dL_isWell_386 : decode cL_isWell 386 = .ok (.invokestatic 245, 3) := by decide +kernel
theorem dL_isWell_389 : decode cL_isWell 389 = .ok (.ldc 17, 2) := by decide +kernel
theorem dL_isWell_391 : decode cL_isWell 391 = .ok (.if_icmp .ne 10, 3) := by decide +kernel
theorem dL_isWell_394 : decode cL_isWell 394 = .ok (.aload_n 0, 1) := by decide +kernel
theorem dL_isWell_395 : decode cL_isWell 395 = .ok (.invokevirtual 247, 3) := by decide +kernel
theorem dL_isWell_398 : decode cL_isWell 398 = .ok (.ifCond .eq 5, 3) := by decide +kernel
theorem dL_isWell_401 : decode cL_isWell 401 = .ok (.iconst 0, 1) := by decide +kernel
theorem dL_isWell_402 : decode cL_isWell 402 = .ok (.ireturn, 1) := by decide +kernel
theorem dL_isWell_403 : decode cL_isWell 403 = .ok (.iload_n 1, 1) := by decide +kernel
theorem dL_isWell_404 : decode cL_isWell 404 = .ok (.aload_n 0, 1) := by decide +kernel
theorem dL_isWell_405 : decode cL_isWell 405 = .ok (.invokevirtual 187, 3) := by decide +kernel
theorem dL_isWell_408 : decode cL_isWell 408 = .ok (.if_icmp .ne 75, 3) := by decide +kernel
theorem dL_isWell_411 : decode cL_isWell 411 = .ok (.iload_n 2, 1) := by decide +kernel
theorem dL_isWell_412 : decode cL_isWell 412 = .ok (.aload_n 0, 1) := by decide +kernel
theorem dL_isWell_413 : decode cL_isWell 413 = .ok (.invokevirtual 250, 3) := by decide +kernel
theorem dL_isWell_416 : decode cL_isWell 416 = .ok (.if_icmp .ne 67, 3) := by decide +kernel
theorem dL_isWell_419 : decode cL_isWell 419 = .ok (.iload_n 2, 1) := by decide +kernel
theorem dL_isWell_420 : decode cL_isWell 420 = .ok (.aload_n 0, 1) := by decide +kernel
theorem dL_isWell_421 : decode cL_isWell 421 = .ok (.invokevirtual 253, 3) := by decide +kernel
theorem dL_isWell_424 : decode cL_isWell 424 = .ok (.if_icmp .ne 59, 3) := by decide +kernel
theorem dL_isWell_427 : decode cL_isWell 427 = .ok (.aload_n 0, 1) := by decide +kernel
theorem dL_isWell_428 : decode cL_isWell 428 = .ok (.invokevirtual 190, 3) := by decide +kernel
theorem dL_isWell_431 : decode cL_isWell 431 = .ok (.ifCond .lt 52, 3) := by decide +kernel
theorem dL_isWell_434 : decode cL_isWell 434 = .ok (.aload_n 0, 1) := by decide +kernel
theorem dL_isWell_435 : decode cL_isWell 435 = .ok (.invokevirtual 190, 3) := by decide +kernel
theorem dL_isWell_438 : decode cL_isWell 438 = .ok (.sipush 1000, 3) := by decide +kernel
theorem dL_isWell_441 : decode cL_isWell 441 = .ok (.if_icmp .gt 42, 3) := by decide +kernel
theorem dL_isWell_444 : decode cL_isWell 444 = .ok (.aload_n 0, 1) := by decide +kernel
theorem dL_isWell_445 : decode cL_isWell 445 = .ok (.invokevirtual 256, 3) := by decide +kernel
theorem dL_isWell_448 : decode cL_isWell 448 = .ok (.aload_n 0, 1) := by decide +kernel
theorem dL_isWell_449 : decode cL_isWell 449 = .ok (.invokevirtual 190, 3) := by decide +kernel
theorem dL_isWell_452 : decode cL_isWell 452 = .ok (.iload_n 3, 1) := by decide +kernel
theorem dL_isWell_453 : decode cL_isWell 453 = .ok (.iadd, 1) := by decide +kernel
theorem dL_isWell_454 : decode cL_isWell 454 = .ok (.iconst 1, 1) := by decide +kernel
theorem dL_isWell_455 : decode cL_isWell 455 = .ok (.isub, 1) := by decide +kernel
theorem dL_isWell_456 : decode cL_isWell 456 = .ok (.iload_n 3, 1) := by decide +kernel
theorem dL_isWell_457 : decode cL_isWell 457 = .ok (.idiv, 1) := by decide +kernel
theorem dL_isWell_458 : decode cL_isWell 458 = .ok (.if_icmp .ne 25, 3) := by decide +kernel
theorem dL_isWell_461 : decode cL_isWell 461 = .ok (.aload_n 0, 1) := by decide +kernel
theorem dL_isWell_462 : decode cL_isWell 462 = .ok (.invokevirtual 259, 3) := by decide +kernel
theorem dL_isWell_465 : decode cL_isWell 465 = .ok (.aload_n 0, 1) := by decide +kernel
theorem dL_isWell_466 : decode cL_isWell 466 = .ok (.invokevirtual 256, 3) := by decide +kernel
theorem dL_isWell_469 : decode cL_isWell 469 = .ok (.if_icmp .ne 14, 3) := by decide +kernel
theorem dL_isWell_472 : decode cL_isWell 472 = .ok (.aload_n 0, 1) := by decide +kernel
theorem dL_isWell_473 : decode cL_isWell 473 = .ok (.invokevirtual 262, 3) := by decide +kernel
theorem dL_isWell_476 : decode cL_isWell 476 = .ok (.ifCond .eq 7, 3) := by decide +kernel
theorem dL_isWell_479 : decode cL_isWell 479 = .ok (.iconst 1, 1) := by decide +kernel
theorem dL_isWell_480 : decode cL_isWell 480 = .ok (.goto 4, 3) := by decide +kernel
theorem dL_isWell_483 : decode cL_isWell 483 = .ok (.iconst 0, 1) := by decide +kernel
theorem dL_isWell_484 : decode cL_isWell 484 = .ok (.ireturn, 1) := by decide +kernel
