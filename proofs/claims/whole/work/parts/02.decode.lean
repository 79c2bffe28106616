theorem dX0_init_0 : decode cX0_init 0 = .ok (.aload_n 0, 1) := by decide +kernel
theorem dX0_init_1 : decode cX0_init 1 = .ok (.invokespecial 3, 3) := by decide +kernel
theorem dX0_init_4 : decode cX0_init 4 = .ok (.aload_n 0, 1) := by decide +kernel
theorem dX0_init_5 : decode cX0_init 5 = .ok (.lconst 1, 1) := by decide +kernel
theorem dX0_init_6 : decode cX0_init 6 = .ok (.putfield 9, 3) := by decide +kernel
theorem dX0_init_9 : decode cX0_init 9 = .ok (.return_, 1) := by decide +kernel
theorem dX0_measure_0 : decode cX0_measure 0 = .ok (.iload_n 1, 1) := by decide +kernel
theorem dX0_measure_1 : decode cX0_measure 1 = .ok (.iload_n 3, 1) := by decide +kernel
theorem dX0_measure_2 : decode cX0_measure 2 = .ok (.imul, 1) := by decide +kernel
theorem dX0_measure_3 : decode cX0_measure 3 = .ok (.iload_n 2, 1) := by decide +kernel
theorem dX0_measure_4 : decode cX0_measure 4 = .ok (.iload 4, 2) := by decide +kernel
theorem dX0_measure_6 : decode cX0_measure 6 = .ok (.imul, 1) := by decide +kernel
theorem dX0_measure_7 : decode cX0_measure 7 = .ok (.iadd, 1) := by decide +kernel
theorem dX0_measure_8 : decode cX0_measure 8 = .ok (.istore 5, 2) := by decide +kernel
theorem dX0_measure_10 : decode cX0_measure 10 = .ok (.iload_n 3, 1) := by decide +kernel
theorem dX0_measure_11 : decode cX0_measure 11 = .ok (.iload_n 3, 1) := by decide +kernel
theorem dX0_measure_12 : decode cX0_measure 12 = .ok (.imul, 1) := by decide +kernel
theorem dX0_measure_13 : decode cX0_measure 13 = .ok (.iload 4, 2) := by decide +kernel
theorem dX0_measure_15 : decode cX0_measure 15 = .ok (.iload 4, 2) := by decide +kernel
theorem dX0_measure_17 : decode cX0_measure 17 = .ok (.imul, 1) := by decide +kernel
theorem dX0_measure_18 : decode cX0_measure 18 = .ok (.iadd, 1) := by decide +kernel
theorem dX0_measure_19 : decode cX0_measure 19 = .ok (.istore 6, 2) := by decide +kernel
theorem dX0_measure_21 : decode cX0_measure 21 = .ok (.aload_n 0, 1) := by decide +kernel
theorem dX0_measure_22 : decode cX0_measure 22 = .ok (.lconst 1, 1) := by decide +kernel
theorem dX0_measure_23 : decode cX0_measure 23 = .ok (.putfield 9, 3) := by decide +kernel
theorem dX0_measure_26 : decode cX0_measure 26 = .ok (.iload 5, 2) := by decide +kernel
theorem dX0_measure_28 : decode cX0_measure 28 = .ok (.ifCond .gt 18, 3) := by decide +kernel
theorem dX0_measure_31 : decode cX0_measure 31 = .ok (.aload_n 0, 1) := by decide +kernel
theorem dX0_measure_32 : decode cX0_measure 32 = .ok (.iload_n 1, 1) := by decide +kernel
theorem dX0_measure_33 : decode cX0_measure 33 = .ok (.iload_n 1, 1) := by decide +kernel
theorem dX0_measure_34 : decode cX0_measure 34 = .ok (.imul, 1) := by decide +kernel
theorem dX0_measure_35 : decode cX0_measure 35 = .ok (.iload_n 2, 1) := by decide +kernel
theorem dX0_measure_36 : decode cX0_measure 36 = .ok (.iload_n 2, 1) := by decide +kernel
theorem dX0_measure_37 : decode cX0_measure 37 = .ok (.imul, 1) := by decide +kernel
theorem dX0_measure_38 : decode cX0_measure 38 = .ok (.iadd, 1) := by decide +kernel
theorem dX0_measure_39 : decode cX0_measure 39 = .ok (.i2l, 1) := by decide +kernel
theorem dX0_measure_40 : decode cX0_measure 40 = .ok (.putfield 15, 3) := by decide +kernel
theorem dX0_measure_43 : decode cX0_measure 43 = .ok (.goto 70, 3) := by decide +kernel
theorem dX0_measure_46 : decode cX0_measure 46 = .ok (.iload 5, 2) := by decide +kernel
theorem dX0_measure_48 : decode cX0_measure 48 = .ok (.iload 6, 2) := by decide +kernel
theorem dX0_measure_50 : decode cX0_measure 50 = .ok (.if_icmp .lt 33, 3) := by decide +kernel
theorem dX0_measure_53 : decode cX0_measure 53 = .ok (.iload_n 1, 1) := by decide +kernel
theorem dX0_measure_54 : decode cX0_measure 54 = .ok (.iload_n 3, 1) := by decide +kernel
theorem dX0_measure_55 : decode cX0_measure 55 = .ok (.isub, 1) := by decide +kernel
theorem dX0_measure_56 : decode cX0_measure 56 = .ok (.istore 7, 2) := by decide +kernel
theorem dX0_measure_58 : decode cX0_measure 58 = .ok (.iload_n 2, 1) := by decide +kernel
theorem dX0_measure_59 : decode cX0_measure 59 = .ok (.iload 4, 2) := by decide +kernel
theorem dX0_measure_61 : decode cX0_measure 61 = .ok (.isub, 1) := by decide +kernel
theorem dX0_measure_62 : decode cX0_measure 62 = .ok (.istore 8, 2) := by decide +kernel
theorem dX0_measure_64 : decode cX0_measure 64 = .ok (.aload_n 0, 1) := by decide +kernel
theorem dX0_measure_65 : decode cX0_measure 65 = .ok (.iload 7, 2) := by decide +kernel
theorem dX0_measure_67 : decode cX0_measure 67 = .ok (.iload 7, 2) := by decide +kernel
theorem dX0_measure_69 : decode cX0_measure 69 = .ok (.imul, 1) := by decide +kernel
theorem dX0_measure_70 : decode cX0_measure 70 = .ok (.iload 8, 2) := by decide +kernel
theorem dX0_measure_72 : decode cX0_measure 72 = .ok (.iload 8, 2) := by decide +kernel
theorem dX0_measure_74 : decode cX0_measure 74 = .ok (.imul, 1) := by decide +kernel
theorem dX0_measure_75 : decode cX0_measure 75 = .ok (.iadd, 1) := by decide +kernel
theorem dX0_measure_76 : decode cX0_measure 76 = .ok (.i2l, 1) := by decide +kernel
theorem dX0_measure_77 : decode cX0_measure 77 = .ok (.putfield 15, 3) := by decide +kernel
theorem dX0_measure_80 : decode cX0_measure 80 = .ok (.goto 33, 3) := by decide +kernel
theorem dX0_measure_83 : decode cX0_measure 83 = .ok (.iload_n 3, 1) := by decide +kernel
theorem dX0_measure_84 : decode cX0_measure 84 = .ok (.i2l, 1) := by decide +kernel
theorem dX0_measure_85 : decode cX0_measure 85 = .ok (.iload_n 2, 1) := by decide +kernel
theorem dX0_measure_86 : decode cX0_measure 86 = .ok (.i2l, 1) := by decide +kernel
theorem dX0_measure_87 : decode cX0_measure 87 = .ok (.lmul, 1) := by decide +kernel
theorem dX0_measure_88 : decode cX0_measure 88 = .ok (.iload 4, 2) := by decide +kernel
theorem dX0_measure_90 : decode cX0_measure 90 = .ok (.i2l, 1) := by decide +kernel
theorem dX0_measure_91 : decode cX0_measure 91 = .ok (.iload_n 1, 1) := by decide +kernel
theorem dX0_measure_92 : decode cX0_measure 92 = .ok (.i2l, 1) := by decide +kernel
theorem dX0_measure_93 : decode cX0_measure 93 = .ok (.lmul, 1) := by decide +kernel
theorem dX0_measure_94 : decode cX0_measure 94 = .ok (.lsub, 1) := by decide +kernel
theorem dX0_measure_95 : decode cX0_measure 95 = .ok (.lstore 7, 2) := by decide +kernel
theorem dX0_measure_97 : decode cX0_measure 97 = .ok (.aload_n 0, 1) := by decide +kernel
theorem dX0_measure_98 : decode cX0_measure 98 = .ok (.lload 7, 2) := by decide +kernel
theorem dX0_measure_100 : decode cX0_measure 100 = .ok (.lload 7, 2) := by decide +kernel
theorem dX0_measure_102 : decode cX0_measure 102 = .ok (.lmul, 1) := by decide +kernel
theorem dX0_measure_103 : decode cX0_measure 103 = .ok (.putfield 15, 3) := by decide +kernel
theorem dX0_measure_106 : decode cX0_measure 106 = .ok (.aload_n 0, 1) := by decide +kernel
theorem dX0_measure_107 : decode cX0_measure 107 = .ok (.iload 6, 2) := by decide +kernel
theorem dX0_measure_109 : decode cX0_measure 109 = .ok (.i2l, 1) := by decide +kernel
theorem dX0_measure_110 : decode cX0_measure 110 = .ok (.putfield 9, 3) := by decide +kernel
theorem dX0_measure_113 : decode cX0_measure 113 = .ok (.return_, 1) := by decide +kernel
theorem dX0_isAbove_0 : decode cX0_isAbove 0 = .ok (.aload_n 0, 1) := by decide +kernel
theorem dX0_isAbove_1 : decode cX0_isAbove 1 = .ok (.getfield 15, 3) := by decide +kernel
theorem dX0_isAbove_4 : decode cX0_isAbove 4 = .ok (.iload_n 1, 1) := by decide +kernel
theorem dX0_isAbove_5 : decode cX0_isAbove 5 = .ok (.i2l, 1) := by decide +kernel
theorem dX0_isAbove_6 : decode cX0_isAbove 6 = .ok (.iload_n 1, 1) := by decide +kernel
theorem dX0_isAbove_7 : decode cX0_isAbove 7 = .ok (.i2l, 1) := by decide +kernel
theorem dX0_isAbove_8 : decode cX0_isAbove 8 = .ok (.lmul, 1) := by decide +kernel
theorem dX0_isAbove_9 : decode cX0_isAbove 9 = .ok (.aload_n 0, 1) := by decide +kernel
theorem dX0_isAbove_10 : decode cX0_isAbove 10 = .ok (.getfield 9, 3) := by decide +kernel
theorem dX0_isAbove_13 : decode cX0_isAbove 13 = .ok (.lmul, 1) := by decide +kernel
theorem dX0_isAbove_14 : decode cX0_isAbove 14 = .ok (.lcmp, 1) := by decide +kernel
theorem dX0_isAbove_15 : decode cX0_isAbove 15 = .ok (.ifCond .le 7, 3) := by decide +kernel
theorem dX0_isAbove_18 : decode cX0_isAbove 18 = .ok (.iconst 1, 1) := by decide +kernel
theorem dX0_isAbove_19 : decode cX0_isAbove 19 = .ok (.goto 4, 3) := by decide +kernel
theorem dX0_isAbove_22 : decode cX0_isAbove 22 = .ok (.iconst 0, 1) := by decide +kernel
theorem dX0_isAbove_23 : decode cX0_isAbove 23 = .ok (.ireturn, 1) := by decide +kernel
theorem dX0_roundedDown_0 : decode cX0_roundedDown 0 = .ok (.iconst 0, 1) := by decide +kernel
theorem dX0_roundedDown_1 : decode cX0_roundedDown 1 = .ok (.istore_n 1, 1) := by decide +kernel
theorem dX0_roundedDown_2 : decode cX0_roundedDown 2 = .ok (.iload_n 1, 1) := by decide +kernel
theorem dX0_roundedDown_3 : decode cX0_roundedDown 3 = .ok (.sipush 1000, 3) := by decide +kernel
theorem dX0_roundedDown_6 : decode cX0_roundedDown 6 = .ok (.if_icmp .ge 31, 3) := by decide +kernel
theorem dX0_roundedDown_9 : decode cX0_roundedDown 9 = .ok (.iload_n 1, 1) := by decide +kernel
theorem dX0_roundedDown_10 : decode cX0_roundedDown 10 = .ok (.i2l, 1) := by decide +kernel
theorem dX0_roundedDown_11 : decode cX0_roundedDown 11 = .ok (.lconst 1, 1) := by decide +kernel
theorem dX0_roundedDown_12 : decode cX0_roundedDown 12 = .ok (.ladd, 1) := by decide +kernel
theorem dX0_roundedDown_13 : decode cX0_roundedDown 13 = .ok (.iload_n 1, 1) := by decide +kernel
theorem dX0_roundedDown_14 : decode cX0_roundedDown 14 = .ok (.i2l, 1) := by decide +kernel
theorem dX0_roundedDown_15 : decode cX0_roundedDown 15 = .ok (.lconst 1, 1) := by decide +kernel
theorem dX0_roundedDown_16 : decode cX0_roundedDown 16 = .ok (.ladd, 1) := by decide +kernel
theorem dX0_roundedDown_17 : decode cX0_roundedDown 17 = .ok (.lmul, 1) := by decide +kernel
theorem dX0_roundedDown_18 : decode cX0_roundedDown 18 = .ok (.aload_n 0, 1) := by decide +kernel
theorem dX0_roundedDown_19 : decode cX0_roundedDown 19 = .ok (.getfield 9, 3) := by decide +kernel
theorem dX0_roundedDown_22 : decode cX0_roundedDown 22 = .ok (.lmul, 1) := by decide +kernel
theorem dX0_roundedDown_23 : decode cX0_roundedDown 23 = .ok (.aload_n 0, 1) := by decide +kernel
theorem dX0_roundedDown_24 : decode cX0_roundedDown 24 = .ok (.getfield 15, 3) := by decide +kernel
theorem dX0_roundedDown_27 : decode cX0_roundedDown 27 = .ok (.lcmp, 1) := by decide +kernel
theorem dX0_roundedDown_28 : decode cX0_roundedDown 28 = .ok (.ifCond .gt 9, 3) := by decide +kernel
theorem dX0_roundedDown_31 : decode cX0_roundedDown 31 = .ok (.iinc 1 1, 3) := by decide +kernel
theorem dX0_roundedDown_34 : decode cX0_roundedDown 34 = .ok (.goto (-32), 3) := by decide +kernel
theorem dX0_roundedDown_37 : decode cX0_roundedDown 37 = .ok (.iload_n 1, 1) := by decide +kernel
theorem dX0_roundedDown_38 : decode cX0_roundedDown 38 = .ok (.ireturn, 1) := by decide +kernel
theorem dX1_init_0 : decode cX1_init 0 = .ok (.aload_n 0, 1) := by decide +kernel
theorem dX1_init_1 : decode cX1_init 1 = .ok (.invokespecial 3, 3) := by decide +kernel
theorem dX1_init_4 : decode cX1_init 4 = .ok (.aload_n 0, 1) := by decide +kernel
theorem dX1_init_5 : decode cX1_init 5 = .ok (.new 9, 3) := by decide +kernel
theorem dX1_init_8 : decode cX1_init 8 = .ok (.dup, 1) := by decide +kernel
theorem dX1_init_9 : decode cX1_init 9 = .ok (.invokespecial 11, 3) := by decide +kernel
theorem dX1_init_12 : decode cX1_init 12 = .ok (.putfield 12, 3) := by decide +kernel
theorem dX1_init_15 : decode cX1_init 15 = .ok (.aload_n 0, 1) := by decide +kernel
theorem dX1_init_16 : decode cX1_init 16 = .ok (.new 18, 3) := by decide +kernel
theorem dX1_init_19 : decode cX1_init 19 = .ok (.dup, 1) := by decide +kernel
theorem dX1_init_20 : decode cX1_init 20 = .ok (.invokespecial 20, 3) := by decide +kernel
theorem dX1_init_23 : decode cX1_init 23 = .ok (.putfield 21, 3) := by decide +kernel
theorem dX1_init_26 : decode cX1_init 26 = .ok (.aload_n 0, 1) := by decide +kernel
theorem dX1_init_27 : decode cX1_init 27 = .ok (.new 25, 3) := by decide +kernel
theorem dX1_init_30 : decode cX1_init 30 = .ok (.dup, 1) := by decide +kernel
theorem dX1_init_31 : decode cX1_init 31 = .ok (.invokespecial 27, 3) := by decide +kernel
theorem dX1_init_34 : decode cX1_init 34 = .ok (.putfield 28, 3) := by decide +kernel
theorem dX1_init_37 : decode cX1_init 37 = .ok (.return_, 1) := by decide +kernel
theorem dX1_faultOf_0 : decode cX1_faultOf 0 = .ok (.iload_n 1, 1) := by decide +kernel
theorem dX1_faultOf_1 : decode cX1_faultOf 1 = .ok (.tableswitch 134 0 7 #[47, 56, 65, 72, 79, 94, 110, 127], 47) := by decide +kernel
theorem dX1_faultOf_48 : decode cX1_faultOf 48 = .ok (.aload_n 0, 1) := by decide +kernel
theorem dX1_faultOf_49 : decode cX1_faultOf 49 = .ok (.iload_n 2, 1) := by decide +kernel
theorem dX1_faultOf_50 : decode cX1_faultOf 50 = .ok (.iload_n 3, 1) := by decide +kernel
theorem dX1_faultOf_51 : decode cX1_faultOf 51 = .ok (.iload 4, 2) := by decide +kernel
theorem dX1_faultOf_53 : decode cX1_faultOf 53 = .ok (.invokevirtual 32, 3) := by decide +kernel
theorem dX1_faultOf_56 : decode cX1_faultOf 56 = .ok (.ireturn, 1) := by decide +kernel
theorem dX1_faultOf_57 : decode cX1_faultOf 57 = .ok (.aload_n 0, 1) := by decide +kernel
theorem dX1_faultOf_58 : decode cX1_faultOf 58 = .ok (.iload_n 2, 1) := by decide +kernel
theorem dX1_faultOf_59 : decode cX1_faultOf 59 = .ok (.iload_n 3, 1) := by decide +kernel
theorem dX1_faultOf_60 : decode cX1_faultOf 60 = .ok (.iload 4, 2) := by decide +kernel
theorem dX1_faultOf_62 : decode cX1_faultOf 62 = .ok (.invokevirtual 36, 3) := by decide +kernel
theorem dX1_faultOf_65 : decode cX1_faultOf 65 = .ok (.ireturn, 1) := by decide +kernel
theorem dX1_faultOf_66 : decode cX1_faultOf 66 = .ok (.aload_n 0, 1) := by decide +kernel
theorem dX1_faultOf_67 : decode cX1_faultOf 67 = .ok (.iload_n 2, 1) := by decide +kernel
theorem dX1_faultOf_68 : decode cX1_faultOf 68 = .ok (.iload_n 3, 1) := by decide +kernel
theorem dX1_faultOf_69 : decode cX1_faultOf 69 = .ok (.invokevirtual 39, 3) := by decide +kernel
theorem dX1_faultOf_72 : decode cX1_faultOf 72 = .ok (.ireturn, 1) := by decide +kernel
theorem dX1_faultOf_73 : decode cX1_faultOf 73 = .ok (.aload_n 0, 1) := by decide +kernel
theorem dX1_faultOf_74 : decode cX1_faultOf 74 = .ok (.iload_n 2, 1) := by decide +kernel
theorem dX1_faultOf_75 : decode cX1_faultOf 75 = .ok (.iload_n 3, 1) := by decide +kernel
theorem dX1_faultOf_76 : decode cX1_faultOf 76 = .ok (.invokevirtual 43, 3) := by decide +kernel
theorem dX1_faultOf_79 : decode cX1_faultOf 79 = .ok (.ireturn, 1) := by decide +kernel
theorem dX1_faultOf_80 : decode cX1_faultOf 80 = .ok (.iload_n 2, 1) := by decide +kernel
theorem dX1_faultOf_81 : decode cX1_faultOf 81 = .ok (.iconst 0, 1) := by decide +kernel
theorem dX1_faultOf_82 : decode cX1_faultOf 82 = .ok (.iconst 2, 1) := by decide +kernel
theorem dX1_faultOf_83 : decode cX1_faultOf 83 = .ok (.invokestatic 46, 3) := by decide +kernel
theorem dX1_faultOf_86 : decode cX1_faultOf 86 = .ok (.ifCond .eq 7, 3) := by decide +kernel
theorem dX1_faultOf_89 : decode cX1_faultOf 89 = .ok (.iconst 0, 1) := by decide +kernel
theorem dX1_faultOf_90 : decode cX1_faultOf 90 = .ok (.goto 4, 3) := by decide +kernel
theorem dX1_faultOf_93 : decode cX1_faultOf 93 = .ok (.iconst 2, 1) := by decide +kernel
theorem dX1_faultOf_94 : decode cX1_faultOf 94 = .ok (.ireturn, 1) := by decide +kernel
theorem dX1_faultOf_95 : decode cX1_faultOf 95 = .ok (.iload_n 2, 1) := by decide +kernel
theorem dX1_faultOf_96 : decode cX1_faultOf 96 = .ok (.iconst 1, 1) := by decide +kernel
theorem dX1_faultOf_97 : decode cX1_faultOf 97 = .ok (.bipush 30, 2) := by decide +kernel
theorem dX1_faultOf_99 : decode cX1_faultOf 99 = .ok (.invokestatic 46, 3) := by decide +kernel
theorem dX1_faultOf_102 : decode cX1_faultOf 102 = .ok (.ifCond .eq 7, 3) := by decide +kernel
theorem dX1_faultOf_105 : decode cX1_faultOf 105 = .ok (.iconst 0, 1) := by decide +kernel
theorem dX1_faultOf_106 : decode cX1_faultOf 106 = .ok (.goto 4, 3) := by decide +kernel
theorem dX1_faultOf_109 : decode cX1_faultOf 109 = .ok (.iconst 2, 1) := by decide +kernel
theorem dX1_faultOf_110 : decode cX1_faultOf 110 = .ok (.ireturn, 1) := by decide +kernel
theorem dX1_faultOf_111 : decode cX1_faultOf 111 = .ok (.iload_n 2, 1) := by decide +kernel
theorem dX1_faultOf_112 : decode cX1_faultOf 112 = .ok (.iconst 1, 1) := by decide +kernel
theorem dX1_faultOf_113 : decode cX1_faultOf 113 = .ok (.sipush 999, 3) := by decide +kernel
theorem dX1_faultOf_116 : decode cX1_faultOf 116 = .ok (.invokestatic 46, 3) := by decide +kernel
theorem dX1_faultOf_119 : decode cX1_faultOf 119 = .ok (.ifCond .eq 7, 3) := by decide +kernel
theorem dX1_faultOf_122 : decode cX1_faultOf 122 = .ok (.iconst 0, 1) := by decide +kernel
theorem dX1_faultOf_123 : decode cX1_faultOf 123 = .ok (.goto 4, 3) := by decide +kernel
theorem dX1_faultOf_126 : decode cX1_faultOf 126 = .ok (.iconst 2, 1) := by decide +kernel
theorem dX1_faultOf_127 : decode cX1_faultOf 127 = .ok (.ireturn, 1) := by decide +kernel
theorem dX1_faultOf_128 : decode cX1_faultOf 128 = .ok (.aload_n 0, 1) := by decide +kernel
theorem dX1_faultOf_129 : decode cX1_faultOf 129 = .ok (.iload_n 2, 1) := by decide +kernel
theorem dX1_faultOf_130 : decode cX1_faultOf 130 = .ok (.iload_n 3, 1) := by decide +kernel
theorem dX1_faultOf_131 : decode cX1_faultOf 131 = .ok (.invokevirtual 50, 3) := by decide +kernel
theorem dX1_faultOf_134 : decode cX1_faultOf 134 = .ok (.ireturn, 1) := by decide +kernel
theorem dX1_faultOf_135 : decode cX1_faultOf 135 = .ok (.aload_n 0, 1) := by decide +kernel
theorem dX1_faultOf_136 : decode cX1_faultOf 136 = .ok (.getfield 12, 3) := by decide +kernel
theorem dX1_faultOf_139 : decode cX1_faultOf 139 = .ok (.getfield 53, 3) := by decide +kernel
theorem dX1_faultOf_142 : decode cX1_faultOf 142 = .ok (.invokevirtual 57, 3) := by decide +kernel
theorem dX1_faultOf_145 : decode cX1_faultOf 145 = .ok (.ifCond .eq 7, 3) := by decide +kernel
theorem dX1_faultOf_148 : decode cX1_faultOf 148 = .ok (.iconst 0, 1) := by decide +kernel
theorem dX1_faultOf_149 : decode cX1_faultOf 149 = .ok (.goto 4, 3) := by decide +kernel
theorem dX1_faultOf_152 : decode cX1_faultOf 152 = .ok (.iconst 3, 1) := by decide +kernel
theorem dX1_faultOf_153 : decode cX1_faultOf 153 = .ok (.ireturn, 1) := by decide +kernel
theorem dX1_faultOfPoint_0 : decode cX1_faultOfPoint 0 = .ok (.iload_n 1, 1) := by decide +kernel
theorem dX1_faultOfPoint_1 : decode cX1_faultOfPoint 1 = .ok (.iload_n 2, 1) := by decide +kernel
theorem dX1_faultOfPoint_2 : decode cX1_faultOfPoint 2 = .ok (.invokestatic 63, 3) := by decide +kernel
theorem dX1_faultOfPoint_5 : decode cX1_faultOfPoint 5 = .ok (.ifCond .eq 13, 3) := by decide +kernel
theorem dX1_faultOfPoint_8 : decode cX1_faultOfPoint 8 = .ok (.iload_n 3, 1) := by decide +kernel
theorem dX1_faultOfPoint_9 : decode cX1_faultOfPoint 9 = .ok (.iconst 1, 1) := by decide +kernel
theorem dX1_faultOfPoint_10 : decode cX1_faultOfPoint 10 = .ok (.bipush 9, 2) := by decide +kernel
theorem dX1_faultOfPoint_12 : decode cX1_faultOfPoint 12 = .ok (.invokestatic 46, 3) := by decide +kernel
theorem dX1_faultOfPoint_15 : decode cX1_faultOfPoint 15 = .ok (.ifCond .ne 5, 3) := by decide +kernel
theorem dX1_faultOfPoint_18 : decode cX1_faultOfPoint 18 = .ok (.iconst 2, 1) := by decide +kernel
theorem dX1_faultOfPoint_19 : decode cX1_faultOfPoint 19 = .ok (.ireturn, 1) := by decide +kernel
theorem dX1_faultOfPoint_20 : decode cX1_faultOfPoint 20 = .ok (.aload_n 0, 1) := by decide +kernel
theorem dX1_faultOfPoint_21 : decode cX1_faultOfPoint 21 = .ok (.getfield 12, 3) := by decide +kernel
theorem dX1_faultOfPoint_24 : decode cX1_faultOfPoint 24 = .ok (.getfield 67, 3) := by decide +kernel
theorem dX1_faultOfPoint_27 : decode cX1_faultOfPoint 27 = .ok (.invokevirtual 71, 3) := by decide +kernel
theorem dX1_faultOfPoint_30 : decode cX1_faultOfPoint 30 = .ok (.ifCond .eq 7, 3) := by decide +kernel
theorem dX1_faultOfPoint_33 : decode cX1_faultOfPoint 33 = .ok (.iconst 3, 1) := by decide +kernel
theorem dX1_faultOfPoint_34 : decode cX1_faultOfPoint 34 = .ok (.goto 4, 3) := by decide +kernel
theorem dX1_faultOfPoint_37 : decode cX1_faultOfPoint 37 = .ok (.iconst 0, 1) := by decide +kernel
theorem dX1_faultOfPoint_38 : decode cX1_faultOfPoint 38 = .ok (.ireturn, 1) := by decide +kernel
theorem dX1_faultOfTrail_0 : decode cX1_faultOfTrail 0 = .ok (.aload_n 0, 1) := by decide +kernel
theorem dX1_faultOfTrail_1 : decode cX1_faultOfTrail 1 = .ok (.getfield 12, 3) := by decide +kernel
theorem dX1_faultOfTrail_4 : decode cX1_faultOfTrail 4 = .ok (.getfield 67, 3) := by decide +kernel
theorem dX1_faultOfTrail_7 : decode cX1_faultOfTrail 7 = .ok (.iload_n 1, 1) := by decide +kernel
theorem dX1_faultOfTrail_8 : decode cX1_faultOfTrail 8 = .ok (.invokevirtual 76, 3) := by decide +kernel
theorem dX1_faultOfTrail_11 : decode cX1_faultOfTrail 11 = .ok (.ifCond .eq 17, 3) := by decide +kernel
theorem dX1_faultOfTrail_14 : decode cX1_faultOfTrail 14 = .ok (.aload_n 0, 1) := by decide +kernel
theorem dX1_faultOfTrail_15 : decode cX1_faultOfTrail 15 = .ok (.getfield 12, 3) := by decide +kernel
theorem dX1_faultOfTrail_18 : decode cX1_faultOfTrail 18 = .ok (.getfield 67, 3) := by decide +kernel
theorem dX1_faultOfTrail_21 : decode cX1_faultOfTrail 21 = .ok (.iload_n 2, 1) := by decide +kernel
theorem dX1_faultOfTrail_22 : decode cX1_faultOfTrail 22 = .ok (.invokevirtual 76, 3) := by decide +kernel
theorem dX1_faultOfTrail_25 : decode cX1_faultOfTrail 25 = .ok (.ifCond .ne 5, 3) := by decide +kernel
theorem dX1_faultOfTrail_28 : decode cX1_faultOfTrail 28 = .ok (.iconst 1, 1) := by decide +kernel
theorem dX1_faultOfTrail_29 : decode cX1_faultOfTrail 29 = .ok (.ireturn, 1) := by decide +kernel
theorem dX1_faultOfTrail_30 : decode cX1_faultOfTrail 30 = .ok (.iload_n 1, 1) := by decide +kernel
theorem dX1_faultOfTrail_31 : decode cX1_faultOfTrail 31 = .ok (.iload_n 2, 1) := by decide +kernel
theorem dX1_faultOfTrail_32 : decode cX1_faultOfTrail 32 = .ok (.if_icmp .eq 13, 3) := by decide +kernel
theorem dX1_faultOfTrail_35 : decode cX1_faultOfTrail 35 = .ok (.iload_n 3, 1) := by decide +kernel
theorem dX1_faultOfTrail_36 : decode cX1_faultOfTrail 36 = .ok (.iconst 1, 1) := by decide +kernel
theorem dX1_faultOfTrail_37 : decode cX1_faultOfTrail 37 = .ok (.bipush 99, 2) := by decide +kernel
theorem dX1_faultOfTrail_39 : decode cX1_faultOfTrail 39 = .ok (.invokestatic 46, 3) := by decide +kernel
theorem dX1_faultOfTrail_42 : decode cX1_faultOfTrail 42 = .ok (.ifCond .ne 5, 3) := by decide +kernel
theorem dX1_faultOfTrail_45 : decode cX1_faultOfTrail 45 = .ok (.iconst 2, 1) := by decide +kernel
theorem dX1_faultOfTrail_46 : decode cX1_faultOfTrail 46 = .ok (.ireturn, 1) := by decide +kernel
theorem dX1_faultOfTrail_47 : decode cX1_faultOfTrail 47 = .ok (.aload_n 0, 1) := by decide +kernel
theorem dX1_faultOfTrail_48 : decode cX1_faultOfTrail 48 = .ok (.getfield 12, 3) := by decide +kernel
theorem dX1_faultOfTrail_51 : decode cX1_faultOfTrail 51 = .ok (.getfield 67, 3) := by decide +kernel
theorem dX1_faultOfTrail_54 : decode cX1_faultOfTrail 54 = .ok (.iload_n 1, 1) := by decide +kernel
theorem dX1_faultOfTrail_55 : decode cX1_faultOfTrail 55 = .ok (.iload_n 2, 1) := by decide +kernel
theorem dX1_faultOfTrail_56 : decode cX1_faultOfTrail 56 = .ok (.invokevirtual 80, 3) := by decide +kernel
theorem dX1_faultOfTrail_59 : decode cX1_faultOfTrail 59 = .ok (.ifCond .eq 7, 3) := by decide +kernel
theorem dX1_faultOfTrail_62 : decode cX1_faultOfTrail 62 = .ok (.iconst 3, 1) := by decide +kernel
theorem dX1_faultOfTrail_63 : decode cX1_faultOfTrail 63 = .ok (.goto 4, 3) := by decide +kernel
theorem dX1_faultOfTrail_66 : decode cX1_faultOfTrail 66 = .ok (.iconst 0, 1) := by decide +kernel
theorem dX1_faultOfTrail_67 : decode cX1_faultOfTrail 67 = .ok (.ireturn, 1) := by decide +kernel
theorem dX1_faultOfCut_0 : decode cX1_faultOfCut 0 = .ok (.aload_n 0, 1) := by decide +kernel
theorem dX1_faultOfCut_1 : decode cX1_faultOfCut 1 = .ok (.getfield 12, 3) := by decide +kernel
theorem dX1_faultOfCut_4 : decode cX1_faultOfCut 4 = .ok (.getfield 67, 3) := by decide +kernel
theorem dX1_faultOfCut_7 : decode cX1_faultOfCut 7 = .ok (.iload_n 1, 1) := by decide +kernel
theorem dX1_faultOfCut_8 : decode cX1_faultOfCut 8 = .ok (.invokevirtual 76, 3) := by decide +kernel
theorem dX1_faultOfCut_11 : decode cX1_faultOfCut 11 = .ok (.ifCond .eq 17, 3) := by decide +kernel
theorem dX1_faultOfCut_14 : decode cX1_faultOfCut 14 = .ok (.aload_n 0, 1) := by decide +kernel
theorem dX1_faultOfCut_15 : decode cX1_faultOfCut 15 = .ok (.getfield 12, 3) := by decide +kernel
theorem dX1_faultOfCut_18 : decode cX1_faultOfCut 18 = .ok (.getfield 67, 3) := by decide +kernel
theorem dX1_faultOfCut_21 : decode cX1_faultOfCut 21 = .ok (.iload_n 2, 1) := by decide +kernel
theorem dX1_faultOfCut_22 : decode cX1_faultOfCut 22 = .ok (.invokevirtual 76, 3) := by decide +kernel
theorem dX1_faultOfCut_25 : decode cX1_faultOfCut 25 = .ok (.ifCond .ne 5, 3) := by decide +kernel
theorem dX1_faultOfCut_28 : decode cX1_faultOfCut 28 = .ok (.iconst 1, 1) := by decide +kernel
theorem dX1_faultOfCut_29 : decode cX1_faultOfCut 29 = .ok (.ireturn, 1) := by decide +kernel
theorem dX1_faultOfCut_30 : decode cX1_faultOfCut 30 = .ok (.aload_n 0, 1) := by decide +kernel
theorem dX1_faultOfCut_31 : decode cX1_faultOfCut 31 = .ok (.getfield 12, 3) := by decide +kernel
theorem dX1_faultOfCut_34 : decode cX1_faultOfCut 34 = .ok (.getfield 67, 3) := by decide +kernel
theorem dX1_faultOfCut_37 : decode cX1_faultOfCut 37 = .ok (.iload_n 1, 1) := by decide +kernel
theorem dX1_faultOfCut_38 : decode cX1_faultOfCut 38 = .ok (.iload_n 2, 1) := by decide +kernel
theorem dX1_faultOfCut_39 : decode cX1_faultOfCut 39 = .ok (.invokevirtual 80, 3) := by decide +kernel
theorem dX1_faultOfCut_42 : decode cX1_faultOfCut 42 = .ok (.ifCond .eq 7, 3) := by decide +kernel
theorem dX1_faultOfCut_45 : decode cX1_faultOfCut 45 = .ok (.iconst 0, 1) := by decide +kernel
theorem dX1_faultOfCut_46 : decode cX1_faultOfCut 46 = .ok (.goto 4, 3) := by decide +kernel
theorem dX1_faultOfCut_49 : decode cX1_faultOfCut 49 = .ok (.iconst 4, 1) := by decide +kernel
theorem dX1_faultOfCut_50 : decode cX1_faultOfCut 50 = .ok (.ireturn, 1) := by decide +kernel
theorem dX1_faultOfTour_0 : decode cX1_faultOfTour 0 = .ok (.aload_n 0, 1) := by decide +kernel
theorem dX1_faultOfTour_1 : decode cX1_faultOfTour 1 = .ok (.getfield 12, 3) := by decide +kernel
theorem dX1_faultOfTour_4 : decode cX1_faultOfTour 4 = .ok (.getfield 67, 3) := by decide +kernel
theorem dX1_faultOfTour_7 : decode cX1_faultOfTour 7 = .ok (.iload_n 1, 1) := by decide +kernel
theorem dX1_faultOfTour_8 : decode cX1_faultOfTour 8 = .ok (.invokevirtual 76, 3) := by decide +kernel
theorem dX1_faultOfTour_11 : decode cX1_faultOfTour 11 = .ok (.ifCond .eq 17, 3) := by decide +kernel
theorem dX1_faultOfTour_14 : decode cX1_faultOfTour 14 = .ok (.aload_n 0, 1) := by decide +kernel
theorem dX1_faultOfTour_15 : decode cX1_faultOfTour 15 = .ok (.getfield 12, 3) := by decide +kernel
theorem dX1_faultOfTour_18 : decode cX1_faultOfTour 18 = .ok (.getfield 67, 3) := by decide +kernel
theorem dX1_faultOfTour_21 : decode cX1_faultOfTour 21 = .ok (.iload_n 2, 1) := by decide +kernel
theorem dX1_faultOfTour_22 : decode cX1_faultOfTour 22 = .ok (.invokevirtual 76, 3) := by decide +kernel
theorem dX1_faultOfTour_25 : decode cX1_faultOfTour 25 = .ok (.ifCond .ne 5, 3) := by decide +kernel
theorem dX1_faultOfTour_28 : decode cX1_faultOfTour 28 = .ok (.iconst 1, 1) := by decide +kernel
theorem dX1_faultOfTour_29 : decode cX1_faultOfTour 29 = .ok (.ireturn, 1) := by decide +kernel
theorem dX1_faultOfTour_30 : decode cX1_faultOfTour 30 = .ok (.iload_n 1, 1) := by decide +kernel
theorem dX1_faultOfTour_31 : decode cX1_faultOfTour 31 = .ok (.iload_n 2, 1) := by decide +kernel
theorem dX1_faultOfTour_32 : decode cX1_faultOfTour 32 = .ok (.if_icmp .ne 5, 3) := by decide +kernel
theorem dX1_faultOfTour_35 : decode cX1_faultOfTour 35 = .ok (.iconst 2, 1) := by decide +kernel
theorem dX1_faultOfTour_36 : decode cX1_faultOfTour 36 = .ok (.ireturn, 1) := by decide +kernel
theorem dX1_faultOfTour_37 : decode cX1_faultOfTour 37 = .ok (.aload_n 0, 1) := by decide +kernel
theorem dX1_faultOfTour_38 : decode cX1_faultOfTour 38 = .ok (.getfield 12, 3) := by decide +kernel
theorem dX1_faultOfTour_41 : decode cX1_faultOfTour 41 = .ok (.getfield 53, 3) := by decide +kernel
theorem dX1_faultOfTour_44 : decode cX1_faultOfTour 44 = .ok (.invokevirtual 57, 3) := by decide +kernel
theorem dX1_faultOfTour_47 : decode cX1_faultOfTour 47 = .ok (.ifCond .eq 5, 3) := by decide +kernel
theorem dX1_faultOfTour_50 : decode cX1_faultOfTour 50 = .ok (.iconst 3, 1) := by decide +kernel
theorem dX1_faultOfTour_51 : decode cX1_faultOfTour 51 = .ok (.ireturn, 1) := by decide +kernel
theorem dX1_faultOfTour_52 : decode cX1_faultOfTour 52 = .ok (.aload_n 0, 1) := by decide +kernel
theorem dX1_faultOfTour_53 : decode cX1_faultOfTour 53 = .ok (.getfield 21, 3) := by decide +kernel
theorem dX1_faultOfTour_56 : decode cX1_faultOfTour 56 = .ok (.aload_n 0, 1) := by decide +kernel
theorem dX1_faultOfTour_57 : decode cX1_faultOfTour 57 = .ok (.getfield 12, 3) := by decide +kernel
theorem dX1_faultOfTour_60 : decode cX1_faultOfTour 60 = .ok (.getfield 67, 3) := by decide +kernel
theorem dX1_faultOfTour_63 : decode cX1_faultOfTour 63 = .ok (.iload_n 2, 1) := by decide +kernel
theorem dX1_faultOfTour_64 : decode cX1_faultOfTour 64 = .ok (.invokevirtual 83, 3) := by decide +kernel
theorem dX1_faultOfTour_67 : decode cX1_faultOfTour 67 = .ok (.aload_n 0, 1) := by decide +kernel
theorem dX1_faultOfTour_68 : decode cX1_faultOfTour 68 = .ok (.getfield 21, 3) := by decide +kernel
theorem dX1_faultOfTour_71 : decode cX1_faultOfTour 71 = .ok (.iload_n 1, 1) := by decide +kernel
theorem dX1_faultOfTour_72 : decode cX1_faultOfTour 72 = .ok (.invokevirtual 87, 3) := by decide +kernel
theorem dX1_faultOfTour_75 : decode cX1_faultOfTour 75 = .ok (.ldc 91, 2) := by decide +kernel
theorem dX1_faultOfTour_77 : decode cX1_faultOfTour 77 = .ok (.if_icmp .ge 7, 3) := by decide +kernel
theorem dX1_faultOfTour_80 : decode cX1_faultOfTour 80 = .ok (.iconst 0, 1) := by decide +kernel
theorem dX1_faultOfTour_81 : decode cX1_faultOfTour 81 = .ok (.goto 4, 3) := by decide +kernel
theorem dX1_faultOfTour_84 : decode cX1_faultOfTour 84 = .ok (.iconst 4, 1) := by decide +kernel
theorem dX1_faultOfTour_85 : decode cX1_faultOfTour 85 = .ok (.ireturn, 1) := by decide +kernel
theorem dX1_faultOfMove_0 : decode cX1_faultOfMove 0 = .ok (.iload_n 1, 1) := by decide +kernel
theorem dX1_faultOfMove_1 : decode cX1_faultOfMove 1 = .ok (.iload_n 2, 1) := by decide +kernel
theorem dX1_faultOfMove_2 : decode cX1_faultOfMove 2 = .ok (.invokestatic 63, 3) := by decide +kernel
theorem dX1_faultOfMove_5 : decode cX1_faultOfMove 5 = .ok (.ifCond .ne 5, 3) := by decide +kernel
theorem dX1_faultOfMove_8 : decode cX1_faultOfMove 8 = .ok (.iconst 2, 1) := by decide +kernel
theorem dX1_faultOfMove_9 : decode cX1_faultOfMove 9 = .ok (.ireturn, 1) := by decide +kernel
theorem dX1_faultOfMove_10 : decode cX1_faultOfMove 10 = .ok (.aload_n 0, 1) := by decide +kernel
theorem dX1_faultOfMove_11 : decode cX1_faultOfMove 11 = .ok (.getfield 12, 3) := by decide +kernel
theorem dX1_faultOfMove_14 : decode cX1_faultOfMove 14 = .ok (.getfield 53, 3) := by decide +kernel
theorem dX1_faultOfMove_17 : decode cX1_faultOfMove 17 = .ok (.invokevirtual 57, 3) := by decide +kernel
theorem dX1_faultOfMove_20 : decode cX1_faultOfMove 20 = .ok (.ifCond .ne 5, 3) := by decide +kernel
theorem dX1_faultOfMove_23 : decode cX1_faultOfMove 23 = .ok (.iconst 3, 1) := by decide +kernel
theorem dX1_faultOfMove_24 : decode cX1_faultOfMove 24 = .ok (.ireturn, 1) := by decide +kernel
theorem dX1_faultOfMove_25 : decode cX1_faultOfMove 25 = .ok (.aload_n 0, 1) := by decide +kernel
theorem dX1_faultOfMove_26 : decode cX1_faultOfMove 26 = .ok (.getfield 12, 3) := by decide +kernel
theorem dX1_faultOfMove_29 : decode cX1_faultOfMove 29 = .ok (.getfield 92, 3) := by decide +kernel
theorem dX1_faultOfMove_32 : decode cX1_faultOfMove 32 = .ok (.getfield 96, 3) := by decide +kernel
theorem dX1_faultOfMove_35 : decode cX1_faultOfMove 35 = .ok (.ifCond .le 7, 3) := by decide +kernel
theorem dX1_faultOfMove_38 : decode cX1_faultOfMove 38 = .ok (.iconst 0, 1) := by decide +kernel
theorem dX1_faultOfMove_39 : decode cX1_faultOfMove 39 = .ok (.goto 4, 3) := by decide +kernel
theorem dX1_faultOfMove_42 : decode cX1_faultOfMove 42 = .ok (.iconst 5, 1) := by decide +kernel
theorem dX1_faultOfMove_43 : decode cX1_faultOfMove 43 = .ok (.ireturn, 1) := by decide +kernel
theorem dX1_perform_0 : decode cX1_perform 0 = .ok (.iload_n 1, 1) := by decide +kernel
theorem dX1_perform_1 : decode cX1_perform 1 = .ok (.tableswitch 148 0 7 #[47, 62, 77, 90, 97, 109, 121, 133], 47) := by decide +kernel
theorem dX1_perform_48 : decode cX1_perform 48 = .ok (.aload_n 0, 1) := by decide +kernel
theorem dX1_perform_49 : decode cX1_perform 49 = .ok (.getfield 12, 3) := by decide +kernel
theorem dX1_perform_52 : decode cX1_perform 52 = .ok (.getfield 67, 3) := by decide +kernel
theorem dX1_perform_55 : decode cX1_perform 55 = .ok (.iload_n 2, 1) := by decide +kernel
theorem dX1_perform_56 : decode cX1_perform 56 = .ok (.iload_n 3, 1) := by decide +kernel
theorem dX1_perform_57 : decode cX1_perform 57 = .ok (.iload 4, 2) := by decide +kernel
theorem dX1_perform_59 : decode cX1_perform 59 = .ok (.invokevirtual 102, 3) := by decide +kernel
theorem dX1_perform_62 : decode cX1_perform 62 = .ok (.ireturn, 1) := by decide +kernel
theorem dX1_perform_63 : decode cX1_perform 63 = .ok (.aload_n 0, 1) := by decide +kernel
theorem dX1_perform_64 : decode cX1_perform 64 = .ok (.getfield 12, 3) := by decide +kernel
theorem dX1_perform_67 : decode cX1_perform 67 = .ok (.getfield 67, 3) := by decide +kernel
theorem dX1_perform_70 : decode cX1_perform 70 = .ok (.iload_n 2, 1) := by decide +kernel
theorem dX1_perform_71 : decode cX1_perform 71 = .ok (.iload_n 3, 1) := by decide +kernel
theorem dX1_perform_72 : decode cX1_perform 72 = .ok (.iload 4, 2) := by decide +kernel
theorem dX1_perform_74 : decode cX1_perform 74 = .ok (.invokevirtual 105, 3) := by decide +kernel
theorem dX1_perform_77 : decode cX1_perform 77 = .ok (.ireturn, 1) := by decide +kernel
theorem dX1_perform_78 : decode cX1_perform 78 = .ok (.aload_n 0, 1) := by decide +kernel
theorem dX1_perform_79 : decode cX1_perform 79 = .ok (.getfield 12, 3) := by decide +kernel
theorem dX1_perform_82 : decode cX1_perform 82 = .ok (.getfield 67, 3) := by decide +kernel
theorem dX1_perform_85 : decode cX1_perform 85 = .ok (.iload_n 2, 1) := by decide +kernel
theorem dX1_perform_86 : decode cX1_perform 86 = .ok (.iload_n 3, 1) := by decide +kernel
theorem dX1_perform_87 : decode cX1_perform 87 = .ok (.invokevirtual 108, 3) := by decide +kernel
theorem dX1_perform_90 : decode cX1_perform 90 = .ok (.ireturn, 1) := by decide +kernel
theorem dX1_perform_91 : decode cX1_perform 91 = .ok (.aload_n 0, 1) := by decide +kernel
theorem dX1_perform_92 : decode cX1_perform 92 = .ok (.iload_n 2, 1) := by decide +kernel
theorem dX1_perform_93 : decode cX1_perform 93 = .ok (.iload_n 3, 1) := by decide +kernel
theorem dX1_perform_94 : decode cX1_perform 94 = .ok (.invokevirtual 111, 3) := by decide +kernel
theorem dX1_perform_97 : decode cX1_perform 97 = .ok (.ireturn, 1) := by decide +kernel
theorem dX1_perform_98 : decode cX1_perform 98 = .ok (.aload_n 0, 1) := by decide +kernel
theorem dX1_perform_99 : decode cX1_perform 99 = .ok (.getfield 12, 3) := by decide +kernel
theorem dX1_perform_102 : decode cX1_perform 102 = .ok (.getfield 92, 3) := by decide +kernel
theorem dX1_perform_105 : decode cX1_perform 105 = .ok (.iload_n 2, 1) := by decide +kernel
theorem dX1_perform_106 : decode cX1_perform 106 = .ok (.invokevirtual 114, 3) := by decide +kernel
theorem dX1_perform_109 : decode cX1_perform 109 = .ok (.ireturn, 1) := by decide +kernel
theorem dX1_perform_110 : decode cX1_perform 110 = .ok (.aload_n 0, 1) := by decide +kernel
theorem dX1_perform_111 : decode cX1_perform 111 = .ok (.getfield 12, 3) := by decide +kernel
theorem dX1_perform_114 : decode cX1_perform 114 = .ok (.getfield 92, 3) := by decide +kernel
theorem dX1_perform_117 : decode cX1_perform 117 = .ok (.iload_n 2, 1) := by decide +kernel
theorem dX1_perform_118 : decode cX1_perform 118 = .ok (.invokevirtual 117, 3) := by decide +kernel
theorem dX1_perform_121 : decode cX1_perform 121 = .ok (.ireturn, 1) := by decide +kernel
theorem dX1_perform_122 : decode cX1_perform 122 = .ok (.aload_n 0, 1) := by decide +kernel
theorem dX1_perform_123 : decode cX1_perform 123 = .ok (.getfield 12, 3) := by decide +kernel
theorem dX1_perform_126 : decode cX1_perform 126 = .ok (.getfield 92, 3) := by decide +kernel
theorem dX1_perform_129 : decode cX1_perform 129 = .ok (.iload_n 2, 1) := by decide +kernel
theorem dX1_perform_130 : decode cX1_perform 130 = .ok (.invokevirtual 120, 3) := by decide +kernel
theorem dX1_perform_133 : decode cX1_perform 133 = .ok (.ireturn, 1) := by decide +kernel
theorem dX1_perform_134 : decode cX1_perform 134 = .ok (.aload_n 0, 1) := by decide +kernel
theorem dX1_perform_135 : decode cX1_perform 135 = .ok (.iload_n 2, 1) := by decide +kernel
theorem dX1_perform_136 : decode cX1_perform 136 = .ok (.iload_n 3, 1) := by decide +kernel
theorem dX1_perform_137 : decode cX1_perform 137 = .ok (.invokevirtual 123, 3) := by decide +kernel
theorem dX1_perform_140 : decode cX1_perform 140 = .ok (.ifCond .eq 7, 3) := by decide +kernel
theorem dX1_perform_143 : decode cX1_perform 143 = .ok (.iconst 1, 1) := by decide +kernel
theorem dX1_perform_144 : decode cX1_perform 144 = .ok (.goto 4, 3) := by decide +kernel
theorem dX1_perform_147 : decode cX1_perform 147 = .ok (.iconst 0, 1) := by decide +kernel
theorem dX1_perform_148 : decode cX1_perform 148 = .ok (.ireturn, 1) := by decide +kernel
theorem dX1_perform_149 : decode cX1_perform 149 = .ok (.aload_n 0, 1) := by decide +kernel
theorem dX1_perform_150 : decode cX1_perform 150 = .ok (.invokevirtual 126, 3) := by decide +kernel
theorem dX1_perform_153 : decode cX1_perform 153 = .ok (.ireturn, 1) := by decide +kernel
theorem dX1_beginTour_0 : decode cX1_beginTour 0 = .ok (.aload_n 0, 1) := by decide +kernel
theorem dX1_beginTour_1 : decode cX1_beginTour 1 = .ok (.getfield 12, 3) := by decide +kernel
theorem dX1_beginTour_4 : decode cX1_beginTour 4 = .ok (.getfield 53, 3) := by decide +kernel
theorem dX1_beginTour_7 : decode cX1_beginTour 7 = .ok (.astore_n 3, 1) := by decide +kernel
theorem dX1_beginTour_8 : decode cX1_beginTour 8 = .ok (.aload_n 3, 1) := by decide +kernel
theorem dX1_beginTour_9 : decode cX1_beginTour 9 = .ok (.invokevirtual 130, 3) := by decide +kernel
theorem dX1_beginTour_12 : decode cX1_beginTour 12 = .ok (.aload_n 0, 1) := by decide +kernel
theorem dX1_beginTour_13 : decode cX1_beginTour 13 = .ok (.getfield 21, 3) := by decide +kernel
theorem dX1_beginTour_16 : decode cX1_beginTour 16 = .ok (.aload_n 0, 1) := by decide +kernel
theorem dX1_beginTour_17 : decode cX1_beginTour 17 = .ok (.getfield 12, 3) := by decide +kernel
theorem dX1_beginTour_20 : decode cX1_beginTour 20 = .ok (.getfield 67, 3) := by decide +kernel
theorem dX1_beginTour_23 : decode cX1_beginTour 23 = .ok (.iload_n 2, 1) := by decide +kernel
theorem dX1_beginTour_24 : decode cX1_beginTour 24 = .ok (.invokevirtual 83, 3) := by decide +kernel
theorem dX1_beginTour_27 : decode cX1_beginTour 27 = .ok (.iload_n 1, 1) := by decide +kernel
theorem dX1_beginTour_28 : decode cX1_beginTour 28 = .ok (.istore 4, 2) := by decide +kernel
theorem dX1_beginTour_30 : decode cX1_beginTour 30 = .ok (.aload_n 3, 1) := by decide +kernel
theorem dX1_beginTour_31 : decode cX1_beginTour 31 = .ok (.iload 4, 2) := by decide +kernel
theorem dX1_beginTour_33 : decode cX1_beginTour 33 = .ok (.invokevirtual 133, 3) := by decide +kernel
theorem dX1_beginTour_36 : decode cX1_beginTour 36 = .ok (.iconst 1, 1) := by decide +kernel
theorem dX1_beginTour_37 : decode cX1_beginTour 37 = .ok (.istore 5, 2) := by decide +kernel
theorem dX1_beginTour_39 : decode cX1_beginTour 39 = .ok (.iload 5, 2) := by decide +kernel
theorem dX1_beginTour_41 : decode cX1_beginTour 41 = .ok (.bipush 12, 2) := by decide +kernel
theorem dX1_beginTour_43 : decode cX1_beginTour 43 = .ok (.if_icmp .ge 39, 3) := by decide +kernel
theorem dX1_beginTour_46 : decode cX1_beginTour 46 = .ok (.iload 4, 2) := by decide +kernel
theorem dX1_beginTour_48 : decode cX1_beginTour 48 = .ok (.iload_n 2, 1) := by decide +kernel
theorem dX1_beginTour_49 : decode cX1_beginTour 49 = .ok (.if_icmp .eq 33, 3) := by decide +kernel
theorem dX1_beginTour_52 : decode cX1_beginTour 52 = .ok (.aload_n 0, 1) := by decide +kernel
theorem dX1_beginTour_53 : decode cX1_beginTour 53 = .ok (.getfield 21, 3) := by decide +kernel
theorem dX1_beginTour_56 : decode cX1_beginTour 56 = .ok (.aload_n 0, 1) := by decide +kernel
theorem dX1_beginTour_57 : decode cX1_beginTour 57 = .ok (.getfield 12, 3) := by decide +kernel
theorem dX1_beginTour_60 : decode cX1_beginTour 60 = .ok (.getfield 67, 3) := by decide +kernel
theorem dX1_beginTour_63 : decode cX1_beginTour 63 = .ok (.iload 4, 2) := by decide +kernel
theorem dX1_beginTour_65 : decode cX1_beginTour 65 = .ok (.invokevirtual 136, 3) := by decide +kernel
theorem dX1_beginTour_68 : decode cX1_beginTour 68 = .ok (.istore 4, 2) := by decide +kernel
theorem dX1_beginTour_70 : decode cX1_beginTour 70 = .ok (.aload_n 3, 1) := by decide +kernel
theorem dX1_beginTour_71 : decode cX1_beginTour 71 = .ok (.iload 4, 2) := by decide +kernel
theorem dX1_beginTour_73 : decode cX1_beginTour 73 = .ok (.invokevirtual 133, 3) := by decide +kernel
theorem dX1_beginTour_76 : decode cX1_beginTour 76 = .ok (.iinc 5 1, 3) := by decide +kernel
theorem dX1_beginTour_79 : decode cX1_beginTour 79 = .ok (.goto (-40), 3) := by decide +kernel
theorem dX1_beginTour_82 : decode cX1_beginTour 82 = .ok (.aload_n 3, 1) := by decide +kernel
theorem dX1_beginTour_83 : decode cX1_beginTour 83 = .ok (.iconst 1, 1) := by decide +kernel
theorem dX1_beginTour_84 : decode cX1_beginTour 84 = .ok (.putfield 140, 3) := by decide +kernel
theorem dX1_beginTour_87 : decode cX1_beginTour 87 = .ok (.aload_n 3, 1) := by decide +kernel
theorem dX1_beginTour_88 : decode cX1_beginTour 88 = .ok (.aload_n 0, 1) := by decide +kernel
theorem dX1_beginTour_89 : decode cX1_beginTour 89 = .ok (.getfield 12, 3) := by decide +kernel
theorem dX1_beginTour_92 : decode cX1_beginTour 92 = .ok (.getfield 67, 3) := by decide +kernel
theorem dX1_beginTour_95 : decode cX1_beginTour 95 = .ok (.iload_n 1, 1) := by decide +kernel
theorem dX1_beginTour_96 : decode cX1_beginTour 96 = .ok (.invokevirtual 143, 3) := by decide +kernel
theorem dX1_beginTour_99 : decode cX1_beginTour 99 = .ok (.putfield 146, 3) := by decide +kernel
theorem dX1_beginTour_102 : decode cX1_beginTour 102 = .ok (.aload_n 3, 1) := by decide +kernel
theorem dX1_beginTour_103 : decode cX1_beginTour 103 = .ok (.aload_n 0, 1) := by decide +kernel
theorem dX1_beginTour_104 : decode cX1_beginTour 104 = .ok (.getfield 12, 3) := by decide +kernel
theorem dX1_beginTour_107 : decode cX1_beginTour 107 = .ok (.getfield 67, 3) := by decide +kernel
theorem dX1_beginTour_110 : decode cX1_beginTour 110 = .ok (.iload_n 1, 1) := by decide +kernel
theorem dX1_beginTour_111 : decode cX1_beginTour 111 = .ok (.invokevirtual 149, 3) := by decide +kernel
theorem dX1_beginTour_114 : decode cX1_beginTour 114 = .ok (.putfield 152, 3) := by decide +kernel
theorem dX1_beginTour_117 : decode cX1_beginTour 117 = .ok (.aload_n 3, 1) := by decide +kernel
theorem dX1_beginTour_118 : decode cX1_beginTour 118 = .ok (.getfield 155, 3) := by decide +kernel
theorem dX1_beginTour_121 : decode cX1_beginTour 121 = .ok (.ireturn, 1) := by decide +kernel
theorem dX1_endTour_0 : decode cX1_endTour 0 = .ok (.aload_n 0, 1) := by decide +kernel
theorem dX1_endTour_1 : decode cX1_endTour 1 = .ok (.getfield 12, 3) := by decide +kernel
theorem dX1_endTour_4 : decode cX1_endTour 4 = .ok (.getfield 53, 3) := by decide +kernel
theorem dX1_endTour_7 : decode cX1_endTour 7 = .ok (.getfield 155, 3) := by decide +kernel
theorem dX1_endTour_10 : decode cX1_endTour 10 = .ok (.aload_n 0, 1) := by decide +kernel
theorem dX1_endTour_11 : decode cX1_endTour 11 = .ok (.getfield 12, 3) := by decide +kernel
theorem dX1_endTour_14 : decode cX1_endTour 14 = .ok (.getfield 53, 3) := by decide +kernel
theorem dX1_endTour_17 : decode cX1_endTour 17 = .ok (.getfield 140, 3) := by decide +kernel
theorem dX1_endTour_20 : decode cX1_endTour 20 = .ok (.isub, 1) := by decide +kernel
theorem dX1_endTour_21 : decode cX1_endTour 21 = .ok (.istore_n 1, 1) := by decide +kernel
theorem dX1_endTour_22 : decode cX1_endTour 22 = .ok (.aload_n 0, 1) := by decide +kernel
theorem dX1_endTour_23 : decode cX1_endTour 23 = .ok (.getfield 12, 3) := by decide +kernel
theorem dX1_endTour_26 : decode cX1_endTour 26 = .ok (.getfield 53, 3) := by decide +kernel
theorem dX1_endTour_29 : decode cX1_endTour 29 = .ok (.invokevirtual 130, 3) := by decide +kernel
theorem dX1_endTour_32 : decode cX1_endTour 32 = .ok (.iload_n 1, 1) := by decide +kernel
theorem dX1_endTour_33 : decode cX1_endTour 33 = .ok (.ireturn, 1) := by decide +kernel
theorem dX1_moveHiker_0 : decode cX1_moveHiker 0 = .ok (.aload_n 0, 1) := by decide +kernel
theorem dX1_moveHiker_1 : decode cX1_moveHiker 1 = .ok (.getfield 12, 3) := by decide +kernel
theorem dX1_moveHiker_4 : decode cX1_moveHiker 4 = .ok (.getfield 53, 3) := by decide +kernel
theorem dX1_moveHiker_7 : decode cX1_moveHiker 7 = .ok (.astore_n 3, 1) := by decide +kernel
theorem dX1_moveHiker_8 : decode cX1_moveHiker 8 = .ok (.aload_n 0, 1) := by decide +kernel
theorem dX1_moveHiker_9 : decode cX1_moveHiker 9 = .ok (.getfield 12, 3) := by decide +kernel
theorem dX1_moveHiker_12 : decode cX1_moveHiker 12 = .ok (.getfield 92, 3) := by decide +kernel
theorem dX1_moveHiker_15 : decode cX1_moveHiker 15 = .ok (.astore 4, 2) := by decide +kernel
theorem dX1_moveHiker_17 : decode cX1_moveHiker 17 = .ok (.aload_n 3, 1) := by decide +kernel
theorem dX1_moveHiker_18 : decode cX1_moveHiker 18 = .ok (.iload_n 1, 1) := by decide +kernel
theorem dX1_moveHiker_19 : decode cX1_moveHiker 19 = .ok (.putfield 146, 3) := by decide +kernel
theorem dX1_moveHiker_22 : decode cX1_moveHiker 22 = .ok (.aload_n 3, 1) := by decide +kernel
theorem dX1_moveHiker_23 : decode cX1_moveHiker 23 = .ok (.iload_n 2, 1) := by decide +kernel
theorem dX1_moveHiker_24 : decode cX1_moveHiker 24 = .ok (.putfield 152, 3) := by decide +kernel
theorem dX1_moveHiker_27 : decode cX1_moveHiker 27 = .ok (.aload 4, 2) := by decide +kernel
theorem dX1_moveHiker_29 : decode cX1_moveHiker 29 = .ok (.dup, 1) := by decide +kernel
theorem dX1_moveHiker_30 : decode cX1_moveHiker 30 = .ok (.getfield 158, 3) := by decide +kernel
theorem dX1_moveHiker_33 : decode cX1_moveHiker 33 = .ok (.iconst 1, 1) := by decide +kernel
theorem dX1_moveHiker_34 : decode cX1_moveHiker 34 = .ok (.iadd, 1) := by decide +kernel
theorem dX1_moveHiker_35 : decode cX1_moveHiker 35 = .ok (.putfield 158, 3) := by decide +kernel
theorem dX1_moveHiker_38 : decode cX1_moveHiker 38 = .ok (.aload 4, 2) := by decide +kernel
theorem dX1_moveHiker_40 : decode cX1_moveHiker 40 = .ok (.aload 4, 2) := by decide +kernel
theorem dX1_moveHiker_42 : decode cX1_moveHiker 42 = .ok (.invokevirtual 161, 3) := by decide +kernel
theorem dX1_moveHiker_45 : decode cX1_moveHiker 45 = .ok (.invokevirtual 164, 3) := by decide +kernel
theorem dX1_moveHiker_48 : decode cX1_moveHiker 48 = .ok (.aload_n 0, 1) := by decide +kernel
theorem dX1_moveHiker_49 : decode cX1_moveHiker 49 = .ok (.iload_n 1, 1) := by decide +kernel
theorem dX1_moveHiker_50 : decode cX1_moveHiker 50 = .ok (.iload_n 2, 1) := by decide +kernel
theorem dX1_moveHiker_51 : decode cX1_moveHiker 51 = .ok (.invokevirtual 167, 3) := by decide +kernel
theorem dX1_moveHiker_54 : decode cX1_moveHiker 54 = .ok (.istore 5, 2) := by decide +kernel
theorem dX1_moveHiker_56 : decode cX1_moveHiker 56 = .ok (.iload 5, 2) := by decide +kernel
theorem dX1_moveHiker_58 : decode cX1_moveHiker 58 = .ok (.ifCond .eq 24, 3) := by decide +kernel
theorem dX1_moveHiker_61 : decode cX1_moveHiker 61 = .ok (.aload 4, 2) := by decide +kernel
theorem dX1_moveHiker_63 : decode cX1_moveHiker 63 = .ok (.dup, 1) := by decide +kernel
theorem dX1_moveHiker_64 : decode cX1_moveHiker 64 = .ok (.getfield 170, 3) := by decide +kernel
theorem dX1_moveHiker_67 : decode cX1_moveHiker 67 = .ok (.iconst 1, 1) := by decide +kernel
theorem dX1_moveHiker_68 : decode cX1_moveHiker 68 = .ok (.iadd, 1) := by decide +kernel
theorem dX1_moveHiker_69 : decode cX1_moveHiker 69 = .ok (.putfield 170, 3) := by decide +kernel
theorem dX1_moveHiker_72 : decode cX1_moveHiker 72 = .ok (.aload 4, 2) := by decide +kernel
theorem dX1_moveHiker_74 : decode cX1_moveHiker 74 = .ok (.iconst 3, 1) := by decide +kernel
theorem dX1_moveHiker_75 : decode cX1_moveHiker 75 = .ok (.invokevirtual 164, 3) := by decide +kernel
theorem dX1_moveHiker_78 : decode cX1_moveHiker 78 = .ok (.aload_n 3, 1) := by decide +kernel
theorem dX1_moveHiker_79 : decode cX1_moveHiker 79 = .ok (.invokevirtual 173, 3) := by decide +kernel
theorem dX1_moveHiker_82 : decode cX1_moveHiker 82 = .ok (.aload_n 3, 1) := by decide +kernel
theorem dX1_moveHiker_83 : decode cX1_moveHiker 83 = .ok (.invokevirtual 57, 3) := by decide +kernel
theorem dX1_moveHiker_86 : decode cX1_moveHiker 86 = .ok (.ifCond .eq 25, 3) := by decide +kernel
theorem dX1_moveHiker_89 : decode cX1_moveHiker 89 = .ok (.aload_n 0, 1) := by decide +kernel
theorem dX1_moveHiker_90 : decode cX1_moveHiker 90 = .ok (.iload_n 1, 1) := by decide +kernel
theorem dX1_moveHiker_91 : decode cX1_moveHiker 91 = .ok (.iload_n 2, 1) := by decide +kernel
theorem dX1_moveHiker_92 : decode cX1_moveHiker 92 = .ok (.invokevirtual 176, 3) := by decide +kernel
theorem dX1_moveHiker_95 : decode cX1_moveHiker 95 = .ok (.aload_n 0, 1) := by decide +kernel
theorem dX1_moveHiker_96 : decode cX1_moveHiker 96 = .ok (.aload_n 0, 1) := by decide +kernel
theorem dX1_moveHiker_97 : decode cX1_moveHiker 97 = .ok (.getfield 28, 3) := by decide +kernel
theorem dX1_moveHiker_100 : decode cX1_moveHiker 100 = .ok (.aload 4, 2) := by decide +kernel
theorem dX1_moveHiker_102 : decode cX1_moveHiker 102 = .ok (.getfield 180, 3) := by decide +kernel
theorem dX1_moveHiker_105 : decode cX1_moveHiker 105 = .ok (.invokevirtual 183, 3) := by decide +kernel
theorem dX1_moveHiker_108 : decode cX1_moveHiker 108 = .ok (.invokevirtual 186, 3) := by decide +kernel
theorem dX1_moveHiker_111 : decode cX1_moveHiker 111 = .ok (.iload 5, 2) := by decide +kernel
theorem dX1_moveHiker_113 : decode cX1_moveHiker 113 = .ok (.ireturn, 1) := by decide +kernel
theorem dX1_setAlarm_0 : decode cX1_setAlarm 0 = .ok (.iload_n 1, 1) := by decide +kernel
theorem dX1_setAlarm_1 : decode cX1_setAlarm 1 = .ok (.ifCond .eq 43, 3) := by decide +kernel
theorem dX1_setAlarm_4 : decode cX1_setAlarm 4 = .ok (.aload_n 0, 1) := by decide +kernel
theorem dX1_setAlarm_5 : decode cX1_setAlarm 5 = .ok (.getfield 12, 3) := by decide +kernel
theorem dX1_setAlarm_8 : decode cX1_setAlarm 8 = .ok (.getfield 53, 3) := by decide +kernel
theorem dX1_setAlarm_11 : decode cX1_setAlarm 11 = .ok (.getfield 190, 3) := by decide +kernel
theorem dX1_setAlarm_14 : decode cX1_setAlarm 14 = .ok (.ifCond .ne 30, 3) := by decide +kernel
theorem dX1_setAlarm_17 : decode cX1_setAlarm 17 = .ok (.aload_n 0, 1) := by decide +kernel
theorem dX1_setAlarm_18 : decode cX1_setAlarm 18 = .ok (.getfield 12, 3) := by decide +kernel
theorem dX1_setAlarm_21 : decode cX1_setAlarm 21 = .ok (.getfield 92, 3) := by decide +kernel
theorem dX1_setAlarm_24 : decode cX1_setAlarm 24 = .ok (.dup, 1) := by decide +kernel
theorem dX1_setAlarm_25 : decode cX1_setAlarm 25 = .ok (.getfield 194, 3) := by decide +kernel
theorem dX1_setAlarm_28 : decode cX1_setAlarm 28 = .ok (.iconst 1, 1) := by decide +kernel
theorem dX1_setAlarm_29 : decode cX1_setAlarm 29 = .ok (.iadd, 1) := by decide +kernel
theorem dX1_setAlarm_30 : decode cX1_setAlarm 30 = .ok (.putfield 194, 3) := by decide +kernel
theorem dX1_setAlarm_33 : decode cX1_setAlarm 33 = .ok (.aload_n 0, 1) := by decide +kernel
theorem dX1_setAlarm_34 : decode cX1_setAlarm 34 = .ok (.getfield 12, 3) := by decide +kernel
theorem dX1_setAlarm_37 : decode cX1_setAlarm 37 = .ok (.getfield 92, 3) := by decide +kernel
theorem dX1_setAlarm_40 : decode cX1_setAlarm 40 = .ok (.iconst 5, 1) := by decide +kernel
theorem dX1_setAlarm_41 : decode cX1_setAlarm 41 = .ok (.invokevirtual 164, 3) := by decide +kernel
theorem dX1_setAlarm_44 : decode cX1_setAlarm 44 = .ok (.aload_n 0, 1) := by decide +kernel
theorem dX1_setAlarm_45 : decode cX1_setAlarm 45 = .ok (.getfield 12, 3) := by decide +kernel
theorem dX1_setAlarm_48 : decode cX1_setAlarm 48 = .ok (.getfield 53, 3) := by decide +kernel
theorem dX1_setAlarm_51 : decode cX1_setAlarm 51 = .ok (.iload_n 1, 1) := by decide +kernel
theorem dX1_setAlarm_52 : decode cX1_setAlarm 52 = .ok (.putfield 190, 3) := by decide +kernel
theorem dX1_setAlarm_55 : decode cX1_setAlarm 55 = .ok (.return_, 1) := by decide +kernel
theorem dX1_reachesTarget_0 : decode cX1_reachesTarget 0 = .ok (.aload_n 0, 1) := by decide +kernel
theorem dX1_reachesTarget_1 : decode cX1_reachesTarget 1 = .ok (.getfield 12, 3) := by decide +kernel
theorem dX1_reachesTarget_4 : decode cX1_reachesTarget 4 = .ok (.getfield 53, 3) := by decide +kernel
theorem dX1_reachesTarget_7 : decode cX1_reachesTarget 7 = .ok (.invokevirtual 197, 3) := by decide +kernel
theorem dX1_reachesTarget_10 : decode cX1_reachesTarget 10 = .ok (.istore_n 3, 1) := by decide +kernel
theorem dX1_reachesTarget_11 : decode cX1_reachesTarget 11 = .ok (.aload_n 0, 1) := by decide +kernel
theorem dX1_reachesTarget_12 : decode cX1_reachesTarget 12 = .ok (.getfield 12, 3) := by decide +kernel
theorem dX1_reachesTarget_15 : decode cX1_reachesTarget 15 = .ok (.getfield 67, 3) := by decide +kernel
theorem dX1_reachesTarget_18 : decode cX1_reachesTarget 18 = .ok (.iload_n 3, 1) := by decide +kernel
theorem dX1_reachesTarget_19 : decode cX1_reachesTarget 19 = .ok (.invokevirtual 200, 3) := by decide +kernel
theorem dX1_reachesTarget_22 : decode cX1_reachesTarget 22 = .ok (.istore 4, 2) := by decide +kernel
theorem dX1_reachesTarget_24 : decode cX1_reachesTarget 24 = .ok (.aload_n 0, 1) := by decide +kernel
theorem dX1_reachesTarget_25 : decode cX1_reachesTarget 25 = .ok (.getfield 12, 3) := by decide +kernel
theorem dX1_reachesTarget_28 : decode cX1_reachesTarget 28 = .ok (.getfield 67, 3) := by decide +kernel
theorem dX1_reachesTarget_31 : decode cX1_reachesTarget 31 = .ok (.iload_n 3, 1) := by decide +kernel
theorem dX1_reachesTarget_32 : decode cX1_reachesTarget 32 = .ok (.iload_n 1, 1) := by decide +kernel
theorem dX1_reachesTarget_33 : decode cX1_reachesTarget 33 = .ok (.iload_n 2, 1) := by decide +kernel
theorem dX1_reachesTarget_34 : decode cX1_reachesTarget 34 = .ok (.invokevirtual 203, 3) := by decide +kernel
theorem dX1_reachesTarget_37 : decode cX1_reachesTarget 37 = .ok (.iload 4, 2) := by decide +kernel
theorem dX1_reachesTarget_39 : decode cX1_reachesTarget 39 = .ok (.iload 4, 2) := by decide +kernel
theorem dX1_reachesTarget_41 : decode cX1_reachesTarget 41 = .ok (.imul, 1) := by decide +kernel
theorem dX1_reachesTarget_42 : decode cX1_reachesTarget 42 = .ok (.if_icmp .gt 7, 3) := by decide +kernel
theorem dX1_reachesTarget_45 : decode cX1_reachesTarget 45 = .ok (.iconst 1, 1) := by decide +kernel
theorem dX1_reachesTarget_46 : decode cX1_reachesTarget 46 = .ok (.goto 4, 3) := by decide +kernel
theorem dX1_reachesTarget_49 : decode cX1_reachesTarget 49 = .ok (.iconst 0, 1) := by decide +kernel
theorem dX1_reachesTarget_50 : decode cX1_reachesTarget 50 = .ok (.ireturn, 1) := by decide +kernel
theorem dX1_measureDrift_0 : decode cX1_measureDrift 0 = .ok (.aload_n 0, 1) := by decide +kernel
theorem dX1_measureDrift_1 : decode cX1_measureDrift 1 = .ok (.getfield 12, 3) := by decide +kernel
theorem dX1_measureDrift_4 : decode cX1_measureDrift 4 = .ok (.getfield 67, 3) := by decide +kernel
theorem dX1_measureDrift_7 : decode cX1_measureDrift 7 = .ok (.astore_n 3, 1) := by decide +kernel
theorem dX1_measureDrift_8 : decode cX1_measureDrift 8 = .ok (.aload_n 0, 1) := by decide +kernel
theorem dX1_measureDrift_9 : decode cX1_measureDrift 9 = .ok (.getfield 12, 3) := by decide +kernel
theorem dX1_measureDrift_12 : decode cX1_measureDrift 12 = .ok (.getfield 53, 3) := by decide +kernel
theorem dX1_measureDrift_15 : decode cX1_measureDrift 15 = .ok (.aload_n 0, 1) := by decide +kernel
theorem dX1_measureDrift_16 : decode cX1_measureDrift 16 = .ok (.getfield 12, 3) := by decide +kernel
theorem dX1_measureDrift_19 : decode cX1_measureDrift 19 = .ok (.getfield 53, 3) := by decide +kernel
theorem dX1_measureDrift_22 : decode cX1_measureDrift 22 = .ok (.getfield 140, 3) := by decide +kernel
theorem dX1_measureDrift_25 : decode cX1_measureDrift 25 = .ok (.iconst 1, 1) := by decide +kernel
theorem dX1_measureDrift_26 : decode cX1_measureDrift 26 = .ok (.isub, 1) := by decide +kernel
theorem dX1_measureDrift_27 : decode cX1_measureDrift 27 = .ok (.invokevirtual 206, 3) := by decide +kernel
theorem dX1_measureDrift_30 : decode cX1_measureDrift 30 = .ok (.istore 4, 2) := by decide +kernel
theorem dX1_measureDrift_32 : decode cX1_measureDrift 32 = .ok (.aload_n 0, 1) := by decide +kernel
theorem dX1_measureDrift_33 : decode cX1_measureDrift 33 = .ok (.getfield 12, 3) := by decide +kernel
theorem dX1_measureDrift_36 : decode cX1_measureDrift 36 = .ok (.getfield 53, 3) := by decide +kernel
theorem dX1_measureDrift_39 : decode cX1_measureDrift 39 = .ok (.aload_n 0, 1) := by decide +kernel
theorem dX1_measureDrift_40 : decode cX1_measureDrift 40 = .ok (.getfield 12, 3) := by decide +kernel
theorem dX1_measureDrift_43 : decode cX1_measureDrift 43 = .ok (.getfield 53, 3) := by decide +kernel
theorem dX1_measureDrift_46 : decode cX1_measureDrift 46 = .ok (.getfield 140, 3) := by decide +kernel
theorem dX1_measureDrift_49 : decode cX1_measureDrift 49 = .ok (.invokevirtual 206, 3) := by decide +kernel
theorem dX1_measureDrift_52 : decode cX1_measureDrift 52 = .ok (.istore 5, 2) := by decide +kernel
theorem dX1_measureDrift_54 : decode cX1_measureDrift 54 = .ok (.aload_n 3, 1) := by decide +kernel
theorem dX1_measureDrift_55 : decode cX1_measureDrift 55 = .ok (.iload 4, 2) := by decide +kernel
theorem dX1_measureDrift_57 : decode cX1_measureDrift 57 = .ok (.invokevirtual 143, 3) := by decide +kernel
theorem dX1_measureDrift_60 : decode cX1_measureDrift 60 = .ok (.istore 6, 2) := by decide +kernel
theorem dX1_measureDrift_62 : decode cX1_measureDrift 62 = .ok (.aload_n 3, 1) := by decide +kernel
theorem dX1_measureDrift_63 : decode cX1_measureDrift 63 = .ok (.iload 4, 2) := by decide +kernel
theorem dX1_measureDrift_65 : decode cX1_measureDrift 65 = .ok (.invokevirtual 149, 3) := by decide +kernel
theorem dX1_measureDrift_68 : decode cX1_measureDrift 68 = .ok (.istore 7, 2) := by decide +kernel
theorem dX1_measureDrift_70 : decode cX1_measureDrift 70 = .ok (.aload_n 0, 1) := by decide +kernel
theorem dX1_measureDrift_71 : decode cX1_measureDrift 71 = .ok (.getfield 28, 3) := by decide +kernel
theorem dX1_measureDrift_74 : decode cX1_measureDrift 74 = .ok (.iload_n 1, 1) := by decide +kernel
theorem dX1_measureDrift_75 : decode cX1_measureDrift 75 = .ok (.iload 6, 2) := by decide +kernel
theorem dX1_measureDrift_77 : decode cX1_measureDrift 77 = .ok (.isub, 1) := by decide +kernel
theorem dX1_measureDrift_78 : decode cX1_measureDrift 78 = .ok (.iload_n 2, 1) := by decide +kernel
theorem dX1_measureDrift_79 : decode cX1_measureDrift 79 = .ok (.iload 7, 2) := by decide +kernel
theorem dX1_measureDrift_81 : decode cX1_measureDrift 81 = .ok (.isub, 1) := by decide +kernel
theorem dX1_measureDrift_82 : decode cX1_measureDrift 82 = .ok (.aload_n 3, 1) := by decide +kernel
theorem dX1_measureDrift_83 : decode cX1_measureDrift 83 = .ok (.iload 5, 2) := by decide +kernel
theorem dX1_measureDrift_85 : decode cX1_measureDrift 85 = .ok (.invokevirtual 143, 3) := by decide +kernel
theorem dX1_measureDrift_88 : decode cX1_measureDrift 88 = .ok (.iload 6, 2) := by decide +kernel
theorem dX1_measureDrift_90 : decode cX1_measureDrift 90 = .ok (.isub, 1) := by decide +kernel
theorem dX1_measureDrift_91 : decode cX1_measureDrift 91 = .ok (.aload_n 3, 1) := by decide +kernel
theorem dX1_measureDrift_92 : decode cX1_measureDrift 92 = .ok (.iload 5, 2) := by decide +kernel
theorem dX1_measureDrift_94 : decode cX1_measureDrift 94 = .ok (.invokevirtual 149, 3) := by decide +kernel
theorem dX1_measureDrift_97 : decode cX1_measureDrift 97 = .ok (.iload 7, 2) := by decide +kernel
theorem dX1_measureDrift_99 : decode cX1_measureDrift 99 = .ok (.isub, 1) := by decide +kernel
theorem dX1_measureDrift_100 : decode cX1_measureDrift 100 = .ok (.invokevirtual 209, 3) := by decide +kernel
theorem dX1_measureDrift_103 : decode cX1_measureDrift 103 = .ok (.return_, 1) := by decide +kernel
theorem dX1_turnAt_0 : decode cX1_turnAt 0 = .ok (.aload_n 0, 1) := by decide +kernel
theorem dX1_turnAt_1 : decode cX1_turnAt 1 = .ok (.getfield 12, 3) := by decide +kernel
theorem dX1_turnAt_4 : decode cX1_turnAt 4 = .ok (.getfield 53, 3) := by decide +kernel
theorem dX1_turnAt_7 : decode cX1_turnAt 7 = .ok (.iload_n 1, 1) := by decide +kernel
theorem dX1_turnAt_8 : decode cX1_turnAt 8 = .ok (.iconst 1, 1) := by decide +kernel
theorem dX1_turnAt_9 : decode cX1_turnAt 9 = .ok (.isub, 1) := by decide +kernel
theorem dX1_turnAt_10 : decode cX1_turnAt 10 = .ok (.invokevirtual 206, 3) := by decide +kernel
theorem dX1_turnAt_13 : decode cX1_turnAt 13 = .ok (.istore_n 2, 1) := by decide +kernel
theorem dX1_turnAt_14 : decode cX1_turnAt 14 = .ok (.aload_n 0, 1) := by decide +kernel
theorem dX1_turnAt_15 : decode cX1_turnAt 15 = .ok (.getfield 12, 3) := by decide +kernel
theorem dX1_turnAt_18 : decode cX1_turnAt 18 = .ok (.getfield 53, 3) := by decide +kernel
theorem dX1_turnAt_21 : decode cX1_turnAt 21 = .ok (.iload_n 1, 1) := by decide +kernel
theorem dX1_turnAt_22 : decode cX1_turnAt 22 = .ok (.invokevirtual 206, 3) := by decide +kernel
theorem dX1_turnAt_25 : decode cX1_turnAt 25 = .ok (.istore_n 3, 1) := by decide +kernel
theorem dX1_turnAt_26 : decode cX1_turnAt 26 = .ok (.aload_n 0, 1) := by decide +kernel
theorem dX1_turnAt_27 : decode cX1_turnAt 27 = .ok (.getfield 12, 3) := by decide +kernel
theorem dX1_turnAt_30 : decode cX1_turnAt 30 = .ok (.getfield 53, 3) := by decide +kernel
theorem dX1_turnAt_33 : decode cX1_turnAt 33 = .ok (.iload_n 1, 1) := by decide +kernel
theorem dX1_turnAt_34 : decode cX1_turnAt 34 = .ok (.iconst 1, 1) := by decide +kernel
theorem dX1_turnAt_35 : decode cX1_turnAt 35 = .ok (.iadd, 1) := by decide +kernel
theorem dX1_turnAt_36 : decode cX1_turnAt 36 = .ok (.invokevirtual 206, 3) := by decide +kernel
theorem dX1_turnAt_39 : decode cX1_turnAt 39 = .ok (.istore 4, 2) := by decide +kernel
theorem dX1_turnAt_41 : decode cX1_turnAt 41 = .ok (.aload_n 0, 1) := by decide +kernel
theorem dX1_turnAt_42 : decode cX1_turnAt 42 = .ok (.getfield 12, 3) := by decide +kernel
theorem dX1_turnAt_45 : decode cX1_turnAt 45 = .ok (.getfield 67, 3) := by decide +kernel
theorem dX1_turnAt_48 : decode cX1_turnAt 48 = .ok (.iload_n 3, 1) := by decide +kernel
theorem dX1_turnAt_49 : decode cX1_turnAt 49 = .ok (.invokevirtual 143, 3) := by decide +kernel
theorem dX1_turnAt_52 : decode cX1_turnAt 52 = .ok (.aload_n 0, 1) := by decide +kernel
theorem dX1_turnAt_53 : decode cX1_turnAt 53 = .ok (.getfield 12, 3) := by decide +kernel
theorem dX1_turnAt_56 : decode cX1_turnAt 56 = .ok (.getfield 67, 3) := by decide +kernel
theorem dX1_turnAt_59 : decode cX1_turnAt 59 = .ok (.iload_n 2, 1) := by decide +kernel
theorem dX1_turnAt_60 : decode cX1_turnAt 60 = .ok (.invokevirtual 143, 3) := by decide +kernel
theorem dX1_turnAt_63 : decode cX1_turnAt 63 = .ok (.isub, 1) := by decide +kernel
theorem dX1_turnAt_64 : decode cX1_turnAt 64 = .ok (.istore 5, 2) := by decide +kernel
theorem dX1_turnAt_66 : decode cX1_turnAt 66 = .ok (.aload_n 0, 1) := by decide +kernel
theorem dX1_turnAt_67 : decode cX1_turnAt 67 = .ok (.getfield 12, 3) := by decide +kernel
theorem dX1_turnAt_70 : decode cX1_turnAt 70 = .ok (.getfield 67, 3) := by decide +kernel
theorem dX1_turnAt_73 : decode cX1_turnAt 73 = .ok (.iload_n 3, 1) := by decide +kernel
theorem dX1_turnAt_74 : decode cX1_turnAt 74 = .ok (.invokevirtual 149, 3) := by decide +kernel
theorem dX1_turnAt_77 : decode cX1_turnAt 77 = .ok (.aload_n 0, 1) := by decide +kernel
theorem dX1_turnAt_78 : decode cX1_turnAt 78 = .ok (.getfield 12, 3) := by decide +kernel
theorem dX1_turnAt_81 : decode cX1_turnAt 81 = .ok (.getfield 67, 3) := by decide +kernel
theorem dX1_turnAt_84 : decode cX1_turnAt 84 = .ok (.iload_n 2, 1) := by decide +kernel
theorem dX1_turnAt_85 : decode cX1_turnAt 85 = .ok (.invokevirtual 149, 3) := by decide +kernel
theorem dX1_turnAt_88 : decode cX1_turnAt 88 = .ok (.isub, 1) := by decide +kernel
theorem dX1_turnAt_89 : decode cX1_turnAt 89 = .ok (.istore 6, 2) := by decide +kernel
theorem dX1_turnAt_91 : decode cX1_turnAt 91 = .ok (.aload_n 0, 1) := by decide +kernel
theorem dX1_turnAt_92 : decode cX1_turnAt 92 = .ok (.getfield 12, 3) := by decide +kernel
theorem dX1_turnAt_95 : decode cX1_turnAt 95 = .ok (.getfield 67, 3) := by decide +kernel
theorem dX1_turnAt_98 : decode cX1_turnAt 98 = .ok (.iload 4, 2) := by decide +kernel
theorem dX1_turnAt_100 : decode cX1_turnAt 100 = .ok (.invokevirtual 143, 3) := by decide +kernel
theorem dX1_turnAt_103 : decode cX1_turnAt 103 = .ok (.aload_n 0, 1) := by decide +kernel
theorem dX1_turnAt_104 : decode cX1_turnAt 104 = .ok (.getfield 12, 3) := by decide +kernel
theorem dX1_turnAt_107 : decode cX1_turnAt 107 = .ok (.getfield 67, 3) := by decide +kernel
theorem dX1_turnAt_110 : decode cX1_turnAt 110 = .ok (.iload_n 3, 1) := by decide +kernel
theorem dX1_turnAt_111 : decode cX1_turnAt 111 = .ok (.invokevirtual 143, 3) := by decide +kernel
theorem dX1_turnAt_114 : decode cX1_turnAt 114 = .ok (.isub, 1) := by decide +kernel
theorem dX1_turnAt_115 : decode cX1_turnAt 115 = .ok (.istore 7, 2) := by decide +kernel
theorem dX1_turnAt_117 : decode cX1_turnAt 117 = .ok (.aload_n 0, 1) := by decide +kernel
theorem dX1_turnAt_118 : decode cX1_turnAt 118 = .ok (.getfield 12, 3) := by decide +kernel
theorem dX1_turnAt_121 : decode cX1_turnAt 121 = .ok (.getfield 67, 3) := by decide +kernel
theorem dX1_turnAt_124 : decode cX1_turnAt 124 = .ok (.iload 4, 2) := by decide +kernel
theorem dX1_turnAt_126 : decode cX1_turnAt 126 = .ok (.invokevirtual 149, 3) := by decide +kernel
theorem dX1_turnAt_129 : decode cX1_turnAt 129 = .ok (.aload_n 0, 1) := by decide +kernel
theorem dX1_turnAt_130 : decode cX1_turnAt 130 = .ok (.getfield 12, 3) := by decide +kernel
theorem dX1_turnAt_133 : decode cX1_turnAt 133 = .ok (.getfield 67, 3) := by decide +kernel
theorem dX1_turnAt_136 : decode cX1_turnAt 136 = .ok (.iload_n 3, 1) := by decide +kernel
theorem dX1_turnAt_137 : decode cX1_turnAt 137 = .ok (.invokevirtual 149, 3) := by decide +kernel
theorem dX1_turnAt_140 : decode cX1_turnAt 140 = .ok (.isub, 1) := by decide +kernel
theorem dX1_turnAt_141 : decode cX1_turnAt 141 = .ok (.istore 8, 2) := by decide +kernel
theorem dX1_turnAt_143 : decode cX1_turnAt 143 = .ok (.iload 5, 2) := by decide +kernel
theorem dX1_turnAt_145 : decode cX1_turnAt 145 = .ok (.iload 8, 2) := by decide +kernel
theorem dX1_turnAt_147 : decode cX1_turnAt 147 = .ok (.imul, 1) := by decide +kernel
theorem dX1_turnAt_148 : decode cX1_turnAt 148 = .ok (.iload 6, 2) := by decide +kernel
theorem dX1_turnAt_150 : decode cX1_turnAt 150 = .ok (.iload 7, 2) := by decide +kernel
theorem dX1_turnAt_152 : decode cX1_turnAt 152 = .ok (.imul, 1) := by decide +kernel
theorem dX1_turnAt_153 : decode cX1_turnAt 153 = .ok (.isub, 1) := by decide +kernel
theorem dX1_turnAt_154 : decode cX1_turnAt 154 = .ok (.istore 9, 2) := by decide +kernel
theorem dX1_turnAt_156 : decode cX1_turnAt 156 = .ok (.iload 9, 2) := by decide +kernel
theorem dX1_turnAt_158 : decode cX1_turnAt 158 = .ok (.ifCond .eq 16, 3) := by decide +kernel
theorem dX1_turnAt_161 : decode cX1_turnAt 161 = .ok (.iload 9, 2) := by decide +kernel
theorem dX1_turnAt_163 : decode cX1_turnAt 163 = .ok (.ifCond .le 8, 3) := by decide +kernel
theorem dX1_turnAt_166 : decode cX1_turnAt 166 = .ok (.bipush 108, 2) := by decide +kernel
theorem dX1_turnAt_168 : decode cX1_turnAt 168 = .ok (.goto 5, 3) := by decide +kernel
theorem dX1_turnAt_171 : decode cX1_turnAt 171 = .ok (.bipush 114, 2) := by decide +kernel
theorem dX1_turnAt_173 : decode cX1_turnAt 173 = .ok (.ireturn, 1) := by decide +kernel
theorem dX1_turnAt_174 : decode cX1_turnAt 174 = .ok (.iload 5, 2) := by decide +kernel
theorem dX1_turnAt_176 : decode cX1_turnAt 176 = .ok (.iload 7, 2) := by decide +kernel
theorem dX1_turnAt_178 : decode cX1_turnAt 178 = .ok (.imul, 1) := by decide +kernel
theorem dX1_turnAt_179 : decode cX1_turnAt 179 = .ok (.iload 6, 2) := by decide +kernel
theorem dX1_turnAt_181 : decode cX1_turnAt 181 = .ok (.iload 8, 2) := by decide +kernel
theorem dX1_turnAt_183 : decode cX1_turnAt 183 = .ok (.imul, 1) := by decide +kernel
theorem dX1_turnAt_184 : decode cX1_turnAt 184 = .ok (.iadd, 1) := by decide +kernel
theorem dX1_turnAt_185 : decode cX1_turnAt 185 = .ok (.ifCond .ge 8, 3) := by decide +kernel
theorem dX1_turnAt_188 : decode cX1_turnAt 188 = .ok (.bipush 98, 2) := by decide +kernel
theorem dX1_turnAt_190 : decode cX1_turnAt 190 = .ok (.goto 5, 3) := by decide +kernel
theorem dX1_turnAt_193 : decode cX1_turnAt 193 = .ok (.bipush 115, 2) := by decide +kernel
theorem dX1_turnAt_195 : decode cX1_turnAt 195 = .ok (.ireturn, 1) := by decide +kernel
theorem dX2_init_0 : decode cX2_init 0 = .ok (.aload_n 0, 1) := by decide +kernel
theorem dX2_init_1 : decode cX2_init 1 = .ok (.invokespecial 3, 3) := by decide +kernel
theorem dX2_init_4 : decode cX2_init 4 = .ok (.aload_n 0, 1) := by decide +kernel
theorem dX2_init_5 : decode cX2_init 5 = .ok (.bipush 8, 2) := by decide +kernel
theorem dX2_init_7 : decode cX2_init 7 = .ok (.anewarray 9, 3) := by decide +kernel
theorem dX2_init_10 : decode cX2_init 10 = .ok (.putfield 11, 3) := by decide +kernel
theorem dX2_init_13 : decode cX2_init 13 = .ok (.iconst 0, 1) := by decide +kernel
theorem dX2_init_14 : decode cX2_init 14 = .ok (.istore_n 1, 1) := by decide +kernel
theorem dX2_init_15 : decode cX2_init 15 = .ok (.iload_n 1, 1) := by decide +kernel
theorem dX2_init_16 : decode cX2_init 16 = .ok (.bipush 8, 2) := by decide +kernel
theorem dX2_init_18 : decode cX2_init 18 = .ok (.if_icmp .ge 22, 3) := by decide +kernel
theorem dX2_init_21 : decode cX2_init 21 = .ok (.aload_n 0, 1) := by decide +kernel
theorem dX2_init_22 : decode cX2_init 22 = .ok (.getfield 11, 3) := by decide +kernel
theorem dX2_init_25 : decode cX2_init 25 = .ok (.iload_n 1, 1) := by decide +kernel
theorem dX2_init_26 : decode cX2_init 26 = .ok (.new 9, 3) := by decide +kernel
theorem dX2_init_29 : decode cX2_init 29 = .ok (.dup, 1) := by decide +kernel
theorem dX2_init_30 : decode cX2_init 30 = .ok (.invokespecial 17, 3) := by decide +kernel
theorem dX2_init_33 : decode cX2_init 33 = .ok (.aastore, 1) := by decide +kernel
theorem dX2_init_34 : decode cX2_init 34 = .ok (.iinc 1 1, 3) := by decide +kernel
theorem dX2_init_37 : decode cX2_init 37 = .ok (.goto (-22), 3) := by decide +kernel
theorem dX2_init_40 : decode cX2_init 40 = .ok (.return_, 1) := by decide +kernel
theorem dX2_slotAt_0 : decode cX2_slotAt 0 = .ok (.iload_n 1, 1) := by decide +kernel
theorem dX2_slotAt_1 : decode cX2_slotAt 1 = .ok (.iconst 0, 1) := by decide +kernel
theorem dX2_slotAt_2 : decode cX2_slotAt 2 = .ok (.bipush 7, 2) := by decide +kernel
theorem dX2_slotAt_4 : decode cX2_slotAt 4 = .ok (.invokestatic 18, 3) := by decide +kernel
theorem dX2_slotAt_7 : decode cX2_slotAt 7 = .ok (.ifCond .eq 12, 3) := by decide +kernel
theorem dX2_slotAt_10 : decode cX2_slotAt 10 = .ok (.aload_n 0, 1) := by decide +kernel
theorem dX2_slotAt_11 : decode cX2_slotAt 11 = .ok (.getfield 11, 3) := by decide +kernel
theorem dX2_slotAt_14 : decode cX2_slotAt 14 = .ok (.iload_n 1, 1) := by decide +kernel
theorem dX2_slotAt_15 : decode cX2_slotAt 15 = .ok (.aaload, 1) := by decide +kernel
theorem dX2_slotAt_16 : decode cX2_slotAt 16 = .ok (.goto 4, 3) := by decide +kernel
theorem dX2_slotAt_19 : decode cX2_slotAt 19 = .ok (.aconst_null, 1) := by decide +kernel
theorem dX2_slotAt_20 : decode cX2_slotAt 20 = .ok (.areturn, 1) := by decide +kernel
theorem dX2_keep_0 : decode cX2_keep 0 = .ok (.aload_n 0, 1) := by decide +kernel
theorem dX2_keep_1 : decode cX2_keep 1 = .ok (.aload_n 0, 1) := by decide +kernel
theorem dX2_keep_2 : decode cX2_keep 2 = .ok (.getfield 22, 3) := by decide +kernel
theorem dX2_keep_5 : decode cX2_keep 5 = .ok (.invokevirtual 26, 3) := by decide +kernel
theorem dX2_keep_8 : decode cX2_keep 8 = .ok (.astore_n 2, 1) := by decide +kernel
theorem dX2_keep_9 : decode cX2_keep 9 = .ok (.aload_n 2, 1) := by decide +kernel
theorem dX2_keep_10 : decode cX2_keep 10 = .ok (.ifnull 8, 3) := by decide +kernel
theorem dX2_keep_13 : decode cX2_keep 13 = .ok (.aload_n 2, 1) := by decide +kernel
theorem dX2_keep_14 : decode cX2_keep 14 = .ok (.aload_n 1, 1) := by decide +kernel
theorem dX2_keep_15 : decode cX2_keep 15 = .ok (.invokevirtual 30, 3) := by decide +kernel
theorem dX2_keep_18 : decode cX2_keep 18 = .ok (.aload_n 0, 1) := by decide +kernel
theorem dX2_keep_19 : decode cX2_keep 19 = .ok (.aload_n 0, 1) := by decide +kernel
theorem dX2_keep_20 : decode cX2_keep 20 = .ok (.getfield 22, 3) := by decide +kernel
theorem dX2_keep_23 : decode cX2_keep 23 = .ok (.iconst 1, 1) := by decide +kernel
theorem dX2_keep_24 : decode cX2_keep 24 = .ok (.iadd, 1) := by decide +kernel
theorem dX2_keep_25 : decode cX2_keep 25 = .ok (.bipush 8, 2) := by decide +kernel
theorem dX2_keep_27 : decode cX2_keep 27 = .ok (.if_icmp .ge 12, 3) := by decide +kernel
theorem dX2_keep_30 : decode cX2_keep 30 = .ok (.aload_n 0, 1) := by decide +kernel
theorem dX2_keep_31 : decode cX2_keep 31 = .ok (.getfield 22, 3) := by decide +kernel
theorem dX2_keep_34 : decode cX2_keep 34 = .ok (.iconst 1, 1) := by decide +kernel
theorem dX2_keep_35 : decode cX2_keep 35 = .ok (.iadd, 1) := by decide +kernel
theorem dX2_keep_36 : decode cX2_keep 36 = .ok (.goto 4, 3) := by decide +kernel
theorem dX2_keep_39 : decode cX2_keep 39 = .ok (.iconst 0, 1) := by decide +kernel
theorem dX2_keep_40 : decode cX2_keep 40 = .ok (.putfield 22, 3) := by decide +kernel
theorem dX2_keep_43 : decode cX2_keep 43 = .ok (.aload_n 0, 1) := by decide +kernel
theorem dX2_keep_44 : decode cX2_keep 44 = .ok (.aload_n 0, 1) := by decide +kernel
theorem dX2_keep_45 : decode cX2_keep 45 = .ok (.getfield 34, 3) := by decide +kernel
theorem dX2_keep_48 : decode cX2_keep 48 = .ok (.bipush 8, 2) := by decide +kernel
theorem dX2_keep_50 : decode cX2_keep 50 = .ok (.if_icmp .ge 12, 3) := by decide +kernel
theorem dX2_keep_53 : decode cX2_keep 53 = .ok (.aload_n 0, 1) := by decide +kernel
theorem dX2_keep_54 : decode cX2_keep 54 = .ok (.getfield 34, 3) := by decide +kernel
theorem dX2_keep_57 : decode cX2_keep 57 = .ok (.iconst 1, 1) := by decide +kernel
theorem dX2_keep_58 : decode cX2_keep 58 = .ok (.iadd, 1) := by decide +kernel
theorem dX2_keep_59 : decode cX2_keep 59 = .ok (.goto 5, 3) := by decide +kernel
theorem dX2_keep_62 : decode cX2_keep 62 = .ok (.bipush 8, 2) := by decide +kernel
theorem dX2_keep_64 : decode cX2_keep 64 = .ok (.putfield 34, 3) := by decide +kernel
theorem dX2_keep_67 : decode cX2_keep 67 = .ok (.return_, 1) := by decide +kernel
theorem dX2_takeBack_0 : decode cX2_takeBack 0 = .ok (.aload_n 0, 1) := by decide +kernel
theorem dX2_takeBack_1 : decode cX2_takeBack 1 = .ok (.aload_n 0, 1) := by decide +kernel
theorem dX2_takeBack_2 : decode cX2_takeBack 2 = .ok (.getfield 22, 3) := by decide +kernel
theorem dX2_takeBack_5 : decode cX2_takeBack 5 = .ok (.ifCond .le 12, 3) := by decide +kernel
theorem dX2_takeBack_8 : decode cX2_takeBack 8 = .ok (.aload_n 0, 1) := by decide +kernel
theorem dX2_takeBack_9 : decode cX2_takeBack 9 = .ok (.getfield 22, 3) := by decide +kernel
theorem dX2_takeBack_12 : decode cX2_takeBack 12 = .ok (.iconst 1, 1) := by decide +kernel
theorem dX2_takeBack_13 : decode cX2_takeBack 13 = .ok (.isub, 1) := by decide +kernel
theorem dX2_takeBack_14 : decode cX2_takeBack 14 = .ok (.goto 5, 3) := by decide +kernel
theorem dX2_takeBack_17 : decode cX2_takeBack 17 = .ok (.bipush 7, 2) := by decide +kernel
theorem dX2_takeBack_19 : decode cX2_takeBack 19 = .ok (.putfield 22, 3) := by decide +kernel
theorem dX2_takeBack_22 : decode cX2_takeBack 22 = .ok (.aload_n 0, 1) := by decide +kernel
theorem dX2_takeBack_23 : decode cX2_takeBack 23 = .ok (.aload_n 0, 1) := by decide +kernel
theorem dX2_takeBack_24 : decode cX2_takeBack 24 = .ok (.getfield 34, 3) := by decide +kernel
theorem dX2_takeBack_27 : decode cX2_takeBack 27 = .ok (.ifCond .le 12, 3) := by decide +kernel
theorem dX2_takeBack_30 : decode cX2_takeBack 30 = .ok (.aload_n 0, 1) := by decide +kernel
theorem dX2_takeBack_31 : decode cX2_takeBack 31 = .ok (.getfield 34, 3) := by decide +kernel
theorem dX2_takeBack_34 : decode cX2_takeBack 34 = .ok (.iconst 1, 1) := by decide +kernel
theorem dX2_takeBack_35 : decode cX2_takeBack 35 = .ok (.isub, 1) := by decide +kernel
theorem dX2_takeBack_36 : decode cX2_takeBack 36 = .ok (.goto 4, 3) := by decide +kernel
theorem dX2_takeBack_39 : decode cX2_takeBack 39 = .ok (.iconst 0, 1) := by decide +kernel
theorem dX2_takeBack_40 : decode cX2_takeBack 40 = .ok (.putfield 34, 3) := by decide +kernel
theorem dX2_takeBack_43 : decode cX2_takeBack 43 = .ok (.aload_n 0, 1) := by decide +kernel
theorem dX2_takeBack_44 : decode cX2_takeBack 44 = .ok (.aload_n 0, 1) := by decide +kernel
theorem dX2_takeBack_45 : decode cX2_takeBack 45 = .ok (.getfield 22, 3) := by decide +kernel
theorem dX2_takeBack_48 : decode cX2_takeBack 48 = .ok (.invokevirtual 26, 3) := by decide +kernel
theorem dX2_takeBack_51 : decode cX2_takeBack 51 = .ok (.astore_n 2, 1) := by decide +kernel
theorem dX2_takeBack_52 : decode cX2_takeBack 52 = .ok (.aload_n 2, 1) := by decide +kernel
theorem dX2_takeBack_53 : decode cX2_takeBack 53 = .ok (.ifnull 8, 3) := by decide +kernel
theorem dX2_takeBack_56 : decode cX2_takeBack 56 = .ok (.aload_n 1, 1) := by decide +kernel
theorem dX2_takeBack_57 : decode cX2_takeBack 57 = .ok (.aload_n 2, 1) := by decide +kernel
theorem dX2_takeBack_58 : decode cX2_takeBack 58 = .ok (.invokevirtual 30, 3) := by decide +kernel
theorem dX2_takeBack_61 : decode cX2_takeBack 61 = .ok (.return_, 1) := by decide +kernel
theorem dX2_forget_0 : decode cX2_forget 0 = .ok (.aload_n 0, 1) := by decide +kernel
theorem dX2_forget_1 : decode cX2_forget 1 = .ok (.iconst 0, 1) := by decide +kernel
theorem dX2_forget_2 : decode cX2_forget 2 = .ok (.putfield 34, 3) := by decide +kernel
theorem dX2_forget_5 : decode cX2_forget 5 = .ok (.return_, 1) := by decide +kernel
theorem dX3_init_0 : decode cX3_init 0 = .ok (.aload_n 0, 1) := by decide +kernel
theorem dX3_init_1 : decode cX3_init 1 = .ok (.invokespecial 3, 3) := by decide +kernel
theorem dX3_init_4 : decode cX3_init 4 = .ok (.aload_n 0, 1) := by decide +kernel
theorem dX3_init_5 : decode cX3_init 5 = .ok (.bipush 80, 2) := by decide +kernel
theorem dX3_init_7 : decode cX3_init 7 = .ok (.newarray .char, 2) := by decide +kernel
theorem dX3_init_9 : decode cX3_init 9 = .ok (.putfield 9, 3) := by decide +kernel
theorem dX3_init_12 : decode cX3_init 12 = .ok (.return_, 1) := by decide +kernel
theorem dX3_clear_0 : decode cX3_clear 0 = .ok (.aload_n 0, 1) := by decide +kernel
theorem dX3_clear_1 : decode cX3_clear 1 = .ok (.iconst 0, 1) := by decide +kernel
theorem dX3_clear_2 : decode cX3_clear 2 = .ok (.putfield 15, 3) := by decide +kernel
theorem dX3_clear_5 : decode cX3_clear 5 = .ok (.return_, 1) := by decide +kernel
theorem dX3_putSign_0 : decode cX3_putSign 0 = .ok (.aload_n 0, 1) := by decide +kernel
theorem dX3_putSign_1 : decode cX3_putSign 1 = .ok (.getfield 15, 3) := by decide +kernel
theorem dX3_putSign_4 : decode cX3_putSign 4 = .ok (.ifCond .lt 32, 3) := by decide +kernel
theorem dX3_putSign_7 : decode cX3_putSign 7 = .ok (.aload_n 0, 1) := by decide +kernel
theorem dX3_putSign_8 : decode cX3_putSign 8 = .ok (.getfield 15, 3) := by decide +kernel
theorem dX3_putSign_11 : decode cX3_putSign 11 = .ok (.bipush 80, 2) := by decide +kernel
theorem dX3_putSign_13 : decode cX3_putSign 13 = .ok (.if_icmp .ge 23, 3) := by decide +kernel
theorem dX3_putSign_16 : decode cX3_putSign 16 = .ok (.aload_n 0, 1) := by decide +kernel
theorem dX3_putSign_17 : decode cX3_putSign 17 = .ok (.getfield 9, 3) := by decide +kernel
theorem dX3_putSign_20 : decode cX3_putSign 20 = .ok (.aload_n 0, 1) := by decide +kernel
theorem dX3_putSign_21 : decode cX3_putSign 21 = .ok (.getfield 15, 3) := by decide +kernel
theorem dX3_putSign_24 : decode cX3_putSign 24 = .ok (.iload_n 1, 1) := by decide +kernel
theorem dX3_putSign_25 : decode cX3_putSign 25 = .ok (.castore, 1) := by decide +kernel
theorem dX3_putSign_26 : decode cX3_putSign 26 = .ok (.aload_n 0, 1) := by decide +kernel
theorem dX3_putSign_27 : decode cX3_putSign 27 = .ok (.dup, 1) := by decide +kernel
theorem dX3_putSign_28 : decode cX3_putSign 28 = .ok (.getfield 15, 3) := by decide +kernel
theorem dX3_putSign_31 : decode cX3_putSign 31 = .ok (.iconst 1, 1) := by decide +kernel
theorem dX3_putSign_32 : decode cX3_putSign 32 = .ok (.iadd, 1) := by decide +kernel
theorem dX3_putSign_33 : decode cX3_putSign 33 = .ok (.putfield 15, 3) := by decide +kernel
theorem dX3_putSign_36 : decode cX3_putSign 36 = .ok (.return_, 1) := by decide +kernel
theorem dX3_putNumber_0 : decode cX3_putNumber 0 = .ok (.iload_n 1, 1) := by decide +kernel
theorem dX3_putNumber_1 : decode cX3_putNumber 1 = .ok (.bipush 10, 2) := by decide +kernel
theorem dX3_putNumber_3 : decode cX3_putNumber 3 = .ok (.if_icmp .lt 18, 3) := by decide +kernel
theorem dX3_putNumber_6 : decode cX3_putNumber 6 = .ok (.aload_n 0, 1) := by decide +kernel
theorem dX3_putNumber_7 : decode cX3_putNumber 7 = .ok (.bipush 48, 2) := by decide +kernel
theorem dX3_putNumber_9 : decode cX3_putNumber 9 = .ok (.iload_n 1, 1) := by decide +kernel
theorem dX3_putNumber_10 : decode cX3_putNumber 10 = .ok (.bipush 10, 2) := by decide +kernel
theorem dX3_putNumber_12 : decode cX3_putNumber 12 = .ok (.idiv, 1) := by decide +kernel
theorem dX3_putNumber_13 : decode cX3_putNumber 13 = .ok (.bipush 10, 2) := by decide +kernel
theorem dX3_putNumber_15 : decode cX3_putNumber 15 = .ok (.irem, 1) := by decide +kernel
theorem dX3_putNumber_16 : decode cX3_putNumber 16 = .ok (.iadd, 1) := by decide +kernel
theorem dX3_putNumber_17 : decode cX3_putNumber 17 = .ok (.i2c, 1) := by decide +kernel
theorem dX3_putNumber_18 : decode cX3_putNumber 18 = .ok (.invokevirtual 19, 3) := by decide +kernel
theorem dX3_putNumber_21 : decode cX3_putNumber 21 = .ok (.aload_n 0, 1) := by decide +kernel
theorem dX3_putNumber_22 : decode cX3_putNumber 22 = .ok (.bipush 48, 2) := by decide +kernel
theorem dX3_putNumber_24 : decode cX3_putNumber 24 = .ok (.iload_n 1, 1) := by decide +kernel
theorem dX3_putNumber_25 : decode cX3_putNumber 25 = .ok (.bipush 10, 2) := by decide +kernel
theorem dX3_putNumber_27 : decode cX3_putNumber 27 = .ok (.irem, 1) := by decide +kernel
theorem dX3_putNumber_28 : decode cX3_putNumber 28 = .ok (.iadd, 1) := by decide +kernel
theorem dX3_putNumber_29 : decode cX3_putNumber 29 = .ok (.i2c, 1) := by decide +kernel
theorem dX3_putNumber_30 : decode cX3_putNumber 30 = .ok (.invokevirtual 19, 3) := by decide +kernel
theorem dX3_putNumber_33 : decode cX3_putNumber 33 = .ok (.return_, 1) := by decide +kernel
theorem dX3_signAt_0 : decode cX3_signAt 0 = .ok (.iload_n 1, 1) := by decide +kernel
theorem dX3_signAt_1 : decode cX3_signAt 1 = .ok (.ifCond .lt 26, 3) := by decide +kernel
theorem dX3_signAt_4 : decode cX3_signAt 4 = .ok (.iload_n 1, 1) := by decide +kernel
theorem dX3_signAt_5 : decode cX3_signAt 5 = .ok (.aload_n 0, 1) := by decide +kernel
theorem dX3_signAt_6 : decode cX3_signAt 6 = .ok (.getfield 15, 3) := by decide +kernel
theorem dX3_signAt_9 : decode cX3_signAt 9 = .ok (.if_icmp .ge 18, 3) := by decide +kernel
theorem dX3_signAt_12 : decode cX3_signAt 12 = .ok (.iload_n 1, 1) := by decide +kernel
theorem dX3_signAt_13 : decode cX3_signAt 13 = .ok (.bipush 80, 2) := by decide +kernel
theorem dX3_signAt_15 : decode cX3_signAt 15 = .ok (.if_icmp .ge 12, 3) := by decide +kernel
theorem dX3_signAt_18 : decode cX3_signAt 18 = .ok (.aload_n 0, 1) := by decide +kernel
theorem dX3_signAt_19 : decode cX3_signAt 19 = .ok (.getfield 9, 3) := by decide +kernel
theorem dX3_signAt_22 : decode cX3_signAt 22 = .ok (.iload_n 1, 1) := by decide +kernel
theorem dX3_signAt_23 : decode cX3_signAt 23 = .ok (.caload, 1) := by decide +kernel
theorem dX3_signAt_24 : decode cX3_signAt 24 = .ok (.goto 5, 3) := by decide +kernel
theorem dX3_signAt_27 : decode cX3_signAt 27 = .ok (.bipush 32, 2) := by decide +kernel
theorem dX3_signAt_29 : decode cX3_signAt 29 = .ok (.ireturn, 1) := by decide +kernel
theorem dX4_init_0 : decode cX4_init 0 = .ok (.aload_n 0, 1) := by decide +kernel
theorem dX4_init_1 : decode cX4_init 1 = .ok (.invokespecial 3, 3) := by decide +kernel
theorem dX4_init_4 : decode cX4_init 4 = .ok (.aload_n 0, 1) := by decide +kernel
theorem dX4_init_5 : decode cX4_init 5 = .ok (.sipush 1000, 3) := by decide +kernel
theorem dX4_init_8 : decode cX4_init 8 = .ok (.putfield 9, 3) := by decide +kernel
theorem dX4_init_11 : decode cX4_init 11 = .ok (.aload_n 0, 1) := by decide +kernel
theorem dX4_init_12 : decode cX4_init 12 = .ok (.iconst 1, 1) := by decide +kernel
theorem dX4_init_13 : decode cX4_init 13 = .ok (.putfield 15, 3) := by decide +kernel
theorem dX4_init_16 : decode cX4_init 16 = .ok (.aload_n 0, 1) := by decide +kernel
theorem dX4_init_17 : decode cX4_init 17 = .ok (.iconst 5, 1) := by decide +kernel
theorem dX4_init_18 : decode cX4_init 18 = .ok (.putfield 18, 3) := by decide +kernel
theorem dX4_init_21 : decode cX4_init 21 = .ok (.return_, 1) := by decide +kernel
theorem dX4_takeFrom_0 : decode cX4_takeFrom 0 = .ok (.aload_n 0, 1) := by decide +kernel
theorem dX4_takeFrom_1 : decode cX4_takeFrom 1 = .ok (.aload_n 1, 1) := by decide +kernel
theorem dX4_takeFrom_2 : decode cX4_takeFrom 2 = .ok (.getfield 9, 3) := by decide +kernel
theorem dX4_takeFrom_5 : decode cX4_takeFrom 5 = .ok (.putfield 9, 3) := by decide +kernel
theorem dX4_takeFrom_8 : decode cX4_takeFrom 8 = .ok (.aload_n 0, 1) := by decide +kernel
theorem dX4_takeFrom_9 : decode cX4_takeFrom 9 = .ok (.aload_n 1, 1) := by decide +kernel
theorem dX4_takeFrom_10 : decode cX4_takeFrom 10 = .ok (.getfield 15, 3) := by decide +kernel
theorem dX4_takeFrom_13 : decode cX4_takeFrom 13 = .ok (.putfield 15, 3) := by decide +kernel
theorem dX4_takeFrom_16 : decode cX4_takeFrom 16 = .ok (.aload_n 0, 1) := by decide +kernel
theorem dX4_takeFrom_17 : decode cX4_takeFrom 17 = .ok (.aload_n 1, 1) := by decide +kernel
theorem dX4_takeFrom_18 : decode cX4_takeFrom 18 = .ok (.getfield 18, 3) := by decide +kernel
theorem dX4_takeFrom_21 : decode cX4_takeFrom 21 = .ok (.putfield 18, 3) := by decide +kernel
theorem dX4_takeFrom_24 : decode cX4_takeFrom 24 = .ok (.aload_n 0, 1) := by decide +kernel
theorem dX4_takeFrom_25 : decode cX4_takeFrom 25 = .ok (.aload_n 1, 1) := by decide +kernel
theorem dX4_takeFrom_26 : decode cX4_takeFrom 26 = .ok (.getfield 21, 3) := by decide +kernel
theorem dX4_takeFrom_29 : decode cX4_takeFrom 29 = .ok (.putfield 21, 3) := by decide +kernel
theorem dX4_takeFrom_32 : decode cX4_takeFrom 32 = .ok (.aload_n 0, 1) := by decide +kernel
theorem dX4_takeFrom_33 : decode cX4_takeFrom 33 = .ok (.aload_n 1, 1) := by decide +kernel
theorem dX4_takeFrom_34 : decode cX4_takeFrom 34 = .ok (.getfield 24, 3) := by decide +kernel
theorem dX4_takeFrom_37 : decode cX4_takeFrom 37 = .ok (.putfield 24, 3) := by decide +kernel
theorem dX4_takeFrom_40 : decode cX4_takeFrom 40 = .ok (.aload_n 0, 1) := by decide +kernel
theorem dX4_takeFrom_41 : decode cX4_takeFrom 41 = .ok (.aload_n 1, 1) := by decide +kernel
theorem dX4_takeFrom_42 : decode cX4_takeFrom 42 = .ok (.getfield 27, 3) := by decide +kernel
theorem dX4_takeFrom_45 : decode cX4_takeFrom 45 = .ok (.putfield 27, 3) := by decide +kernel
theorem dX4_takeFrom_48 : decode cX4_takeFrom 48 = .ok (.return_, 1) := by decide +kernel
theorem dX4_cost_0 : decode cX4_cost 0 = .ok (.aload_n 0, 1) := by decide +kernel
theorem dX4_cost_1 : decode cX4_cost 1 = .ok (.getfield 15, 3) := by decide +kernel
theorem dX4_cost_4 : decode cX4_cost 4 = .ok (.lookupswitch 32 #[(0, 28), (1, 30)], 28) := by decide +kernel
theorem dX4_cost_32 : decode cX4_cost 32 = .ok (.iconst 1, 1) := by decide +kernel
theorem dX4_cost_33 : decode cX4_cost 33 = .ok (.ireturn, 1) := by decide +kernel
theorem dX4_cost_34 : decode cX4_cost 34 = .ok (.iconst 2, 1) := by decide +kernel
theorem dX4_cost_35 : decode cX4_cost 35 = .ok (.ireturn, 1) := by decide +kernel
theorem dX4_cost_36 : decode cX4_cost 36 = .ok (.iconst 4, 1) := by decide +kernel
theorem dX4_cost_37 : decode cX4_cost 37 = .ok (.ireturn, 1) := by decide +kernel
theorem dX4_spend_0 : decode cX4_spend 0 = .ok (.aload_n 0, 1) := by decide +kernel
theorem dX4_spend_1 : decode cX4_spend 1 = .ok (.aload_n 0, 1) := by decide +kernel
theorem dX4_spend_2 : decode cX4_spend 2 = .ok (.getfield 9, 3) := by decide +kernel
theorem dX4_spend_5 : decode cX4_spend 5 = .ok (.iload_n 1, 1) := by decide +kernel
theorem dX4_spend_6 : decode cX4_spend 6 = .ok (.if_icmp .le 12, 3) := by decide +kernel
theorem dX4_spend_9 : decode cX4_spend 9 = .ok (.aload_n 0, 1) := by decide +kernel
theorem dX4_spend_10 : decode cX4_spend 10 = .ok (.getfield 9, 3) := by decide +kernel
theorem dX4_spend_13 : decode cX4_spend 13 = .ok (.iload_n 1, 1) := by decide +kernel
theorem dX4_spend_14 : decode cX4_spend 14 = .ok (.isub, 1) := by decide +kernel
theorem dX4_spend_15 : decode cX4_spend 15 = .ok (.goto 4, 3) := by decide +kernel
theorem dX4_spend_18 : decode cX4_spend 18 = .ok (.iconst 0, 1) := by decide +kernel
theorem dX4_spend_19 : decode cX4_spend 19 = .ok (.putfield 9, 3) := by decide +kernel
theorem dX4_spend_22 : decode cX4_spend 22 = .ok (.return_, 1) := by decide +kernel
theorem dX4_refill_0 : decode cX4_refill 0 = .ok (.aload_n 0, 1) := by decide +kernel
theorem dX4_refill_1 : decode cX4_refill 1 = .ok (.aload_n 0, 1) := by decide +kernel
theorem dX4_refill_2 : decode cX4_refill 2 = .ok (.getfield 9, 3) := by decide +kernel
theorem dX4_refill_5 : decode cX4_refill 5 = .ok (.iload_n 1, 1) := by decide +kernel
theorem dX4_refill_6 : decode cX4_refill 6 = .ok (.iadd, 1) := by decide +kernel
theorem dX4_refill_7 : decode cX4_refill 7 = .ok (.sipush 1000, 3) := by decide +kernel
theorem dX4_refill_10 : decode cX4_refill 10 = .ok (.if_icmp .ge 12, 3) := by decide +kernel
theorem dX4_refill_13 : decode cX4_refill 13 = .ok (.aload_n 0, 1) := by decide +kernel
theorem dX4_refill_14 : decode cX4_refill 14 = .ok (.getfield 9, 3) := by decide +kernel
theorem dX4_refill_17 : decode cX4_refill 17 = .ok (.iload_n 1, 1) := by decide +kernel
theorem dX4_refill_18 : decode cX4_refill 18 = .ok (.iadd, 1) := by decide +kernel
theorem dX4_refill_19 : decode cX4_refill 19 = .ok (.goto 6, 3) := by decide +kernel
theorem dX4_refill_22 : decode cX4_refill 22 = .ok (.sipush 1000, 3) := by decide +kernel
theorem dX4_refill_25 : decode cX4_refill 25 = .ok (.putfield 9, 3) := by decide +kernel
theorem dX4_refill_28 : decode cX4_refill 28 = .ok (.aload_n 0, 1) := by decide +kernel
theorem dX4_refill_29 : decode cX4_refill 29 = .ok (.getfield 9, 3) := by decide +kernel
theorem dX4_refill_32 : decode cX4_refill 32 = .ok (.ireturn, 1) := by decide +kernel
theorem dX4_exchangeMode_0 : decode cX4_exchangeMode 0 = .ok (.aload_n 0, 1) := by decide +kernel
theorem dX4_exchangeMode_1 : decode cX4_exchangeMode 1 = .ok (.getfield 15, 3) := by decide +kernel
theorem dX4_exchangeMode_4 : decode cX4_exchangeMode 4 = .ok (.istore_n 2, 1) := by decide +kernel
theorem dX4_exchangeMode_5 : decode cX4_exchangeMode 5 = .ok (.aload_n 0, 1) := by decide +kernel
theorem dX4_exchangeMode_6 : decode cX4_exchangeMode 6 = .ok (.iload_n 1, 1) := by decide +kernel
theorem dX4_exchangeMode_7 : decode cX4_exchangeMode 7 = .ok (.putfield 15, 3) := by decide +kernel
theorem dX4_exchangeMode_10 : decode cX4_exchangeMode 10 = .ok (.iload_n 2, 1) := by decide +kernel
theorem dX4_exchangeMode_11 : decode cX4_exchangeMode 11 = .ok (.ireturn, 1) := by decide +kernel
theorem dX4_exchangeTolerance_0 : decode cX4_exchangeTolerance 0 = .ok (.aload_n 0, 1) := by decide +kernel
theorem dX4_exchangeTolerance_1 : decode cX4_exchangeTolerance 1 = .ok (.getfield 18, 3) := by decide +kernel
theorem dX4_exchangeTolerance_4 : decode cX4_exchangeTolerance 4 = .ok (.istore_n 2, 1) := by decide +kernel
theorem dX4_exchangeTolerance_5 : decode cX4_exchangeTolerance 5 = .ok (.aload_n 0, 1) := by decide +kernel
theorem dX4_exchangeTolerance_6 : decode cX4_exchangeTolerance 6 = .ok (.iload_n 1, 1) := by decide +kernel
theorem dX4_exchangeTolerance_7 : decode cX4_exchangeTolerance 7 = .ok (.putfield 18, 3) := by decide +kernel
theorem dX4_exchangeTolerance_10 : decode cX4_exchangeTolerance 10 = .ok (.iload_n 2, 1) := by decide +kernel
theorem dX4_exchangeTolerance_11 : decode cX4_exchangeTolerance 11 = .ok (.ireturn, 1) := by decide +kernel
theorem dX4_leftByDivision_0 : decode cX4_leftByDivision 0 = .ok (.aload_n 0, 1) := by decide +kernel
theorem dX4_leftByDivision_1 : decode cX4_leftByDivision 1 = .ok (.invokevirtual 30, 3) := by decide +kernel
theorem dX4_leftByDivision_4 : decode cX4_leftByDivision 4 = .ok (.istore_n 1, 1) := by decide +kernel
theorem dX4_leftByDivision_5 : decode cX4_leftByDivision 5 = .ok (.iload_n 1, 1) := by decide +kernel
theorem dX4_leftByDivision_6 : decode cX4_leftByDivision 6 = .ok (.ifCond .le 16, 3) := by decide +kernel
theorem dX4_leftByDivision_9 : decode cX4_leftByDivision 9 = .ok (.aload_n 0, 1) := by decide +kernel
theorem dX4_leftByDivision_10 : decode cX4_leftByDivision 10 = .ok (.getfield 9, 3) := by decide +kernel
theorem dX4_leftByDivision_13 : decode cX4_leftByDivision 13 = .ok (.iload_n 1, 1) := by decide +kernel
theorem dX4_leftByDivision_14 : decode cX4_leftByDivision 14 = .ok (.iadd, 1) := by decide +kernel
theorem dX4_leftByDivision_15 : decode cX4_leftByDivision 15 = .ok (.iconst 1, 1) := by decide +kernel
theorem dX4_leftByDivision_16 : decode cX4_leftByDivision 16 = .ok (.isub, 1) := by decide +kernel
theorem dX4_leftByDivision_17 : decode cX4_leftByDivision 17 = .ok (.iload_n 1, 1) := by decide +kernel
theorem dX4_leftByDivision_18 : decode cX4_leftByDivision 18 = .ok (.idiv, 1) := by decide +kernel
theorem dX4_leftByDivision_19 : decode cX4_leftByDivision 19 = .ok (.goto 4, 3) := by decide +kernel
theorem dX4_leftByDivision_22 : decode cX4_leftByDivision 22 = .ok (.iconst 0, 1) := by decide +kernel
theorem dX4_leftByDivision_23 : decode cX4_leftByDivision 23 = .ok (.ireturn, 1) := by decide +kernel
theorem dX4_leftByCounting_0 : decode cX4_leftByCounting 0 = .ok (.aload_n 0, 1) := by decide +kernel
theorem dX4_leftByCounting_1 : decode cX4_leftByCounting 1 = .ok (.invokevirtual 30, 3) := by decide +kernel
theorem dX4_leftByCounting_4 : decode cX4_leftByCounting 4 = .ok (.istore_n 1, 1) := by decide +kernel
theorem dX4_leftByCounting_5 : decode cX4_leftByCounting 5 = .ok (.aload_n 0, 1) := by decide +kernel
theorem dX4_leftByCounting_6 : decode cX4_leftByCounting 6 = .ok (.getfield 9, 3) := by decide +kernel
theorem dX4_leftByCounting_9 : decode cX4_leftByCounting 9 = .ok (.istore_n 2, 1) := by decide +kernel
theorem dX4_leftByCounting_10 : decode cX4_leftByCounting 10 = .ok (.iconst 0, 1) := by decide +kernel
theorem dX4_leftByCounting_11 : decode cX4_leftByCounting 11 = .ok (.istore_n 3, 1) := by decide +kernel
theorem dX4_leftByCounting_12 : decode cX4_leftByCounting 12 = .ok (.iload_n 2, 1) := by decide +kernel
theorem dX4_leftByCounting_13 : decode cX4_leftByCounting 13 = .ok (.ifCond .le 20, 3) := by decide +kernel
theorem dX4_leftByCounting_16 : decode cX4_leftByCounting 16 = .ok (.iload_n 3, 1) := by decide +kernel
theorem dX4_leftByCounting_17 : decode cX4_leftByCounting 17 = .ok (.sipush 1000, 3) := by decide +kernel
theorem dX4_leftByCounting_20 : decode cX4_leftByCounting 20 = .ok (.if_icmp .ge 13, 3) := by decide +kernel
theorem dX4_leftByCounting_23 : decode cX4_leftByCounting 23 = .ok (.iload_n 2, 1) := by decide +kernel
theorem dX4_leftByCounting_24 : decode cX4_leftByCounting 24 = .ok (.iload_n 1, 1) := by decide +kernel
theorem dX4_leftByCounting_25 : decode cX4_leftByCounting 25 = .ok (.isub, 1) := by decide +kernel
theorem dX4_leftByCounting_26 : decode cX4_leftByCounting 26 = .ok (.istore_n 2, 1) := by decide +kernel
theorem dX4_leftByCounting_27 : decode cX4_leftByCounting 27 = .ok (.iinc 3 1, 3) := by decide +kernel
theorem dX4_leftByCounting_30 : decode cX4_leftByCounting 30 = .ok (.goto (-18), 3) := by decide +kernel
theorem dX4_leftByCounting_33 : decode cX4_leftByCounting 33 = .ok (.iload_n 3, 1) := by decide +kernel
theorem dX4_leftByCounting_34 : decode cX4_leftByCounting 34 = .ok (.ireturn, 1) := by decide +kernel
theorem dX5_init_0 : decode cX5_init 0 = .ok (.aload_n 0, 1) := by decide +kernel
theorem dX5_init_1 : decode cX5_init 1 = .ok (.invokespecial 3, 3) := by decide +kernel
theorem dX5_init_4 : decode cX5_init 4 = .ok (.aload_n 0, 1) := by decide +kernel
theorem dX5_init_5 : decode cX5_init 5 = .ok (.bipush 12, 2) := by decide +kernel
theorem dX5_init_7 : decode cX5_init 7 = .ok (.newarray .int, 2) := by decide +kernel
theorem dX5_init_9 : decode cX5_init 9 = .ok (.putfield 9, 3) := by decide +kernel
theorem dX5_init_12 : decode cX5_init 12 = .ok (.aload_n 0, 1) := by decide +kernel
theorem dX5_init_13 : decode cX5_init 13 = .ok (.bipush 12, 2) := by decide +kernel
theorem dX5_init_15 : decode cX5_init 15 = .ok (.newarray .int, 2) := by decide +kernel
theorem dX5_init_17 : decode cX5_init 17 = .ok (.putfield 15, 3) := by decide +kernel
theorem dX5_init_20 : decode cX5_init 20 = .ok (.aload_n 0, 1) := by decide +kernel
theorem dX5_init_21 : decode cX5_init 21 = .ok (.bipush 12, 2) := by decide +kernel
theorem dX5_init_23 : decode cX5_init 23 = .ok (.newarray .int, 2) := by decide +kernel
theorem dX5_init_25 : decode cX5_init 25 = .ok (.putfield 18, 3) := by decide +kernel
theorem dX5_init_28 : decode cX5_init 28 = .ok (.aload_n 0, 1) := by decide +kernel
theorem dX5_init_29 : decode cX5_init 29 = .ok (.bipush 12, 2) := by decide +kernel
theorem dX5_init_31 : decode cX5_init 31 = .ok (.newarray .boolean, 2) := by decide +kernel
theorem dX5_init_33 : decode cX5_init 33 = .ok (.putfield 21, 3) := by decide +kernel
theorem dX5_init_36 : decode cX5_init 36 = .ok (.return_, 1) := by decide +kernel
theorem dX5_settledDistance_0 : decode cX5_settledDistance 0 = .ok (.iload_n 1, 1) := by decide +kernel
theorem dX5_settledDistance_1 : decode cX5_settledDistance 1 = .ok (.iconst 0, 1) := by decide +kernel
theorem dX5_settledDistance_2 : decode cX5_settledDistance 2 = .ok (.bipush 11, 2) := by decide +kernel
theorem dX5_settledDistance_4 : decode cX5_settledDistance 4 = .ok (.invokestatic 25, 3) := by decide +kernel
theorem dX5_settledDistance_7 : decode cX5_settledDistance 7 = .ok (.ifCond .eq 12, 3) := by decide +kernel
theorem dX5_settledDistance_10 : decode cX5_settledDistance 10 = .ok (.aload_n 0, 1) := by decide +kernel
theorem dX5_settledDistance_11 : decode cX5_settledDistance 11 = .ok (.getfield 9, 3) := by decide +kernel
theorem dX5_settledDistance_14 : decode cX5_settledDistance 14 = .ok (.iload_n 1, 1) := by decide +kernel
theorem dX5_settledDistance_15 : decode cX5_settledDistance 15 = .ok (.iaload, 1) := by decide +kernel
theorem dX5_settledDistance_16 : decode cX5_settledDistance 16 = .ok (.goto 5, 3) := by decide +kernel
theorem dX5_settledDistance_19 : decode cX5_settledDistance 19 = .ok (.ldc 29, 2) := by decide +kernel
theorem dX5_settledDistance_21 : decode cX5_settledDistance 21 = .ok (.ireturn, 1) := by decide +kernel
theorem dX5_relaxedDistance_0 : decode cX5_relaxedDistance 0 = .ok (.iload_n 1, 1) := by decide +kernel
theorem dX5_relaxedDistance_1 : decode cX5_relaxedDistance 1 = .ok (.iconst 0, 1) := by decide +kernel
theorem dX5_relaxedDistance_2 : decode cX5_relaxedDistance 2 = .ok (.bipush 11, 2) := by decide +kernel
theorem dX5_relaxedDistance_4 : decode cX5_relaxedDistance 4 = .ok (.invokestatic 25, 3) := by decide +kernel
theorem dX5_relaxedDistance_7 : decode cX5_relaxedDistance 7 = .ok (.ifCond .eq 12, 3) := by decide +kernel
theorem dX5_relaxedDistance_10 : decode cX5_relaxedDistance 10 = .ok (.aload_n 0, 1) := by decide +kernel
theorem dX5_relaxedDistance_11 : decode cX5_relaxedDistance 11 = .ok (.getfield 15, 3) := by decide +kernel
theorem dX5_relaxedDistance_14 : decode cX5_relaxedDistance 14 = .ok (.iload_n 1, 1) := by decide +kernel
theorem dX5_relaxedDistance_15 : decode cX5_relaxedDistance 15 = .ok (.iaload, 1) := by decide +kernel
theorem dX5_relaxedDistance_16 : decode cX5_relaxedDistance 16 = .ok (.goto 5, 3) := by decide +kernel
theorem dX5_relaxedDistance_19 : decode cX5_relaxedDistance 19 = .ok (.ldc 29, 2) := by decide +kernel
theorem dX5_relaxedDistance_21 : decode cX5_relaxedDistance 21 = .ok (.ireturn, 1) := by decide +kernel
theorem dX5_clearMarks_0 : decode cX5_clearMarks 0 = .ok (.iconst 0, 1) := by decide +kernel
theorem dX5_clearMarks_1 : decode cX5_clearMarks 1 = .ok (.istore_n 1, 1) := by decide +kernel
theorem dX5_clearMarks_2 : decode cX5_clearMarks 2 = .ok (.iload_n 1, 1) := by decide +kernel
theorem dX5_clearMarks_3 : decode cX5_clearMarks 3 = .ok (.bipush 12, 2) := by decide +kernel
theorem dX5_clearMarks_5 : decode cX5_clearMarks 5 = .ok (.if_icmp .ge 16, 3) := by decide +kernel
theorem dX5_clearMarks_8 : decode cX5_clearMarks 8 = .ok (.aload_n 0, 1) := by decide +kernel
theorem dX5_clearMarks_9 : decode cX5_clearMarks 9 = .ok (.getfield 21, 3) := by decide +kernel
theorem dX5_clearMarks_12 : decode cX5_clearMarks 12 = .ok (.iload_n 1, 1) := by decide +kernel
theorem dX5_clearMarks_13 : decode cX5_clearMarks 13 = .ok (.iconst 0, 1) := by decide +kernel
theorem dX5_clearMarks_14 : decode cX5_clearMarks 14 = .ok (.bastore, 1) := by decide +kernel
theorem dX5_clearMarks_15 : decode cX5_clearMarks 15 = .ok (.iinc 1 1, 3) := by decide +kernel
theorem dX5_clearMarks_18 : decode cX5_clearMarks 18 = .ok (.goto (-16), 3) := by decide +kernel
theorem dX5_clearMarks_21 : decode cX5_clearMarks 21 = .ok (.return_, 1) := by decide +kernel
theorem dX5_startRow_0 : decode cX5_startRow 0 = .ok (.iconst 0, 1) := by decide +kernel
theorem dX5_startRow_1 : decode cX5_startRow 1 = .ok (.istore_n 2, 1) := by decide +kernel
theorem dX5_startRow_2 : decode cX5_startRow 2 = .ok (.iload_n 2, 1) := by decide +kernel
theorem dX5_startRow_3 : decode cX5_startRow 3 = .ok (.bipush 12, 2) := by decide +kernel
theorem dX5_startRow_5 : decode cX5_startRow 5 = .ok (.if_icmp .ge 29, 3) := by decide +kernel
theorem dX5_startRow_8 : decode cX5_startRow 8 = .ok (.iload_n 2, 1) := by decide +kernel
theorem dX5_startRow_9 : decode cX5_startRow 9 = .ok (.aload_n 0, 1) := by decide +kernel
theorem dX5_startRow_10 : decode cX5_startRow 10 = .ok (.arraylength, 1) := by decide +kernel
theorem dX5_startRow_11 : decode cX5_startRow 11 = .ok (.if_icmp .ge 23, 3) := by decide +kernel
theorem dX5_startRow_14 : decode cX5_startRow 14 = .ok (.aload_n 0, 1) := by decide +kernel
theorem dX5_startRow_15 : decode cX5_startRow 15 = .ok (.iload_n 2, 1) := by decide +kernel
theorem dX5_startRow_16 : decode cX5_startRow 16 = .ok (.iload_n 2, 1) := by decide +kernel
theorem dX5_startRow_17 : decode cX5_startRow 17 = .ok (.iload_n 1, 1) := by decide +kernel
theorem dX5_startRow_18 : decode cX5_startRow 18 = .ok (.if_icmp .ne 7, 3) := by decide +kernel
theorem dX5_startRow_21 : decode cX5_startRow 21 = .ok (.iconst 0, 1) := by decide +kernel
theorem dX5_startRow_22 : decode cX5_startRow 22 = .ok (.goto 5, 3) := by decide +kernel
theorem dX5_startRow_25 : decode cX5_startRow 25 = .ok (.ldc 29, 2) := by decide +kernel
theorem dX5_startRow_27 : decode cX5_startRow 27 = .ok (.iastore, 1) := by decide +kernel
theorem dX5_startRow_28 : decode cX5_startRow 28 = .ok (.iinc 2 1, 3) := by decide +kernel
theorem dX5_startRow_31 : decode cX5_startRow 31 = .ok (.goto (-29), 3) := by decide +kernel
theorem dX5_startRow_34 : decode cX5_startRow 34 = .ok (.return_, 1) := by decide +kernel
theorem dX5_settleFrom_0 : decode cX5_settleFrom 0 = .ok (.aload_n 0, 1) := by decide +kernel
theorem dX5_settleFrom_1 : decode cX5_settleFrom 1 = .ok (.getfield 9, 3) := by decide +kernel
theorem dX5_settleFrom_4 : decode cX5_settleFrom 4 = .ok (.iload_n 2, 1) := by decide +kernel
theorem dX5_settleFrom_5 : decode cX5_settleFrom 5 = .ok (.invokestatic 30, 3) := by decide +kernel
theorem dX5_settleFrom_8 : decode cX5_settleFrom 8 = .ok (.aload_n 0, 1) := by decide +kernel
theorem dX5_settleFrom_9 : decode cX5_settleFrom 9 = .ok (.invokevirtual 34, 3) := by decide +kernel
theorem dX5_settleFrom_12 : decode cX5_settleFrom 12 = .ok (.iconst 0, 1) := by decide +kernel
theorem dX5_settleFrom_13 : decode cX5_settleFrom 13 = .ok (.istore_n 3, 1) := by decide +kernel
theorem dX5_settleFrom_14 : decode cX5_settleFrom 14 = .ok (.iload_n 3, 1) := by decide +kernel
theorem dX5_settleFrom_15 : decode cX5_settleFrom 15 = .ok (.bipush 12, 2) := by decide +kernel
theorem dX5_settleFrom_17 : decode cX5_settleFrom 17 = .ok (.if_icmp .ge 79, 3) := by decide +kernel
theorem dX5_settleFrom_20 : decode cX5_settleFrom 20 = .ok (.aload_n 0, 1) := by decide +kernel
theorem dX5_settleFrom_21 : decode cX5_settleFrom 21 = .ok (.invokevirtual 37, 3) := by decide +kernel
theorem dX5_settleFrom_24 : decode cX5_settleFrom 24 = .ok (.istore 4, 2) := by decide +kernel
theorem dX5_settleFrom_26 : decode cX5_settleFrom 26 = .ok (.iload 4, 2) := by decide +kernel
theorem dX5_settleFrom_28 : decode cX5_settleFrom 28 = .ok (.iconst (-1), 1) := by decide +kernel
theorem dX5_settleFrom_29 : decode cX5_settleFrom 29 = .ok (.if_icmp .ne 4, 3) := by decide +kernel
theorem dX5_settleFrom_32 : decode cX5_settleFrom 32 = .ok (.return_, 1) := by decide +kernel
theorem dX5_settleFrom_33 : decode cX5_settleFrom 33 = .ok (.aload_n 0, 1) := by decide +kernel
theorem dX5_settleFrom_34 : decode cX5_settleFrom 34 = .ok (.getfield 21, 3) := by decide +kernel
theorem dX5_settleFrom_37 : decode cX5_settleFrom 37 = .ok (.iload 4, 2) := by decide +kernel
theorem dX5_settleFrom_39 : decode cX5_settleFrom 39 = .ok (.iconst 1, 1) := by decide +kernel
theorem dX5_settleFrom_40 : decode cX5_settleFrom 40 = .ok (.bastore, 1) := by decide +kernel
theorem dX5_settleFrom_41 : decode cX5_settleFrom 41 = .ok (.iconst 0, 1) := by decide +kernel
theorem dX5_settleFrom_42 : decode cX5_settleFrom 42 = .ok (.istore 5, 2) := by decide +kernel
theorem dX5_settleFrom_44 : decode cX5_settleFrom 44 = .ok (.iload 5, 2) := by decide +kernel
theorem dX5_settleFrom_46 : decode cX5_settleFrom 46 = .ok (.aload_n 1, 1) := by decide +kernel
theorem dX5_settleFrom_47 : decode cX5_settleFrom 47 = .ok (.getfield 41, 3) := by decide +kernel
theorem dX5_settleFrom_50 : decode cX5_settleFrom 50 = .ok (.if_icmp .ge 40, 3) := by decide +kernel
theorem dX5_settleFrom_53 : decode cX5_settleFrom 53 = .ok (.aload_n 1, 1) := by decide +kernel
theorem dX5_settleFrom_54 : decode cX5_settleFrom 54 = .ok (.iload 4, 2) := by decide +kernel
theorem dX5_settleFrom_56 : decode cX5_settleFrom 56 = .ok (.iload 5, 2) := by decide +kernel
theorem dX5_settleFrom_58 : decode cX5_settleFrom 58 = .ok (.invokevirtual 47, 3) := by decide +kernel
theorem dX5_settleFrom_61 : decode cX5_settleFrom 61 = .ok (.ifCond .eq 23, 3) := by decide +kernel
theorem dX5_settleFrom_64 : decode cX5_settleFrom 64 = .ok (.aload_n 0, 1) := by decide +kernel
theorem dX5_settleFrom_65 : decode cX5_settleFrom 65 = .ok (.getfield 9, 3) := by decide +kernel
theorem dX5_settleFrom_68 : decode cX5_settleFrom 68 = .ok (.iload 4, 2) := by decide +kernel
theorem dX5_settleFrom_70 : decode cX5_settleFrom 70 = .ok (.iload 5, 2) := by decide +kernel
theorem dX5_settleFrom_72 : decode cX5_settleFrom 72 = .ok (.aload_n 1, 1) := by decide +kernel
theorem dX5_settleFrom_73 : decode cX5_settleFrom 73 = .ok (.iload 4, 2) := by decide +kernel
theorem dX5_settleFrom_75 : decode cX5_settleFrom 75 = .ok (.iload 5, 2) := by decide +kernel
theorem dX5_settleFrom_77 : decode cX5_settleFrom 77 = .ok (.invokevirtual 51, 3) := by decide +kernel
theorem dX5_settleFrom_80 : decode cX5_settleFrom 80 = .ok (.invokestatic 55, 3) := by decide +kernel
theorem dX5_settleFrom_83 : decode cX5_settleFrom 83 = .ok (.pop, 1) := by decide +kernel
theorem dX5_settleFrom_84 : decode cX5_settleFrom 84 = .ok (.iinc 5 1, 3) := by decide +kernel
theorem dX5_settleFrom_87 : decode cX5_settleFrom 87 = .ok (.goto (-43), 3) := by decide +kernel
theorem dX5_settleFrom_90 : decode cX5_settleFrom 90 = .ok (.iinc 3 1, 3) := by decide +kernel
theorem dX5_settleFrom_93 : decode cX5_settleFrom 93 = .ok (.goto (-79), 3) := by decide +kernel
theorem dX5_settleFrom_96 : decode cX5_settleFrom 96 = .ok (.return_, 1) := by decide +kernel
theorem dX5_closestUnmarked_0 : decode cX5_closestUnmarked 0 = .ok (.iconst (-1), 1) := by decide +kernel
theorem dX5_closestUnmarked_1 : decode cX5_closestUnmarked 1 = .ok (.istore_n 1, 1) := by decide +kernel
theorem dX5_closestUnmarked_2 : decode cX5_closestUnmarked 2 = .ok (.ldc 29, 2) := by decide +kernel
theorem dX5_closestUnmarked_4 : decode cX5_closestUnmarked 4 = .ok (.istore_n 2, 1) := by decide +kernel
theorem dX5_closestUnmarked_5 : decode cX5_closestUnmarked 5 = .ok (.iconst 0, 1) := by decide +kernel
theorem dX5_closestUnmarked_6 : decode cX5_closestUnmarked 6 = .ok (.istore_n 3, 1) := by decide +kernel
theorem dX5_closestUnmarked_7 : decode cX5_closestUnmarked 7 = .ok (.iload_n 3, 1) := by decide +kernel
theorem dX5_closestUnmarked_8 : decode cX5_closestUnmarked 8 = .ok (.bipush 12, 2) := by decide +kernel
theorem dX5_closestUnmarked_10 : decode cX5_closestUnmarked 10 = .ok (.if_icmp .ge 37, 3) := by decide +kernel
theorem dX5_closestUnmarked_13 : decode cX5_closestUnmarked 13 = .ok (.aload_n 0, 1) := by decide +kernel
theorem dX5_closestUnmarked_14 : decode cX5_closestUnmarked 14 = .ok (.getfield 21, 3) := by decide +kernel
theorem dX5_closestUnmarked_17 : decode cX5_closestUnmarked 17 = .ok (.iload_n 3, 1) := by decide +kernel
theorem dX5_closestUnmarked_18 : decode cX5_closestUnmarked 18 = .ok (.baload, 1) := by decide +kernel
theorem dX5_closestUnmarked_19 : decode cX5_closestUnmarked 19 = .ok (.ifCond .ne 22, 3) := by decide +kernel
theorem dX5_closestUnmarked_22 : decode cX5_closestUnmarked 22 = .ok (.aload_n 0, 1) := by decide +kernel
theorem dX5_closestUnmarked_23 : decode cX5_closestUnmarked 23 = .ok (.getfield 9, 3) := by decide +kernel
theorem dX5_closestUnmarked_26 : decode cX5_closestUnmarked 26 = .ok (.iload_n 3, 1) := by decide +kernel
theorem dX5_closestUnmarked_27 : decode cX5_closestUnmarked 27 = .ok (.iaload, 1) := by decide +kernel
theorem dX5_closestUnmarked_28 : decode cX5_closestUnmarked 28 = .ok (.iload_n 2, 1) := by decide +kernel
theorem dX5_closestUnmarked_29 : decode cX5_closestUnmarked 29 = .ok (.if_icmp .ge 12, 3) := by decide +kernel
theorem dX5_closestUnmarked_32 : decode cX5_closestUnmarked 32 = .ok (.iload_n 3, 1) := by decide +kernel
theorem dX5_closestUnmarked_33 : decode cX5_closestUnmarked 33 = .ok (.istore_n 1, 1) := by decide +kernel
theorem dX5_closestUnmarked_34 : decode cX5_closestUnmarked 34 = .ok (.aload_n 0, 1) := by decide +kernel
theorem dX5_closestUnmarked_35 : decode cX5_closestUnmarked 35 = .ok (.getfield 9, 3) := by decide +kernel
theorem dX5_closestUnmarked_38 : decode cX5_closestUnmarked 38 = .ok (.iload_n 3, 1) := by decide +kernel
theorem dX5_closestUnmarked_39 : decode cX5_closestUnmarked 39 = .ok (.iaload, 1) := by decide +kernel
theorem dX5_closestUnmarked_40 : decode cX5_closestUnmarked 40 = .ok (.istore_n 2, 1) := by decide +kernel
theorem dX5_closestUnmarked_41 : decode cX5_closestUnmarked 41 = .ok (.iinc 3 1, 3) := by decide +kernel
theorem dX5_closestUnmarked_44 : decode cX5_closestUnmarked 44 = .ok (.goto (-37), 3) := by decide +kernel
theorem dX5_closestUnmarked_47 : decode cX5_closestUnmarked 47 = .ok (.iload_n 1, 1) := by decide +kernel
theorem dX5_closestUnmarked_48 : decode cX5_closestUnmarked 48 = .ok (.ireturn, 1) := by decide +kernel
theorem dX5_shorten_0 : decode cX5_shorten 0 = .ok (.iload_n 1, 1) := by decide +kernel
theorem dX5_shorten_1 : decode cX5_shorten 1 = .ok (.iconst 0, 1) := by decide +kernel
theorem dX5_shorten_2 : decode cX5_shorten 2 = .ok (.aload_n 0, 1) := by decide +kernel
theorem dX5_shorten_3 : decode cX5_shorten 3 = .ok (.arraylength, 1) := by decide +kernel
theorem dX5_shorten_4 : decode cX5_shorten 4 = .ok (.iconst 1, 1) := by decide +kernel
theorem dX5_shorten_5 : decode cX5_shorten 5 = .ok (.isub, 1) := by decide +kernel
theorem dX5_shorten_6 : decode cX5_shorten 6 = .ok (.invokestatic 25, 3) := by decide +kernel
theorem dX5_shorten_9 : decode cX5_shorten 9 = .ok (.ifCond .eq 15, 3) := by decide +kernel
theorem dX5_shorten_12 : decode cX5_shorten 12 = .ok (.iload_n 2, 1) := by decide +kernel
theorem dX5_shorten_13 : decode cX5_shorten 13 = .ok (.iconst 0, 1) := by decide +kernel
theorem dX5_shorten_14 : decode cX5_shorten 14 = .ok (.aload_n 0, 1) := by decide +kernel
theorem dX5_shorten_15 : decode cX5_shorten 15 = .ok (.arraylength, 1) := by decide +kernel
theorem dX5_shorten_16 : decode cX5_shorten 16 = .ok (.iconst 1, 1) := by decide +kernel
theorem dX5_shorten_17 : decode cX5_shorten 17 = .ok (.isub, 1) := by decide +kernel
theorem dX5_shorten_18 : decode cX5_shorten 18 = .ok (.invokestatic 25, 3) := by decide +kernel
theorem dX5_shorten_21 : decode cX5_shorten 21 = .ok (.ifCond .ne 5, 3) := by decide +kernel
theorem dX5_shorten_24 : decode cX5_shorten 24 = .ok (.iconst 0, 1) := by decide +kernel
theorem dX5_shorten_25 : decode cX5_shorten 25 = .ok (.ireturn, 1) := by decide +kernel
theorem dX5_shorten_26 : decode cX5_shorten 26 = .ok (.aload_n 0, 1) := by decide +kernel
theorem dX5_shorten_27 : decode cX5_shorten 27 = .ok (.iload_n 1, 1) := by decide +kernel
theorem dX5_shorten_28 : decode cX5_shorten 28 = .ok (.iaload, 1) := by decide +kernel
theorem dX5_shorten_29 : decode cX5_shorten 29 = .ok (.ldc 29, 2) := by decide +kernel
theorem dX5_shorten_31 : decode cX5_shorten 31 = .ok (.if_icmp .ge 14, 3) := by decide +kernel
theorem dX5_shorten_34 : decode cX5_shorten 34 = .ok (.aload_n 0, 1) := by decide +kernel
theorem dX5_shorten_35 : decode cX5_shorten 35 = .ok (.iload_n 1, 1) := by decide +kernel
theorem dX5_shorten_36 : decode cX5_shorten 36 = .ok (.iaload, 1) := by decide +kernel
theorem dX5_shorten_37 : decode cX5_shorten 37 = .ok (.iload_n 3, 1) := by decide +kernel
theorem dX5_shorten_38 : decode cX5_shorten 38 = .ok (.iadd, 1) := by decide +kernel
theorem dX5_shorten_39 : decode cX5_shorten 39 = .ok (.aload_n 0, 1) := by decide +kernel
theorem dX5_shorten_40 : decode cX5_shorten 40 = .ok (.iload_n 2, 1) := by decide +kernel
theorem dX5_shorten_41 : decode cX5_shorten 41 = .ok (.iaload, 1) := by decide +kernel
theorem dX5_shorten_42 : decode cX5_shorten 42 = .ok (.if_icmp .lt 5, 3) := by decide +kernel
theorem dX5_shorten_45 : decode cX5_shorten 45 = .ok (.iconst 0, 1) := by decide +kernel
theorem dX5_shorten_46 : decode cX5_shorten 46 = .ok (.ireturn, 1) := by decide +kernel
theorem dX5_shorten_47 : decode cX5_shorten 47 = .ok (.aload_n 0, 1) := by decide +kernel
theorem dX5_shorten_48 : decode cX5_shorten 48 = .ok (.iload_n 2, 1) := by decide +kernel
theorem dX5_shorten_49 : decode cX5_shorten 49 = .ok (.aload_n 0, 1) := by decide +kernel
theorem dX5_shorten_50 : decode cX5_shorten 50 = .ok (.iload_n 1, 1) := by decide +kernel
theorem dX5_shorten_51 : decode cX5_shorten 51 = .ok (.iaload, 1) := by decide +kernel
theorem dX5_shorten_52 : decode cX5_shorten 52 = .ok (.iload_n 3, 1) := by decide +kernel
theorem dX5_shorten_53 : decode cX5_shorten 53 = .ok (.iadd, 1) := by decide +kernel
theorem dX5_shorten_54 : decode cX5_shorten 54 = .ok (.iastore, 1) := by decide +kernel
theorem dX5_shorten_55 : decode cX5_shorten 55 = .ok (.iconst 1, 1) := by decide +kernel
theorem dX5_shorten_56 : decode cX5_shorten 56 = .ok (.ireturn, 1) := by decide +kernel
theorem dX5_relaxFrom_0 : decode cX5_relaxFrom 0 = .ok (.aload_n 0, 1) := by decide +kernel
theorem dX5_relaxFrom_1 : decode cX5_relaxFrom 1 = .ok (.getfield 15, 3) := by decide +kernel
theorem dX5_relaxFrom_4 : decode cX5_relaxFrom 4 = .ok (.iload_n 2, 1) := by decide +kernel
theorem dX5_relaxFrom_5 : decode cX5_relaxFrom 5 = .ok (.invokestatic 30, 3) := by decide +kernel
theorem dX5_relaxFrom_8 : decode cX5_relaxFrom 8 = .ok (.iconst 1, 1) := by decide +kernel
theorem dX5_relaxFrom_9 : decode cX5_relaxFrom 9 = .ok (.istore_n 3, 1) := by decide +kernel
theorem dX5_relaxFrom_10 : decode cX5_relaxFrom 10 = .ok (.iconst 0, 1) := by decide +kernel
theorem dX5_relaxFrom_11 : decode cX5_relaxFrom 11 = .ok (.istore 4, 2) := by decide +kernel
theorem dX5_relaxFrom_13 : decode cX5_relaxFrom 13 = .ok (.iload_n 3, 1) := by decide +kernel
theorem dX5_relaxFrom_14 : decode cX5_relaxFrom 14 = .ok (.ifCond .eq 22, 3) := by decide +kernel
theorem dX5_relaxFrom_17 : decode cX5_relaxFrom 17 = .ok (.iload 4, 2) := by decide +kernel
theorem dX5_relaxFrom_19 : decode cX5_relaxFrom 19 = .ok (.bipush 12, 2) := by decide +kernel
theorem dX5_relaxFrom_21 : decode cX5_relaxFrom 21 = .ok (.if_icmp .ge 15, 3) := by decide +kernel
theorem dX5_relaxFrom_24 : decode cX5_relaxFrom 24 = .ok (.aload_n 0, 1) := by decide +kernel
theorem dX5_relaxFrom_25 : decode cX5_relaxFrom 25 = .ok (.aload_n 1, 1) := by decide +kernel
theorem dX5_relaxFrom_26 : decode cX5_relaxFrom 26 = .ok (.invokevirtual 59, 3) := by decide +kernel
theorem dX5_relaxFrom_29 : decode cX5_relaxFrom 29 = .ok (.istore_n 3, 1) := by decide +kernel
theorem dX5_relaxFrom_30 : decode cX5_relaxFrom 30 = .ok (.iinc 4 1, 3) := by decide +kernel
theorem dX5_relaxFrom_33 : decode cX5_relaxFrom 33 = .ok (.goto (-20), 3) := by decide +kernel
theorem dX5_relaxFrom_36 : decode cX5_relaxFrom 36 = .ok (.return_, 1) := by decide +kernel
theorem dX5_relaxAll_0 : decode cX5_relaxAll 0 = .ok (.iconst 0, 1) := by decide +kernel
theorem dX5_relaxAll_1 : decode cX5_relaxAll 1 = .ok (.istore_n 2, 1) := by decide +kernel
theorem dX5_relaxAll_2 : decode cX5_relaxAll 2 = .ok (.iconst 0, 1) := by decide +kernel
theorem dX5_relaxAll_3 : decode cX5_relaxAll 3 = .ok (.istore_n 3, 1) := by decide +kernel
theorem dX5_relaxAll_4 : decode cX5_relaxAll 4 = .ok (.iload_n 3, 1) := by decide +kernel
theorem dX5_relaxAll_5 : decode cX5_relaxAll 5 = .ok (.aload_n 1, 1) := by decide +kernel
theorem dX5_relaxAll_6 : decode cX5_relaxAll 6 = .ok (.getfield 41, 3) := by decide +kernel
theorem dX5_relaxAll_9 : decode cX5_relaxAll 9 = .ok (.if_icmp .ge 59, 3) := by decide +kernel
theorem dX5_relaxAll_12 : decode cX5_relaxAll 12 = .ok (.iconst 0, 1) := by decide +kernel
theorem dX5_relaxAll_13 : decode cX5_relaxAll 13 = .ok (.istore 4, 2) := by decide +kernel
theorem dX5_relaxAll_15 : decode cX5_relaxAll 15 = .ok (.iload 4, 2) := by decide +kernel
theorem dX5_relaxAll_17 : decode cX5_relaxAll 17 = .ok (.aload_n 1, 1) := by decide +kernel
theorem dX5_relaxAll_18 : decode cX5_relaxAll 18 = .ok (.getfield 41, 3) := by decide +kernel
theorem dX5_relaxAll_21 : decode cX5_relaxAll 21 = .ok (.if_icmp .ge 41, 3) := by decide +kernel
theorem dX5_relaxAll_24 : decode cX5_relaxAll 24 = .ok (.aload_n 1, 1) := by decide +kernel
theorem dX5_relaxAll_25 : decode cX5_relaxAll 25 = .ok (.iload_n 3, 1) := by decide +kernel
theorem dX5_relaxAll_26 : decode cX5_relaxAll 26 = .ok (.iload 4, 2) := by decide +kernel
theorem dX5_relaxAll_28 : decode cX5_relaxAll 28 = .ok (.invokevirtual 47, 3) := by decide +kernel
theorem dX5_relaxAll_31 : decode cX5_relaxAll 31 = .ok (.ifCond .eq 25, 3) := by decide +kernel
theorem dX5_relaxAll_34 : decode cX5_relaxAll 34 = .ok (.aload_n 0, 1) := by decide +kernel
theorem dX5_relaxAll_35 : decode cX5_relaxAll 35 = .ok (.getfield 15, 3) := by decide +kernel
theorem dX5_relaxAll_38 : decode cX5_relaxAll 38 = .ok (.iload_n 3, 1) := by decide +kernel
theorem dX5_relaxAll_39 : decode cX5_relaxAll 39 = .ok (.iload 4, 2) := by decide +kernel
theorem dX5_relaxAll_41 : decode cX5_relaxAll 41 = .ok (.aload_n 1, 1) := by decide +kernel
theorem dX5_relaxAll_42 : decode cX5_relaxAll 42 = .ok (.iload_n 3, 1) := by decide +kernel
theorem dX5_relaxAll_43 : decode cX5_relaxAll 43 = .ok (.iload 4, 2) := by decide +kernel
theorem dX5_relaxAll_45 : decode cX5_relaxAll 45 = .ok (.invokevirtual 51, 3) := by decide +kernel
theorem dX5_relaxAll_48 : decode cX5_relaxAll 48 = .ok (.invokestatic 55, 3) := by decide +kernel
theorem dX5_relaxAll_51 : decode cX5_relaxAll 51 = .ok (.ifCond .eq 5, 3) := by decide +kernel
theorem dX5_relaxAll_54 : decode cX5_relaxAll 54 = .ok (.iconst 1, 1) := by decide +kernel
theorem dX5_relaxAll_55 : decode cX5_relaxAll 55 = .ok (.istore_n 2, 1) := by decide +kernel
theorem dX5_relaxAll_56 : decode cX5_relaxAll 56 = .ok (.iinc 4 1, 3) := by decide +kernel
theorem dX5_relaxAll_59 : decode cX5_relaxAll 59 = .ok (.goto (-44), 3) := by decide +kernel
theorem dX5_relaxAll_62 : decode cX5_relaxAll 62 = .ok (.iinc 3 1, 3) := by decide +kernel
theorem dX5_relaxAll_65 : decode cX5_relaxAll 65 = .ok (.goto (-61), 3) := by decide +kernel
theorem dX5_relaxAll_68 : decode cX5_relaxAll 68 = .ok (.iload_n 2, 1) := by decide +kernel
theorem dX5_relaxAll_69 : decode cX5_relaxAll 69 = .ok (.ireturn, 1) := by decide +kernel
theorem dX5_distancesAgree_0 : decode cX5_distancesAgree 0 = .ok (.iconst 0, 1) := by decide +kernel
theorem dX5_distancesAgree_1 : decode cX5_distancesAgree 1 = .ok (.istore_n 2, 1) := by decide +kernel
theorem dX5_distancesAgree_2 : decode cX5_distancesAgree 2 = .ok (.iload_n 2, 1) := by decide +kernel
theorem dX5_distancesAgree_3 : decode cX5_distancesAgree 3 = .ok (.aload_n 1, 1) := by decide +kernel
theorem dX5_distancesAgree_4 : decode cX5_distancesAgree 4 = .ok (.getfield 41, 3) := by decide +kernel
theorem dX5_distancesAgree_7 : decode cX5_distancesAgree 7 = .ok (.if_icmp .ge 52, 3) := by decide +kernel
theorem dX5_distancesAgree_10 : decode cX5_distancesAgree 10 = .ok (.aload_n 0, 1) := by decide +kernel
theorem dX5_distancesAgree_11 : decode cX5_distancesAgree 11 = .ok (.aload_n 1, 1) := by decide +kernel
theorem dX5_distancesAgree_12 : decode cX5_distancesAgree 12 = .ok (.iload_n 2, 1) := by decide +kernel
theorem dX5_distancesAgree_13 : decode cX5_distancesAgree 13 = .ok (.invokevirtual 63, 3) := by decide +kernel
theorem dX5_distancesAgree_16 : decode cX5_distancesAgree 16 = .ok (.aload_n 0, 1) := by decide +kernel
theorem dX5_distancesAgree_17 : decode cX5_distancesAgree 17 = .ok (.aload_n 1, 1) := by decide +kernel
theorem dX5_distancesAgree_18 : decode cX5_distancesAgree 18 = .ok (.iload_n 2, 1) := by decide +kernel
theorem dX5_distancesAgree_19 : decode cX5_distancesAgree 19 = .ok (.invokevirtual 67, 3) := by decide +kernel
theorem dX5_distancesAgree_22 : decode cX5_distancesAgree 22 = .ok (.iconst 0, 1) := by decide +kernel
theorem dX5_distancesAgree_23 : decode cX5_distancesAgree 23 = .ok (.istore_n 3, 1) := by decide +kernel
theorem dX5_distancesAgree_24 : decode cX5_distancesAgree 24 = .ok (.iload_n 3, 1) := by decide +kernel
theorem dX5_distancesAgree_25 : decode cX5_distancesAgree 25 = .ok (.aload_n 1, 1) := by decide +kernel
theorem dX5_distancesAgree_26 : decode cX5_distancesAgree 26 = .ok (.getfield 41, 3) := by decide +kernel
theorem dX5_distancesAgree_29 : decode cX5_distancesAgree 29 = .ok (.if_icmp .ge 24, 3) := by decide +kernel
theorem dX5_distancesAgree_32 : decode cX5_distancesAgree 32 = .ok (.aload_n 0, 1) := by decide +kernel
theorem dX5_distancesAgree_33 : decode cX5_distancesAgree 33 = .ok (.iload_n 3, 1) := by decide +kernel
theorem dX5_distancesAgree_34 : decode cX5_distancesAgree 34 = .ok (.invokevirtual 70, 3) := by decide +kernel
theorem dX5_distancesAgree_37 : decode cX5_distancesAgree 37 = .ok (.aload_n 0, 1) := by decide +kernel
theorem dX5_distancesAgree_38 : decode cX5_distancesAgree 38 = .ok (.iload_n 3, 1) := by decide +kernel
theorem dX5_distancesAgree_39 : decode cX5_distancesAgree 39 = .ok (.invokevirtual 74, 3) := by decide +kernel
theorem dX5_distancesAgree_42 : decode cX5_distancesAgree 42 = .ok (.if_icmp .eq 5, 3) := by decide +kernel
theorem dX5_distancesAgree_45 : decode cX5_distancesAgree 45 = .ok (.iconst 0, 1) := by decide +kernel
theorem dX5_distancesAgree_46 : decode cX5_distancesAgree 46 = .ok (.ireturn, 1) := by decide +kernel
theorem dX5_distancesAgree_47 : decode cX5_distancesAgree 47 = .ok (.iinc 3 1, 3) := by decide +kernel
theorem dX5_distancesAgree_50 : decode cX5_distancesAgree 50 = .ok (.goto (-26), 3) := by decide +kernel
theorem dX5_distancesAgree_53 : decode cX5_distancesAgree 53 = .ok (.iinc 2 1, 3) := by decide +kernel
theorem dX5_distancesAgree_56 : decode cX5_distancesAgree 56 = .ok (.goto (-54), 3) := by decide +kernel
theorem dX5_distancesAgree_59 : decode cX5_distancesAgree 59 = .ok (.iconst 1, 1) := by decide +kernel
theorem dX5_distancesAgree_60 : decode cX5_distancesAgree 60 = .ok (.ireturn, 1) := by decide +kernel
theorem dX5_nextTowardsStart_0 : decode cX5_nextTowardsStart 0 = .ok (.iconst 0, 1) := by decide +kernel
theorem dX5_nextTowardsStart_1 : decode cX5_nextTowardsStart 1 = .ok (.istore_n 3, 1) := by decide +kernel
theorem dX5_nextTowardsStart_2 : decode cX5_nextTowardsStart 2 = .ok (.iload_n 3, 1) := by decide +kernel
theorem dX5_nextTowardsStart_3 : decode cX5_nextTowardsStart 3 = .ok (.aload_n 1, 1) := by decide +kernel
theorem dX5_nextTowardsStart_4 : decode cX5_nextTowardsStart 4 = .ok (.getfield 41, 3) := by decide +kernel
theorem dX5_nextTowardsStart_7 : decode cX5_nextTowardsStart 7 = .ok (.if_icmp .ge 40, 3) := by decide +kernel
theorem dX5_nextTowardsStart_10 : decode cX5_nextTowardsStart 10 = .ok (.aload_n 1, 1) := by decide +kernel
theorem dX5_nextTowardsStart_11 : decode cX5_nextTowardsStart 11 = .ok (.iload_n 2, 1) := by decide +kernel
theorem dX5_nextTowardsStart_12 : decode cX5_nextTowardsStart 12 = .ok (.iload_n 3, 1) := by decide +kernel
theorem dX5_nextTowardsStart_13 : decode cX5_nextTowardsStart 13 = .ok (.invokevirtual 47, 3) := by decide +kernel
theorem dX5_nextTowardsStart_16 : decode cX5_nextTowardsStart 16 = .ok (.ifCond .eq 25, 3) := by decide +kernel
theorem dX5_nextTowardsStart_19 : decode cX5_nextTowardsStart 19 = .ok (.aload_n 0, 1) := by decide +kernel
theorem dX5_nextTowardsStart_20 : decode cX5_nextTowardsStart 20 = .ok (.iload_n 3, 1) := by decide +kernel
theorem dX5_nextTowardsStart_21 : decode cX5_nextTowardsStart 21 = .ok (.invokevirtual 70, 3) := by decide +kernel
theorem dX5_nextTowardsStart_24 : decode cX5_nextTowardsStart 24 = .ok (.aload_n 1, 1) := by decide +kernel
theorem dX5_nextTowardsStart_25 : decode cX5_nextTowardsStart 25 = .ok (.iload_n 2, 1) := by decide +kernel
theorem dX5_nextTowardsStart_26 : decode cX5_nextTowardsStart 26 = .ok (.iload_n 3, 1) := by decide +kernel
theorem dX5_nextTowardsStart_27 : decode cX5_nextTowardsStart 27 = .ok (.invokevirtual 51, 3) := by decide +kernel
theorem dX5_nextTowardsStart_30 : decode cX5_nextTowardsStart 30 = .ok (.iadd, 1) := by decide +kernel
theorem dX5_nextTowardsStart_31 : decode cX5_nextTowardsStart 31 = .ok (.aload_n 0, 1) := by decide +kernel
theorem dX5_nextTowardsStart_32 : decode cX5_nextTowardsStart 32 = .ok (.iload_n 2, 1) := by decide +kernel
theorem dX5_nextTowardsStart_33 : decode cX5_nextTowardsStart 33 = .ok (.invokevirtual 70, 3) := by decide +kernel
theorem dX5_nextTowardsStart_36 : decode cX5_nextTowardsStart 36 = .ok (.if_icmp .ne 5, 3) := by decide +kernel
theorem dX5_nextTowardsStart_39 : decode cX5_nextTowardsStart 39 = .ok (.iload_n 3, 1) := by decide +kernel
theorem dX5_nextTowardsStart_40 : decode cX5_nextTowardsStart 40 = .ok (.ireturn, 1) := by decide +kernel
theorem dX5_nextTowardsStart_41 : decode cX5_nextTowardsStart 41 = .ok (.iinc 3 1, 3) := by decide +kernel
theorem dX5_nextTowardsStart_44 : decode cX5_nextTowardsStart 44 = .ok (.goto (-42), 3) := by decide +kernel
theorem dX5_nextTowardsStart_47 : decode cX5_nextTowardsStart 47 = .ok (.iconst (-1), 1) := by decide +kernel
theorem dX5_nextTowardsStart_48 : decode cX5_nextTowardsStart 48 = .ok (.ireturn, 1) := by decide +kernel
theorem dX5_countBySearch_0 : decode cX5_countBySearch 0 = .ok (.aload_n 0, 1) := by decide +kernel
theorem dX5_countBySearch_1 : decode cX5_countBySearch 1 = .ok (.invokevirtual 34, 3) := by decide +kernel
theorem dX5_countBySearch_4 : decode cX5_countBySearch 4 = .ok (.iconst 0, 1) := by decide +kernel
theorem dX5_countBySearch_5 : decode cX5_countBySearch 5 = .ok (.istore_n 2, 1) := by decide +kernel
theorem dX5_countBySearch_6 : decode cX5_countBySearch 6 = .ok (.iconst 0, 1) := by decide +kernel
theorem dX5_countBySearch_7 : decode cX5_countBySearch 7 = .ok (.istore_n 3, 1) := by decide +kernel
theorem dX5_countBySearch_8 : decode cX5_countBySearch 8 = .ok (.iload_n 3, 1) := by decide +kernel
theorem dX5_countBySearch_9 : decode cX5_countBySearch 9 = .ok (.aload_n 1, 1) := by decide +kernel
theorem dX5_countBySearch_10 : decode cX5_countBySearch 10 = .ok (.getfield 41, 3) := by decide +kernel
theorem dX5_countBySearch_13 : decode cX5_countBySearch 13 = .ok (.if_icmp .ge 37, 3) := by decide +kernel
theorem dX5_countBySearch_16 : decode cX5_countBySearch 16 = .ok (.iload_n 3, 1) := by decide +kernel
theorem dX5_countBySearch_17 : decode cX5_countBySearch 17 = .ok (.bipush 12, 2) := by decide +kernel
theorem dX5_countBySearch_19 : decode cX5_countBySearch 19 = .ok (.if_icmp .ge 31, 3) := by decide +kernel
theorem dX5_countBySearch_22 : decode cX5_countBySearch 22 = .ok (.aload_n 0, 1) := by decide +kernel
theorem dX5_countBySearch_23 : decode cX5_countBySearch 23 = .ok (.getfield 21, 3) := by decide +kernel
theorem dX5_countBySearch_26 : decode cX5_countBySearch 26 = .ok (.iload_n 3, 1) := by decide +kernel
theorem dX5_countBySearch_27 : decode cX5_countBySearch 27 = .ok (.baload, 1) := by decide +kernel
theorem dX5_countBySearch_28 : decode cX5_countBySearch 28 = .ok (.ifCond .ne 16, 3) := by decide +kernel
theorem dX5_countBySearch_31 : decode cX5_countBySearch 31 = .ok (.iinc 2 1, 3) := by decide +kernel
theorem dX5_countBySearch_34 : decode cX5_countBySearch 34 = .ok (.aload_n 1, 1) := by decide +kernel
theorem dX5_countBySearch_35 : decode cX5_countBySearch 35 = .ok (.aload_n 0, 1) := by decide +kernel
theorem dX5_countBySearch_36 : decode cX5_countBySearch 36 = .ok (.getfield 21, 3) := by decide +kernel
theorem dX5_countBySearch_39 : decode cX5_countBySearch 39 = .ok (.iload_n 3, 1) := by decide +kernel
theorem dX5_countBySearch_40 : decode cX5_countBySearch 40 = .ok (.iconst 1, 1) := by decide +kernel
theorem dX5_countBySearch_41 : decode cX5_countBySearch 41 = .ok (.invokestatic 77, 3) := by decide +kernel
theorem dX5_countBySearch_44 : decode cX5_countBySearch 44 = .ok (.iinc 3 1, 3) := by decide +kernel
theorem dX5_countBySearch_47 : decode cX5_countBySearch 47 = .ok (.goto (-39), 3) := by decide +kernel
theorem dX5_countBySearch_50 : decode cX5_countBySearch 50 = .ok (.iload_n 2, 1) := by decide +kernel
theorem dX5_countBySearch_51 : decode cX5_countBySearch 51 = .ok (.ireturn, 1) := by decide +kernel
theorem dX5_search_0 : decode cX5_search 0 = .ok (.iload_n 3, 1) := by decide +kernel
theorem dX5_search_1 : decode cX5_search 1 = .ok (.bipush 12, 2) := by decide +kernel
theorem dX5_search_3 : decode cX5_search 3 = .ok (.if_icmp .gt 13, 3) := by decide +kernel
theorem dX5_search_6 : decode cX5_search 6 = .ok (.iload_n 2, 1) := by decide +kernel
theorem dX5_search_7 : decode cX5_search 7 = .ok (.ifCond .lt 9, 3) := by decide +kernel
theorem dX5_search_10 : decode cX5_search 10 = .ok (.iload_n 2, 1) := by decide +kernel
theorem dX5_search_11 : decode cX5_search 11 = .ok (.aload_n 1, 1) := by decide +kernel
theorem dX5_search_12 : decode cX5_search 12 = .ok (.arraylength, 1) := by decide +kernel
theorem dX5_search_13 : decode cX5_search 13 = .ok (.if_icmp .lt 4, 3) := by decide +kernel
theorem dX5_search_16 : decode cX5_search 16 = .ok (.return_, 1) := by decide +kernel
theorem dX5_search_17 : decode cX5_search 17 = .ok (.aload_n 1, 1) := by decide +kernel
theorem dX5_search_18 : decode cX5_search 18 = .ok (.iload_n 2, 1) := by decide +kernel
theorem dX5_search_19 : decode cX5_search 19 = .ok (.iconst 1, 1) := by decide +kernel
theorem dX5_search_20 : decode cX5_search 20 = .ok (.bastore, 1) := by decide +kernel
theorem dX5_search_21 : decode cX5_search 21 = .ok (.iconst 0, 1) := by decide +kernel
theorem dX5_search_22 : decode cX5_search 22 = .ok (.istore 4, 2) := by decide +kernel
theorem dX5_search_24 : decode cX5_search 24 = .ok (.iload 4, 2) := by decide +kernel
theorem dX5_search_26 : decode cX5_search 26 = .ok (.aload_n 0, 1) := by decide +kernel
theorem dX5_search_27 : decode cX5_search 27 = .ok (.getfield 41, 3) := by decide +kernel
theorem dX5_search_30 : decode cX5_search 30 = .ok (.if_icmp .ge 43, 3) := by decide +kernel
theorem dX5_search_33 : decode cX5_search 33 = .ok (.iload 4, 2) := by decide +kernel
theorem dX5_search_35 : decode cX5_search 35 = .ok (.aload_n 1, 1) := by decide +kernel
theorem dX5_search_36 : decode cX5_search 36 = .ok (.arraylength, 1) := by decide +kernel
theorem dX5_search_37 : decode cX5_search 37 = .ok (.if_icmp .ge 36, 3) := by decide +kernel
theorem dX5_search_40 : decode cX5_search 40 = .ok (.aload_n 1, 1) := by decide +kernel
theorem dX5_search_41 : decode cX5_search 41 = .ok (.iload 4, 2) := by decide +kernel
theorem dX5_search_43 : decode cX5_search 43 = .ok (.baload, 1) := by decide +kernel
theorem dX5_search_44 : decode cX5_search 44 = .ok (.ifCond .ne 23, 3) := by decide +kernel
theorem dX5_search_47 : decode cX5_search 47 = .ok (.aload_n 0, 1) := by decide +kernel
theorem dX5_search_48 : decode cX5_search 48 = .ok (.iload_n 2, 1) := by decide +kernel
theorem dX5_search_49 : decode cX5_search 49 = .ok (.iload 4, 2) := by decide +kernel
theorem dX5_search_51 : decode cX5_search 51 = .ok (.invokevirtual 47, 3) := by decide +kernel
theorem dX5_search_54 : decode cX5_search 54 = .ok (.ifCond .eq 13, 3) := by decide +kernel
theorem dX5_search_57 : decode cX5_search 57 = .ok (.aload_n 0, 1) := by decide +kernel
theorem dX5_search_58 : decode cX5_search 58 = .ok (.aload_n 1, 1) := by decide +kernel
theorem dX5_search_59 : decode cX5_search 59 = .ok (.iload 4, 2) := by decide +kernel
theorem dX5_search_61 : decode cX5_search 61 = .ok (.iload_n 3, 1) := by decide +kernel
theorem dX5_search_62 : decode cX5_search 62 = .ok (.iconst 1, 1) := by decide +kernel
theorem dX5_search_63 : decode cX5_search 63 = .ok (.iadd, 1) := by decide +kernel
theorem dX5_search_64 : decode cX5_search 64 = .ok (.invokestatic 77, 3) := by decide +kernel
theorem dX5_search_67 : decode cX5_search 67 = .ok (.iinc 4 1, 3) := by decide +kernel
theorem dX5_search_70 : decode cX5_search 70 = .ok (.goto (-46), 3) := by decide +kernel
theorem dX5_search_73 : decode cX5_search 73 = .ok (.return_, 1) := by decide +kernel
theorem dX5_countByMerging_0 : decode cX5_countByMerging 0 = .ok (.iconst 0, 1) := by decide +kernel
theorem dX5_countByMerging_1 : decode cX5_countByMerging 1 = .ok (.istore_n 2, 1) := by decide +kernel
theorem dX5_countByMerging_2 : decode cX5_countByMerging 2 = .ok (.iload_n 2, 1) := by decide +kernel
theorem dX5_countByMerging_3 : decode cX5_countByMerging 3 = .ok (.bipush 12, 2) := by decide +kernel
theorem dX5_countByMerging_5 : decode cX5_countByMerging 5 = .ok (.if_icmp .ge 16, 3) := by decide +kernel
theorem dX5_countByMerging_8 : decode cX5_countByMerging 8 = .ok (.aload_n 0, 1) := by decide +kernel
theorem dX5_countByMerging_9 : decode cX5_countByMerging 9 = .ok (.getfield 18, 3) := by decide +kernel
theorem dX5_countByMerging_12 : decode cX5_countByMerging 12 = .ok (.iload_n 2, 1) := by decide +kernel
theorem dX5_countByMerging_13 : decode cX5_countByMerging 13 = .ok (.iload_n 2, 1) := by decide +kernel
theorem dX5_countByMerging_14 : decode cX5_countByMerging 14 = .ok (.iastore, 1) := by decide +kernel
theorem dX5_countByMerging_15 : decode cX5_countByMerging 15 = .ok (.iinc 2 1, 3) := by decide +kernel
theorem dX5_countByMerging_18 : decode cX5_countByMerging 18 = .ok (.goto (-16), 3) := by decide +kernel
theorem dX5_countByMerging_21 : decode cX5_countByMerging 21 = .ok (.aload_n 1, 1) := by decide +kernel
theorem dX5_countByMerging_22 : decode cX5_countByMerging 22 = .ok (.getfield 41, 3) := by decide +kernel
theorem dX5_countByMerging_25 : decode cX5_countByMerging 25 = .ok (.istore_n 2, 1) := by decide +kernel
theorem dX5_countByMerging_26 : decode cX5_countByMerging 26 = .ok (.iconst 0, 1) := by decide +kernel
theorem dX5_countByMerging_27 : decode cX5_countByMerging 27 = .ok (.istore_n 3, 1) := by decide +kernel
theorem dX5_countByMerging_28 : decode cX5_countByMerging 28 = .ok (.iload_n 3, 1) := by decide +kernel
theorem dX5_countByMerging_29 : decode cX5_countByMerging 29 = .ok (.aload_n 1, 1) := by decide +kernel
theorem dX5_countByMerging_30 : decode cX5_countByMerging 30 = .ok (.getfield 41, 3) := by decide +kernel
theorem dX5_countByMerging_33 : decode cX5_countByMerging 33 = .ok (.if_icmp .ge 52, 3) := by decide +kernel
theorem dX5_countByMerging_36 : decode cX5_countByMerging 36 = .ok (.iload_n 3, 1) := by decide +kernel
theorem dX5_countByMerging_37 : decode cX5_countByMerging 37 = .ok (.iconst 1, 1) := by decide +kernel
theorem dX5_countByMerging_38 : decode cX5_countByMerging 38 = .ok (.iadd, 1) := by decide +kernel
theorem dX5_countByMerging_39 : decode cX5_countByMerging 39 = .ok (.istore 4, 2) := by decide +kernel
theorem dX5_countByMerging_41 : decode cX5_countByMerging 41 = .ok (.iload 4, 2) := by decide +kernel
theorem dX5_countByMerging_43 : decode cX5_countByMerging 43 = .ok (.aload_n 1, 1) := by decide +kernel
theorem dX5_countByMerging_44 : decode cX5_countByMerging 44 = .ok (.getfield 41, 3) := by decide +kernel
theorem dX5_countByMerging_47 : decode cX5_countByMerging 47 = .ok (.if_icmp .ge 32, 3) := by decide +kernel
theorem dX5_countByMerging_50 : decode cX5_countByMerging 50 = .ok (.aload_n 1, 1) := by decide +kernel
theorem dX5_countByMerging_51 : decode cX5_countByMerging 51 = .ok (.iload_n 3, 1) := by decide +kernel
theorem dX5_countByMerging_52 : decode cX5_countByMerging 52 = .ok (.iload 4, 2) := by decide +kernel
theorem dX5_countByMerging_54 : decode cX5_countByMerging 54 = .ok (.invokevirtual 47, 3) := by decide +kernel
theorem dX5_countByMerging_57 : decode cX5_countByMerging 57 = .ok (.ifCond .eq 16, 3) := by decide +kernel
theorem dX5_countByMerging_60 : decode cX5_countByMerging 60 = .ok (.aload_n 0, 1) := by decide +kernel
theorem dX5_countByMerging_61 : decode cX5_countByMerging 61 = .ok (.iload_n 3, 1) := by decide +kernel
theorem dX5_countByMerging_62 : decode cX5_countByMerging 62 = .ok (.iload 4, 2) := by decide +kernel
theorem dX5_countByMerging_64 : decode cX5_countByMerging 64 = .ok (.invokevirtual 81, 3) := by decide +kernel
theorem dX5_countByMerging_67 : decode cX5_countByMerging 67 = .ok (.ifCond .eq 6, 3) := by decide +kernel
theorem dX5_countByMerging_70 : decode cX5_countByMerging 70 = .ok (.iinc 2 (-1), 3) := by decide +kernel
theorem dX5_countByMerging_73 : decode cX5_countByMerging 73 = .ok (.iinc 4 1, 3) := by decide +kernel
theorem dX5_countByMerging_76 : decode cX5_countByMerging 76 = .ok (.goto (-35), 3) := by decide +kernel
theorem dX5_countByMerging_79 : decode cX5_countByMerging 79 = .ok (.iinc 3 1, 3) := by decide +kernel
theorem dX5_countByMerging_82 : decode cX5_countByMerging 82 = .ok (.goto (-54), 3) := by decide +kernel
theorem dX5_countByMerging_85 : decode cX5_countByMerging 85 = .ok (.iload_n 2, 1) := by decide +kernel
theorem dX5_countByMerging_86 : decode cX5_countByMerging 86 = .ok (.ireturn, 1) := by decide +kernel
theorem dX5_merge_0 : decode cX5_merge 0 = .ok (.aload_n 0, 1) := by decide +kernel
theorem dX5_merge_1 : decode cX5_merge 1 = .ok (.iload_n 1, 1) := by decide +kernel
theorem dX5_merge_2 : decode cX5_merge 2 = .ok (.invokevirtual 84, 3) := by decide +kernel
theorem dX5_merge_5 : decode cX5_merge 5 = .ok (.istore_n 3, 1) := by decide +kernel
theorem dX5_merge_6 : decode cX5_merge 6 = .ok (.aload_n 0, 1) := by decide +kernel
theorem dX5_merge_7 : decode cX5_merge 7 = .ok (.iload_n 2, 1) := by decide +kernel
theorem dX5_merge_8 : decode cX5_merge 8 = .ok (.invokevirtual 84, 3) := by decide +kernel
theorem dX5_merge_11 : decode cX5_merge 11 = .ok (.istore 4, 2) := by decide +kernel
theorem dX5_merge_13 : decode cX5_merge 13 = .ok (.iload_n 3, 1) := by decide +kernel
theorem dX5_merge_14 : decode cX5_merge 14 = .ok (.iload 4, 2) := by decide +kernel
theorem dX5_merge_16 : decode cX5_merge 16 = .ok (.if_icmp .eq 14, 3) := by decide +kernel
theorem dX5_merge_19 : decode cX5_merge 19 = .ok (.iload 4, 2) := by decide +kernel
theorem dX5_merge_21 : decode cX5_merge 21 = .ok (.iconst 0, 1) := by decide +kernel
theorem dX5_merge_22 : decode cX5_merge 22 = .ok (.bipush 11, 2) := by decide +kernel
theorem dX5_merge_24 : decode cX5_merge 24 = .ok (.invokestatic 25, 3) := by decide +kernel
theorem dX5_merge_27 : decode cX5_merge 27 = .ok (.ifCond .ne 5, 3) := by decide +kernel
theorem dX5_merge_30 : decode cX5_merge 30 = .ok (.iconst 0, 1) := by decide +kernel
theorem dX5_merge_31 : decode cX5_merge 31 = .ok (.ireturn, 1) := by decide +kernel
theorem dX5_merge_32 : decode cX5_merge 32 = .ok (.aload_n 0, 1) := by decide +kernel
theorem dX5_merge_33 : decode cX5_merge 33 = .ok (.getfield 18, 3) := by decide +kernel
theorem dX5_merge_36 : decode cX5_merge 36 = .ok (.iload 4, 2) := by decide +kernel
theorem dX5_merge_38 : decode cX5_merge 38 = .ok (.iload_n 3, 1) := by decide +kernel
theorem dX5_merge_39 : decode cX5_merge 39 = .ok (.iastore, 1) := by decide +kernel
theorem dX5_merge_40 : decode cX5_merge 40 = .ok (.iconst 1, 1) := by decide +kernel
theorem dX5_merge_41 : decode cX5_merge 41 = .ok (.ireturn, 1) := by decide +kernel
theorem dX5_leaderOf_0 : decode cX5_leaderOf 0 = .ok (.iload_n 1, 1) := by decide +kernel
theorem dX5_leaderOf_1 : decode cX5_leaderOf 1 = .ok (.istore_n 2, 1) := by decide +kernel
theorem dX5_leaderOf_2 : decode cX5_leaderOf 2 = .ok (.iconst 0, 1) := by decide +kernel
theorem dX5_leaderOf_3 : decode cX5_leaderOf 3 = .ok (.istore_n 3, 1) := by decide +kernel
theorem dX5_leaderOf_4 : decode cX5_leaderOf 4 = .ok (.iload_n 3, 1) := by decide +kernel
theorem dX5_leaderOf_5 : decode cX5_leaderOf 5 = .ok (.bipush 12, 2) := by decide +kernel
theorem dX5_leaderOf_7 : decode cX5_leaderOf 7 = .ok (.if_icmp .ge 38, 3) := by decide +kernel
theorem dX5_leaderOf_10 : decode cX5_leaderOf 10 = .ok (.iload_n 2, 1) := by decide +kernel
theorem dX5_leaderOf_11 : decode cX5_leaderOf 11 = .ok (.iconst 0, 1) := by decide +kernel
theorem dX5_leaderOf_12 : decode cX5_leaderOf 12 = .ok (.bipush 11, 2) := by decide +kernel
theorem dX5_leaderOf_14 : decode cX5_leaderOf 14 = .ok (.invokestatic 25, 3) := by decide +kernel
theorem dX5_leaderOf_17 : decode cX5_leaderOf 17 = .ok (.ifCond .eq 13, 3) := by decide +kernel
theorem dX5_leaderOf_20 : decode cX5_leaderOf 20 = .ok (.aload_n 0, 1) := by decide +kernel
theorem dX5_leaderOf_21 : decode cX5_leaderOf 21 = .ok (.getfield 18, 3) := by decide +kernel
theorem dX5_leaderOf_24 : decode cX5_leaderOf 24 = .ok (.iload_n 2, 1) := by decide +kernel
theorem dX5_leaderOf_25 : decode cX5_leaderOf 25 = .ok (.iaload, 1) := by decide +kernel
theorem dX5_leaderOf_26 : decode cX5_leaderOf 26 = .ok (.iload_n 2, 1) := by decide +kernel
theorem dX5_leaderOf_27 : decode cX5_leaderOf 27 = .ok (.if_icmp .ne 5, 3) := by decide +kernel
theorem dX5_leaderOf_30 : decode cX5_leaderOf 30 = .ok (.iload_n 2, 1) := by decide +kernel
theorem dX5_leaderOf_31 : decode cX5_leaderOf 31 = .ok (.ireturn, 1) := by decide +kernel
theorem dX5_leaderOf_32 : decode cX5_leaderOf 32 = .ok (.aload_n 0, 1) := by decide +kernel
theorem dX5_leaderOf_33 : decode cX5_leaderOf 33 = .ok (.getfield 18, 3) := by decide +kernel
theorem dX5_leaderOf_36 : decode cX5_leaderOf 36 = .ok (.iload_n 2, 1) := by decide +kernel
theorem dX5_leaderOf_37 : decode cX5_leaderOf 37 = .ok (.iaload, 1) := by decide +kernel
theorem dX5_leaderOf_38 : decode cX5_leaderOf 38 = .ok (.istore_n 2, 1) := by decide +kernel
theorem dX5_leaderOf_39 : decode cX5_leaderOf 39 = .ok (.iinc 3 1, 3) := by decide +kernel
theorem dX5_leaderOf_42 : decode cX5_leaderOf 42 = .ok (.goto (-38), 3) := by decide +kernel
theorem dX5_leaderOf_45 : decode cX5_leaderOf 45 = .ok (.iload_n 2, 1) := by decide +kernel
theorem dX5_leaderOf_46 : decode cX5_leaderOf 46 = .ok (.ireturn, 1) := by decide +kernel
theorem dX6_init_0 : decode cX6_init 0 = .ok (.aload_n 0, 1) := by decide +kernel
theorem dX6_init_1 : decode cX6_init 1 = .ok (.invokespecial 3, 3) := by decide +kernel
theorem dX6_init_4 : decode cX6_init 4 = .ok (.aload_n 0, 1) := by decide +kernel
theorem dX6_init_5 : decode cX6_init 5 = .ok (.bipush 60, 2) := by decide +kernel
theorem dX6_init_7 : decode cX6_init 7 = .ok (.newarray .char, 2) := by decide +kernel
theorem dX6_init_9 : decode cX6_init 9 = .ok (.putfield 9, 3) := by decide +kernel
theorem dX6_init_12 : decode cX6_init 12 = .ok (.aload_n 0, 1) := by decide +kernel
theorem dX6_init_13 : decode cX6_init 13 = .ok (.bipush 13, 2) := by decide +kernel
theorem dX6_init_15 : decode cX6_init 15 = .ok (.newarray .int, 2) := by decide +kernel
theorem dX6_init_17 : decode cX6_init 17 = .ok (.putfield 15, 3) := by decide +kernel
theorem dX6_init_20 : decode cX6_init 20 = .ok (.aload_n 0, 1) := by decide +kernel
theorem dX6_init_21 : decode cX6_init 21 = .ok (.bipush 39, 2) := by decide +kernel
theorem dX6_init_23 : decode cX6_init 23 = .ok (.newarray .int, 2) := by decide +kernel
theorem dX6_init_25 : decode cX6_init 25 = .ok (.putfield 19, 3) := by decide +kernel
theorem dX6_init_28 : decode cX6_init 28 = .ok (.aload_n 0, 1) := by decide +kernel
theorem dX6_init_29 : decode cX6_init 29 = .ok (.iconst 3, 1) := by decide +kernel
theorem dX6_init_30 : decode cX6_init 30 = .ok (.newarray .int, 2) := by decide +kernel
theorem dX6_init_32 : decode cX6_init 32 = .ok (.putfield 22, 3) := by decide +kernel
theorem dX6_init_35 : decode cX6_init 35 = .ok (.return_, 1) := by decide +kernel
theorem dX6_isFull_0 : decode cX6_isFull 0 = .ok (.aload_n 0, 1) := by decide +kernel
theorem dX6_isFull_1 : decode cX6_isFull 1 = .ok (.getfield 25, 3) := by decide +kernel
theorem dX6_isFull_4 : decode cX6_isFull 4 = .ok (.bipush 60, 2) := by decide +kernel
theorem dX6_isFull_6 : decode cX6_isFull 6 = .ok (.if_icmp .lt 7, 3) := by decide +kernel
theorem dX6_isFull_9 : decode cX6_isFull 9 = .ok (.iconst 1, 1) := by decide +kernel
theorem dX6_isFull_10 : decode cX6_isFull 10 = .ok (.goto 4, 3) := by decide +kernel
theorem dX6_isFull_13 : decode cX6_isFull 13 = .ok (.iconst 0, 1) := by decide +kernel
theorem dX6_isFull_14 : decode cX6_isFull 14 = .ok (.ireturn, 1) := by decide +kernel
theorem dX6_append_0 : decode cX6_append 0 = .ok (.aload_n 0, 1) := by decide +kernel
theorem dX6_append_1 : decode cX6_append 1 = .ok (.getfield 25, 3) := by decide +kernel
theorem dX6_append_4 : decode cX6_append 4 = .ok (.ifCond .lt 32, 3) := by decide +kernel
theorem dX6_append_7 : decode cX6_append 7 = .ok (.aload_n 0, 1) := by decide +kernel
theorem dX6_append_8 : decode cX6_append 8 = .ok (.getfield 25, 3) := by decide +kernel
theorem dX6_append_11 : decode cX6_append 11 = .ok (.bipush 60, 2) := by decide +kernel
theorem dX6_append_13 : decode cX6_append 13 = .ok (.if_icmp .ge 23, 3) := by decide +kernel
theorem dX6_append_16 : decode cX6_append 16 = .ok (.aload_n 0, 1) := by decide +kernel
theorem dX6_append_17 : decode cX6_append 17 = .ok (.getfield 9, 3) := by decide +kernel
theorem dX6_append_20 : decode cX6_append 20 = .ok (.aload_n 0, 1) := by decide +kernel
theorem dX6_append_21 : decode cX6_append 21 = .ok (.getfield 25, 3) := by decide +kernel
theorem dX6_append_24 : decode cX6_append 24 = .ok (.iload_n 1, 1) := by decide +kernel
theorem dX6_append_25 : decode cX6_append 25 = .ok (.castore, 1) := by decide +kernel
theorem dX6_append_26 : decode cX6_append 26 = .ok (.aload_n 0, 1) := by decide +kernel
theorem dX6_append_27 : decode cX6_append 27 = .ok (.dup, 1) := by decide +kernel
theorem dX6_append_28 : decode cX6_append 28 = .ok (.getfield 25, 3) := by decide +kernel
theorem dX6_append_31 : decode cX6_append 31 = .ok (.iconst 1, 1) := by decide +kernel
theorem dX6_append_32 : decode cX6_append 32 = .ok (.iadd, 1) := by decide +kernel
theorem dX6_append_33 : decode cX6_append 33 = .ok (.putfield 25, 3) := by decide +kernel
theorem dX6_append_36 : decode cX6_append 36 = .ok (.aload_n 0, 1) := by decide +kernel
theorem dX6_append_37 : decode cX6_append 37 = .ok (.getfield 25, 3) := by decide +kernel
theorem dX6_append_40 : decode cX6_append 40 = .ok (.ireturn, 1) := by decide +kernel
theorem dX6_empty_0 : decode cX6_empty 0 = .ok (.aload_n 0, 1) := by decide +kernel
theorem dX6_empty_1 : decode cX6_empty 1 = .ok (.iconst 0, 1) := by decide +kernel
theorem dX6_empty_2 : decode cX6_empty 2 = .ok (.putfield 25, 3) := by decide +kernel
theorem dX6_empty_5 : decode cX6_empty 5 = .ok (.return_, 1) := by decide +kernel
theorem dX6_kindOf_0 : decode cX6_kindOf 0 = .ok (.iload_n 1, 1) := by decide +kernel
theorem dX6_kindOf_1 : decode cX6_kindOf 1 = .ok (.iconst 0, 1) := by decide +kernel
theorem dX6_kindOf_2 : decode cX6_kindOf 2 = .ok (.bipush 12, 2) := by decide +kernel
theorem dX6_kindOf_4 : decode cX6_kindOf 4 = .ok (.invokestatic 29, 3) := by decide +kernel
theorem dX6_kindOf_7 : decode cX6_kindOf 7 = .ok (.ifCond .eq 12, 3) := by decide +kernel
theorem dX6_kindOf_10 : decode cX6_kindOf 10 = .ok (.aload_n 0, 1) := by decide +kernel
theorem dX6_kindOf_11 : decode cX6_kindOf 11 = .ok (.getfield 15, 3) := by decide +kernel
theorem dX6_kindOf_14 : decode cX6_kindOf 14 = .ok (.iload_n 1, 1) := by decide +kernel
theorem dX6_kindOf_15 : decode cX6_kindOf 15 = .ok (.iaload, 1) := by decide +kernel
theorem dX6_kindOf_16 : decode cX6_kindOf 16 = .ok (.goto 4, 3) := by decide +kernel
theorem dX6_kindOf_19 : decode cX6_kindOf 19 = .ok (.iconst (-1), 1) := by decide +kernel
theorem dX6_kindOf_20 : decode cX6_kindOf 20 = .ok (.ireturn, 1) := by decide +kernel
theorem dX6_argumentOf_0 : decode cX6_argumentOf 0 = .ok (.iload_n 1, 1) := by decide +kernel
theorem dX6_argumentOf_1 : decode cX6_argumentOf 1 = .ok (.iconst 0, 1) := by decide +kernel
theorem dX6_argumentOf_2 : decode cX6_argumentOf 2 = .ok (.bipush 12, 2) := by decide +kernel
theorem dX6_argumentOf_4 : decode cX6_argumentOf 4 = .ok (.invokestatic 29, 3) := by decide +kernel
theorem dX6_argumentOf_7 : decode cX6_argumentOf 7 = .ok (.ifCond .eq 12, 3) := by decide +kernel
theorem dX6_argumentOf_10 : decode cX6_argumentOf 10 = .ok (.iload_n 2, 1) := by decide +kernel
theorem dX6_argumentOf_11 : decode cX6_argumentOf 11 = .ok (.iconst 0, 1) := by decide +kernel
theorem dX6_argumentOf_12 : decode cX6_argumentOf 12 = .ok (.iconst 2, 1) := by decide +kernel
theorem dX6_argumentOf_13 : decode cX6_argumentOf 13 = .ok (.invokestatic 29, 3) := by decide +kernel
theorem dX6_argumentOf_16 : decode cX6_argumentOf 16 = .ok (.ifCond .ne 5, 3) := by decide +kernel
theorem dX6_argumentOf_19 : decode cX6_argumentOf 19 = .ok (.iconst 0, 1) := by decide +kernel
theorem dX6_argumentOf_20 : decode cX6_argumentOf 20 = .ok (.ireturn, 1) := by decide +kernel
theorem dX6_argumentOf_21 : decode cX6_argumentOf 21 = .ok (.aload_n 0, 1) := by decide +kernel
theorem dX6_argumentOf_22 : decode cX6_argumentOf 22 = .ok (.getfield 19, 3) := by decide +kernel
theorem dX6_argumentOf_25 : decode cX6_argumentOf 25 = .ok (.iload_n 1, 1) := by decide +kernel
theorem dX6_argumentOf_26 : decode cX6_argumentOf 26 = .ok (.iconst 3, 1) := by decide +kernel
theorem dX6_argumentOf_27 : decode cX6_argumentOf 27 = .ok (.imul, 1) := by decide +kernel
theorem dX6_argumentOf_28 : decode cX6_argumentOf 28 = .ok (.iload_n 2, 1) := by decide +kernel
theorem dX6_argumentOf_29 : decode cX6_argumentOf 29 = .ok (.iadd, 1) := by decide +kernel
theorem dX6_argumentOf_30 : decode cX6_argumentOf 30 = .ok (.iaload, 1) := by decide +kernel
theorem dX6_argumentOf_31 : decode cX6_argumentOf 31 = .ok (.ireturn, 1) := by decide +kernel
theorem dX6_patternOf_0 : decode cX6_patternOf 0 = .ok (.iload_n 0, 1) := by decide +kernel
theorem dX6_patternOf_1 : decode cX6_patternOf 1 = .ok (.tableswitch 71 0 7 #[47, 50, 53, 56, 59, 62, 65, 68], 47) := by decide +kernel
theorem dX6_patternOf_48 : decode cX6_patternOf 48 = .ok (.ldc 33, 2) := by decide +kernel
theorem dX6_patternOf_50 : decode cX6_patternOf 50 = .ok (.areturn, 1) := by decide +kernel
theorem dX6_patternOf_51 : decode cX6_patternOf 51 = .ok (.ldc 35, 2) := by decide +kernel
theorem dX6_patternOf_53 : decode cX6_patternOf 53 = .ok (.areturn, 1) := by decide +kernel
theorem dX6_patternOf_54 : decode cX6_patternOf 54 = .ok (.ldc 37, 2) := by decide +kernel
theorem dX6_patternOf_56 : decode cX6_patternOf 56 = .ok (.areturn, 1) := by decide +kernel
theorem dX6_patternOf_57 : decode cX6_patternOf 57 = .ok (.ldc 39, 2) := by decide +kernel
theorem dX6_patternOf_59 : decode cX6_patternOf 59 = .ok (.areturn, 1) := by decide +kernel
theorem dX6_patternOf_60 : decode cX6_patternOf 60 = .ok (.ldc 41, 2) := by decide +kernel
theorem dX6_patternOf_62 : decode cX6_patternOf 62 = .ok (.areturn, 1) := by decide +kernel
theorem dX6_patternOf_63 : decode cX6_patternOf 63 = .ok (.ldc 43, 2) := by decide +kernel
theorem dX6_patternOf_65 : decode cX6_patternOf 65 = .ok (.areturn, 1) := by decide +kernel
theorem dX6_patternOf_66 : decode cX6_patternOf 66 = .ok (.ldc 45, 2) := by decide +kernel
theorem dX6_patternOf_68 : decode cX6_patternOf 68 = .ok (.areturn, 1) := by decide +kernel
theorem dX6_patternOf_69 : decode cX6_patternOf 69 = .ok (.ldc 47, 2) := by decide +kernel
theorem dX6_patternOf_71 : decode cX6_patternOf 71 = .ok (.areturn, 1) := by decide +kernel
theorem dX6_patternOf_72 : decode cX6_patternOf 72 = .ok (.ldc 49, 2) := by decide +kernel
theorem dX6_patternOf_74 : decode cX6_patternOf 74 = .ok (.areturn, 1) := by decide +kernel
theorem dX6_parse_0 : decode cX6_parse 0 = .ok (.aload_n 0, 1) := by decide +kernel
theorem dX6_parse_1 : decode cX6_parse 1 = .ok (.iconst 0, 1) := by decide +kernel
theorem dX6_parse_2 : decode cX6_parse 2 = .ok (.putfield 51, 3) := by decide +kernel
theorem dX6_parse_5 : decode cX6_parse 5 = .ok (.aload_n 0, 1) := by decide +kernel
theorem dX6_parse_6 : decode cX6_parse 6 = .ok (.iconst 0, 1) := by decide +kernel
theorem dX6_parse_7 : decode cX6_parse 7 = .ok (.putfield 54, 3) := by decide +kernel
theorem dX6_parse_10 : decode cX6_parse 10 = .ok (.aload_n 0, 1) := by decide +kernel
theorem dX6_parse_11 : decode cX6_parse 11 = .ok (.invokevirtual 57, 3) := by decide +kernel
theorem dX6_parse_14 : decode cX6_parse 14 = .ok (.ifCond .ne 5, 3) := by decide +kernel
theorem dX6_parse_17 : decode cX6_parse 17 = .ok (.iconst 0, 1) := by decide +kernel
theorem dX6_parse_18 : decode cX6_parse 18 = .ok (.ireturn, 1) := by decide +kernel
theorem dX6_parse_19 : decode cX6_parse 19 = .ok (.iconst 1, 1) := by decide +kernel
theorem dX6_parse_20 : decode cX6_parse 20 = .ok (.istore_n 1, 1) := by decide +kernel
theorem dX6_parse_21 : decode cX6_parse 21 = .ok (.iload_n 1, 1) := by decide +kernel
theorem dX6_parse_22 : decode cX6_parse 22 = .ok (.bipush 13, 2) := by decide +kernel
theorem dX6_parse_24 : decode cX6_parse 24 = .ok (.if_icmp .ge 38, 3) := by decide +kernel
theorem dX6_parse_27 : decode cX6_parse 27 = .ok (.aload_n 0, 1) := by decide +kernel
theorem dX6_parse_28 : decode cX6_parse 28 = .ok (.getfield 51, 3) := by decide +kernel
theorem dX6_parse_31 : decode cX6_parse 31 = .ok (.aload_n 0, 1) := by decide +kernel
theorem dX6_parse_32 : decode cX6_parse 32 = .ok (.getfield 25, 3) := by decide +kernel
theorem dX6_parse_35 : decode cX6_parse 35 = .ok (.if_icmp .ge 27, 3) := by decide +kernel
theorem dX6_parse_38 : decode cX6_parse 38 = .ok (.aload_n 0, 1) := by decide +kernel
theorem dX6_parse_39 : decode cX6_parse 39 = .ok (.bipush 59, 2) := by decide +kernel
theorem dX6_parse_41 : decode cX6_parse 41 = .ok (.invokevirtual 61, 3) := by decide +kernel
theorem dX6_parse_44 : decode cX6_parse 44 = .ok (.ifCond .eq 10, 3) := by decide +kernel
theorem dX6_parse_47 : decode cX6_parse 47 = .ok (.aload_n 0, 1) := by decide +kernel
theorem dX6_parse_48 : decode cX6_parse 48 = .ok (.invokevirtual 57, 3) := by decide +kernel
theorem dX6_parse_51 : decode cX6_parse 51 = .ok (.ifCond .ne 5, 3) := by decide +kernel
theorem dX6_parse_54 : decode cX6_parse 54 = .ok (.iconst 0, 1) := by decide +kernel
theorem dX6_parse_55 : decode cX6_parse 55 = .ok (.ireturn, 1) := by decide +kernel
theorem dX6_parse_56 : decode cX6_parse 56 = .ok (.iinc 1 1, 3) := by decide +kernel
theorem dX6_parse_59 : decode cX6_parse 59 = .ok (.goto (-38), 3) := by decide +kernel
theorem dX6_parse_62 : decode cX6_parse 62 = .ok (.aload_n 0, 1) := by decide +kernel
theorem dX6_parse_63 : decode cX6_parse 63 = .ok (.getfield 51, 3) := by decide +kernel
theorem dX6_parse_66 : decode cX6_parse 66 = .ok (.aload_n 0, 1) := by decide +kernel
theorem dX6_parse_67 : decode cX6_parse 67 = .ok (.getfield 25, 3) := by decide +kernel
theorem dX6_parse_70 : decode cX6_parse 70 = .ok (.if_icmp .lt 7, 3) := by decide +kernel
theorem dX6_parse_73 : decode cX6_parse 73 = .ok (.iconst 1, 1) := by decide +kernel
theorem dX6_parse_74 : decode cX6_parse 74 = .ok (.goto 4, 3) := by decide +kernel
theorem dX6_parse_77 : decode cX6_parse 77 = .ok (.iconst 0, 1) := by decide +kernel
theorem dX6_parse_78 : decode cX6_parse 78 = .ok (.ireturn, 1) := by decide +kernel
theorem dX6_parseCommand_0 : decode cX6_parseCommand 0 = .ok (.aload_n 0, 1) := by decide +kernel
theorem dX6_parseCommand_1 : decode cX6_parseCommand 1 = .ok (.invokevirtual 65, 3) := by decide +kernel
theorem dX6_parseCommand_4 : decode cX6_parseCommand 4 = .ok (.aload_n 0, 1) := by decide +kernel
theorem dX6_parseCommand_5 : decode cX6_parseCommand 5 = .ok (.invokevirtual 68, 3) := by decide +kernel
theorem dX6_parseCommand_8 : decode cX6_parseCommand 8 = .ok (.istore_n 1, 1) := by decide +kernel
theorem dX6_parseCommand_9 : decode cX6_parseCommand 9 = .ok (.iload_n 1, 1) := by decide +kernel
theorem dX6_parseCommand_10 : decode cX6_parseCommand 10 = .ok (.iconst (-1), 1) := by decide +kernel
theorem dX6_parseCommand_11 : decode cX6_parseCommand 11 = .ok (.if_icmp .ne 5, 3) := by decide +kernel
theorem dX6_parseCommand_14 : decode cX6_parseCommand 14 = .ok (.iconst 0, 1) := by decide +kernel
theorem dX6_parseCommand_15 : decode cX6_parseCommand 15 = .ok (.ireturn, 1) := by decide +kernel
theorem dX6_parseCommand_16 : decode cX6_parseCommand 16 = .ok (.iload_n 1, 1) := by decide +kernel
theorem dX6_parseCommand_17 : decode cX6_parseCommand 17 = .ok (.invokestatic 72, 3) := by decide +kernel
theorem dX6_parseCommand_20 : decode cX6_parseCommand 20 = .ok (.astore_n 2, 1) := by decide +kernel
theorem dX6_parseCommand_21 : decode cX6_parseCommand 21 = .ok (.aload_n 2, 1) := by decide +kernel
theorem dX6_parseCommand_22 : decode cX6_parseCommand 22 = .ok (.invokestatic 76, 3) := by decide +kernel
theorem dX6_parseCommand_25 : decode cX6_parseCommand 25 = .ok (.istore_n 3, 1) := by decide +kernel
theorem dX6_parseCommand_26 : decode cX6_parseCommand 26 = .ok (.iload_n 3, 1) := by decide +kernel
theorem dX6_parseCommand_27 : decode cX6_parseCommand 27 = .ok (.aload_n 2, 1) := by decide +kernel
theorem dX6_parseCommand_28 : decode cX6_parseCommand 28 = .ok (.invokevirtual 80, 3) := by decide +kernel
theorem dX6_parseCommand_31 : decode cX6_parseCommand 31 = .ok (.if_icmp .ge 23, 3) := by decide +kernel
theorem dX6_parseCommand_34 : decode cX6_parseCommand 34 = .ok (.aload_n 0, 1) := by decide +kernel
theorem dX6_parseCommand_35 : decode cX6_parseCommand 35 = .ok (.aload_n 2, 1) := by decide +kernel
theorem dX6_parseCommand_36 : decode cX6_parseCommand 36 = .ok (.iload_n 3, 1) := by decide +kernel
theorem dX6_parseCommand_37 : decode cX6_parseCommand 37 = .ok (.invokevirtual 85, 3) := by decide +kernel
theorem dX6_parseCommand_40 : decode cX6_parseCommand 40 = .ok (.invokevirtual 89, 3) := by decide +kernel
theorem dX6_parseCommand_43 : decode cX6_parseCommand 43 = .ok (.ifCond .ne 5, 3) := by decide +kernel
theorem dX6_parseCommand_46 : decode cX6_parseCommand 46 = .ok (.iconst 0, 1) := by decide +kernel
theorem dX6_parseCommand_47 : decode cX6_parseCommand 47 = .ok (.ireturn, 1) := by decide +kernel
theorem dX6_parseCommand_48 : decode cX6_parseCommand 48 = .ok (.iinc 3 1, 3) := by decide +kernel
theorem dX6_parseCommand_51 : decode cX6_parseCommand 51 = .ok (.goto (-25), 3) := by decide +kernel
theorem dX6_parseCommand_54 : decode cX6_parseCommand 54 = .ok (.aload_n 0, 1) := by decide +kernel
theorem dX6_parseCommand_55 : decode cX6_parseCommand 55 = .ok (.iload_n 1, 1) := by decide +kernel
theorem dX6_parseCommand_56 : decode cX6_parseCommand 56 = .ok (.invokevirtual 92, 3) := by decide +kernel
theorem dX6_parseCommand_59 : decode cX6_parseCommand 59 = .ok (.iconst 1, 1) := by decide +kernel
theorem dX6_parseCommand_60 : decode cX6_parseCommand 60 = .ok (.ireturn, 1) := by decide +kernel
theorem dX6_parseOpening_0 : decode cX6_parseOpening 0 = .ok (.iconst 0, 1) := by decide +kernel
theorem dX6_parseOpening_1 : decode cX6_parseOpening 1 = .ok (.istore_n 1, 1) := by decide +kernel
theorem dX6_parseOpening_2 : decode cX6_parseOpening 2 = .ok (.iconst 0, 1) := by decide +kernel
theorem dX6_parseOpening_3 : decode cX6_parseOpening 3 = .ok (.istore_n 2, 1) := by decide +kernel
theorem dX6_parseOpening_4 : decode cX6_parseOpening 4 = .ok (.iload_n 2, 1) := by decide +kernel
theorem dX6_parseOpening_5 : decode cX6_parseOpening 5 = .ok (.bipush 9, 2) := by decide +kernel
theorem dX6_parseOpening_7 : decode cX6_parseOpening 7 = .ok (.if_icmp .ge 62, 3) := by decide +kernel
theorem dX6_parseOpening_10 : decode cX6_parseOpening 10 = .ok (.iload_n 2, 1) := by decide +kernel
theorem dX6_parseOpening_11 : decode cX6_parseOpening 11 = .ok (.invokestatic 72, 3) := by decide +kernel
theorem dX6_parseOpening_14 : decode cX6_parseOpening 14 = .ok (.astore_n 3, 1) := by decide +kernel
theorem dX6_parseOpening_15 : decode cX6_parseOpening 15 = .ok (.aload_n 3, 1) := by decide +kernel
theorem dX6_parseOpening_16 : decode cX6_parseOpening 16 = .ok (.invokestatic 76, 3) := by decide +kernel
theorem dX6_parseOpening_19 : decode cX6_parseOpening 19 = .ok (.istore 4, 2) := by decide +kernel
theorem dX6_parseOpening_21 : decode cX6_parseOpening 21 = .ok (.aload_n 0, 1) := by decide +kernel
theorem dX6_parseOpening_22 : decode cX6_parseOpening 22 = .ok (.aload_n 3, 1) := by decide +kernel
theorem dX6_parseOpening_23 : decode cX6_parseOpening 23 = .ok (.iload 4, 2) := by decide +kernel
theorem dX6_parseOpening_25 : decode cX6_parseOpening 25 = .ok (.invokevirtual 96, 3) := by decide +kernel
theorem dX6_parseOpening_28 : decode cX6_parseOpening 28 = .ok (.istore 5, 2) := by decide +kernel
theorem dX6_parseOpening_30 : decode cX6_parseOpening 30 = .ok (.iload 5, 2) := by decide +kernel
theorem dX6_parseOpening_32 : decode cX6_parseOpening 32 = .ok (.iload 4, 2) := by decide +kernel
theorem dX6_parseOpening_34 : decode cX6_parseOpening 34 = .ok (.if_icmp .ne 16, 3) := by decide +kernel
theorem dX6_parseOpening_37 : decode cX6_parseOpening 37 = .ok (.aload_n 0, 1) := by decide +kernel
theorem dX6_parseOpening_38 : decode cX6_parseOpening 38 = .ok (.dup, 1) := by decide +kernel
theorem dX6_parseOpening_39 : decode cX6_parseOpening 39 = .ok (.getfield 51, 3) := by decide +kernel
theorem dX6_parseOpening_42 : decode cX6_parseOpening 42 = .ok (.iload 4, 2) := by decide +kernel
theorem dX6_parseOpening_44 : decode cX6_parseOpening 44 = .ok (.iadd, 1) := by decide +kernel
theorem dX6_parseOpening_45 : decode cX6_parseOpening 45 = .ok (.putfield 51, 3) := by decide +kernel
theorem dX6_parseOpening_48 : decode cX6_parseOpening 48 = .ok (.iload_n 2, 1) := by decide +kernel
theorem dX6_parseOpening_49 : decode cX6_parseOpening 49 = .ok (.ireturn, 1) := by decide +kernel
theorem dX6_parseOpening_50 : decode cX6_parseOpening 50 = .ok (.iload 5, 2) := by decide +kernel
theorem dX6_parseOpening_52 : decode cX6_parseOpening 52 = .ok (.iload_n 1, 1) := by decide +kernel
theorem dX6_parseOpening_53 : decode cX6_parseOpening 53 = .ok (.if_icmp .le 8, 3) := by decide +kernel
theorem dX6_parseOpening_56 : decode cX6_parseOpening 56 = .ok (.iload 5, 2) := by decide +kernel
theorem dX6_parseOpening_58 : decode cX6_parseOpening 58 = .ok (.goto 4, 3) := by decide +kernel
theorem dX6_parseOpening_61 : decode cX6_parseOpening 61 = .ok (.iload_n 1, 1) := by decide +kernel
theorem dX6_parseOpening_62 : decode cX6_parseOpening 62 = .ok (.istore_n 1, 1) := by decide +kernel
theorem dX6_parseOpening_63 : decode cX6_parseOpening 63 = .ok (.iinc 2 1, 3) := by decide +kernel
theorem dX6_parseOpening_66 : decode cX6_parseOpening 66 = .ok (.goto (-62), 3) := by decide +kernel
theorem dX6_parseOpening_69 : decode cX6_parseOpening 69 = .ok (.aload_n 0, 1) := by decide +kernel
theorem dX6_parseOpening_70 : decode cX6_parseOpening 70 = .ok (.dup, 1) := by decide +kernel
theorem dX6_parseOpening_71 : decode cX6_parseOpening 71 = .ok (.getfield 51, 3) := by decide +kernel
theorem dX6_parseOpening_74 : decode cX6_parseOpening 74 = .ok (.iload_n 1, 1) := by decide +kernel
theorem dX6_parseOpening_75 : decode cX6_parseOpening 75 = .ok (.iadd, 1) := by decide +kernel
theorem dX6_parseOpening_76 : decode cX6_parseOpening 76 = .ok (.putfield 51, 3) := by decide +kernel
theorem dX6_parseOpening_79 : decode cX6_parseOpening 79 = .ok (.iconst (-1), 1) := by decide +kernel
theorem dX6_parseOpening_80 : decode cX6_parseOpening 80 = .ok (.ireturn, 1) := by decide +kernel
theorem dX6_openingLength_0 : decode cX6_openingLength 0 = .ok (.iconst 0, 1) := by decide +kernel
theorem dX6_openingLength_1 : decode cX6_openingLength 1 = .ok (.istore_n 1, 1) := by decide +kernel
theorem dX6_openingLength_2 : decode cX6_openingLength 2 = .ok (.iload_n 1, 1) := by decide +kernel
theorem dX6_openingLength_3 : decode cX6_openingLength 3 = .ok (.aload_n 0, 1) := by decide +kernel
theorem dX6_openingLength_4 : decode cX6_openingLength 4 = .ok (.invokevirtual 80, 3) := by decide +kernel
theorem dX6_openingLength_7 : decode cX6_openingLength 7 = .ok (.if_icmp .ge 20, 3) := by decide +kernel
theorem dX6_openingLength_10 : decode cX6_openingLength 10 = .ok (.aload_n 0, 1) := by decide +kernel
theorem dX6_openingLength_11 : decode cX6_openingLength 11 = .ok (.iload_n 1, 1) := by decide +kernel
theorem dX6_openingLength_12 : decode cX6_openingLength 12 = .ok (.invokevirtual 85, 3) := by decide +kernel
theorem dX6_openingLength_15 : decode cX6_openingLength 15 = .ok (.invokestatic 100, 3) := by decide +kernel
theorem dX6_openingLength_18 : decode cX6_openingLength 18 = .ok (.ifCond .ne 9, 3) := by decide +kernel
theorem dX6_openingLength_21 : decode cX6_openingLength 21 = .ok (.iinc 1 1, 3) := by decide +kernel
theorem dX6_openingLength_24 : decode cX6_openingLength 24 = .ok (.goto (-22), 3) := by decide +kernel
theorem dX6_openingLength_27 : decode cX6_openingLength 27 = .ok (.iload_n 1, 1) := by decide +kernel
theorem dX6_openingLength_28 : decode cX6_openingLength 28 = .ok (.ireturn, 1) := by decide +kernel
theorem dX6_commonLength_0 : decode cX6_commonLength 0 = .ok (.iconst 0, 1) := by decide +kernel
theorem dX6_commonLength_1 : decode cX6_commonLength 1 = .ok (.istore_n 3, 1) := by decide +kernel
theorem dX6_commonLength_2 : decode cX6_commonLength 2 = .ok (.iload_n 3, 1) := by decide +kernel
theorem dX6_commonLength_3 : decode cX6_commonLength 3 = .ok (.iload_n 2, 1) := by decide +kernel
theorem dX6_commonLength_4 : decode cX6_commonLength 4 = .ok (.if_icmp .ge 30, 3) := by decide +kernel
theorem dX6_commonLength_7 : decode cX6_commonLength 7 = .ok (.iload_n 3, 1) := by decide +kernel
theorem dX6_commonLength_8 : decode cX6_commonLength 8 = .ok (.aload_n 1, 1) := by decide +kernel
theorem dX6_commonLength_9 : decode cX6_commonLength 9 = .ok (.invokevirtual 80, 3) := by decide +kernel
theorem dX6_commonLength_12 : decode cX6_commonLength 12 = .ok (.if_icmp .ge 22, 3) := by decide +kernel
theorem dX6_commonLength_15 : decode cX6_commonLength 15 = .ok (.aload_n 0, 1) := by decide +kernel
theorem dX6_commonLength_16 : decode cX6_commonLength 16 = .ok (.iload_n 3, 1) := by decide +kernel
theorem dX6_commonLength_17 : decode cX6_commonLength 17 = .ok (.aload_n 1, 1) := by decide +kernel
theorem dX6_commonLength_18 : decode cX6_commonLength 18 = .ok (.iload_n 3, 1) := by decide +kernel
theorem dX6_commonLength_19 : decode cX6_commonLength 19 = .ok (.invokevirtual 85, 3) := by decide +kernel
theorem dX6_commonLength_22 : decode cX6_commonLength 22 = .ok (.invokevirtual 103, 3) := by decide +kernel
theorem dX6_commonLength_25 : decode cX6_commonLength 25 = .ok (.ifCond .eq 9, 3) := by decide +kernel
theorem dX6_commonLength_28 : decode cX6_commonLength 28 = .ok (.iinc 3 1, 3) := by decide +kernel
theorem dX6_commonLength_31 : decode cX6_commonLength 31 = .ok (.goto (-29), 3) := by decide +kernel
theorem dX6_commonLength_34 : decode cX6_commonLength 34 = .ok (.iload_n 3, 1) := by decide +kernel
theorem dX6_commonLength_35 : decode cX6_commonLength 35 = .ok (.ireturn, 1) := by decide +kernel
theorem dX6_isHere_0 : decode cX6_isHere 0 = .ok (.aload_n 0, 1) := by decide +kernel
theorem dX6_isHere_1 : decode cX6_isHere 1 = .ok (.getfield 51, 3) := by decide +kernel
theorem dX6_isHere_4 : decode cX6_isHere 4 = .ok (.iload_n 1, 1) := by decide +kernel
theorem dX6_isHere_5 : decode cX6_isHere 5 = .ok (.iadd, 1) := by decide +kernel
theorem dX6_isHere_6 : decode cX6_isHere 6 = .ok (.istore_n 3, 1) := by decide +kernel
theorem dX6_isHere_7 : decode cX6_isHere 7 = .ok (.iload_n 3, 1) := by decide +kernel
theorem dX6_isHere_8 : decode cX6_isHere 8 = .ok (.ifCond .lt 31, 3) := by decide +kernel
theorem dX6_isHere_11 : decode cX6_isHere 11 = .ok (.iload_n 3, 1) := by decide +kernel
theorem dX6_isHere_12 : decode cX6_isHere 12 = .ok (.aload_n 0, 1) := by decide +kernel
theorem dX6_isHere_13 : decode cX6_isHere 13 = .ok (.getfield 25, 3) := by decide +kernel
theorem dX6_isHere_16 : decode cX6_isHere 16 = .ok (.if_icmp .ge 23, 3) := by decide +kernel
theorem dX6_isHere_19 : decode cX6_isHere 19 = .ok (.iload_n 3, 1) := by decide +kernel
theorem dX6_isHere_20 : decode cX6_isHere 20 = .ok (.bipush 60, 2) := by decide +kernel
theorem dX6_isHere_22 : decode cX6_isHere 22 = .ok (.if_icmp .ge 17, 3) := by decide +kernel
theorem dX6_isHere_25 : decode cX6_isHere 25 = .ok (.aload_n 0, 1) := by decide +kernel
theorem dX6_isHere_26 : decode cX6_isHere 26 = .ok (.getfield 9, 3) := by decide +kernel
theorem dX6_isHere_29 : decode cX6_isHere 29 = .ok (.iload_n 3, 1) := by decide +kernel
theorem dX6_isHere_30 : decode cX6_isHere 30 = .ok (.caload, 1) := by decide +kernel
theorem dX6_isHere_31 : decode cX6_isHere 31 = .ok (.iload_n 2, 1) := by decide +kernel
theorem dX6_isHere_32 : decode cX6_isHere 32 = .ok (.if_icmp .ne 7, 3) := by decide +kernel
theorem dX6_isHere_35 : decode cX6_isHere 35 = .ok (.iconst 1, 1) := by decide +kernel
theorem dX6_isHere_36 : decode cX6_isHere 36 = .ok (.goto 4, 3) := by decide +kernel
theorem dX6_isHere_39 : decode cX6_isHere 39 = .ok (.iconst 0, 1) := by decide +kernel
theorem dX6_isHere_40 : decode cX6_isHere 40 = .ok (.ireturn, 1) := by decide +kernel
theorem dX6_isPlaceholder_0 : decode cX6_isPlaceholder 0 = .ok (.iload_n 0, 1) := by decide +kernel
theorem dX6_isPlaceholder_1 : decode cX6_isPlaceholder 1 = .ok (.bipush 78, 2) := by decide +kernel
theorem dX6_isPlaceholder_3 : decode cX6_isPlaceholder 3 = .ok (.if_icmp .eq 15, 3) := by decide +kernel
theorem dX6_isPlaceholder_6 : decode cX6_isPlaceholder 6 = .ok (.iload_n 0, 1) := by decide +kernel
theorem dX6_isPlaceholder_7 : decode cX6_isPlaceholder 7 = .ok (.bipush 68, 2) := by decide +kernel
theorem dX6_isPlaceholder_9 : decode cX6_isPlaceholder 9 = .ok (.if_icmp .eq 9, 3) := by decide +kernel
theorem dX6_isPlaceholder_12 : decode cX6_isPlaceholder 12 = .ok (.iload_n 0, 1) := by decide +kernel
theorem dX6_isPlaceholder_13 : decode cX6_isPlaceholder 13 = .ok (.bipush 77, 2) := by decide +kernel
theorem dX6_isPlaceholder_15 : decode cX6_isPlaceholder 15 = .ok (.if_icmp .ne 7, 3) := by decide +kernel
theorem dX6_isPlaceholder_18 : decode cX6_isPlaceholder 18 = .ok (.iconst 1, 1) := by decide +kernel
theorem dX6_isPlaceholder_19 : decode cX6_isPlaceholder 19 = .ok (.goto 4, 3) := by decide +kernel
theorem dX6_isPlaceholder_22 : decode cX6_isPlaceholder 22 = .ok (.iconst 0, 1) := by decide +kernel
theorem dX6_isPlaceholder_23 : decode cX6_isPlaceholder 23 = .ok (.ireturn, 1) := by decide +kernel
theorem dX6_parsePart_0 : decode cX6_parsePart 0 = .ok (.iload_n 1, 1) := by decide +kernel
theorem dX6_parsePart_1 : decode cX6_parsePart 1 = .ok (.lookupswitch 52 #[(68, 41), (77, 47), (78, 35)], 35) := by decide +kernel
theorem dX6_parsePart_36 : decode cX6_parsePart 36 = .ok (.aload_n 0, 1) := by decide +kernel
theorem dX6_parsePart_37 : decode cX6_parsePart 37 = .ok (.iconst 3, 1) := by decide +kernel
theorem dX6_parsePart_38 : decode cX6_parsePart 38 = .ok (.invokevirtual 107, 3) := by decide +kernel
theorem dX6_parsePart_41 : decode cX6_parsePart 41 = .ok (.ireturn, 1) := by decide +kernel
theorem dX6_parsePart_42 : decode cX6_parsePart 42 = .ok (.aload_n 0, 1) := by decide +kernel
theorem dX6_parsePart_43 : decode cX6_parsePart 43 = .ok (.iconst 1, 1) := by decide +kernel
theorem dX6_parsePart_44 : decode cX6_parsePart 44 = .ok (.invokevirtual 107, 3) := by decide +kernel
theorem dX6_parsePart_47 : decode cX6_parsePart 47 = .ok (.ireturn, 1) := by decide +kernel
theorem dX6_parsePart_48 : decode cX6_parsePart 48 = .ok (.aload_n 0, 1) := by decide +kernel
theorem dX6_parsePart_49 : decode cX6_parsePart 49 = .ok (.invokevirtual 111, 3) := by decide +kernel
theorem dX6_parsePart_52 : decode cX6_parsePart 52 = .ok (.ireturn, 1) := by decide +kernel
theorem dX6_parsePart_53 : decode cX6_parsePart 53 = .ok (.aload_n 0, 1) := by decide +kernel
theorem dX6_parsePart_54 : decode cX6_parsePart 54 = .ok (.iload_n 1, 1) := by decide +kernel
theorem dX6_parsePart_55 : decode cX6_parsePart 55 = .ok (.invokevirtual 61, 3) := by decide +kernel
theorem dX6_parsePart_58 : decode cX6_parsePart 58 = .ok (.ireturn, 1) := by decide +kernel
theorem dX6_parseSign_0 : decode cX6_parseSign 0 = .ok (.aload_n 0, 1) := by decide +kernel
theorem dX6_parseSign_1 : decode cX6_parseSign 1 = .ok (.iconst 0, 1) := by decide +kernel
theorem dX6_parseSign_2 : decode cX6_parseSign 2 = .ok (.iload_n 1, 1) := by decide +kernel
theorem dX6_parseSign_3 : decode cX6_parseSign 3 = .ok (.invokevirtual 103, 3) := by decide +kernel
theorem dX6_parseSign_6 : decode cX6_parseSign 6 = .ok (.ifCond .ne 5, 3) := by decide +kernel
theorem dX6_parseSign_9 : decode cX6_parseSign 9 = .ok (.iconst 0, 1) := by decide +kernel
theorem dX6_parseSign_10 : decode cX6_parseSign 10 = .ok (.ireturn, 1) := by decide +kernel
theorem dX6_parseSign_11 : decode cX6_parseSign 11 = .ok (.aload_n 0, 1) := by decide +kernel
theorem dX6_parseSign_12 : decode cX6_parseSign 12 = .ok (.dup, 1) := by decide +kernel
theorem dX6_parseSign_13 : decode cX6_parseSign 13 = .ok (.getfield 51, 3) := by decide +kernel
theorem dX6_parseSign_16 : decode cX6_parseSign 16 = .ok (.iconst 1, 1) := by decide +kernel
theorem dX6_parseSign_17 : decode cX6_parseSign 17 = .ok (.iadd, 1) := by decide +kernel
theorem dX6_parseSign_18 : decode cX6_parseSign 18 = .ok (.putfield 51, 3) := by decide +kernel
theorem dX6_parseSign_21 : decode cX6_parseSign 21 = .ok (.iconst 1, 1) := by decide +kernel
theorem dX6_parseSign_22 : decode cX6_parseSign 22 = .ok (.ireturn, 1) := by decide +kernel
theorem dX6_parseNumber_0 : decode cX6_parseNumber 0 = .ok (.iconst 0, 1) := by decide +kernel
theorem dX6_parseNumber_1 : decode cX6_parseNumber 1 = .ok (.istore_n 2, 1) := by decide +kernel
theorem dX6_parseNumber_2 : decode cX6_parseNumber 2 = .ok (.iconst 0, 1) := by decide +kernel
theorem dX6_parseNumber_3 : decode cX6_parseNumber 3 = .ok (.istore_n 3, 1) := by decide +kernel
theorem dX6_parseNumber_4 : decode cX6_parseNumber 4 = .ok (.iload_n 3, 1) := by decide +kernel
theorem dX6_parseNumber_5 : decode cX6_parseNumber 5 = .ok (.iload_n 1, 1) := by decide +kernel
theorem dX6_parseNumber_6 : decode cX6_parseNumber 6 = .ok (.if_icmp .ge 37, 3) := by decide +kernel
theorem dX6_parseNumber_9 : decode cX6_parseNumber 9 = .ok (.aload_n 0, 1) := by decide +kernel
theorem dX6_parseNumber_10 : decode cX6_parseNumber 10 = .ok (.invokevirtual 114, 3) := by decide +kernel
theorem dX6_parseNumber_13 : decode cX6_parseNumber 13 = .ok (.iconst (-1), 1) := by decide +kernel
theorem dX6_parseNumber_14 : decode cX6_parseNumber 14 = .ok (.if_icmp .eq 29, 3) := by decide +kernel
theorem dX6_parseNumber_17 : decode cX6_parseNumber 17 = .ok (.iload_n 2, 1) := by decide +kernel
theorem dX6_parseNumber_18 : decode cX6_parseNumber 18 = .ok (.bipush 10, 2) := by decide +kernel
theorem dX6_parseNumber_20 : decode cX6_parseNumber 20 = .ok (.imul, 1) := by decide +kernel
theorem dX6_parseNumber_21 : decode cX6_parseNumber 21 = .ok (.aload_n 0, 1) := by decide +kernel
theorem dX6_parseNumber_22 : decode cX6_parseNumber 22 = .ok (.invokevirtual 114, 3) := by decide +kernel
theorem dX6_parseNumber_25 : decode cX6_parseNumber 25 = .ok (.iadd, 1) := by decide +kernel
theorem dX6_parseNumber_26 : decode cX6_parseNumber 26 = .ok (.istore_n 2, 1) := by decide +kernel
theorem dX6_parseNumber_27 : decode cX6_parseNumber 27 = .ok (.aload_n 0, 1) := by decide +kernel
theorem dX6_parseNumber_28 : decode cX6_parseNumber 28 = .ok (.dup, 1) := by decide +kernel
theorem dX6_parseNumber_29 : decode cX6_parseNumber 29 = .ok (.getfield 51, 3) := by decide +kernel
theorem dX6_parseNumber_32 : decode cX6_parseNumber 32 = .ok (.iconst 1, 1) := by decide +kernel
theorem dX6_parseNumber_33 : decode cX6_parseNumber 33 = .ok (.iadd, 1) := by decide +kernel
theorem dX6_parseNumber_34 : decode cX6_parseNumber 34 = .ok (.putfield 51, 3) := by decide +kernel
theorem dX6_parseNumber_37 : decode cX6_parseNumber 37 = .ok (.iinc 3 1, 3) := by decide +kernel
theorem dX6_parseNumber_40 : decode cX6_parseNumber 40 = .ok (.goto (-36), 3) := by decide +kernel
theorem dX6_parseNumber_43 : decode cX6_parseNumber 43 = .ok (.iload_n 3, 1) := by decide +kernel
theorem dX6_parseNumber_44 : decode cX6_parseNumber 44 = .ok (.ifCond .ne 5, 3) := by decide +kernel
theorem dX6_parseNumber_47 : decode cX6_parseNumber 47 = .ok (.iconst 0, 1) := by decide +kernel
theorem dX6_parseNumber_48 : decode cX6_parseNumber 48 = .ok (.ireturn, 1) := by decide +kernel
theorem dX6_parseNumber_49 : decode cX6_parseNumber 49 = .ok (.aload_n 0, 1) := by decide +kernel
theorem dX6_parseNumber_50 : decode cX6_parseNumber 50 = .ok (.iload_n 2, 1) := by decide +kernel
theorem dX6_parseNumber_51 : decode cX6_parseNumber 51 = .ok (.invokevirtual 117, 3) := by decide +kernel
theorem dX6_parseNumber_54 : decode cX6_parseNumber 54 = .ok (.iconst 1, 1) := by decide +kernel
theorem dX6_parseNumber_55 : decode cX6_parseNumber 55 = .ok (.ireturn, 1) := by decide +kernel
theorem dX6_digitHere_0 : decode cX6_digitHere 0 = .ok (.aload_n 0, 1) := by decide +kernel
theorem dX6_digitHere_1 : decode cX6_digitHere 1 = .ok (.getfield 51, 3) := by decide +kernel
theorem dX6_digitHere_4 : decode cX6_digitHere 4 = .ok (.ifCond .lt 23, 3) := by decide +kernel
theorem dX6_digitHere_7 : decode cX6_digitHere 7 = .ok (.aload_n 0, 1) := by decide +kernel
theorem dX6_digitHere_8 : decode cX6_digitHere 8 = .ok (.getfield 51, 3) := by decide +kernel
theorem dX6_digitHere_11 : decode cX6_digitHere 11 = .ok (.aload_n 0, 1) := by decide +kernel
theorem dX6_digitHere_12 : decode cX6_digitHere 12 = .ok (.getfield 25, 3) := by decide +kernel
theorem dX6_digitHere_15 : decode cX6_digitHere 15 = .ok (.if_icmp .ge 12, 3) := by decide +kernel
theorem dX6_digitHere_18 : decode cX6_digitHere 18 = .ok (.aload_n 0, 1) := by decide +kernel
theorem dX6_digitHere_19 : decode cX6_digitHere 19 = .ok (.getfield 51, 3) := by decide +kernel
theorem dX6_digitHere_22 : decode cX6_digitHere 22 = .ok (.bipush 60, 2) := by decide +kernel
theorem dX6_digitHere_24 : decode cX6_digitHere 24 = .ok (.if_icmp .lt 5, 3) := by decide +kernel
theorem dX6_digitHere_27 : decode cX6_digitHere 27 = .ok (.iconst (-1), 1) := by decide +kernel
theorem dX6_digitHere_28 : decode cX6_digitHere 28 = .ok (.ireturn, 1) := by decide +kernel
theorem dX6_digitHere_29 : decode cX6_digitHere 29 = .ok (.aload_n 0, 1) := by decide +kernel
theorem dX6_digitHere_30 : decode cX6_digitHere 30 = .ok (.getfield 9, 3) := by decide +kernel
theorem dX6_digitHere_33 : decode cX6_digitHere 33 = .ok (.aload_n 0, 1) := by decide +kernel
theorem dX6_digitHere_34 : decode cX6_digitHere 34 = .ok (.getfield 51, 3) := by decide +kernel
theorem dX6_digitHere_37 : decode cX6_digitHere 37 = .ok (.caload, 1) := by decide +kernel
theorem dX6_digitHere_38 : decode cX6_digitHere 38 = .ok (.istore_n 1, 1) := by decide +kernel
theorem dX6_digitHere_39 : decode cX6_digitHere 39 = .ok (.iload_n 1, 1) := by decide +kernel
theorem dX6_digitHere_40 : decode cX6_digitHere 40 = .ok (.bipush 48, 2) := by decide +kernel
theorem dX6_digitHere_42 : decode cX6_digitHere 42 = .ok (.if_icmp .lt 16, 3) := by decide +kernel
theorem dX6_digitHere_45 : decode cX6_digitHere 45 = .ok (.iload_n 1, 1) := by decide +kernel
theorem dX6_digitHere_46 : decode cX6_digitHere 46 = .ok (.bipush 57, 2) := by decide +kernel
theorem dX6_digitHere_48 : decode cX6_digitHere 48 = .ok (.if_icmp .gt 10, 3) := by decide +kernel
theorem dX6_digitHere_51 : decode cX6_digitHere 51 = .ok (.iload_n 1, 1) := by decide +kernel
theorem dX6_digitHere_52 : decode cX6_digitHere 52 = .ok (.bipush 48, 2) := by decide +kernel
theorem dX6_digitHere_54 : decode cX6_digitHere 54 = .ok (.isub, 1) := by decide +kernel
theorem dX6_digitHere_55 : decode cX6_digitHere 55 = .ok (.goto 4, 3) := by decide +kernel
theorem dX6_digitHere_58 : decode cX6_digitHere 58 = .ok (.iconst (-1), 1) := by decide +kernel
theorem dX6_digitHere_59 : decode cX6_digitHere 59 = .ok (.ireturn, 1) := by decide +kernel
theorem dX6_parseMode_0 : decode cX6_parseMode 0 = .ok (.aload_n 0, 1) := by decide +kernel
theorem dX6_parseMode_1 : decode cX6_parseMode 1 = .ok (.bipush 101, 2) := by decide +kernel
theorem dX6_parseMode_3 : decode cX6_parseMode 3 = .ok (.invokevirtual 61, 3) := by decide +kernel
theorem dX6_parseMode_6 : decode cX6_parseMode 6 = .ok (.ifCond .eq 11, 3) := by decide +kernel
theorem dX6_parseMode_9 : decode cX6_parseMode 9 = .ok (.aload_n 0, 1) := by decide +kernel
theorem dX6_parseMode_10 : decode cX6_parseMode 10 = .ok (.iconst 0, 1) := by decide +kernel
theorem dX6_parseMode_11 : decode cX6_parseMode 11 = .ok (.invokevirtual 117, 3) := by decide +kernel
theorem dX6_parseMode_14 : decode cX6_parseMode 14 = .ok (.goto 39, 3) := by decide +kernel
theorem dX6_parseMode_17 : decode cX6_parseMode 17 = .ok (.aload_n 0, 1) := by decide +kernel
theorem dX6_parseMode_18 : decode cX6_parseMode 18 = .ok (.bipush 110, 2) := by decide +kernel
theorem dX6_parseMode_20 : decode cX6_parseMode 20 = .ok (.invokevirtual 61, 3) := by decide +kernel
theorem dX6_parseMode_23 : decode cX6_parseMode 23 = .ok (.ifCond .eq 11, 3) := by decide +kernel
theorem dX6_parseMode_26 : decode cX6_parseMode 26 = .ok (.aload_n 0, 1) := by decide +kernel
theorem dX6_parseMode_27 : decode cX6_parseMode 27 = .ok (.iconst 1, 1) := by decide +kernel
theorem dX6_parseMode_28 : decode cX6_parseMode 28 = .ok (.invokevirtual 117, 3) := by decide +kernel
theorem dX6_parseMode_31 : decode cX6_parseMode 31 = .ok (.goto 22, 3) := by decide +kernel
theorem dX6_parseMode_34 : decode cX6_parseMode 34 = .ok (.aload_n 0, 1) := by decide +kernel
theorem dX6_parseMode_35 : decode cX6_parseMode 35 = .ok (.bipush 102, 2) := by decide +kernel
theorem dX6_parseMode_37 : decode cX6_parseMode 37 = .ok (.invokevirtual 61, 3) := by decide +kernel
theorem dX6_parseMode_40 : decode cX6_parseMode 40 = .ok (.ifCond .eq 11, 3) := by decide +kernel
theorem dX6_parseMode_43 : decode cX6_parseMode 43 = .ok (.aload_n 0, 1) := by decide +kernel
theorem dX6_parseMode_44 : decode cX6_parseMode 44 = .ok (.iconst 2, 1) := by decide +kernel
theorem dX6_parseMode_45 : decode cX6_parseMode 45 = .ok (.invokevirtual 117, 3) := by decide +kernel
theorem dX6_parseMode_48 : decode cX6_parseMode 48 = .ok (.goto 5, 3) := by decide +kernel
theorem dX6_parseMode_51 : decode cX6_parseMode 51 = .ok (.iconst 0, 1) := by decide +kernel
theorem dX6_parseMode_52 : decode cX6_parseMode 52 = .ok (.ireturn, 1) := by decide +kernel
theorem dX6_parseMode_53 : decode cX6_parseMode 53 = .ok (.iconst 1, 1) := by decide +kernel
theorem dX6_parseMode_54 : decode cX6_parseMode 54 = .ok (.ireturn, 1) := by decide +kernel
theorem dX6_clearValues_0 : decode cX6_clearValues 0 = .ok (.aload_n 0, 1) := by decide +kernel
theorem dX6_clearValues_1 : decode cX6_clearValues 1 = .ok (.iconst 0, 1) := by decide +kernel
theorem dX6_clearValues_2 : decode cX6_clearValues 2 = .ok (.putfield 120, 3) := by decide +kernel
theorem dX6_clearValues_5 : decode cX6_clearValues 5 = .ok (.iconst 0, 1) := by decide +kernel
theorem dX6_clearValues_6 : decode cX6_clearValues 6 = .ok (.istore_n 1, 1) := by decide +kernel
theorem dX6_clearValues_7 : decode cX6_clearValues 7 = .ok (.iload_n 1, 1) := by decide +kernel
theorem dX6_clearValues_8 : decode cX6_clearValues 8 = .ok (.iconst 3, 1) := by decide +kernel
theorem dX6_clearValues_9 : decode cX6_clearValues 9 = .ok (.if_icmp .ge 16, 3) := by decide +kernel
theorem dX6_clearValues_12 : decode cX6_clearValues 12 = .ok (.aload_n 0, 1) := by decide +kernel
theorem dX6_clearValues_13 : decode cX6_clearValues 13 = .ok (.getfield 22, 3) := by decide +kernel
theorem dX6_clearValues_16 : decode cX6_clearValues 16 = .ok (.iload_n 1, 1) := by decide +kernel
theorem dX6_clearValues_17 : decode cX6_clearValues 17 = .ok (.iconst 0, 1) := by decide +kernel
theorem dX6_clearValues_18 : decode cX6_clearValues 18 = .ok (.iastore, 1) := by decide +kernel
theorem dX6_clearValues_19 : decode cX6_clearValues 19 = .ok (.iinc 1 1, 3) := by decide +kernel
theorem dX6_clearValues_22 : decode cX6_clearValues 22 = .ok (.goto (-15), 3) := by decide +kernel
theorem dX6_clearValues_25 : decode cX6_clearValues 25 = .ok (.return_, 1) := by decide +kernel
theorem dX6_addValue_0 : decode cX6_addValue 0 = .ok (.aload_n 0, 1) := by decide +kernel
theorem dX6_addValue_1 : decode cX6_addValue 1 = .ok (.getfield 120, 3) := by decide +kernel
theorem dX6_addValue_4 : decode cX6_addValue 4 = .ok (.iconst 0, 1) := by decide +kernel
theorem dX6_addValue_5 : decode cX6_addValue 5 = .ok (.iconst 2, 1) := by decide +kernel
theorem dX6_addValue_6 : decode cX6_addValue 6 = .ok (.invokestatic 29, 3) := by decide +kernel
theorem dX6_addValue_9 : decode cX6_addValue 9 = .ok (.ifCond .eq 23, 3) := by decide +kernel
theorem dX6_addValue_12 : decode cX6_addValue 12 = .ok (.aload_n 0, 1) := by decide +kernel
theorem dX6_addValue_13 : decode cX6_addValue 13 = .ok (.getfield 22, 3) := by decide +kernel
theorem dX6_addValue_16 : decode cX6_addValue 16 = .ok (.aload_n 0, 1) := by decide +kernel
theorem dX6_addValue_17 : decode cX6_addValue 17 = .ok (.getfield 120, 3) := by decide +kernel
theorem dX6_addValue_20 : decode cX6_addValue 20 = .ok (.iload_n 1, 1) := by decide +kernel
theorem dX6_addValue_21 : decode cX6_addValue 21 = .ok (.iastore, 1) := by decide +kernel
theorem dX6_addValue_22 : decode cX6_addValue 22 = .ok (.aload_n 0, 1) := by decide +kernel
theorem dX6_addValue_23 : decode cX6_addValue 23 = .ok (.dup, 1) := by decide +kernel
theorem dX6_addValue_24 : decode cX6_addValue 24 = .ok (.getfield 120, 3) := by decide +kernel
theorem dX6_addValue_27 : decode cX6_addValue 27 = .ok (.iconst 1, 1) := by decide +kernel
theorem dX6_addValue_28 : decode cX6_addValue 28 = .ok (.iadd, 1) := by decide +kernel
theorem dX6_addValue_29 : decode cX6_addValue 29 = .ok (.putfield 120, 3) := by decide +kernel
theorem dX6_addValue_32 : decode cX6_addValue 32 = .ok (.return_, 1) := by decide +kernel
theorem dX6_store_0 : decode cX6_store 0 = .ok (.aload_n 0, 1) := by decide +kernel
theorem dX6_store_1 : decode cX6_store 1 = .ok (.getfield 54, 3) := by decide +kernel
theorem dX6_store_4 : decode cX6_store 4 = .ok (.iconst 0, 1) := by decide +kernel
theorem dX6_store_5 : decode cX6_store 5 = .ok (.bipush 12, 2) := by decide +kernel
theorem dX6_store_7 : decode cX6_store 7 = .ok (.invokestatic 29, 3) := by decide +kernel
theorem dX6_store_10 : decode cX6_store 10 = .ok (.ifCond .ne 4, 3) := by decide +kernel
theorem dX6_store_13 : decode cX6_store 13 = .ok (.return_, 1) := by decide +kernel
theorem dX6_store_14 : decode cX6_store 14 = .ok (.aload_n 0, 1) := by decide +kernel
theorem dX6_store_15 : decode cX6_store 15 = .ok (.getfield 15, 3) := by decide +kernel
theorem dX6_store_18 : decode cX6_store 18 = .ok (.aload_n 0, 1) := by decide +kernel
theorem dX6_store_19 : decode cX6_store 19 = .ok (.getfield 54, 3) := by decide +kernel
theorem dX6_store_22 : decode cX6_store 22 = .ok (.iload_n 1, 1) := by decide +kernel
theorem dX6_store_23 : decode cX6_store 23 = .ok (.iastore, 1) := by decide +kernel
theorem dX6_store_24 : decode cX6_store 24 = .ok (.iconst 0, 1) := by decide +kernel
theorem dX6_store_25 : decode cX6_store 25 = .ok (.istore_n 2, 1) := by decide +kernel
theorem dX6_store_26 : decode cX6_store 26 = .ok (.iload_n 2, 1) := by decide +kernel
theorem dX6_store_27 : decode cX6_store 27 = .ok (.iconst 3, 1) := by decide +kernel
theorem dX6_store_28 : decode cX6_store 28 = .ok (.if_icmp .ge 28, 3) := by decide +kernel
theorem dX6_store_31 : decode cX6_store 31 = .ok (.aload_n 0, 1) := by decide +kernel
theorem dX6_store_32 : decode cX6_store 32 = .ok (.getfield 19, 3) := by decide +kernel
theorem dX6_store_35 : decode cX6_store 35 = .ok (.aload_n 0, 1) := by decide +kernel
theorem dX6_store_36 : decode cX6_store 36 = .ok (.getfield 54, 3) := by decide +kernel
theorem dX6_store_39 : decode cX6_store 39 = .ok (.iconst 3, 1) := by decide +kernel
theorem dX6_store_40 : decode cX6_store 40 = .ok (.imul, 1) := by decide +kernel
theorem dX6_store_41 : decode cX6_store 41 = .ok (.iload_n 2, 1) := by decide +kernel
theorem dX6_store_42 : decode cX6_store 42 = .ok (.iadd, 1) := by decide +kernel
theorem dX6_store_43 : decode cX6_store 43 = .ok (.aload_n 0, 1) := by decide +kernel
theorem dX6_store_44 : decode cX6_store 44 = .ok (.getfield 22, 3) := by decide +kernel
theorem dX6_store_47 : decode cX6_store 47 = .ok (.iload_n 2, 1) := by decide +kernel
theorem dX6_store_48 : decode cX6_store 48 = .ok (.iaload, 1) := by decide +kernel
theorem dX6_store_49 : decode cX6_store 49 = .ok (.iastore, 1) := by decide +kernel
theorem dX6_store_50 : decode cX6_store 50 = .ok (.iinc 2 1, 3) := by decide +kernel
theorem dX6_store_53 : decode cX6_store 53 = .ok (.goto (-27), 3) := by decide +kernel
theorem dX6_store_56 : decode cX6_store 56 = .ok (.aload_n 0, 1) := by decide +kernel
theorem dX6_store_57 : decode cX6_store 57 = .ok (.dup, 1) := by decide +kernel
theorem dX6_store_58 : decode cX6_store 58 = .ok (.getfield 54, 3) := by decide +kernel
theorem dX6_store_61 : decode cX6_store 61 = .ok (.iconst 1, 1) := by decide +kernel
theorem dX6_store_62 : decode cX6_store 62 = .ok (.iadd, 1) := by decide +kernel
theorem dX6_store_63 : decode cX6_store 63 = .ok (.putfield 54, 3) := by decide +kernel
theorem dX6_store_66 : decode cX6_store 66 = .ok (.return_, 1) := by decide +kernel
theorem dX7_init_0 : decode cX7_init 0 = .ok (.aload_n 0, 1) := by decide +kernel
theorem dX7_init_1 : decode cX7_init 1 = .ok (.invokespecial 1, 3) := by decide +kernel
theorem dX7_init_4 : decode cX7_init 4 = .ok (.aload_n 0, 1) := by decide +kernel
theorem dX7_init_5 : decode cX7_init 5 = .ok (.new 7, 3) := by decide +kernel
theorem dX7_init_8 : decode cX7_init 8 = .ok (.dup, 1) := by decide +kernel
theorem dX7_init_9 : decode cX7_init 9 = .ok (.invokespecial 9, 3) := by decide +kernel
theorem dX7_init_12 : decode cX7_init 12 = .ok (.putfield 10, 3) := by decide +kernel
theorem dX7_init_15 : decode cX7_init 15 = .ok (.aload_n 0, 1) := by decide +kernel
theorem dX7_init_16 : decode cX7_init 16 = .ok (.new 16, 3) := by decide +kernel
theorem dX7_init_19 : decode cX7_init 19 = .ok (.dup, 1) := by decide +kernel
theorem dX7_init_20 : decode cX7_init 20 = .ok (.invokespecial 18, 3) := by decide +kernel
theorem dX7_init_23 : decode cX7_init 23 = .ok (.putfield 19, 3) := by decide +kernel
theorem dX7_init_26 : decode cX7_init 26 = .ok (.aload_n 0, 1) := by decide +kernel
theorem dX7_init_27 : decode cX7_init 27 = .ok (.new 23, 3) := by decide +kernel
theorem dX7_init_30 : decode cX7_init 30 = .ok (.dup, 1) := by decide +kernel
theorem dX7_init_31 : decode cX7_init 31 = .ok (.invokespecial 25, 3) := by decide +kernel
theorem dX7_init_34 : decode cX7_init 34 = .ok (.putfield 26, 3) := by decide +kernel
theorem dX7_init_37 : decode cX7_init 37 = .ok (.return_, 1) := by decide +kernel
theorem dX7_takeFrom_0 : decode cX7_takeFrom 0 = .ok (.aload_n 0, 1) := by decide +kernel
theorem dX7_takeFrom_1 : decode cX7_takeFrom 1 = .ok (.getfield 10, 3) := by decide +kernel
theorem dX7_takeFrom_4 : decode cX7_takeFrom 4 = .ok (.aload_n 1, 1) := by decide +kernel
theorem dX7_takeFrom_5 : decode cX7_takeFrom 5 = .ok (.getfield 10, 3) := by decide +kernel
theorem dX7_takeFrom_8 : decode cX7_takeFrom 8 = .ok (.invokevirtual 30, 3) := by decide +kernel
theorem dX7_takeFrom_11 : decode cX7_takeFrom 11 = .ok (.aload_n 0, 1) := by decide +kernel
theorem dX7_takeFrom_12 : decode cX7_takeFrom 12 = .ok (.getfield 19, 3) := by decide +kernel
theorem dX7_takeFrom_15 : decode cX7_takeFrom 15 = .ok (.aload_n 1, 1) := by decide +kernel
theorem dX7_takeFrom_16 : decode cX7_takeFrom 16 = .ok (.getfield 19, 3) := by decide +kernel
theorem dX7_takeFrom_19 : decode cX7_takeFrom 19 = .ok (.invokevirtual 34, 3) := by decide +kernel
theorem dX7_takeFrom_22 : decode cX7_takeFrom 22 = .ok (.aload_n 0, 1) := by decide +kernel
theorem dX7_takeFrom_23 : decode cX7_takeFrom 23 = .ok (.getfield 26, 3) := by decide +kernel
theorem dX7_takeFrom_26 : decode cX7_takeFrom 26 = .ok (.aload_n 1, 1) := by decide +kernel
theorem dX7_takeFrom_27 : decode cX7_takeFrom 27 = .ok (.getfield 26, 3) := by decide +kernel
theorem dX7_takeFrom_30 : decode cX7_takeFrom 30 = .ok (.invokevirtual 37, 3) := by decide +kernel
theorem dX7_takeFrom_33 : decode cX7_takeFrom 33 = .ok (.return_, 1) := by decide +kernel
theorem dX8_init_0 : decode cX8_init 0 = .ok (.aload_n 0, 1) := by decide +kernel
theorem dX8_init_1 : decode cX8_init 1 = .ok (.invokespecial 3, 3) := by decide +kernel
theorem dX8_init_4 : decode cX8_init 4 = .ok (.aload_n 0, 1) := by decide +kernel
theorem dX8_init_5 : decode cX8_init 5 = .ok (.bipush 12, 2) := by decide +kernel
theorem dX8_init_7 : decode cX8_init 7 = .ok (.newarray .int, 2) := by decide +kernel
theorem dX8_init_9 : decode cX8_init 9 = .ok (.putfield 9, 3) := by decide +kernel
theorem dX8_init_12 : decode cX8_init 12 = .ok (.return_, 1) := by decide +kernel
theorem dX8_takeFrom_0 : decode cX8_takeFrom 0 = .ok (.aload_n 1, 1) := by decide +kernel
theorem dX8_takeFrom_1 : decode cX8_takeFrom 1 = .ok (.getfield 9, 3) := by decide +kernel
theorem dX8_takeFrom_4 : decode cX8_takeFrom 4 = .ok (.iconst 0, 1) := by decide +kernel
theorem dX8_takeFrom_5 : decode cX8_takeFrom 5 = .ok (.aload_n 0, 1) := by decide +kernel
theorem dX8_takeFrom_6 : decode cX8_takeFrom 6 = .ok (.getfield 9, 3) := by decide +kernel
theorem dX8_takeFrom_9 : decode cX8_takeFrom 9 = .ok (.iconst 0, 1) := by decide +kernel
theorem dX8_takeFrom_10 : decode cX8_takeFrom 10 = .ok (.bipush 12, 2) := by decide +kernel
theorem dX8_takeFrom_12 : decode cX8_takeFrom 12 = .ok (.invokestatic 15, 3) := by decide +kernel
theorem dX8_takeFrom_15 : decode cX8_takeFrom 15 = .ok (.aload_n 0, 1) := by decide +kernel
theorem dX8_takeFrom_16 : decode cX8_takeFrom 16 = .ok (.aload_n 1, 1) := by decide +kernel
theorem dX8_takeFrom_17 : decode cX8_takeFrom 17 = .ok (.getfield 21, 3) := by decide +kernel
theorem dX8_takeFrom_20 : decode cX8_takeFrom 20 = .ok (.putfield 21, 3) := by decide +kernel
theorem dX8_takeFrom_23 : decode cX8_takeFrom 23 = .ok (.aload_n 0, 1) := by decide +kernel
theorem dX8_takeFrom_24 : decode cX8_takeFrom 24 = .ok (.aload_n 1, 1) := by decide +kernel
theorem dX8_takeFrom_25 : decode cX8_takeFrom 25 = .ok (.getfield 25, 3) := by decide +kernel
theorem dX8_takeFrom_28 : decode cX8_takeFrom 28 = .ok (.putfield 25, 3) := by decide +kernel
theorem dX8_takeFrom_31 : decode cX8_takeFrom 31 = .ok (.aload_n 0, 1) := by decide +kernel
theorem dX8_takeFrom_32 : decode cX8_takeFrom 32 = .ok (.aload_n 1, 1) := by decide +kernel
theorem dX8_takeFrom_33 : decode cX8_takeFrom 33 = .ok (.getfield 28, 3) := by decide +kernel
theorem dX8_takeFrom_36 : decode cX8_takeFrom 36 = .ok (.putfield 28, 3) := by decide +kernel
theorem dX8_takeFrom_39 : decode cX8_takeFrom 39 = .ok (.aload_n 0, 1) := by decide +kernel
theorem dX8_takeFrom_40 : decode cX8_takeFrom 40 = .ok (.aload_n 1, 1) := by decide +kernel
theorem dX8_takeFrom_41 : decode cX8_takeFrom 41 = .ok (.getfield 31, 3) := by decide +kernel
theorem dX8_takeFrom_44 : decode cX8_takeFrom 44 = .ok (.putfield 31, 3) := by decide +kernel
theorem dX8_takeFrom_47 : decode cX8_takeFrom 47 = .ok (.aload_n 0, 1) := by decide +kernel
theorem dX8_takeFrom_48 : decode cX8_takeFrom 48 = .ok (.aload_n 1, 1) := by decide +kernel
theorem dX8_takeFrom_49 : decode cX8_takeFrom 49 = .ok (.getfield 34, 3) := by decide +kernel
theorem dX8_takeFrom_52 : decode cX8_takeFrom 52 = .ok (.putfield 34, 3) := by decide +kernel
theorem dX8_takeFrom_55 : decode cX8_takeFrom 55 = .ok (.return_, 1) := by decide +kernel
theorem dX8_isOn_0 : decode cX8_isOn 0 = .ok (.aload_n 0, 1) := by decide +kernel
theorem dX8_isOn_1 : decode cX8_isOn 1 = .ok (.getfield 21, 3) := by decide +kernel
theorem dX8_isOn_4 : decode cX8_isOn 4 = .ok (.ifCond .le 7, 3) := by decide +kernel
theorem dX8_isOn_7 : decode cX8_isOn 7 = .ok (.iconst 1, 1) := by decide +kernel
theorem dX8_isOn_8 : decode cX8_isOn 8 = .ok (.goto 4, 3) := by decide +kernel
theorem dX8_isOn_11 : decode cX8_isOn 11 = .ok (.iconst 0, 1) := by decide +kernel
theorem dX8_isOn_12 : decode cX8_isOn 12 = .ok (.ireturn, 1) := by decide +kernel
theorem dX8_hasIndex_0 : decode cX8_hasIndex 0 = .ok (.iload_n 1, 1) := by decide +kernel
theorem dX8_hasIndex_1 : decode cX8_hasIndex 1 = .ok (.ifCond .lt 15, 3) := by decide +kernel
theorem dX8_hasIndex_4 : decode cX8_hasIndex 4 = .ok (.iload_n 1, 1) := by decide +kernel
theorem dX8_hasIndex_5 : decode cX8_hasIndex 5 = .ok (.aload_n 0, 1) := by decide +kernel
theorem dX8_hasIndex_6 : decode cX8_hasIndex 6 = .ok (.getfield 21, 3) := by decide +kernel
theorem dX8_hasIndex_9 : decode cX8_hasIndex 9 = .ok (.if_icmp .ge 7, 3) := by decide +kernel
theorem dX8_hasIndex_12 : decode cX8_hasIndex 12 = .ok (.iconst 1, 1) := by decide +kernel
theorem dX8_hasIndex_13 : decode cX8_hasIndex 13 = .ok (.goto 4, 3) := by decide +kernel
theorem dX8_hasIndex_16 : decode cX8_hasIndex 16 = .ok (.iconst 0, 1) := by decide +kernel
theorem dX8_hasIndex_17 : decode cX8_hasIndex 17 = .ok (.ireturn, 1) := by decide +kernel
theorem dX8_isInner_0 : decode cX8_isInner 0 = .ok (.iload_n 1, 1) := by decide +kernel
theorem dX8_isInner_1 : decode cX8_isInner 1 = .ok (.ifCond .le 17, 3) := by decide +kernel
theorem dX8_isInner_4 : decode cX8_isInner 4 = .ok (.iload_n 1, 1) := by decide +kernel
theorem dX8_isInner_5 : decode cX8_isInner 5 = .ok (.aload_n 0, 1) := by decide +kernel
theorem dX8_isInner_6 : decode cX8_isInner 6 = .ok (.getfield 21, 3) := by decide +kernel
theorem dX8_isInner_9 : decode cX8_isInner 9 = .ok (.iconst 1, 1) := by decide +kernel
theorem dX8_isInner_10 : decode cX8_isInner 10 = .ok (.isub, 1) := by decide +kernel
theorem dX8_isInner_11 : decode cX8_isInner 11 = .ok (.if_icmp .ge 7, 3) := by decide +kernel
theorem dX8_isInner_14 : decode cX8_isInner 14 = .ok (.iconst 1, 1) := by decide +kernel
theorem dX8_isInner_15 : decode cX8_isInner 15 = .ok (.goto 4, 3) := by decide +kernel
theorem dX8_isInner_18 : decode cX8_isInner 18 = .ok (.iconst 0, 1) := by decide +kernel
theorem dX8_isInner_19 : decode cX8_isInner 19 = .ok (.ireturn, 1) := by decide +kernel
theorem dX8_waypointAt_0 : decode cX8_waypointAt 0 = .ok (.iload_n 1, 1) := by decide +kernel
theorem dX8_waypointAt_1 : decode cX8_waypointAt 1 = .ok (.ifCond .lt 26, 3) := by decide +kernel
theorem dX8_waypointAt_4 : decode cX8_waypointAt 4 = .ok (.iload_n 1, 1) := by decide +kernel
theorem dX8_waypointAt_5 : decode cX8_waypointAt 5 = .ok (.aload_n 0, 1) := by decide +kernel
theorem dX8_waypointAt_6 : decode cX8_waypointAt 6 = .ok (.getfield 21, 3) := by decide +kernel
theorem dX8_waypointAt_9 : decode cX8_waypointAt 9 = .ok (.if_icmp .ge 18, 3) := by decide +kernel
theorem dX8_waypointAt_12 : decode cX8_waypointAt 12 = .ok (.iload_n 1, 1) := by decide +kernel
theorem dX8_waypointAt_13 : decode cX8_waypointAt 13 = .ok (.bipush 12, 2) := by decide +kernel
theorem dX8_waypointAt_15 : decode cX8_waypointAt 15 = .ok (.if_icmp .ge 12, 3) := by decide +kernel
theorem dX8_waypointAt_18 : decode cX8_waypointAt 18 = .ok (.aload_n 0, 1) := by decide +kernel
theorem dX8_waypointAt_19 : decode cX8_waypointAt 19 = .ok (.getfield 9, 3) := by decide +kernel
theorem dX8_waypointAt_22 : decode cX8_waypointAt 22 = .ok (.iload_n 1, 1) := by decide +kernel
theorem dX8_waypointAt_23 : decode cX8_waypointAt 23 = .ok (.iaload, 1) := by decide +kernel
theorem dX8_waypointAt_24 : decode cX8_waypointAt 24 = .ok (.goto 4, 3) := by decide +kernel
theorem dX8_waypointAt_27 : decode cX8_waypointAt 27 = .ok (.iconst (-1), 1) := by decide +kernel
theorem dX8_waypointAt_28 : decode cX8_waypointAt 28 = .ok (.ireturn, 1) := by decide +kernel
theorem dX8_targetWaypoint_0 : decode cX8_targetWaypoint 0 = .ok (.aload_n 0, 1) := by decide +kernel
theorem dX8_targetWaypoint_1 : decode cX8_targetWaypoint 1 = .ok (.aload_n 0, 1) := by decide +kernel
theorem dX8_targetWaypoint_2 : decode cX8_targetWaypoint 2 = .ok (.getfield 25, 3) := by decide +kernel
theorem dX8_targetWaypoint_5 : decode cX8_targetWaypoint 5 = .ok (.invokevirtual 38, 3) := by decide +kernel
theorem dX8_targetWaypoint_8 : decode cX8_targetWaypoint 8 = .ok (.ireturn, 1) := by decide +kernel
theorem dX8_append_0 : decode cX8_append 0 = .ok (.aload_n 0, 1) := by decide +kernel
theorem dX8_append_1 : decode cX8_append 1 = .ok (.getfield 21, 3) := by decide +kernel
theorem dX8_append_4 : decode cX8_append 4 = .ok (.ifCond .lt 32, 3) := by decide +kernel
theorem dX8_append_7 : decode cX8_append 7 = .ok (.aload_n 0, 1) := by decide +kernel
theorem dX8_append_8 : decode cX8_append 8 = .ok (.getfield 21, 3) := by decide +kernel
theorem dX8_append_11 : decode cX8_append 11 = .ok (.bipush 12, 2) := by decide +kernel
theorem dX8_append_13 : decode cX8_append 13 = .ok (.if_icmp .ge 23, 3) := by decide +kernel
theorem dX8_append_16 : decode cX8_append 16 = .ok (.aload_n 0, 1) := by decide +kernel
theorem dX8_append_17 : decode cX8_append 17 = .ok (.getfield 9, 3) := by decide +kernel
theorem dX8_append_20 : decode cX8_append 20 = .ok (.aload_n 0, 1) := by decide +kernel
theorem dX8_append_21 : decode cX8_append 21 = .ok (.getfield 21, 3) := by decide +kernel
theorem dX8_append_24 : decode cX8_append 24 = .ok (.iload_n 1, 1) := by decide +kernel
theorem dX8_append_25 : decode cX8_append 25 = .ok (.iastore, 1) := by decide +kernel
theorem dX8_append_26 : decode cX8_append 26 = .ok (.aload_n 0, 1) := by decide +kernel
theorem dX8_append_27 : decode cX8_append 27 = .ok (.dup, 1) := by decide +kernel
theorem dX8_append_28 : decode cX8_append 28 = .ok (.getfield 21, 3) := by decide +kernel
theorem dX8_append_31 : decode cX8_append 31 = .ok (.iconst 1, 1) := by decide +kernel
theorem dX8_append_32 : decode cX8_append 32 = .ok (.iadd, 1) := by decide +kernel
theorem dX8_append_33 : decode cX8_append 33 = .ok (.putfield 21, 3) := by decide +kernel
theorem dX8_append_36 : decode cX8_append 36 = .ok (.return_, 1) := by decide +kernel
theorem dX8_advance_0 : decode cX8_advance 0 = .ok (.aload_n 0, 1) := by decide +kernel
theorem dX8_advance_1 : decode cX8_advance 1 = .ok (.dup, 1) := by decide +kernel
theorem dX8_advance_2 : decode cX8_advance 2 = .ok (.getfield 25, 3) := by decide +kernel
theorem dX8_advance_5 : decode cX8_advance 5 = .ok (.iconst 1, 1) := by decide +kernel
theorem dX8_advance_6 : decode cX8_advance 6 = .ok (.iadd, 1) := by decide +kernel
theorem dX8_advance_7 : decode cX8_advance 7 = .ok (.putfield 25, 3) := by decide +kernel
theorem dX8_advance_10 : decode cX8_advance 10 = .ok (.aload_n 0, 1) := by decide +kernel
theorem dX8_advance_11 : decode cX8_advance 11 = .ok (.getfield 25, 3) := by decide +kernel
theorem dX8_advance_14 : decode cX8_advance 14 = .ok (.aload_n 0, 1) := by decide +kernel
theorem dX8_advance_15 : decode cX8_advance 15 = .ok (.getfield 21, 3) := by decide +kernel
theorem dX8_advance_18 : decode cX8_advance 18 = .ok (.if_icmp .lt 7, 3) := by decide +kernel
theorem dX8_advance_21 : decode cX8_advance 21 = .ok (.aload_n 0, 1) := by decide +kernel
theorem dX8_advance_22 : decode cX8_advance 22 = .ok (.invokevirtual 42, 3) := by decide +kernel
theorem dX8_advance_25 : decode cX8_advance 25 = .ok (.return_, 1) := by decide +kernel
theorem dX8_end_0 : decode cX8_end 0 = .ok (.aload_n 0, 1) := by decide +kernel
theorem dX8_end_1 : decode cX8_end 1 = .ok (.iconst 0, 1) := by decide +kernel
theorem dX8_end_2 : decode cX8_end 2 = .ok (.putfield 21, 3) := by decide +kernel
theorem dX8_end_5 : decode cX8_end 5 = .ok (.aload_n 0, 1) := by decide +kernel
theorem dX8_end_6 : decode cX8_end 6 = .ok (.iconst 0, 1) := by decide +kernel
theorem dX8_end_7 : decode cX8_end 7 = .ok (.putfield 25, 3) := by decide +kernel
theorem dX8_end_10 : decode cX8_end 10 = .ok (.aload_n 0, 1) := by decide +kernel
theorem dX8_end_11 : decode cX8_end 11 = .ok (.iconst 0, 1) := by decide +kernel
theorem dX8_end_12 : decode cX8_end 12 = .ok (.putfield 34, 3) := by decide +kernel
theorem dX8_end_15 : decode cX8_end 15 = .ok (.return_, 1) := by decide +kernel
theorem dX9_init_0 : decode cX9_init 0 = .ok (.aload_n 0, 1) := by decide +kernel
theorem dX9_init_1 : decode cX9_init 1 = .ok (.invokespecial 3, 3) := by decide +kernel
theorem dX9_init_4 : decode cX9_init 4 = .ok (.aload_n 0, 1) := by decide +kernel
theorem dX9_init_5 : decode cX9_init 5 = .ok (.bipush 12, 2) := by decide +kernel
theorem dX9_init_7 : decode cX9_init 7 = .ok (.newarray .int, 2) := by decide +kernel
theorem dX9_init_9 : decode cX9_init 9 = .ok (.putfield 9, 3) := by decide +kernel
theorem dX9_init_12 : decode cX9_init 12 = .ok (.aload_n 0, 1) := by decide +kernel
theorem dX9_init_13 : decode cX9_init 13 = .ok (.bipush 12, 2) := by decide +kernel
theorem dX9_init_15 : decode cX9_init 15 = .ok (.newarray .int, 2) := by decide +kernel
theorem dX9_init_17 : decode cX9_init 17 = .ok (.putfield 15, 3) := by decide +kernel
theorem dX9_init_20 : decode cX9_init 20 = .ok (.aload_n 0, 1) := by decide +kernel
theorem dX9_init_21 : decode cX9_init 21 = .ok (.bipush 12, 2) := by decide +kernel
theorem dX9_init_23 : decode cX9_init 23 = .ok (.newarray .int, 2) := by decide +kernel
theorem dX9_init_25 : decode cX9_init 25 = .ok (.putfield 18, 3) := by decide +kernel
theorem dX9_init_28 : decode cX9_init 28 = .ok (.aload_n 0, 1) := by decide +kernel
theorem dX9_init_29 : decode cX9_init 29 = .ok (.sipush 144, 3) := by decide +kernel
theorem dX9_init_32 : decode cX9_init 32 = .ok (.newarray .int, 2) := by decide +kernel
theorem dX9_init_34 : decode cX9_init 34 = .ok (.putfield 21, 3) := by decide +kernel
theorem dX9_init_37 : decode cX9_init 37 = .ok (.return_, 1) := by decide +kernel
theorem dX9_takeFrom_0 : decode cX9_takeFrom 0 = .ok (.aload_n 1, 1) := by decide +kernel
theorem dX9_takeFrom_1 : decode cX9_takeFrom 1 = .ok (.getfield 9, 3) := by decide +kernel
theorem dX9_takeFrom_4 : decode cX9_takeFrom 4 = .ok (.iconst 0, 1) := by decide +kernel
theorem dX9_takeFrom_5 : decode cX9_takeFrom 5 = .ok (.aload_n 0, 1) := by decide +kernel
theorem dX9_takeFrom_6 : decode cX9_takeFrom 6 = .ok (.getfield 9, 3) := by decide +kernel
theorem dX9_takeFrom_9 : decode cX9_takeFrom 9 = .ok (.iconst 0, 1) := by decide +kernel
theorem dX9_takeFrom_10 : decode cX9_takeFrom 10 = .ok (.bipush 12, 2) := by decide +kernel
theorem dX9_takeFrom_12 : decode cX9_takeFrom 12 = .ok (.invokestatic 24, 3) := by decide +kernel
theorem dX9_takeFrom_15 : decode cX9_takeFrom 15 = .ok (.aload_n 1, 1) := by decide +kernel
theorem dX9_takeFrom_16 : decode cX9_takeFrom 16 = .ok (.getfield 15, 3) := by decide +kernel
theorem dX9_takeFrom_19 : decode cX9_takeFrom 19 = .ok (.iconst 0, 1) := by decide +kernel
theorem dX9_takeFrom_20 : decode cX9_takeFrom 20 = .ok (.aload_n 0, 1) := by decide +kernel
theorem dX9_takeFrom_21 : decode cX9_takeFrom 21 = .ok (.getfield 15, 3) := by decide +kernel
theorem dX9_takeFrom_24 : decode cX9_takeFrom 24 = .ok (.iconst 0, 1) := by decide +kernel
theorem dX9_takeFrom_25 : decode cX9_takeFrom 25 = .ok (.bipush 12, 2) := by decide +kernel
theorem dX9_takeFrom_27 : decode cX9_takeFrom 27 = .ok (.invokestatic 24, 3) := by decide +kernel
theorem dX9_takeFrom_30 : decode cX9_takeFrom 30 = .ok (.aload_n 1, 1) := by decide +kernel
theorem dX9_takeFrom_31 : decode cX9_takeFrom 31 = .ok (.getfield 18, 3) := by decide +kernel
theorem dX9_takeFrom_34 : decode cX9_takeFrom 34 = .ok (.iconst 0, 1) := by decide +kernel
theorem dX9_takeFrom_35 : decode cX9_takeFrom 35 = .ok (.aload_n 0, 1) := by decide +kernel
theorem dX9_takeFrom_36 : decode cX9_takeFrom 36 = .ok (.getfield 18, 3) := by decide +kernel
theorem dX9_takeFrom_39 : decode cX9_takeFrom 39 = .ok (.iconst 0, 1) := by decide +kernel
theorem dX9_takeFrom_40 : decode cX9_takeFrom 40 = .ok (.bipush 12, 2) := by decide +kernel
theorem dX9_takeFrom_42 : decode cX9_takeFrom 42 = .ok (.invokestatic 24, 3) := by decide +kernel
theorem dX9_takeFrom_45 : decode cX9_takeFrom 45 = .ok (.aload_n 1, 1) := by decide +kernel
theorem dX9_takeFrom_46 : decode cX9_takeFrom 46 = .ok (.getfield 21, 3) := by decide +kernel
theorem dX9_takeFrom_49 : decode cX9_takeFrom 49 = .ok (.iconst 0, 1) := by decide +kernel
theorem dX9_takeFrom_50 : decode cX9_takeFrom 50 = .ok (.aload_n 0, 1) := by decide +kernel
theorem dX9_takeFrom_51 : decode cX9_takeFrom 51 = .ok (.getfield 21, 3) := by decide +kernel
theorem dX9_takeFrom_54 : decode cX9_takeFrom 54 = .ok (.iconst 0, 1) := by decide +kernel
theorem dX9_takeFrom_55 : decode cX9_takeFrom 55 = .ok (.sipush 144, 3) := by decide +kernel
theorem dX9_takeFrom_58 : decode cX9_takeFrom 58 = .ok (.invokestatic 24, 3) := by decide +kernel
theorem dX9_takeFrom_61 : decode cX9_takeFrom 61 = .ok (.aload_n 0, 1) := by decide +kernel
theorem dX9_takeFrom_62 : decode cX9_takeFrom 62 = .ok (.aload_n 1, 1) := by decide +kernel
theorem dX9_takeFrom_63 : decode cX9_takeFrom 63 = .ok (.getfield 30, 3) := by decide +kernel
theorem dX9_takeFrom_66 : decode cX9_takeFrom 66 = .ok (.putfield 30, 3) := by decide +kernel
theorem dX9_takeFrom_69 : decode cX9_takeFrom 69 = .ok (.aload_n 0, 1) := by decide +kernel
theorem dX9_takeFrom_70 : decode cX9_takeFrom 70 = .ok (.aload_n 1, 1) := by decide +kernel
theorem dX9_takeFrom_71 : decode cX9_takeFrom 71 = .ok (.getfield 34, 3) := by decide +kernel
theorem dX9_takeFrom_74 : decode cX9_takeFrom 74 = .ok (.putfield 34, 3) := by decide +kernel
theorem dX9_takeFrom_77 : decode cX9_takeFrom 77 = .ok (.return_, 1) := by decide +kernel
theorem dX9_isFull_0 : decode cX9_isFull 0 = .ok (.aload_n 0, 1) := by decide +kernel
theorem dX9_isFull_1 : decode cX9_isFull 1 = .ok (.getfield 30, 3) := by decide +kernel
theorem dX9_isFull_4 : decode cX9_isFull 4 = .ok (.bipush 12, 2) := by decide +kernel
theorem dX9_isFull_6 : decode cX9_isFull 6 = .ok (.if_icmp .lt 7, 3) := by decide +kernel
theorem dX9_isFull_9 : decode cX9_isFull 9 = .ok (.iconst 1, 1) := by decide +kernel
theorem dX9_isFull_10 : decode cX9_isFull 10 = .ok (.goto 4, 3) := by decide +kernel
theorem dX9_isFull_13 : decode cX9_isFull 13 = .ok (.iconst 0, 1) := by decide +kernel
theorem dX9_isFull_14 : decode cX9_isFull 14 = .ok (.ireturn, 1) := by decide +kernel
theorem dX9_exists_0 : decode cX9_exists 0 = .ok (.iload_n 1, 1) := by decide +kernel
theorem dX9_exists_1 : decode cX9_exists 1 = .ok (.ifCond .lt 15, 3) := by decide +kernel
theorem dX9_exists_4 : decode cX9_exists 4 = .ok (.iload_n 1, 1) := by decide +kernel
theorem dX9_exists_5 : decode cX9_exists 5 = .ok (.aload_n 0, 1) := by decide +kernel
theorem dX9_exists_6 : decode cX9_exists 6 = .ok (.getfield 30, 3) := by decide +kernel
theorem dX9_exists_9 : decode cX9_exists 9 = .ok (.if_icmp .ge 7, 3) := by decide +kernel
theorem dX9_exists_12 : decode cX9_exists 12 = .ok (.iconst 1, 1) := by decide +kernel
theorem dX9_exists_13 : decode cX9_exists 13 = .ok (.goto 4, 3) := by decide +kernel
theorem dX9_exists_16 : decode cX9_exists 16 = .ok (.iconst 0, 1) := by decide +kernel
theorem dX9_exists_17 : decode cX9_exists 17 = .ok (.ireturn, 1) := by decide +kernel
theorem dX9_xOf_0 : decode cX9_xOf 0 = .ok (.iload_n 1, 1) := by decide +kernel
theorem dX9_xOf_1 : decode cX9_xOf 1 = .ok (.ifCond .lt 18, 3) := by decide +kernel
theorem dX9_xOf_4 : decode cX9_xOf 4 = .ok (.iload_n 1, 1) := by decide +kernel
theorem dX9_xOf_5 : decode cX9_xOf 5 = .ok (.bipush 12, 2) := by decide +kernel
theorem dX9_xOf_7 : decode cX9_xOf 7 = .ok (.if_icmp .ge 12, 3) := by decide +kernel
theorem dX9_xOf_10 : decode cX9_xOf 10 = .ok (.aload_n 0, 1) := by decide +kernel
theorem dX9_xOf_11 : decode cX9_xOf 11 = .ok (.getfield 9, 3) := by decide +kernel
theorem dX9_xOf_14 : decode cX9_xOf 14 = .ok (.iload_n 1, 1) := by decide +kernel
theorem dX9_xOf_15 : decode cX9_xOf 15 = .ok (.iaload, 1) := by decide +kernel
theorem dX9_xOf_16 : decode cX9_xOf 16 = .ok (.goto 4, 3) := by decide +kernel
theorem dX9_xOf_19 : decode cX9_xOf 19 = .ok (.iconst 0, 1) := by decide +kernel
theorem dX9_xOf_20 : decode cX9_xOf 20 = .ok (.ireturn, 1) := by decide +kernel
theorem dX9_yOf_0 : decode cX9_yOf 0 = .ok (.iload_n 1, 1) := by decide +kernel
theorem dX9_yOf_1 : decode cX9_yOf 1 = .ok (.ifCond .lt 18, 3) := by decide +kernel
theorem dX9_yOf_4 : decode cX9_yOf 4 = .ok (.iload_n 1, 1) := by decide +kernel
theorem dX9_yOf_5 : decode cX9_yOf 5 = .ok (.bipush 12, 2) := by decide +kernel
theorem dX9_yOf_7 : decode cX9_yOf 7 = .ok (.if_icmp .ge 12, 3) := by decide +kernel
theorem dX9_yOf_10 : decode cX9_yOf 10 = .ok (.aload_n 0, 1) := by decide +kernel
theorem dX9_yOf_11 : decode cX9_yOf 11 = .ok (.getfield 15, 3) := by decide +kernel
theorem dX9_yOf_14 : decode cX9_yOf 14 = .ok (.iload_n 1, 1) := by decide +kernel
theorem dX9_yOf_15 : decode cX9_yOf 15 = .ok (.iaload, 1) := by decide +kernel
theorem dX9_yOf_16 : decode cX9_yOf 16 = .ok (.goto 4, 3) := by decide +kernel
theorem dX9_yOf_19 : decode cX9_yOf 19 = .ok (.iconst 0, 1) := by decide +kernel
theorem dX9_yOf_20 : decode cX9_yOf 20 = .ok (.ireturn, 1) := by decide +kernel
theorem dX9_radiusOf_0 : decode cX9_radiusOf 0 = .ok (.iload_n 1, 1) := by decide +kernel
theorem dX9_radiusOf_1 : decode cX9_radiusOf 1 = .ok (.ifCond .lt 18, 3) := by decide +kernel
theorem dX9_radiusOf_4 : decode cX9_radiusOf 4 = .ok (.iload_n 1, 1) := by decide +kernel
theorem dX9_radiusOf_5 : decode cX9_radiusOf 5 = .ok (.bipush 12, 2) := by decide +kernel
theorem dX9_radiusOf_7 : decode cX9_radiusOf 7 = .ok (.if_icmp .ge 12, 3) := by decide +kernel
theorem dX9_radiusOf_10 : decode cX9_radiusOf 10 = .ok (.aload_n 0, 1) := by decide +kernel
theorem dX9_radiusOf_11 : decode cX9_radiusOf 11 = .ok (.getfield 18, 3) := by decide +kernel
theorem dX9_radiusOf_14 : decode cX9_radiusOf 14 = .ok (.iload_n 1, 1) := by decide +kernel
theorem dX9_radiusOf_15 : decode cX9_radiusOf 15 = .ok (.iaload, 1) := by decide +kernel
theorem dX9_radiusOf_16 : decode cX9_radiusOf 16 = .ok (.goto 4, 3) := by decide +kernel
theorem dX9_radiusOf_19 : decode cX9_radiusOf 19 = .ok (.iconst 0, 1) := by decide +kernel
theorem dX9_radiusOf_20 : decode cX9_radiusOf 20 = .ok (.ireturn, 1) := by decide +kernel
theorem dX9_lengthBetween_0 : decode cX9_lengthBetween 0 = .ok (.iload_n 1, 1) := by decide +kernel
theorem dX9_lengthBetween_1 : decode cX9_lengthBetween 1 = .ok (.ifCond .lt 19, 3) := by decide +kernel
theorem dX9_lengthBetween_4 : decode cX9_lengthBetween 4 = .ok (.iload_n 1, 1) := by decide +kernel
theorem dX9_lengthBetween_5 : decode cX9_lengthBetween 5 = .ok (.bipush 12, 2) := by decide +kernel
theorem dX9_lengthBetween_7 : decode cX9_lengthBetween 7 = .ok (.if_icmp .ge 13, 3) := by decide +kernel
theorem dX9_lengthBetween_10 : decode cX9_lengthBetween 10 = .ok (.iload_n 2, 1) := by decide +kernel
theorem dX9_lengthBetween_11 : decode cX9_lengthBetween 11 = .ok (.ifCond .lt 9, 3) := by decide +kernel
theorem dX9_lengthBetween_14 : decode cX9_lengthBetween 14 = .ok (.iload_n 2, 1) := by decide +kernel
theorem dX9_lengthBetween_15 : decode cX9_lengthBetween 15 = .ok (.bipush 12, 2) := by decide +kernel
theorem dX9_lengthBetween_17 : decode cX9_lengthBetween 17 = .ok (.if_icmp .lt 5, 3) := by decide +kernel
theorem dX9_lengthBetween_20 : decode cX9_lengthBetween 20 = .ok (.iconst 0, 1) := by decide +kernel
theorem dX9_lengthBetween_21 : decode cX9_lengthBetween 21 = .ok (.ireturn, 1) := by decide +kernel
theorem dX9_lengthBetween_22 : decode cX9_lengthBetween 22 = .ok (.aload_n 0, 1) := by decide +kernel
theorem dX9_lengthBetween_23 : decode cX9_lengthBetween 23 = .ok (.getfield 21, 3) := by decide +kernel
theorem dX9_lengthBetween_26 : decode cX9_lengthBetween 26 = .ok (.iload_n 1, 1) := by decide +kernel
theorem dX9_lengthBetween_27 : decode cX9_lengthBetween 27 = .ok (.bipush 12, 2) := by decide +kernel
theorem dX9_lengthBetween_29 : decode cX9_lengthBetween 29 = .ok (.imul, 1) := by decide +kernel
theorem dX9_lengthBetween_30 : decode cX9_lengthBetween 30 = .ok (.iload_n 2, 1) := by decide +kernel
theorem dX9_lengthBetween_31 : decode cX9_lengthBetween 31 = .ok (.iadd, 1) := by decide +kernel
theorem dX9_lengthBetween_32 : decode cX9_lengthBetween 32 = .ok (.iaload, 1) := by decide +kernel
theorem dX9_lengthBetween_33 : decode cX9_lengthBetween 33 = .ok (.ireturn, 1) := by decide +kernel
theorem dX9_areJoined_0 : decode cX9_areJoined 0 = .ok (.aload_n 0, 1) := by decide +kernel
theorem dX9_areJoined_1 : decode cX9_areJoined 1 = .ok (.iload_n 1, 1) := by decide +kernel
theorem dX9_areJoined_2 : decode cX9_areJoined 2 = .ok (.iload_n 2, 1) := by decide +kernel
theorem dX9_areJoined_3 : decode cX9_areJoined 3 = .ok (.invokevirtual 37, 3) := by decide +kernel
theorem dX9_areJoined_6 : decode cX9_areJoined 6 = .ok (.ifCond .le 7, 3) := by decide +kernel
theorem dX9_areJoined_9 : decode cX9_areJoined 9 = .ok (.iconst 1, 1) := by decide +kernel
theorem dX9_areJoined_10 : decode cX9_areJoined 10 = .ok (.goto 4, 3) := by decide +kernel
theorem dX9_areJoined_13 : decode cX9_areJoined 13 = .ok (.iconst 0, 1) := by decide +kernel
theorem dX9_areJoined_14 : decode cX9_areJoined 14 = .ok (.ireturn, 1) := by decide +kernel
theorem dX9_append_0 : decode cX9_append 0 = .ok (.aload_n 0, 1) := by decide +kernel
theorem dX9_append_1 : decode cX9_append 1 = .ok (.getfield 30, 3) := by decide +kernel
theorem dX9_append_4 : decode cX9_append 4 = .ok (.istore 4, 2) := by decide +kernel
theorem dX9_append_6 : decode cX9_append 6 = .ok (.iload 4, 2) := by decide +kernel
theorem dX9_append_8 : decode cX9_append 8 = .ok (.ifCond .lt 10, 3) := by decide +kernel
theorem dX9_append_11 : decode cX9_append 11 = .ok (.iload 4, 2) := by decide +kernel
theorem dX9_append_13 : decode cX9_append 13 = .ok (.bipush 12, 2) := by decide +kernel
theorem dX9_append_15 : decode cX9_append 15 = .ok (.if_icmp .lt 5, 3) := by decide +kernel
theorem dX9_append_18 : decode cX9_append 18 = .ok (.iconst (-1), 1) := by decide +kernel
theorem dX9_append_19 : decode cX9_append 19 = .ok (.ireturn, 1) := by decide +kernel
theorem dX9_append_20 : decode cX9_append 20 = .ok (.aload_n 0, 1) := by decide +kernel
theorem dX9_append_21 : decode cX9_append 21 = .ok (.getfield 9, 3) := by decide +kernel
theorem dX9_append_24 : decode cX9_append 24 = .ok (.iload 4, 2) := by decide +kernel
theorem dX9_append_26 : decode cX9_append 26 = .ok (.iload_n 1, 1) := by decide +kernel
theorem dX9_append_27 : decode cX9_append 27 = .ok (.iastore, 1) := by decide +kernel
theorem dX9_append_28 : decode cX9_append 28 = .ok (.aload_n 0, 1) := by decide +kernel
theorem dX9_append_29 : decode cX9_append 29 = .ok (.getfield 15, 3) := by decide +kernel
theorem dX9_append_32 : decode cX9_append 32 = .ok (.iload 4, 2) := by decide +kernel
theorem dX9_append_34 : decode cX9_append 34 = .ok (.iload_n 2, 1) := by decide +kernel
theorem dX9_append_35 : decode cX9_append 35 = .ok (.iastore, 1) := by decide +kernel
theorem dX9_append_36 : decode cX9_append 36 = .ok (.aload_n 0, 1) := by decide +kernel
theorem dX9_append_37 : decode cX9_append 37 = .ok (.getfield 18, 3) := by decide +kernel
theorem dX9_append_40 : decode cX9_append 40 = .ok (.iload 4, 2) := by decide +kernel
theorem dX9_append_42 : decode cX9_append 42 = .ok (.iload_n 3, 1) := by decide +kernel
theorem dX9_append_43 : decode cX9_append 43 = .ok (.iastore, 1) := by decide +kernel
theorem dX9_append_44 : decode cX9_append 44 = .ok (.aload_n 0, 1) := by decide +kernel
theorem dX9_append_45 : decode cX9_append 45 = .ok (.dup, 1) := by decide +kernel
theorem dX9_append_46 : decode cX9_append 46 = .ok (.getfield 30, 3) := by decide +kernel
theorem dX9_append_49 : decode cX9_append 49 = .ok (.iconst 1, 1) := by decide +kernel
theorem dX9_append_50 : decode cX9_append 50 = .ok (.iadd, 1) := by decide +kernel
theorem dX9_append_51 : decode cX9_append 51 = .ok (.putfield 30, 3) := by decide +kernel
theorem dX9_append_54 : decode cX9_append 54 = .ok (.iload 4, 2) := by decide +kernel
theorem dX9_append_56 : decode cX9_append 56 = .ok (.ireturn, 1) := by decide +kernel
theorem dX9_join_0 : decode cX9_join 0 = .ok (.aload_n 0, 1) := by decide +kernel
theorem dX9_join_1 : decode cX9_join 1 = .ok (.iload_n 1, 1) := by decide +kernel
theorem dX9_join_2 : decode cX9_join 2 = .ok (.iload_n 2, 1) := by decide +kernel
theorem dX9_join_3 : decode cX9_join 3 = .ok (.iload_n 3, 1) := by decide +kernel
theorem dX9_join_4 : decode cX9_join 4 = .ok (.invokevirtual 41, 3) := by decide +kernel
theorem dX9_join_7 : decode cX9_join 7 = .ok (.aload_n 0, 1) := by decide +kernel
theorem dX9_join_8 : decode cX9_join 8 = .ok (.dup, 1) := by decide +kernel
theorem dX9_join_9 : decode cX9_join 9 = .ok (.getfield 34, 3) := by decide +kernel
theorem dX9_join_12 : decode cX9_join 12 = .ok (.iconst 1, 1) := by decide +kernel
theorem dX9_join_13 : decode cX9_join 13 = .ok (.iadd, 1) := by decide +kernel
theorem dX9_join_14 : decode cX9_join 14 = .ok (.putfield 34, 3) := by decide +kernel
theorem dX9_join_17 : decode cX9_join 17 = .ok (.aload_n 0, 1) := by decide +kernel
theorem dX9_join_18 : decode cX9_join 18 = .ok (.getfield 34, 3) := by decide +kernel
theorem dX9_join_21 : decode cX9_join 21 = .ok (.ireturn, 1) := by decide +kernel
theorem dX9_cut_0 : decode cX9_cut 0 = .ok (.aload_n 0, 1) := by decide +kernel
theorem dX9_cut_1 : decode cX9_cut 1 = .ok (.iload_n 1, 1) := by decide +kernel
theorem dX9_cut_2 : decode cX9_cut 2 = .ok (.iload_n 2, 1) := by decide +kernel
theorem dX9_cut_3 : decode cX9_cut 3 = .ok (.invokevirtual 37, 3) := by decide +kernel
theorem dX9_cut_6 : decode cX9_cut 6 = .ok (.istore_n 3, 1) := by decide +kernel
theorem dX9_cut_7 : decode cX9_cut 7 = .ok (.aload_n 0, 1) := by decide +kernel
theorem dX9_cut_8 : decode cX9_cut 8 = .ok (.iload_n 1, 1) := by decide +kernel
theorem dX9_cut_9 : decode cX9_cut 9 = .ok (.iload_n 2, 1) := by decide +kernel
theorem dX9_cut_10 : decode cX9_cut 10 = .ok (.iconst 0, 1) := by decide +kernel
theorem dX9_cut_11 : decode cX9_cut 11 = .ok (.invokevirtual 41, 3) := by decide +kernel
theorem dX9_cut_14 : decode cX9_cut 14 = .ok (.aload_n 0, 1) := by decide +kernel
theorem dX9_cut_15 : decode cX9_cut 15 = .ok (.dup, 1) := by decide +kernel
theorem dX9_cut_16 : decode cX9_cut 16 = .ok (.getfield 34, 3) := by decide +kernel
theorem dX9_cut_19 : decode cX9_cut 19 = .ok (.iconst 1, 1) := by decide +kernel
theorem dX9_cut_20 : decode cX9_cut 20 = .ok (.isub, 1) := by decide +kernel
theorem dX9_cut_21 : decode cX9_cut 21 = .ok (.putfield 34, 3) := by decide +kernel
theorem dX9_cut_24 : decode cX9_cut 24 = .ok (.iload_n 3, 1) := by decide +kernel
theorem dX9_cut_25 : decode cX9_cut 25 = .ok (.ireturn, 1) := by decide +kernel
theorem dX9_setLength_0 : decode cX9_setLength 0 = .ok (.iload_n 1, 1) := by decide +kernel
theorem dX9_setLength_1 : decode cX9_setLength 1 = .ok (.ifCond .lt 43, 3) := by decide +kernel
theorem dX9_setLength_4 : decode cX9_setLength 4 = .ok (.iload_n 1, 1) := by decide +kernel
theorem dX9_setLength_5 : decode cX9_setLength 5 = .ok (.bipush 12, 2) := by decide +kernel
theorem dX9_setLength_7 : decode cX9_setLength 7 = .ok (.if_icmp .ge 37, 3) := by decide +kernel
theorem dX9_setLength_10 : decode cX9_setLength 10 = .ok (.iload_n 2, 1) := by decide +kernel
theorem dX9_setLength_11 : decode cX9_setLength 11 = .ok (.ifCond .lt 33, 3) := by decide +kernel
theorem dX9_setLength_14 : decode cX9_setLength 14 = .ok (.iload_n 2, 1) := by decide +kernel
theorem dX9_setLength_15 : decode cX9_setLength 15 = .ok (.bipush 12, 2) := by decide +kernel
theorem dX9_setLength_17 : decode cX9_setLength 17 = .ok (.if_icmp .ge 27, 3) := by decide +kernel
theorem dX9_setLength_20 : decode cX9_setLength 20 = .ok (.aload_n 0, 1) := by decide +kernel
theorem dX9_setLength_21 : decode cX9_setLength 21 = .ok (.getfield 21, 3) := by decide +kernel
theorem dX9_setLength_24 : decode cX9_setLength 24 = .ok (.iload_n 1, 1) := by decide +kernel
theorem dX9_setLength_25 : decode cX9_setLength 25 = .ok (.bipush 12, 2) := by decide +kernel
theorem dX9_setLength_27 : decode cX9_setLength 27 = .ok (.imul, 1) := by decide +kernel
theorem dX9_setLength_28 : decode cX9_setLength 28 = .ok (.iload_n 2, 1) := by decide +kernel
theorem dX9_setLength_29 : decode cX9_setLength 29 = .ok (.iadd, 1) := by decide +kernel
theorem dX9_setLength_30 : decode cX9_setLength 30 = .ok (.iload_n 3, 1) := by decide +kernel
theorem dX9_setLength_31 : decode cX9_setLength 31 = .ok (.iastore, 1) := by decide +kernel
theorem dX9_setLength_32 : decode cX9_setLength 32 = .ok (.aload_n 0, 1) := by decide +kernel
theorem dX9_setLength_33 : decode cX9_setLength 33 = .ok (.getfield 21, 3) := by decide +kernel
theorem dX9_setLength_36 : decode cX9_setLength 36 = .ok (.iload_n 2, 1) := by decide +kernel
theorem dX9_setLength_37 : decode cX9_setLength 37 = .ok (.bipush 12, 2) := by decide +kernel
theorem dX9_setLength_39 : decode cX9_setLength 39 = .ok (.imul, 1) := by decide +kernel
theorem dX9_setLength_40 : decode cX9_setLength 40 = .ok (.iload_n 1, 1) := by decide +kernel
theorem dX9_setLength_41 : decode cX9_setLength 41 = .ok (.iadd, 1) := by decide +kernel
theorem dX9_setLength_42 : decode cX9_setLength 42 = .ok (.iload_n 3, 1) := by decide +kernel
theorem dX9_setLength_43 : decode cX9_setLength 43 = .ok (.iastore, 1) := by decide +kernel
theorem dX9_setLength_44 : decode cX9_setLength 44 = .ok (.return_, 1) := by decide +kernel
theorem dX9_sumOfLengths_0 : decode cX9_sumOfLengths 0 = .ok (.iconst 0, 1) := by decide +kernel
theorem dX9_sumOfLengths_1 : decode cX9_sumOfLengths 1 = .ok (.istore_n 1, 1) := by decide +kernel
theorem dX9_sumOfLengths_2 : decode cX9_sumOfLengths 2 = .ok (.iconst 0, 1) := by decide +kernel
theorem dX9_sumOfLengths_3 : decode cX9_sumOfLengths 3 = .ok (.istore_n 2, 1) := by decide +kernel
theorem dX9_sumOfLengths_4 : decode cX9_sumOfLengths 4 = .ok (.iload_n 2, 1) := by decide +kernel
theorem dX9_sumOfLengths_5 : decode cX9_sumOfLengths 5 = .ok (.aload_n 0, 1) := by decide +kernel
theorem dX9_sumOfLengths_6 : decode cX9_sumOfLengths 6 = .ok (.getfield 30, 3) := by decide +kernel
theorem dX9_sumOfLengths_9 : decode cX9_sumOfLengths 9 = .ok (.if_icmp .ge 36, 3) := by decide +kernel
theorem dX9_sumOfLengths_12 : decode cX9_sumOfLengths 12 = .ok (.iload_n 2, 1) := by decide +kernel
theorem dX9_sumOfLengths_13 : decode cX9_sumOfLengths 13 = .ok (.iconst 1, 1) := by decide +kernel
theorem dX9_sumOfLengths_14 : decode cX9_sumOfLengths 14 = .ok (.iadd, 1) := by decide +kernel
theorem dX9_sumOfLengths_15 : decode cX9_sumOfLengths 15 = .ok (.istore_n 3, 1) := by decide +kernel
theorem dX9_sumOfLengths_16 : decode cX9_sumOfLengths 16 = .ok (.iload_n 3, 1) := by decide +kernel
theorem dX9_sumOfLengths_17 : decode cX9_sumOfLengths 17 = .ok (.aload_n 0, 1) := by decide +kernel
theorem dX9_sumOfLengths_18 : decode cX9_sumOfLengths 18 = .ok (.getfield 30, 3) := by decide +kernel
theorem dX9_sumOfLengths_21 : decode cX9_sumOfLengths 21 = .ok (.if_icmp .ge 18, 3) := by decide +kernel
theorem dX9_sumOfLengths_24 : decode cX9_sumOfLengths 24 = .ok (.iload_n 1, 1) := by decide +kernel
theorem dX9_sumOfLengths_25 : decode cX9_sumOfLengths 25 = .ok (.aload_n 0, 1) := by decide +kernel
theorem dX9_sumOfLengths_26 : decode cX9_sumOfLengths 26 = .ok (.iload_n 2, 1) := by decide +kernel
theorem dX9_sumOfLengths_27 : decode cX9_sumOfLengths 27 = .ok (.iload_n 3, 1) := by decide +kernel
theorem dX9_sumOfLengths_28 : decode cX9_sumOfLengths 28 = .ok (.invokevirtual 37, 3) := by decide +kernel
theorem dX9_sumOfLengths_31 : decode cX9_sumOfLengths 31 = .ok (.iadd, 1) := by decide +kernel
theorem dX9_sumOfLengths_32 : decode cX9_sumOfLengths 32 = .ok (.istore_n 1, 1) := by decide +kernel
theorem dX9_sumOfLengths_33 : decode cX9_sumOfLengths 33 = .ok (.iinc 3 1, 3) := by decide +kernel
theorem dX9_sumOfLengths_36 : decode cX9_sumOfLengths 36 = .ok (.goto (-20), 3) := by decide +kernel
theorem dX9_sumOfLengths_39 : decode cX9_sumOfLengths 39 = .ok (.iinc 2 1, 3) := by decide +kernel
theorem dX9_sumOfLengths_42 : decode cX9_sumOfLengths 42 = .ok (.goto (-38), 3) := by decide +kernel
theorem dX9_sumOfLengths_45 : decode cX9_sumOfLengths 45 = .ok (.iload_n 1, 1) := by decide +kernel
theorem dX9_sumOfLengths_46 : decode cX9_sumOfLengths 46 = .ok (.ireturn, 1) := by decide +kernel
theorem dX9_squareTo_0 : decode cX9_squareTo 0 = .ok (.iload_n 2, 1) := by decide +kernel
theorem dX9_squareTo_1 : decode cX9_squareTo 1 = .ok (.aload_n 0, 1) := by decide +kernel
theorem dX9_squareTo_2 : decode cX9_squareTo 2 = .ok (.iload_n 1, 1) := by decide +kernel
theorem dX9_squareTo_3 : decode cX9_squareTo 3 = .ok (.invokevirtual 45, 3) := by decide +kernel
theorem dX9_squareTo_6 : decode cX9_squareTo 6 = .ok (.isub, 1) := by decide +kernel
theorem dX9_squareTo_7 : decode cX9_squareTo 7 = .ok (.istore 4, 2) := by decide +kernel
theorem dX9_squareTo_9 : decode cX9_squareTo 9 = .ok (.iload_n 3, 1) := by decide +kernel
theorem dX9_squareTo_10 : decode cX9_squareTo 10 = .ok (.aload_n 0, 1) := by decide +kernel
theorem dX9_squareTo_11 : decode cX9_squareTo 11 = .ok (.iload_n 1, 1) := by decide +kernel
theorem dX9_squareTo_12 : decode cX9_squareTo 12 = .ok (.invokevirtual 49, 3) := by decide +kernel
theorem dX9_squareTo_15 : decode cX9_squareTo 15 = .ok (.isub, 1) := by decide +kernel
theorem dX9_squareTo_16 : decode cX9_squareTo 16 = .ok (.istore 5, 2) := by decide +kernel
theorem dX9_squareTo_18 : decode cX9_squareTo 18 = .ok (.iload 4, 2) := by decide +kernel
theorem dX9_squareTo_20 : decode cX9_squareTo 20 = .ok (.iload 4, 2) := by decide +kernel
theorem dX9_squareTo_22 : decode cX9_squareTo 22 = .ok (.imul, 1) := by decide +kernel
theorem dX9_squareTo_23 : decode cX9_squareTo 23 = .ok (.iload 5, 2) := by decide +kernel
theorem dX9_squareTo_25 : decode cX9_squareTo 25 = .ok (.iload 5, 2) := by decide +kernel
theorem dX9_squareTo_27 : decode cX9_squareTo 27 = .ok (.imul, 1) := by decide +kernel
theorem dX9_squareTo_28 : decode cX9_squareTo 28 = .ok (.iadd, 1) := by decide +kernel
theorem dX9_squareTo_29 : decode cX9_squareTo 29 = .ok (.ireturn, 1) := by decide +kernel
theorem dX9_closestTo_0 : decode cX9_closestTo 0 = .ok (.iconst (-1), 1) := by decide +kernel
theorem dX9_closestTo_1 : decode cX9_closestTo 1 = .ok (.istore_n 3, 1) := by decide +kernel
theorem dX9_closestTo_2 : decode cX9_closestTo 2 = .ok (.iconst 0, 1) := by decide +kernel
theorem dX9_closestTo_3 : decode cX9_closestTo 3 = .ok (.istore 4, 2) := by decide +kernel
theorem dX9_closestTo_5 : decode cX9_closestTo 5 = .ok (.iload 4, 2) := by decide +kernel
theorem dX9_closestTo_7 : decode cX9_closestTo 7 = .ok (.aload_n 0, 1) := by decide +kernel
theorem dX9_closestTo_8 : decode cX9_closestTo 8 = .ok (.getfield 30, 3) := by decide +kernel
theorem dX9_closestTo_11 : decode cX9_closestTo 11 = .ok (.if_icmp .ge 35, 3) := by decide +kernel
theorem dX9_closestTo_14 : decode cX9_closestTo 14 = .ok (.iload_n 3, 1) := by decide +kernel
theorem dX9_closestTo_15 : decode cX9_closestTo 15 = .ok (.iconst (-1), 1) := by decide +kernel
theorem dX9_closestTo_16 : decode cX9_closestTo 16 = .ok (.if_icmp .eq 21, 3) := by decide +kernel
theorem dX9_closestTo_19 : decode cX9_closestTo 19 = .ok (.aload_n 0, 1) := by decide +kernel
theorem dX9_closestTo_20 : decode cX9_closestTo 20 = .ok (.iload 4, 2) := by decide +kernel
theorem dX9_closestTo_22 : decode cX9_closestTo 22 = .ok (.iload_n 1, 1) := by decide +kernel
theorem dX9_closestTo_23 : decode cX9_closestTo 23 = .ok (.iload_n 2, 1) := by decide +kernel
theorem dX9_closestTo_24 : decode cX9_closestTo 24 = .ok (.invokevirtual 52, 3) := by decide +kernel
theorem dX9_closestTo_27 : decode cX9_closestTo 27 = .ok (.aload_n 0, 1) := by decide +kernel
theorem dX9_closestTo_28 : decode cX9_closestTo 28 = .ok (.iload_n 3, 1) := by decide +kernel
theorem dX9_closestTo_29 : decode cX9_closestTo 29 = .ok (.iload_n 1, 1) := by decide +kernel
theorem dX9_closestTo_30 : decode cX9_closestTo 30 = .ok (.iload_n 2, 1) := by decide +kernel
theorem dX9_closestTo_31 : decode cX9_closestTo 31 = .ok (.invokevirtual 52, 3) := by decide +kernel
theorem dX9_closestTo_34 : decode cX9_closestTo 34 = .ok (.if_icmp .ge 6, 3) := by decide +kernel
theorem dX9_closestTo_37 : decode cX9_closestTo 37 = .ok (.iload 4, 2) := by decide +kernel
theorem dX9_closestTo_39 : decode cX9_closestTo 39 = .ok (.istore_n 3, 1) := by decide +kernel
theorem dX9_closestTo_40 : decode cX9_closestTo 40 = .ok (.iinc 4 1, 3) := by decide +kernel
theorem dX9_closestTo_43 : decode cX9_closestTo 43 = .ok (.goto (-38), 3) := by decide +kernel
theorem dX9_closestTo_46 : decode cX9_closestTo 46 = .ok (.iload_n 3, 1) := by decide +kernel
theorem dX9_closestTo_47 : decode cX9_closestTo 47 = .ok (.ireturn, 1) := by decide +kernel
theorem dX10_init_0 : decode cX10_init 0 = .ok (.aload_n 0, 1) := by decide +kernel
theorem dX10_init_1 : decode cX10_init 1 = .ok (.invokespecial 3, 3) := by decide +kernel
theorem dX10_init_4 : decode cX10_init 4 = .ok (.aload_n 0, 1) := by decide +kernel
theorem dX10_init_5 : decode cX10_init 5 = .ok (.new 9, 3) := by decide +kernel
theorem dX10_init_8 : decode cX10_init 8 = .ok (.dup, 1) := by decide +kernel
theorem dX10_init_9 : decode cX10_init 9 = .ok (.invokespecial 11, 3) := by decide +kernel
theorem dX10_init_12 : decode cX10_init 12 = .ok (.putfield 12, 3) := by decide +kernel
theorem dX10_init_15 : decode cX10_init 15 = .ok (.aload_n 0, 1) := by decide +kernel
theorem dX10_init_16 : decode cX10_init 16 = .ok (.new 16, 3) := by decide +kernel
theorem dX10_init_19 : decode cX10_init 19 = .ok (.dup, 1) := by decide +kernel
theorem dX10_init_20 : decode cX10_init 20 = .ok (.invokespecial 18, 3) := by decide +kernel
theorem dX10_init_23 : decode cX10_init 23 = .ok (.putfield 19, 3) := by decide +kernel
theorem dX10_init_26 : decode cX10_init 26 = .ok (.aload_n 0, 1) := by decide +kernel
theorem dX10_init_27 : decode cX10_init 27 = .ok (.new 23, 3) := by decide +kernel
theorem dX10_init_30 : decode cX10_init 30 = .ok (.dup, 1) := by decide +kernel
theorem dX10_init_31 : decode cX10_init 31 = .ok (.invokespecial 25, 3) := by decide +kernel
theorem dX10_init_34 : decode cX10_init 34 = .ok (.putfield 26, 3) := by decide +kernel
theorem dX10_init_37 : decode cX10_init 37 = .ok (.aload_n 0, 1) := by decide +kernel
theorem dX10_init_38 : decode cX10_init 38 = .ok (.new 23, 3) := by decide +kernel
theorem dX10_init_41 : decode cX10_init 41 = .ok (.dup, 1) := by decide +kernel
theorem dX10_init_42 : decode cX10_init 42 = .ok (.invokespecial 25, 3) := by decide +kernel
theorem dX10_init_45 : decode cX10_init 45 = .ok (.putfield 30, 3) := by decide +kernel
theorem dX10_init_48 : decode cX10_init 48 = .ok (.aload_n 0, 1) := by decide +kernel
theorem dX10_init_49 : decode cX10_init 49 = .ok (.new 33, 3) := by decide +kernel
theorem dX10_init_52 : decode cX10_init 52 = .ok (.dup, 1) := by decide +kernel
theorem dX10_init_53 : decode cX10_init 53 = .ok (.invokespecial 35, 3) := by decide +kernel
theorem dX10_init_56 : decode cX10_init 56 = .ok (.putfield 36, 3) := by decide +kernel
theorem dX10_init_59 : decode cX10_init 59 = .ok (.aload_n 0, 1) := by decide +kernel
theorem dX10_init_60 : decode cX10_init 60 = .ok (.new 40, 3) := by decide +kernel
theorem dX10_init_63 : decode cX10_init 63 = .ok (.dup, 1) := by decide +kernel
theorem dX10_init_64 : decode cX10_init 64 = .ok (.invokespecial 42, 3) := by decide +kernel
theorem dX10_init_67 : decode cX10_init 67 = .ok (.putfield 43, 3) := by decide +kernel
theorem dX10_init_70 : decode cX10_init 70 = .ok (.aload_n 0, 1) := by decide +kernel
theorem dX10_init_71 : decode cX10_init 71 = .ok (.iconst 0, 1) := by decide +kernel
theorem dX10_init_72 : decode cX10_init 72 = .ok (.putfield 47, 3) := by decide +kernel
theorem dX10_init_75 : decode cX10_init 75 = .ok (.aload_n 0, 1) := by decide +kernel
theorem dX10_init_76 : decode cX10_init 76 = .ok (.iconst (-1), 1) := by decide +kernel
theorem dX10_init_77 : decode cX10_init 77 = .ok (.putfield 51, 3) := by decide +kernel
theorem dX10_init_80 : decode cX10_init 80 = .ok (.aload_n 0, 1) := by decide +kernel
theorem dX10_init_81 : decode cX10_init 81 = .ok (.iconst (-1), 1) := by decide +kernel
theorem dX10_init_82 : decode cX10_init 82 = .ok (.putfield 55, 3) := by decide +kernel
theorem dX10_init_85 : decode cX10_init 85 = .ok (.return_, 1) := by decide +kernel
theorem dX10_addWaypoint_0 : decode cX10_addWaypoint 0 = .ok (.aload_n 0, 1) := by decide +kernel
theorem dX10_addWaypoint_1 : decode cX10_addWaypoint 1 = .ok (.iconst 0, 1) := by decide +kernel
theorem dX10_addWaypoint_2 : decode cX10_addWaypoint 2 = .ok (.iload_n 1, 1) := by decide +kernel
theorem dX10_addWaypoint_3 : decode cX10_addWaypoint 3 = .ok (.iload_n 2, 1) := by decide +kernel
theorem dX10_addWaypoint_4 : decode cX10_addWaypoint 4 = .ok (.iload_n 3, 1) := by decide +kernel
theorem dX10_addWaypoint_5 : decode cX10_addWaypoint 5 = .ok (.invokevirtual 58, 3) := by decide +kernel
theorem dX10_addWaypoint_8 : decode cX10_addWaypoint 8 = .ok (.ireturn, 1) := by decide +kernel
theorem dX10_addTrail_0 : decode cX10_addTrail 0 = .ok (.aload_n 0, 1) := by decide +kernel
theorem dX10_addTrail_1 : decode cX10_addTrail 1 = .ok (.iconst 1, 1) := by decide +kernel
theorem dX10_addTrail_2 : decode cX10_addTrail 2 = .ok (.iload_n 1, 1) := by decide +kernel
theorem dX10_addTrail_3 : decode cX10_addTrail 3 = .ok (.iload_n 2, 1) := by decide +kernel
theorem dX10_addTrail_4 : decode cX10_addTrail 4 = .ok (.iload_n 3, 1) := by decide +kernel
theorem dX10_addTrail_5 : decode cX10_addTrail 5 = .ok (.invokevirtual 58, 3) := by decide +kernel
theorem dX10_addTrail_8 : decode cX10_addTrail 8 = .ok (.ireturn, 1) := by decide +kernel
theorem dX10_removeTrail_0 : decode cX10_removeTrail 0 = .ok (.aload_n 0, 1) := by decide +kernel
theorem dX10_removeTrail_1 : decode cX10_removeTrail 1 = .ok (.iconst 2, 1) := by decide +kernel
theorem dX10_removeTrail_2 : decode cX10_removeTrail 2 = .ok (.iload_n 1, 1) := by decide +kernel
theorem dX10_removeTrail_3 : decode cX10_removeTrail 3 = .ok (.iload_n 2, 1) := by decide +kernel
theorem dX10_removeTrail_4 : decode cX10_removeTrail 4 = .ok (.iconst 0, 1) := by decide +kernel
theorem dX10_removeTrail_5 : decode cX10_removeTrail 5 = .ok (.invokevirtual 58, 3) := by decide +kernel
theorem dX10_removeTrail_8 : decode cX10_removeTrail 8 = .ok (.ireturn, 1) := by decide +kernel
theorem dX10_startTour_0 : decode cX10_startTour 0 = .ok (.aload_n 0, 1) := by decide +kernel
theorem dX10_startTour_1 : decode cX10_startTour 1 = .ok (.iconst 3, 1) := by decide +kernel
theorem dX10_startTour_2 : decode cX10_startTour 2 = .ok (.iload_n 1, 1) := by decide +kernel
theorem dX10_startTour_3 : decode cX10_startTour 3 = .ok (.iload_n 2, 1) := by decide +kernel
theorem dX10_startTour_4 : decode cX10_startTour 4 = .ok (.iconst 0, 1) := by decide +kernel
theorem dX10_startTour_5 : decode cX10_startTour 5 = .ok (.invokevirtual 58, 3) := by decide +kernel
theorem dX10_startTour_8 : decode cX10_startTour 8 = .ok (.ireturn, 1) := by decide +kernel
theorem dX10_stopTour_0 : decode cX10_stopTour 0 = .ok (.aload_n 0, 1) := by decide +kernel
theorem dX10_stopTour_1 : decode cX10_stopTour 1 = .ok (.bipush 8, 2) := by decide +kernel
theorem dX10_stopTour_3 : decode cX10_stopTour 3 = .ok (.iconst 0, 1) := by decide +kernel
theorem dX10_stopTour_4 : decode cX10_stopTour 4 = .ok (.iconst 0, 1) := by decide +kernel
theorem dX10_stopTour_5 : decode cX10_stopTour 5 = .ok (.iconst 0, 1) := by decide +kernel
theorem dX10_stopTour_6 : decode cX10_stopTour 6 = .ok (.invokevirtual 58, 3) := by decide +kernel
theorem dX10_stopTour_9 : decode cX10_stopTour 9 = .ok (.ireturn, 1) := by decide +kernel
theorem dX10_update_0 : decode cX10_update 0 = .ok (.aload_n 0, 1) := by decide +kernel
theorem dX10_update_1 : decode cX10_update 1 = .ok (.bipush 7, 2) := by decide +kernel
theorem dX10_update_3 : decode cX10_update 3 = .ok (.iload_n 1, 1) := by decide +kernel
theorem dX10_update_4 : decode cX10_update 4 = .ok (.iload_n 2, 1) := by decide +kernel
theorem dX10_update_5 : decode cX10_update 5 = .ok (.iconst 0, 1) := by decide +kernel
theorem dX10_update_6 : decode cX10_update 6 = .ok (.invokevirtual 58, 3) := by decide +kernel
theorem dX10_update_9 : decode cX10_update 9 = .ok (.iconst 1, 1) := by decide +kernel
theorem dX10_update_10 : decode cX10_update 10 = .ok (.if_icmp .ne 7, 3) := by decide +kernel
theorem dX10_update_13 : decode cX10_update 13 = .ok (.iconst 1, 1) := by decide +kernel
theorem dX10_update_14 : decode cX10_update 14 = .ok (.goto 4, 3) := by decide +kernel
theorem dX10_update_17 : decode cX10_update 17 = .ok (.iconst 0, 1) := by decide +kernel
theorem dX10_update_18 : decode cX10_update 18 = .ok (.ireturn, 1) := by decide +kernel
theorem dX10_setTolerance_0 : decode cX10_setTolerance 0 = .ok (.aload_n 0, 1) := by decide +kernel
theorem dX10_setTolerance_1 : decode cX10_setTolerance 1 = .ok (.iconst 5, 1) := by decide +kernel
theorem dX10_setTolerance_2 : decode cX10_setTolerance 2 = .ok (.iload_n 1, 1) := by decide +kernel
theorem dX10_setTolerance_3 : decode cX10_setTolerance 3 = .ok (.iconst 0, 1) := by decide +kernel
theorem dX10_setTolerance_4 : decode cX10_setTolerance 4 = .ok (.iconst 0, 1) := by decide +kernel
theorem dX10_setTolerance_5 : decode cX10_setTolerance 5 = .ok (.invokevirtual 58, 3) := by decide +kernel
theorem dX10_setTolerance_8 : decode cX10_setTolerance 8 = .ok (.ireturn, 1) := by decide +kernel
theorem dX10_setMode_0 : decode cX10_setMode 0 = .ok (.aload_n 0, 1) := by decide +kernel
theorem dX10_setMode_1 : decode cX10_setMode 1 = .ok (.iconst 4, 1) := by decide +kernel
theorem dX10_setMode_2 : decode cX10_setMode 2 = .ok (.iload_n 1, 1) := by decide +kernel
theorem dX10_setMode_3 : decode cX10_setMode 3 = .ok (.iconst 0, 1) := by decide +kernel
theorem dX10_setMode_4 : decode cX10_setMode 4 = .ok (.iconst 0, 1) := by decide +kernel
theorem dX10_setMode_5 : decode cX10_setMode 5 = .ok (.invokevirtual 58, 3) := by decide +kernel
theorem dX10_setMode_8 : decode cX10_setMode 8 = .ok (.ireturn, 1) := by decide +kernel
theorem dX10_charge_0 : decode cX10_charge 0 = .ok (.aload_n 0, 1) := by decide +kernel
theorem dX10_charge_1 : decode cX10_charge 1 = .ok (.bipush 6, 2) := by decide +kernel
theorem dX10_charge_3 : decode cX10_charge 3 = .ok (.iload_n 1, 1) := by decide +kernel
theorem dX10_charge_4 : decode cX10_charge 4 = .ok (.iconst 0, 1) := by decide +kernel
theorem dX10_charge_5 : decode cX10_charge 5 = .ok (.iconst 0, 1) := by decide +kernel
theorem dX10_charge_6 : decode cX10_charge 6 = .ok (.invokevirtual 58, 3) := by decide +kernel
theorem dX10_charge_9 : decode cX10_charge 9 = .ok (.ireturn, 1) := by decide +kernel
theorem dX10_waypoints_0 : decode cX10_waypoints 0 = .ok (.aload_n 0, 1) := by decide +kernel
theorem dX10_waypoints_1 : decode cX10_waypoints 1 = .ok (.getfield 12, 3) := by decide +kernel
theorem dX10_waypoints_4 : decode cX10_waypoints 4 = .ok (.getfield 62, 3) := by decide +kernel
theorem dX10_waypoints_7 : decode cX10_waypoints 7 = .ok (.getfield 65, 3) := by decide +kernel
theorem dX10_waypoints_10 : decode cX10_waypoints 10 = .ok (.getfield 69, 3) := by decide +kernel
theorem dX10_waypoints_13 : decode cX10_waypoints 13 = .ok (.ireturn, 1) := by decide +kernel
theorem dX10_waypointX_0 : decode cX10_waypointX 0 = .ok (.aload_n 0, 1) := by decide +kernel
theorem dX10_waypointX_1 : decode cX10_waypointX 1 = .ok (.iload_n 1, 1) := by decide +kernel
theorem dX10_waypointX_2 : decode cX10_waypointX 2 = .ok (.invokevirtual 74, 3) := by decide +kernel
theorem dX10_waypointX_5 : decode cX10_waypointX 5 = .ok (.aload_n 0, 1) := by decide +kernel
theorem dX10_waypointX_6 : decode cX10_waypointX 6 = .ok (.getfield 12, 3) := by decide +kernel
theorem dX10_waypointX_9 : decode cX10_waypointX 9 = .ok (.getfield 62, 3) := by decide +kernel
theorem dX10_waypointX_12 : decode cX10_waypointX 12 = .ok (.getfield 65, 3) := by decide +kernel
theorem dX10_waypointX_15 : decode cX10_waypointX 15 = .ok (.iload_n 1, 1) := by decide +kernel
theorem dX10_waypointX_16 : decode cX10_waypointX 16 = .ok (.invokevirtual 78, 3) := by decide +kernel
theorem dX10_waypointX_19 : decode cX10_waypointX 19 = .ok (.ireturn, 1) := by decide +kernel
theorem dX10_waypointY_0 : decode cX10_waypointY 0 = .ok (.aload_n 0, 1) := by decide +kernel
theorem dX10_waypointY_1 : decode cX10_waypointY 1 = .ok (.iload_n 1, 1) := by decide +kernel
theorem dX10_waypointY_2 : decode cX10_waypointY 2 = .ok (.invokevirtual 74, 3) := by decide +kernel
theorem dX10_waypointY_5 : decode cX10_waypointY 5 = .ok (.aload_n 0, 1) := by decide +kernel
theorem dX10_waypointY_6 : decode cX10_waypointY 6 = .ok (.getfield 12, 3) := by decide +kernel
theorem dX10_waypointY_9 : decode cX10_waypointY 9 = .ok (.getfield 62, 3) := by decide +kernel
theorem dX10_waypointY_12 : decode cX10_waypointY 12 = .ok (.getfield 65, 3) := by decide +kernel
theorem dX10_waypointY_15 : decode cX10_waypointY 15 = .ok (.iload_n 1, 1) := by decide +kernel
theorem dX10_waypointY_16 : decode cX10_waypointY 16 = .ok (.invokevirtual 82, 3) := by decide +kernel
theorem dX10_waypointY_19 : decode cX10_waypointY 19 = .ok (.ireturn, 1) := by decide +kernel
theorem dX10_radius_0 : decode cX10_radius 0 = .ok (.aload_n 0, 1) := by decide +kernel
theorem dX10_radius_1 : decode cX10_radius 1 = .ok (.iload_n 1, 1) := by decide +kernel
theorem dX10_radius_2 : decode cX10_radius 2 = .ok (.invokevirtual 74, 3) := by decide +kernel
theorem dX10_radius_5 : decode cX10_radius 5 = .ok (.aload_n 0, 1) := by decide +kernel
theorem dX10_radius_6 : decode cX10_radius 6 = .ok (.getfield 12, 3) := by decide +kernel
theorem dX10_radius_9 : decode cX10_radius 9 = .ok (.getfield 62, 3) := by decide +kernel
theorem dX10_radius_12 : decode cX10_radius 12 = .ok (.getfield 65, 3) := by decide +kernel
theorem dX10_radius_15 : decode cX10_radius 15 = .ok (.iload_n 1, 1) := by decide +kernel
theorem dX10_radius_16 : decode cX10_radius 16 = .ok (.invokevirtual 85, 3) := by decide +kernel
theorem dX10_radius_19 : decode cX10_radius 19 = .ok (.ireturn, 1) := by decide +kernel
theorem dX10_trails_0 : decode cX10_trails 0 = .ok (.aload_n 0, 1) := by decide +kernel
theorem dX10_trails_1 : decode cX10_trails 1 = .ok (.getfield 12, 3) := by decide +kernel
theorem dX10_trails_4 : decode cX10_trails 4 = .ok (.getfield 62, 3) := by decide +kernel
theorem dX10_trails_7 : decode cX10_trails 7 = .ok (.getfield 65, 3) := by decide +kernel
theorem dX10_trails_10 : decode cX10_trails 10 = .ok (.getfield 88, 3) := by decide +kernel
theorem dX10_trails_13 : decode cX10_trails 13 = .ok (.ireturn, 1) := by decide +kernel
theorem dX10_hasTrail_0 : decode cX10_hasTrail 0 = .ok (.aload_n 0, 1) := by decide +kernel
theorem dX10_hasTrail_1 : decode cX10_hasTrail 1 = .ok (.iload_n 1, 1) := by decide +kernel
theorem dX10_hasTrail_2 : decode cX10_hasTrail 2 = .ok (.invokevirtual 74, 3) := by decide +kernel
theorem dX10_hasTrail_5 : decode cX10_hasTrail 5 = .ok (.aload_n 0, 1) := by decide +kernel
theorem dX10_hasTrail_6 : decode cX10_hasTrail 6 = .ok (.iload_n 2, 1) := by decide +kernel
theorem dX10_hasTrail_7 : decode cX10_hasTrail 7 = .ok (.invokevirtual 74, 3) := by decide +kernel
theorem dX10_hasTrail_10 : decode cX10_hasTrail 10 = .ok (.aload_n 0, 1) := by decide +kernel
theorem dX10_hasTrail_11 : decode cX10_hasTrail 11 = .ok (.getfield 12, 3) := by decide +kernel
theorem dX10_hasTrail_14 : decode cX10_hasTrail 14 = .ok (.getfield 62, 3) := by decide +kernel
theorem dX10_hasTrail_17 : decode cX10_hasTrail 17 = .ok (.getfield 65, 3) := by decide +kernel
theorem dX10_hasTrail_20 : decode cX10_hasTrail 20 = .ok (.iload_n 1, 1) := by decide +kernel
theorem dX10_hasTrail_21 : decode cX10_hasTrail 21 = .ok (.iload_n 2, 1) := by decide +kernel
theorem dX10_hasTrail_22 : decode cX10_hasTrail 22 = .ok (.invokevirtual 91, 3) := by decide +kernel
theorem dX10_hasTrail_25 : decode cX10_hasTrail 25 = .ok (.ireturn, 1) := by decide +kernel
theorem dX10_trailLength_0 : decode cX10_trailLength 0 = .ok (.aload_n 0, 1) := by decide +kernel
theorem dX10_trailLength_1 : decode cX10_trailLength 1 = .ok (.iload_n 1, 1) := by decide +kernel
theorem dX10_trailLength_2 : decode cX10_trailLength 2 = .ok (.invokevirtual 74, 3) := by decide +kernel
theorem dX10_trailLength_5 : decode cX10_trailLength 5 = .ok (.aload_n 0, 1) := by decide +kernel
theorem dX10_trailLength_6 : decode cX10_trailLength 6 = .ok (.iload_n 2, 1) := by decide +kernel
theorem dX10_trailLength_7 : decode cX10_trailLength 7 = .ok (.invokevirtual 74, 3) := by decide +kernel
theorem dX10_trailLength_10 : decode cX10_trailLength 10 = .ok (.aload_n 0, 1) := by decide +kernel
theorem dX10_trailLength_11 : decode cX10_trailLength 11 = .ok (.getfield 12, 3) := by decide +kernel
theorem dX10_trailLength_14 : decode cX10_trailLength 14 = .ok (.getfield 62, 3) := by decide +kernel
theorem dX10_trailLength_17 : decode cX10_trailLength 17 = .ok (.getfield 65, 3) := by decide +kernel
theorem dX10_trailLength_20 : decode cX10_trailLength 20 = .ok (.iload_n 1, 1) := by decide +kernel
theorem dX10_trailLength_21 : decode cX10_trailLength 21 = .ok (.iload_n 2, 1) := by decide +kernel
theorem dX10_trailLength_22 : decode cX10_trailLength 22 = .ok (.invokevirtual 91, 3) := by decide +kernel
theorem dX10_trailLength_25 : decode cX10_trailLength 25 = .ok (.ifCond .ne 13, 3) := by decide +kernel
theorem dX10_trailLength_28 : decode cX10_trailLength 28 = .ok (.new 95, 3) := by decide +kernel
theorem dX10_trailLength_31 : decode cX10_trailLength 31 = .ok (.dup, 1) := by decide +kernel
theorem dX10_trailLength_32 : decode cX10_trailLength 32 = .ok (.ldc 97, 2) := by decide +kernel
theorem dX10_trailLength_34 : decode cX10_trailLength 34 = .ok (.invokespecial 99, 3) := by decide +kernel
theorem dX10_trailLength_37 : decode cX10_trailLength 37 = .ok (.athrow, 1) := by decide +kernel
theorem dX10_trailLength_38 : decode cX10_trailLength 38 = .ok (.aload_n 0, 1) := by decide +kernel
theorem dX10_trailLength_39 : decode cX10_trailLength 39 = .ok (.getfield 12, 3) := by decide +kernel
theorem dX10_trailLength_42 : decode cX10_trailLength 42 = .ok (.getfield 62, 3) := by decide +kernel
theorem dX10_trailLength_45 : decode cX10_trailLength 45 = .ok (.getfield 65, 3) := by decide +kernel
theorem dX10_trailLength_48 : decode cX10_trailLength 48 = .ok (.iload_n 1, 1) := by decide +kernel
theorem dX10_trailLength_49 : decode cX10_trailLength 49 = .ok (.iload_n 2, 1) := by decide +kernel
theorem dX10_trailLength_50 : decode cX10_trailLength 50 = .ok (.invokevirtual 102, 3) := by decide +kernel
theorem dX10_trailLength_53 : decode cX10_trailLength 53 = .ok (.ireturn, 1) := by decide +kernel
theorem dX10_distance_0 : decode cX10_distance 0 = .ok (.aload_n 0, 1) := by decide +kernel
theorem dX10_distance_1 : decode cX10_distance 1 = .ok (.iload_n 1, 1) := by decide +kernel
theorem dX10_distance_2 : decode cX10_distance 2 = .ok (.invokevirtual 74, 3) := by decide +kernel
theorem dX10_distance_5 : decode cX10_distance 5 = .ok (.aload_n 0, 1) := by decide +kernel
theorem dX10_distance_6 : decode cX10_distance 6 = .ok (.iload_n 2, 1) := by decide +kernel
theorem dX10_distance_7 : decode cX10_distance 7 = .ok (.invokevirtual 74, 3) := by decide +kernel
theorem dX10_distance_10 : decode cX10_distance 10 = .ok (.aload_n 0, 1) := by decide +kernel
theorem dX10_distance_11 : decode cX10_distance 11 = .ok (.getfield 12, 3) := by decide +kernel
theorem dX10_distance_14 : decode cX10_distance 14 = .ok (.getfield 106, 3) := by decide +kernel
theorem dX10_distance_17 : decode cX10_distance 17 = .ok (.aload_n 0, 1) := by decide +kernel
theorem dX10_distance_18 : decode cX10_distance 18 = .ok (.getfield 12, 3) := by decide +kernel
theorem dX10_distance_21 : decode cX10_distance 21 = .ok (.getfield 62, 3) := by decide +kernel
theorem dX10_distance_24 : decode cX10_distance 24 = .ok (.getfield 65, 3) := by decide +kernel
theorem dX10_distance_27 : decode cX10_distance 27 = .ok (.iload_n 1, 1) := by decide +kernel
theorem dX10_distance_28 : decode cX10_distance 28 = .ok (.invokevirtual 110, 3) := by decide +kernel
theorem dX10_distance_31 : decode cX10_distance 31 = .ok (.aload_n 0, 1) := by decide +kernel
theorem dX10_distance_32 : decode cX10_distance 32 = .ok (.getfield 12, 3) := by decide +kernel
theorem dX10_distance_35 : decode cX10_distance 35 = .ok (.getfield 106, 3) := by decide +kernel
theorem dX10_distance_38 : decode cX10_distance 38 = .ok (.iload_n 2, 1) := by decide +kernel
theorem dX10_distance_39 : decode cX10_distance 39 = .ok (.invokevirtual 116, 3) := by decide +kernel
theorem dX10_distance_42 : decode cX10_distance 42 = .ok (.istore_n 3, 1) := by decide +kernel
theorem dX10_distance_43 : decode cX10_distance 43 = .ok (.iload_n 3, 1) := by decide +kernel
theorem dX10_distance_44 : decode cX10_distance 44 = .ok (.invokestatic 119, 3) := by decide +kernel
theorem dX10_distance_47 : decode cX10_distance 47 = .ok (.iload_n 3, 1) := by decide +kernel
theorem dX10_distance_48 : decode cX10_distance 48 = .ok (.ireturn, 1) := by decide +kernel
theorem dX10_distanceByRelaxation_0 : decode cX10_distanceByRelaxation 0 = .ok (.aload_n 0, 1) := by decide +kernel
theorem dX10_distanceByRelaxation_1 : decode cX10_distanceByRelaxation 1 = .ok (.iload_n 1, 1) := by decide +kernel
theorem dX10_distanceByRelaxation_2 : decode cX10_distanceByRelaxation 2 = .ok (.invokevirtual 74, 3) := by decide +kernel
theorem dX10_distanceByRelaxation_5 : decode cX10_distanceByRelaxation 5 = .ok (.aload_n 0, 1) := by decide +kernel
theorem dX10_distanceByRelaxation_6 : decode cX10_distanceByRelaxation 6 = .ok (.iload_n 2, 1) := by decide +kernel
theorem dX10_distanceByRelaxation_7 : decode cX10_distanceByRelaxation 7 = .ok (.invokevirtual 74, 3) := by decide +kernel
theorem dX10_distanceByRelaxation_10 : decode cX10_distanceByRelaxation 10 = .ok (.aload_n 0, 1) := by decide +kernel
theorem dX10_distanceByRelaxation_11 : decode cX10_distanceByRelaxation 11 = .ok (.getfield 12, 3) := by decide +kernel
theorem dX10_distanceByRelaxation_14 : decode cX10_distanceByRelaxation 14 = .ok (.getfield 106, 3) := by decide +kernel
theorem dX10_distanceByRelaxation_17 : decode cX10_distanceByRelaxation 17 = .ok (.aload_n 0, 1) := by decide +kernel
theorem dX10_distanceByRelaxation_18 : decode cX10_distanceByRelaxation 18 = .ok (.getfield 12, 3) := by decide +kernel
theorem dX10_distanceByRelaxation_21 : decode cX10_distanceByRelaxation 21 = .ok (.getfield 62, 3) := by decide +kernel
theorem dX10_distanceByRelaxation_24 : decode cX10_distanceByRelaxation 24 = .ok (.getfield 65, 3) := by decide +kernel
theorem dX10_distanceByRelaxation_27 : decode cX10_distanceByRelaxation 27 = .ok (.iload_n 1, 1) := by decide +kernel
theorem dX10_distanceByRelaxation_28 : decode cX10_distanceByRelaxation 28 = .ok (.invokevirtual 122, 3) := by decide +kernel
theorem dX10_distanceByRelaxation_31 : decode cX10_distanceByRelaxation 31 = .ok (.aload_n 0, 1) := by decide +kernel
theorem dX10_distanceByRelaxation_32 : decode cX10_distanceByRelaxation 32 = .ok (.getfield 12, 3) := by decide +kernel
theorem dX10_distanceByRelaxation_35 : decode cX10_distanceByRelaxation 35 = .ok (.getfield 106, 3) := by decide +kernel
theorem dX10_distanceByRelaxation_38 : decode cX10_distanceByRelaxation 38 = .ok (.iload_n 2, 1) := by decide +kernel
theorem dX10_distanceByRelaxation_39 : decode cX10_distanceByRelaxation 39 = .ok (.invokevirtual 125, 3) := by decide +kernel
theorem dX10_distanceByRelaxation_42 : decode cX10_distanceByRelaxation 42 = .ok (.istore_n 3, 1) := by decide +kernel
theorem dX10_distanceByRelaxation_43 : decode cX10_distanceByRelaxation 43 = .ok (.iload_n 3, 1) := by decide +kernel
theorem dX10_distanceByRelaxation_44 : decode cX10_distanceByRelaxation 44 = .ok (.invokestatic 119, 3) := by decide +kernel
theorem dX10_distanceByRelaxation_47 : decode cX10_distanceByRelaxation 47 = .ok (.iload_n 3, 1) := by decide +kernel
theorem dX10_distanceByRelaxation_48 : decode cX10_distanceByRelaxation 48 = .ok (.ireturn, 1) := by decide +kernel
theorem dX10_components_0 : decode cX10_components 0 = .ok (.aload_n 0, 1) := by decide +kernel
theorem dX10_components_1 : decode cX10_components 1 = .ok (.getfield 12, 3) := by decide +kernel
theorem dX10_components_4 : decode cX10_components 4 = .ok (.getfield 106, 3) := by decide +kernel
theorem dX10_components_7 : decode cX10_components 7 = .ok (.aload_n 0, 1) := by decide +kernel
theorem dX10_components_8 : decode cX10_components 8 = .ok (.getfield 12, 3) := by decide +kernel
theorem dX10_components_11 : decode cX10_components 11 = .ok (.getfield 62, 3) := by decide +kernel
theorem dX10_components_14 : decode cX10_components 14 = .ok (.getfield 65, 3) := by decide +kernel
theorem dX10_components_17 : decode cX10_components 17 = .ok (.invokevirtual 128, 3) := by decide +kernel
theorem dX10_components_20 : decode cX10_components 20 = .ok (.ireturn, 1) := by decide +kernel
theorem dX10_componentsByMerging_0 : decode cX10_componentsByMerging 0 = .ok (.aload_n 0, 1) := by decide +kernel
theorem dX10_componentsByMerging_1 : decode cX10_componentsByMerging 1 = .ok (.getfield 12, 3) := by decide +kernel
theorem dX10_componentsByMerging_4 : decode cX10_componentsByMerging 4 = .ok (.getfield 106, 3) := by decide +kernel
theorem dX10_componentsByMerging_7 : decode cX10_componentsByMerging 7 = .ok (.aload_n 0, 1) := by decide +kernel
theorem dX10_componentsByMerging_8 : decode cX10_componentsByMerging 8 = .ok (.getfield 12, 3) := by decide +kernel
theorem dX10_componentsByMerging_11 : decode cX10_componentsByMerging 11 = .ok (.getfield 62, 3) := by decide +kernel
theorem dX10_componentsByMerging_14 : decode cX10_componentsByMerging 14 = .ok (.getfield 65, 3) := by decide +kernel
theorem dX10_componentsByMerging_17 : decode cX10_componentsByMerging 17 = .ok (.invokevirtual 132, 3) := by decide +kernel
theorem dX10_componentsByMerging_20 : decode cX10_componentsByMerging 20 = .ok (.ireturn, 1) := by decide +kernel
theorem dX10_nearest_0 : decode cX10_nearest 0 = .ok (.iload_n 1, 1) := by decide +kernel
theorem dX10_nearest_1 : decode cX10_nearest 1 = .ok (.iload_n 2, 1) := by decide +kernel
theorem dX10_nearest_2 : decode cX10_nearest 2 = .ok (.invokestatic 135, 3) := by decide +kernel
theorem dX10_nearest_5 : decode cX10_nearest 5 = .ok (.aload_n 0, 1) := by decide +kernel
theorem dX10_nearest_6 : decode cX10_nearest 6 = .ok (.getfield 12, 3) := by decide +kernel
theorem dX10_nearest_9 : decode cX10_nearest 9 = .ok (.getfield 62, 3) := by decide +kernel
theorem dX10_nearest_12 : decode cX10_nearest 12 = .ok (.getfield 65, 3) := by decide +kernel
theorem dX10_nearest_15 : decode cX10_nearest 15 = .ok (.iload_n 1, 1) := by decide +kernel
theorem dX10_nearest_16 : decode cX10_nearest 16 = .ok (.iload_n 2, 1) := by decide +kernel
theorem dX10_nearest_17 : decode cX10_nearest 17 = .ok (.invokevirtual 139, 3) := by decide +kernel
theorem dX10_nearest_20 : decode cX10_nearest 20 = .ok (.istore_n 3, 1) := by decide +kernel
theorem dX10_nearest_21 : decode cX10_nearest 21 = .ok (.iload_n 3, 1) := by decide +kernel
theorem dX10_nearest_22 : decode cX10_nearest 22 = .ok (.iconst (-1), 1) := by decide +kernel
theorem dX10_nearest_23 : decode cX10_nearest 23 = .ok (.if_icmp .ne 13, 3) := by decide +kernel
theorem dX10_nearest_26 : decode cX10_nearest 26 = .ok (.new 95, 3) := by decide +kernel
theorem dX10_nearest_29 : decode cX10_nearest 29 = .ok (.dup, 1) := by decide +kernel
theorem dX10_nearest_30 : decode cX10_nearest 30 = .ok (.ldc 142, 2) := by decide +kernel
theorem dX10_nearest_32 : decode cX10_nearest 32 = .ok (.invokespecial 99, 3) := by decide +kernel
theorem dX10_nearest_35 : decode cX10_nearest 35 = .ok (.athrow, 1) := by decide +kernel
theorem dX10_nearest_36 : decode cX10_nearest 36 = .ok (.iload_n 3, 1) := by decide +kernel
theorem dX10_nearest_37 : decode cX10_nearest 37 = .ok (.ireturn, 1) := by decide +kernel
theorem dX10_isTouring_0 : decode cX10_isTouring 0 = .ok (.aload_n 0, 1) := by decide +kernel
theorem dX10_isTouring_1 : decode cX10_isTouring 1 = .ok (.getfield 12, 3) := by decide +kernel
theorem dX10_isTouring_4 : decode cX10_isTouring 4 = .ok (.getfield 62, 3) := by decide +kernel
theorem dX10_isTouring_7 : decode cX10_isTouring 7 = .ok (.getfield 144, 3) := by decide +kernel
theorem dX10_isTouring_10 : decode cX10_isTouring 10 = .ok (.invokevirtual 148, 3) := by decide +kernel
theorem dX10_isTouring_13 : decode cX10_isTouring 13 = .ok (.ireturn, 1) := by decide +kernel
theorem dX10_routeLength_0 : decode cX10_routeLength 0 = .ok (.aload_n 0, 1) := by decide +kernel
theorem dX10_routeLength_1 : decode cX10_routeLength 1 = .ok (.invokevirtual 154, 3) := by decide +kernel
theorem dX10_routeLength_4 : decode cX10_routeLength 4 = .ok (.aload_n 0, 1) := by decide +kernel
theorem dX10_routeLength_5 : decode cX10_routeLength 5 = .ok (.getfield 12, 3) := by decide +kernel
theorem dX10_routeLength_8 : decode cX10_routeLength 8 = .ok (.getfield 62, 3) := by decide +kernel
theorem dX10_routeLength_11 : decode cX10_routeLength 11 = .ok (.getfield 144, 3) := by decide +kernel
theorem dX10_routeLength_14 : decode cX10_routeLength 14 = .ok (.getfield 157, 3) := by decide +kernel
theorem dX10_routeLength_17 : decode cX10_routeLength 17 = .ok (.ireturn, 1) := by decide +kernel
theorem dX10_routeWaypoint_0 : decode cX10_routeWaypoint 0 = .ok (.aload_n 0, 1) := by decide +kernel
theorem dX10_routeWaypoint_1 : decode cX10_routeWaypoint 1 = .ok (.invokevirtual 154, 3) := by decide +kernel
theorem dX10_routeWaypoint_4 : decode cX10_routeWaypoint 4 = .ok (.aload_n 0, 1) := by decide +kernel
theorem dX10_routeWaypoint_5 : decode cX10_routeWaypoint 5 = .ok (.iload_n 1, 1) := by decide +kernel
theorem dX10_routeWaypoint_6 : decode cX10_routeWaypoint 6 = .ok (.invokevirtual 158, 3) := by decide +kernel
theorem dX10_routeWaypoint_9 : decode cX10_routeWaypoint 9 = .ok (.aload_n 0, 1) := by decide +kernel
theorem dX10_routeWaypoint_10 : decode cX10_routeWaypoint 10 = .ok (.getfield 12, 3) := by decide +kernel
theorem dX10_routeWaypoint_13 : decode cX10_routeWaypoint 13 = .ok (.getfield 62, 3) := by decide +kernel
theorem dX10_routeWaypoint_16 : decode cX10_routeWaypoint 16 = .ok (.getfield 144, 3) := by decide +kernel
theorem dX10_routeWaypoint_19 : decode cX10_routeWaypoint 19 = .ok (.iload_n 1, 1) := by decide +kernel
theorem dX10_routeWaypoint_20 : decode cX10_routeWaypoint 20 = .ok (.invokevirtual 161, 3) := by decide +kernel
theorem dX10_routeWaypoint_23 : decode cX10_routeWaypoint 23 = .ok (.ireturn, 1) := by decide +kernel
theorem dX10_turn_0 : decode cX10_turn 0 = .ok (.aload_n 0, 1) := by decide +kernel
theorem dX10_turn_1 : decode cX10_turn 1 = .ok (.invokevirtual 154, 3) := by decide +kernel
theorem dX10_turn_4 : decode cX10_turn 4 = .ok (.aload_n 0, 1) := by decide +kernel
theorem dX10_turn_5 : decode cX10_turn 5 = .ok (.iload_n 1, 1) := by decide +kernel
theorem dX10_turn_6 : decode cX10_turn 6 = .ok (.invokevirtual 158, 3) := by decide +kernel
theorem dX10_turn_9 : decode cX10_turn 9 = .ok (.aload_n 0, 1) := by decide +kernel
theorem dX10_turn_10 : decode cX10_turn 10 = .ok (.getfield 12, 3) := by decide +kernel
theorem dX10_turn_13 : decode cX10_turn 13 = .ok (.getfield 62, 3) := by decide +kernel
theorem dX10_turn_16 : decode cX10_turn 16 = .ok (.getfield 144, 3) := by decide +kernel
theorem dX10_turn_19 : decode cX10_turn 19 = .ok (.iload_n 1, 1) := by decide +kernel
theorem dX10_turn_20 : decode cX10_turn 20 = .ok (.invokevirtual 164, 3) := by decide +kernel
theorem dX10_turn_23 : decode cX10_turn 23 = .ok (.ifCond .ne 13, 3) := by decide +kernel
theorem dX10_turn_26 : decode cX10_turn 26 = .ok (.new 95, 3) := by decide +kernel
theorem dX10_turn_29 : decode cX10_turn 29 = .ok (.dup, 1) := by decide +kernel
theorem dX10_turn_30 : decode cX10_turn 30 = .ok (.ldc 168, 2) := by decide +kernel
theorem dX10_turn_32 : decode cX10_turn 32 = .ok (.invokespecial 99, 3) := by decide +kernel
theorem dX10_turn_35 : decode cX10_turn 35 = .ok (.athrow, 1) := by decide +kernel
theorem dX10_turn_36 : decode cX10_turn 36 = .ok (.aload_n 0, 1) := by decide +kernel
theorem dX10_turn_37 : decode cX10_turn 37 = .ok (.getfield 12, 3) := by decide +kernel
theorem dX10_turn_40 : decode cX10_turn 40 = .ok (.iload_n 1, 1) := by decide +kernel
theorem dX10_turn_41 : decode cX10_turn 41 = .ok (.invokevirtual 170, 3) := by decide +kernel
theorem dX10_turn_44 : decode cX10_turn 44 = .ok (.ireturn, 1) := by decide +kernel
theorem dX10_target_0 : decode cX10_target 0 = .ok (.aload_n 0, 1) := by decide +kernel
theorem dX10_target_1 : decode cX10_target 1 = .ok (.invokevirtual 154, 3) := by decide +kernel
theorem dX10_target_4 : decode cX10_target 4 = .ok (.aload_n 0, 1) := by decide +kernel
theorem dX10_target_5 : decode cX10_target 5 = .ok (.getfield 12, 3) := by decide +kernel
theorem dX10_target_8 : decode cX10_target 8 = .ok (.getfield 62, 3) := by decide +kernel
theorem dX10_target_11 : decode cX10_target 11 = .ok (.getfield 144, 3) := by decide +kernel
theorem dX10_target_14 : decode cX10_target 14 = .ok (.invokevirtual 174, 3) := by decide +kernel
theorem dX10_target_17 : decode cX10_target 17 = .ok (.ireturn, 1) := by decide +kernel
theorem dX10_hikerX_0 : decode cX10_hikerX 0 = .ok (.aload_n 0, 1) := by decide +kernel
theorem dX10_hikerX_1 : decode cX10_hikerX 1 = .ok (.invokevirtual 154, 3) := by decide +kernel
theorem dX10_hikerX_4 : decode cX10_hikerX 4 = .ok (.aload_n 0, 1) := by decide +kernel
theorem dX10_hikerX_5 : decode cX10_hikerX 5 = .ok (.getfield 12, 3) := by decide +kernel
theorem dX10_hikerX_8 : decode cX10_hikerX 8 = .ok (.getfield 62, 3) := by decide +kernel
theorem dX10_hikerX_11 : decode cX10_hikerX 11 = .ok (.getfield 144, 3) := by decide +kernel
theorem dX10_hikerX_14 : decode cX10_hikerX 14 = .ok (.getfield 178, 3) := by decide +kernel
theorem dX10_hikerX_17 : decode cX10_hikerX 17 = .ok (.ireturn, 1) := by decide +kernel
theorem dX10_hikerY_0 : decode cX10_hikerY 0 = .ok (.aload_n 0, 1) := by decide +kernel
theorem dX10_hikerY_1 : decode cX10_hikerY 1 = .ok (.invokevirtual 154, 3) := by decide +kernel
theorem dX10_hikerY_4 : decode cX10_hikerY 4 = .ok (.aload_n 0, 1) := by decide +kernel
theorem dX10_hikerY_5 : decode cX10_hikerY 5 = .ok (.getfield 12, 3) := by decide +kernel
theorem dX10_hikerY_8 : decode cX10_hikerY 8 = .ok (.getfield 62, 3) := by decide +kernel
theorem dX10_hikerY_11 : decode cX10_hikerY 11 = .ok (.getfield 144, 3) := by decide +kernel
theorem dX10_hikerY_14 : decode cX10_hikerY 14 = .ok (.getfield 181, 3) := by decide +kernel
theorem dX10_hikerY_17 : decode cX10_hikerY 17 = .ok (.ireturn, 1) := by decide +kernel
theorem dX10_drift_0 : decode cX10_drift 0 = .ok (.aload_n 0, 1) := by decide +kernel
theorem dX10_drift_1 : decode cX10_drift 1 = .ok (.invokevirtual 154, 3) := by decide +kernel
theorem dX10_drift_4 : decode cX10_drift 4 = .ok (.aload_n 0, 1) := by decide +kernel
theorem dX10_drift_5 : decode cX10_drift 5 = .ok (.getfield 12, 3) := by decide +kernel
theorem dX10_drift_8 : decode cX10_drift 8 = .ok (.aload_n 0, 1) := by decide +kernel
theorem dX10_drift_9 : decode cX10_drift 9 = .ok (.getfield 12, 3) := by decide +kernel
theorem dX10_drift_12 : decode cX10_drift 12 = .ok (.getfield 62, 3) := by decide +kernel
theorem dX10_drift_15 : decode cX10_drift 15 = .ok (.getfield 144, 3) := by decide +kernel
theorem dX10_drift_18 : decode cX10_drift 18 = .ok (.getfield 178, 3) := by decide +kernel
theorem dX10_drift_21 : decode cX10_drift 21 = .ok (.aload_n 0, 1) := by decide +kernel
theorem dX10_drift_22 : decode cX10_drift 22 = .ok (.getfield 12, 3) := by decide +kernel
theorem dX10_drift_25 : decode cX10_drift 25 = .ok (.getfield 62, 3) := by decide +kernel
theorem dX10_drift_28 : decode cX10_drift 28 = .ok (.getfield 144, 3) := by decide +kernel
theorem dX10_drift_31 : decode cX10_drift 31 = .ok (.getfield 181, 3) := by decide +kernel
theorem dX10_drift_34 : decode cX10_drift 34 = .ok (.invokevirtual 184, 3) := by decide +kernel
theorem dX10_drift_37 : decode cX10_drift 37 = .ok (.aload_n 0, 1) := by decide +kernel
theorem dX10_drift_38 : decode cX10_drift 38 = .ok (.getfield 12, 3) := by decide +kernel
theorem dX10_drift_41 : decode cX10_drift 41 = .ok (.getfield 187, 3) := by decide +kernel
theorem dX10_drift_44 : decode cX10_drift 44 = .ok (.invokevirtual 191, 3) := by decide +kernel
theorem dX10_drift_47 : decode cX10_drift 47 = .ok (.ireturn, 1) := by decide +kernel
theorem dX10_isAlarm_0 : decode cX10_isAlarm 0 = .ok (.aload_n 0, 1) := by decide +kernel
theorem dX10_isAlarm_1 : decode cX10_isAlarm 1 = .ok (.getfield 12, 3) := by decide +kernel
theorem dX10_isAlarm_4 : decode cX10_isAlarm 4 = .ok (.getfield 62, 3) := by decide +kernel
theorem dX10_isAlarm_7 : decode cX10_isAlarm 7 = .ok (.getfield 144, 3) := by decide +kernel
theorem dX10_isAlarm_10 : decode cX10_isAlarm 10 = .ok (.getfield 196, 3) := by decide +kernel
theorem dX10_isAlarm_13 : decode cX10_isAlarm 13 = .ok (.ireturn, 1) := by decide +kernel
theorem dX10_forecast_0 : decode cX10_forecast 0 = .ok (.iload_n 1, 1) := by decide +kernel
theorem dX10_forecast_1 : decode cX10_forecast 1 = .ok (.iload_n 2, 1) := by decide +kernel
theorem dX10_forecast_2 : decode cX10_forecast 2 = .ok (.invokestatic 135, 3) := by decide +kernel
theorem dX10_forecast_5 : decode cX10_forecast 5 = .ok (.aload_n 0, 1) := by decide +kernel
theorem dX10_forecast_6 : decode cX10_forecast 6 = .ok (.invokevirtual 154, 3) := by decide +kernel
theorem dX10_forecast_9 : decode cX10_forecast 9 = .ok (.aload_n 0, 1) := by decide +kernel
theorem dX10_forecast_10 : decode cX10_forecast 10 = .ok (.getfield 12, 3) := by decide +kernel
theorem dX10_forecast_13 : decode cX10_forecast 13 = .ok (.iload_n 1, 1) := by decide +kernel
theorem dX10_forecast_14 : decode cX10_forecast 14 = .ok (.iload_n 2, 1) := by decide +kernel
theorem dX10_forecast_15 : decode cX10_forecast 15 = .ok (.invokevirtual 199, 3) := by decide +kernel
theorem dX10_forecast_18 : decode cX10_forecast 18 = .ok (.ifCond .eq 6, 3) := by decide +kernel
theorem dX10_forecast_21 : decode cX10_forecast 21 = .ok (.bipush 116, 2) := by decide +kernel
theorem dX10_forecast_23 : decode cX10_forecast 23 = .ok (.ireturn, 1) := by decide +kernel
theorem dX10_forecast_24 : decode cX10_forecast 24 = .ok (.aload_n 0, 1) := by decide +kernel
theorem dX10_forecast_25 : decode cX10_forecast 25 = .ok (.getfield 12, 3) := by decide +kernel
theorem dX10_forecast_28 : decode cX10_forecast 28 = .ok (.iload_n 1, 1) := by decide +kernel
theorem dX10_forecast_29 : decode cX10_forecast 29 = .ok (.iload_n 2, 1) := by decide +kernel
theorem dX10_forecast_30 : decode cX10_forecast 30 = .ok (.invokevirtual 184, 3) := by decide +kernel
theorem dX10_forecast_33 : decode cX10_forecast 33 = .ok (.aload_n 0, 1) := by decide +kernel
theorem dX10_forecast_34 : decode cX10_forecast 34 = .ok (.getfield 12, 3) := by decide +kernel
theorem dX10_forecast_37 : decode cX10_forecast 37 = .ok (.getfield 187, 3) := by decide +kernel
theorem dX10_forecast_40 : decode cX10_forecast 40 = .ok (.aload_n 0, 1) := by decide +kernel
theorem dX10_forecast_41 : decode cX10_forecast 41 = .ok (.getfield 12, 3) := by decide +kernel
theorem dX10_forecast_44 : decode cX10_forecast 44 = .ok (.getfield 62, 3) := by decide +kernel
theorem dX10_forecast_47 : decode cX10_forecast 47 = .ok (.getfield 202, 3) := by decide +kernel
theorem dX10_forecast_50 : decode cX10_forecast 50 = .ok (.getfield 206, 3) := by decide +kernel
theorem dX10_forecast_53 : decode cX10_forecast 53 = .ok (.invokevirtual 211, 3) := by decide +kernel
theorem dX10_forecast_56 : decode cX10_forecast 56 = .ok (.ifCond .eq 8, 3) := by decide +kernel
theorem dX10_forecast_59 : decode cX10_forecast 59 = .ok (.bipush 97, 2) := by decide +kernel
theorem dX10_forecast_61 : decode cX10_forecast 61 = .ok (.goto 5, 3) := by decide +kernel
theorem dX10_forecast_64 : decode cX10_forecast 64 = .ok (.bipush 113, 2) := by decide +kernel
theorem dX10_forecast_66 : decode cX10_forecast 66 = .ok (.ireturn, 1) := by decide +kernel
theorem dX10_battery_0 : decode cX10_battery 0 = .ok (.aload_n 0, 1) := by decide +kernel
theorem dX10_battery_1 : decode cX10_battery 1 = .ok (.getfield 12, 3) := by decide +kernel
theorem dX10_battery_4 : decode cX10_battery 4 = .ok (.getfield 62, 3) := by decide +kernel
theorem dX10_battery_7 : decode cX10_battery 7 = .ok (.getfield 202, 3) := by decide +kernel
theorem dX10_battery_10 : decode cX10_battery 10 = .ok (.getfield 214, 3) := by decide +kernel
theorem dX10_battery_13 : decode cX10_battery 13 = .ok (.ireturn, 1) := by decide +kernel
theorem dX10_mode_0 : decode cX10_mode 0 = .ok (.aload_n 0, 1) := by decide +kernel
theorem dX10_mode_1 : decode cX10_mode 1 = .ok (.getfield 12, 3) := by decide +kernel
theorem dX10_mode_4 : decode cX10_mode 4 = .ok (.getfield 62, 3) := by decide +kernel
theorem dX10_mode_7 : decode cX10_mode 7 = .ok (.getfield 202, 3) := by decide +kernel
theorem dX10_mode_10 : decode cX10_mode 10 = .ok (.getfield 217, 3) := by decide +kernel
theorem dX10_mode_13 : decode cX10_mode 13 = .ok (.ireturn, 1) := by decide +kernel
theorem dX10_tolerance_0 : decode cX10_tolerance 0 = .ok (.aload_n 0, 1) := by decide +kernel
theorem dX10_tolerance_1 : decode cX10_tolerance 1 = .ok (.getfield 12, 3) := by decide +kernel
theorem dX10_tolerance_4 : decode cX10_tolerance 4 = .ok (.getfield 62, 3) := by decide +kernel
theorem dX10_tolerance_7 : decode cX10_tolerance 7 = .ok (.getfield 202, 3) := by decide +kernel
theorem dX10_tolerance_10 : decode cX10_tolerance 10 = .ok (.getfield 206, 3) := by decide +kernel
theorem dX10_tolerance_13 : decode cX10_tolerance 13 = .ok (.ireturn, 1) := by decide +kernel
theorem dX10_updatesLeft_0 : decode cX10_updatesLeft 0 = .ok (.aload_n 0, 1) := by decide +kernel
theorem dX10_updatesLeft_1 : decode cX10_updatesLeft 1 = .ok (.getfield 12, 3) := by decide +kernel
theorem dX10_updatesLeft_4 : decode cX10_updatesLeft 4 = .ok (.getfield 62, 3) := by decide +kernel
theorem dX10_updatesLeft_7 : decode cX10_updatesLeft 7 = .ok (.getfield 202, 3) := by decide +kernel
theorem dX10_updatesLeft_10 : decode cX10_updatesLeft 10 = .ok (.invokevirtual 220, 3) := by decide +kernel
theorem dX10_updatesLeft_13 : decode cX10_updatesLeft 13 = .ok (.ireturn, 1) := by decide +kernel
theorem dX10_updatesLeftByCounting_0 : decode cX10_updatesLeftByCounting 0 = .ok (.aload_n 0, 1) := by decide +kernel
theorem dX10_updatesLeftByCounting_1 : decode cX10_updatesLeftByCounting 1 = .ok (.getfield 12, 3) := by decide +kernel
theorem dX10_updatesLeftByCounting_4 : decode cX10_updatesLeftByCounting 4 = .ok (.getfield 62, 3) := by decide +kernel
theorem dX10_updatesLeftByCounting_7 : decode cX10_updatesLeftByCounting 7 = .ok (.getfield 202, 3) := by decide +kernel
theorem dX10_updatesLeftByCounting_10 : decode cX10_updatesLeftByCounting 10 = .ok (.invokevirtual 223, 3) := by decide +kernel
theorem dX10_updatesLeftByCounting_13 : decode cX10_updatesLeftByCounting 13 = .ok (.ireturn, 1) := by decide +kernel
theorem dX10_updates_0 : decode cX10_updates 0 = .ok (.aload_n 0, 1) := by decide +kernel
theorem dX10_updates_1 : decode cX10_updates 1 = .ok (.getfield 12, 3) := by decide +kernel
theorem dX10_updates_4 : decode cX10_updates 4 = .ok (.getfield 62, 3) := by decide +kernel
theorem dX10_updates_7 : decode cX10_updates 7 = .ok (.getfield 202, 3) := by decide +kernel
theorem dX10_updates_10 : decode cX10_updates 10 = .ok (.getfield 226, 3) := by decide +kernel
theorem dX10_updates_13 : decode cX10_updates 13 = .ok (.ireturn, 1) := by decide +kernel
theorem dX10_alarms_0 : decode cX10_alarms 0 = .ok (.aload_n 0, 1) := by decide +kernel
theorem dX10_alarms_1 : decode cX10_alarms 1 = .ok (.getfield 12, 3) := by decide +kernel
theorem dX10_alarms_4 : decode cX10_alarms 4 = .ok (.getfield 62, 3) := by decide +kernel
theorem dX10_alarms_7 : decode cX10_alarms 7 = .ok (.getfield 202, 3) := by decide +kernel
theorem dX10_alarms_10 : decode cX10_alarms 10 = .ok (.getfield 229, 3) := by decide +kernel
theorem dX10_alarms_13 : decode cX10_alarms 13 = .ok (.ireturn, 1) := by decide +kernel
theorem dX10_reached_0 : decode cX10_reached 0 = .ok (.aload_n 0, 1) := by decide +kernel
theorem dX10_reached_1 : decode cX10_reached 1 = .ok (.getfield 12, 3) := by decide +kernel
theorem dX10_reached_4 : decode cX10_reached 4 = .ok (.getfield 62, 3) := by decide +kernel
theorem dX10_reached_7 : decode cX10_reached 7 = .ok (.getfield 202, 3) := by decide +kernel
theorem dX10_reached_10 : decode cX10_reached 10 = .ok (.getfield 232, 3) := by decide +kernel
theorem dX10_reached_13 : decode cX10_reached 13 = .ok (.ireturn, 1) := by decide +kernel
theorem dX10_alarmRate_0 : decode cX10_alarmRate 0 = .ok (.aload_n 0, 1) := by decide +kernel
theorem dX10_alarmRate_1 : decode cX10_alarmRate 1 = .ok (.getfield 12, 3) := by decide +kernel
theorem dX10_alarmRate_4 : decode cX10_alarmRate 4 = .ok (.getfield 62, 3) := by decide +kernel
theorem dX10_alarmRate_7 : decode cX10_alarmRate 7 = .ok (.getfield 202, 3) := by decide +kernel
theorem dX10_alarmRate_10 : decode cX10_alarmRate 10 = .ok (.getfield 226, 3) := by decide +kernel
theorem dX10_alarmRate_13 : decode cX10_alarmRate 13 = .ok (.istore_n 1, 1) := by decide +kernel
theorem dX10_alarmRate_14 : decode cX10_alarmRate 14 = .ok (.iload_n 1, 1) := by decide +kernel
theorem dX10_alarmRate_15 : decode cX10_alarmRate 15 = .ok (.ifCond .ne 13, 3) := by decide +kernel
theorem dX10_alarmRate_18 : decode cX10_alarmRate 18 = .ok (.new 235, 3) := by decide +kernel
theorem dX10_alarmRate_21 : decode cX10_alarmRate 21 = .ok (.dup, 1) := by decide +kernel
theorem dX10_alarmRate_22 : decode cX10_alarmRate 22 = .ok (.ldc 237, 2) := by decide +kernel
theorem dX10_alarmRate_24 : decode cX10_alarmRate 24 = .ok (.invokespecial 239, 3) := by decide +kernel
theorem dX10_alarmRate_27 : decode cX10_alarmRate 27 = .ok (.athrow, 1) := by decide +kernel
theorem dX10_alarmRate_28 : decode cX10_alarmRate 28 = .ok (.aload_n 0, 1) := by decide +kernel
theorem dX10_alarmRate_29 : decode cX10_alarmRate 29 = .ok (.getfield 12, 3) := by decide +kernel
theorem dX10_alarmRate_32 : decode cX10_alarmRate 32 = .ok (.getfield 62, 3) := by decide +kernel
theorem dX10_alarmRate_35 : decode cX10_alarmRate 35 = .ok (.getfield 202, 3) := by decide +kernel
theorem dX10_alarmRate_38 : decode cX10_alarmRate 38 = .ok (.getfield 229, 3) := by decide +kernel
theorem dX10_alarmRate_41 : decode cX10_alarmRate 41 = .ok (.i2f, 1) := by decide +kernel
theorem dX10_alarmRate_42 : decode cX10_alarmRate 42 = .ok (.iload_n 1, 1) := by decide +kernel
theorem dX10_alarmRate_43 : decode cX10_alarmRate 43 = .ok (.i2f, 1) := by decide +kernel
theorem dX10_alarmRate_44 : decode cX10_alarmRate 44 = .ok (.fdiv, 1) := by decide +kernel
theorem dX10_alarmRate_45 : decode cX10_alarmRate 45 = .ok (.freturn, 1) := by decide +kernel
theorem dX10_meanTrailLength_0 : decode cX10_meanTrailLength 0 = .ok (.aload_n 0, 1) := by decide +kernel
theorem dX10_meanTrailLength_1 : decode cX10_meanTrailLength 1 = .ok (.getfield 12, 3) := by decide +kernel
theorem dX10_meanTrailLength_4 : decode cX10_meanTrailLength 4 = .ok (.getfield 62, 3) := by decide +kernel
theorem dX10_meanTrailLength_7 : decode cX10_meanTrailLength 7 = .ok (.getfield 65, 3) := by decide +kernel
theorem dX10_meanTrailLength_10 : decode cX10_meanTrailLength 10 = .ok (.getfield 88, 3) := by decide +kernel
theorem dX10_meanTrailLength_13 : decode cX10_meanTrailLength 13 = .ok (.istore_n 1, 1) := by decide +kernel
theorem dX10_meanTrailLength_14 : decode cX10_meanTrailLength 14 = .ok (.iload_n 1, 1) := by decide +kernel
theorem dX10_meanTrailLength_15 : decode cX10_meanTrailLength 15 = .ok (.ifCond .ne 13, 3) := by decide +kernel
theorem dX10_meanTrailLength_18 : decode cX10_meanTrailLength 18 = .ok (.new 235, 3) := by decide +kernel
theorem dX10_meanTrailLength_21 : decode cX10_meanTrailLength 21 = .ok (.dup, 1) := by decide +kernel
theorem dX10_meanTrailLength_22 : decode cX10_meanTrailLength 22 = .ok (.ldc 240, 2) := by decide +kernel
theorem dX10_meanTrailLength_24 : decode cX10_meanTrailLength 24 = .ok (.invokespecial 239, 3) := by decide +kernel
theorem dX10_meanTrailLength_27 : decode cX10_meanTrailLength 27 = .ok (.athrow, 1) := by decide +kernel
theorem dX10_meanTrailLength_28 : decode cX10_meanTrailLength 28 = .ok (.aload_n 0, 1) := by decide +kernel
theorem dX10_meanTrailLength_29 : decode cX10_meanTrailLength 29 = .ok (.getfield 12, 3) := by decide +kernel
theorem dX10_meanTrailLength_32 : decode cX10_meanTrailLength 32 = .ok (.getfield 62, 3) := by decide +kernel
theorem dX10_meanTrailLength_35 : decode cX10_meanTrailLength 35 = .ok (.getfield 65, 3) := by decide +kernel
theorem dX10_meanTrailLength_38 : decode cX10_meanTrailLength 38 = .ok (.invokevirtual 242, 3) := by decide +kernel
theorem dX10_meanTrailLength_41 : decode cX10_meanTrailLength 41 = .ok (.i2d, 1) := by decide +kernel
theorem dX10_meanTrailLength_42 : decode cX10_meanTrailLength 42 = .ok (.iload_n 1, 1) := by decide +kernel
theorem dX10_meanTrailLength_43 : decode cX10_meanTrailLength 43 = .ok (.i2d, 1) := by decide +kernel
theorem dX10_meanTrailLength_44 : decode cX10_meanTrailLength 44 = .ok (.ddiv, 1) := by decide +kernel
theorem dX10_meanTrailLength_45 : decode cX10_meanTrailLength 45 = .ok (.dreturn, 1) := by decide +kernel
theorem dX10_isConsistent_0 : decode cX10_isConsistent 0 = .ok (.aload_n 0, 1) := by decide +kernel
theorem dX10_isConsistent_1 : decode cX10_isConsistent 1 = .ok (.getfield 12, 3) := by decide +kernel
theorem dX10_isConsistent_4 : decode cX10_isConsistent 4 = .ok (.getfield 62, 3) := by decide +kernel
theorem dX10_isConsistent_7 : decode cX10_isConsistent 7 = .ok (.astore_n 1, 1) := by decide +kernel
theorem dX10_isConsistent_8 : decode cX10_isConsistent 8 = .ok (.aload_n 0, 1) := by decide +kernel
theorem dX10_isConsistent_9 : decode cX10_isConsistent 9 = .ok (.getfield 12, 3) := by decide +kernel
theorem dX10_isConsistent_12 : decode cX10_isConsistent 12 = .ok (.getfield 106, 3) := by decide +kernel
theorem dX10_isConsistent_15 : decode cX10_isConsistent 15 = .ok (.aload_n 1, 1) := by decide +kernel
theorem dX10_isConsistent_16 : decode cX10_isConsistent 16 = .ok (.getfield 65, 3) := by decide +kernel
theorem dX10_isConsistent_19 : decode cX10_isConsistent 19 = .ok (.invokevirtual 245, 3) := by decide +kernel
theorem dX10_isConsistent_22 : decode cX10_isConsistent 22 = .ok (.ifCond .eq 75, 3) := by decide +kernel
theorem dX10_isConsistent_25 : decode cX10_isConsistent 25 = .ok (.aload_n 0, 1) := by decide +kernel
theorem dX10_isConsistent_26 : decode cX10_isConsistent 26 = .ok (.getfield 12, 3) := by decide +kernel
theorem dX10_isConsistent_29 : decode cX10_isConsistent 29 = .ok (.getfield 106, 3) := by decide +kernel
theorem dX10_isConsistent_32 : decode cX10_isConsistent 32 = .ok (.aload_n 1, 1) := by decide +kernel
theorem dX10_isConsistent_33 : decode cX10_isConsistent 33 = .ok (.getfield 65, 3) := by decide +kernel
theorem dX10_isConsistent_36 : decode cX10_isConsistent 36 = .ok (.invokevirtual 128, 3) := by decide +kernel
theorem dX10_isConsistent_39 : decode cX10_isConsistent 39 = .ok (.aload_n 0, 1) := by decide +kernel
theorem dX10_isConsistent_40 : decode cX10_isConsistent 40 = .ok (.getfield 12, 3) := by decide +kernel
theorem dX10_isConsistent_43 : decode cX10_isConsistent 43 = .ok (.getfield 106, 3) := by decide +kernel
theorem dX10_isConsistent_46 : decode cX10_isConsistent 46 = .ok (.aload_n 1, 1) := by decide +kernel
theorem dX10_isConsistent_47 : decode cX10_isConsistent 47 = .ok (.getfield 65, 3) := by decide +kernel
theorem dX10_isConsistent_50 : decode cX10_isConsistent 50 = .ok (.invokevirtual 132, 3) := by decide +kernel
theorem dX10_isConsistent_53 : decode cX10_isConsistent 53 = .ok (.if_icmp .ne 44, 3) := by decide +kernel
theorem dX10_isConsistent_56 : decode cX10_isConsistent 56 = .ok (.aload_n 1, 1) := by decide +kernel
theorem dX10_isConsistent_57 : decode cX10_isConsistent 57 = .ok (.getfield 202, 3) := by decide +kernel
theorem dX10_isConsistent_60 : decode cX10_isConsistent 60 = .ok (.invokevirtual 220, 3) := by decide +kernel
theorem dX10_isConsistent_63 : decode cX10_isConsistent 63 = .ok (.aload_n 1, 1) := by decide +kernel
theorem dX10_isConsistent_64 : decode cX10_isConsistent 64 = .ok (.getfield 202, 3) := by decide +kernel
theorem dX10_isConsistent_67 : decode cX10_isConsistent 67 = .ok (.invokevirtual 223, 3) := by decide +kernel
theorem dX10_isConsistent_70 : decode cX10_isConsistent 70 = .ok (.if_icmp .ne 27, 3) := by decide +kernel
theorem dX10_isConsistent_73 : decode cX10_isConsistent 73 = .ok (.aload_n 1, 1) := by decide +kernel
theorem dX10_isConsistent_74 : decode cX10_isConsistent 74 = .ok (.getfield 144, 3) := by decide +kernel
theorem dX10_isConsistent_77 : decode cX10_isConsistent 77 = .ok (.invokevirtual 148, 3) := by decide +kernel
theorem dX10_isConsistent_80 : decode cX10_isConsistent 80 = .ok (.ifCond .ne 13, 3) := by decide +kernel
theorem dX10_isConsistent_83 : decode cX10_isConsistent 83 = .ok (.aload_n 1, 1) := by decide +kernel
theorem dX10_isConsistent_84 : decode cX10_isConsistent 84 = .ok (.getfield 144, 3) := by decide +kernel
theorem dX10_isConsistent_87 : decode cX10_isConsistent 87 = .ok (.getfield 196, 3) := by decide +kernel
theorem dX10_isConsistent_90 : decode cX10_isConsistent 90 = .ok (.ifCond .ne 7, 3) := by decide +kernel
theorem dX10_isConsistent_93 : decode cX10_isConsistent 93 = .ok (.iconst 1, 1) := by decide +kernel
theorem dX10_isConsistent_94 : decode cX10_isConsistent 94 = .ok (.goto 4, 3) := by decide +kernel
theorem dX10_isConsistent_97 : decode cX10_isConsistent 97 = .ok (.iconst 0, 1) := by decide +kernel
theorem dX10_isConsistent_98 : decode cX10_isConsistent 98 = .ok (.ireturn, 1) := by decide +kernel
theorem dX10_writeRoute_0 : decode cX10_writeRoute 0 = .ok (.aload_n 0, 1) := by decide +kernel
theorem dX10_writeRoute_1 : decode cX10_writeRoute 1 = .ok (.getfield 12, 3) := by decide +kernel
theorem dX10_writeRoute_4 : decode cX10_writeRoute 4 = .ok (.getfield 62, 3) := by decide +kernel
theorem dX10_writeRoute_7 : decode cX10_writeRoute 7 = .ok (.getfield 144, 3) := by decide +kernel
theorem dX10_writeRoute_10 : decode cX10_writeRoute 10 = .ok (.astore_n 1, 1) := by decide +kernel
theorem dX10_writeRoute_11 : decode cX10_writeRoute 11 = .ok (.aload_n 0, 1) := by decide +kernel
theorem dX10_writeRoute_12 : decode cX10_writeRoute 12 = .ok (.getfield 43, 3) := by decide +kernel
theorem dX10_writeRoute_15 : decode cX10_writeRoute 15 = .ok (.invokevirtual 249, 3) := by decide +kernel
theorem dX10_writeRoute_18 : decode cX10_writeRoute 18 = .ok (.iconst 0, 1) := by decide +kernel
theorem dX10_writeRoute_19 : decode cX10_writeRoute 19 = .ok (.istore_n 2, 1) := by decide +kernel
theorem dX10_writeRoute_20 : decode cX10_writeRoute 20 = .ok (.iload_n 2, 1) := by decide +kernel
theorem dX10_writeRoute_21 : decode cX10_writeRoute 21 = .ok (.aload_n 1, 1) := by decide +kernel
theorem dX10_writeRoute_22 : decode cX10_writeRoute 22 = .ok (.getfield 157, 3) := by decide +kernel
theorem dX10_writeRoute_25 : decode cX10_writeRoute 25 = .ok (.if_icmp .ge 74, 3) := by decide +kernel
theorem dX10_writeRoute_28 : decode cX10_writeRoute 28 = .ok (.iload_n 2, 1) := by decide +kernel
theorem dX10_writeRoute_29 : decode cX10_writeRoute 29 = .ok (.ifCond .le 12, 3) := by decide +kernel
theorem dX10_writeRoute_32 : decode cX10_writeRoute 32 = .ok (.aload_n 0, 1) := by decide +kernel
theorem dX10_writeRoute_33 : decode cX10_writeRoute 33 = .ok (.getfield 43, 3) := by decide +kernel
theorem dX10_writeRoute_36 : decode cX10_writeRoute 36 = .ok (.bipush 32, 2) := by decide +kernel
theorem dX10_writeRoute_38 : decode cX10_writeRoute 38 = .ok (.invokevirtual 252, 3) := by decide +kernel
theorem dX10_writeRoute_41 : decode cX10_writeRoute 41 = .ok (.iload_n 2, 1) := by decide +kernel
theorem dX10_writeRoute_42 : decode cX10_writeRoute 42 = .ok (.aload_n 1, 1) := by decide +kernel
theorem dX10_writeRoute_43 : decode cX10_writeRoute 43 = .ok (.getfield 256, 3) := by decide +kernel
theorem dX10_writeRoute_46 : decode cX10_writeRoute 46 = .ok (.if_icmp .ne 12, 3) := by decide +kernel
theorem dX10_writeRoute_49 : decode cX10_writeRoute 49 = .ok (.aload_n 0, 1) := by decide +kernel
theorem dX10_writeRoute_50 : decode cX10_writeRoute 50 = .ok (.getfield 43, 3) := by decide +kernel
theorem dX10_writeRoute_53 : decode cX10_writeRoute 53 = .ok (.bipush 42, 2) := by decide +kernel
theorem dX10_writeRoute_55 : decode cX10_writeRoute 55 = .ok (.invokevirtual 252, 3) := by decide +kernel
theorem dX10_writeRoute_58 : decode cX10_writeRoute 58 = .ok (.aload_n 0, 1) := by decide +kernel
theorem dX10_writeRoute_59 : decode cX10_writeRoute 59 = .ok (.getfield 43, 3) := by decide +kernel
theorem dX10_writeRoute_62 : decode cX10_writeRoute 62 = .ok (.aload_n 1, 1) := by decide +kernel
theorem dX10_writeRoute_63 : decode cX10_writeRoute 63 = .ok (.iload_n 2, 1) := by decide +kernel
theorem dX10_writeRoute_64 : decode cX10_writeRoute 64 = .ok (.invokevirtual 161, 3) := by decide +kernel
theorem dX10_writeRoute_67 : decode cX10_writeRoute 67 = .ok (.invokevirtual 259, 3) := by decide +kernel
theorem dX10_writeRoute_70 : decode cX10_writeRoute 70 = .ok (.aload_n 1, 1) := by decide +kernel
theorem dX10_writeRoute_71 : decode cX10_writeRoute 71 = .ok (.iload_n 2, 1) := by decide +kernel
theorem dX10_writeRoute_72 : decode cX10_writeRoute 72 = .ok (.invokevirtual 164, 3) := by decide +kernel
theorem dX10_writeRoute_75 : decode cX10_writeRoute 75 = .ok (.ifCond .eq 18, 3) := by decide +kernel
theorem dX10_writeRoute_78 : decode cX10_writeRoute 78 = .ok (.aload_n 0, 1) := by decide +kernel
theorem dX10_writeRoute_79 : decode cX10_writeRoute 79 = .ok (.getfield 43, 3) := by decide +kernel
theorem dX10_writeRoute_82 : decode cX10_writeRoute 82 = .ok (.aload_n 0, 1) := by decide +kernel
theorem dX10_writeRoute_83 : decode cX10_writeRoute 83 = .ok (.getfield 12, 3) := by decide +kernel
theorem dX10_writeRoute_86 : decode cX10_writeRoute 86 = .ok (.iload_n 2, 1) := by decide +kernel
theorem dX10_writeRoute_87 : decode cX10_writeRoute 87 = .ok (.invokevirtual 170, 3) := by decide +kernel
theorem dX10_writeRoute_90 : decode cX10_writeRoute 90 = .ok (.invokevirtual 252, 3) := by decide +kernel
theorem dX10_writeRoute_93 : decode cX10_writeRoute 93 = .ok (.iinc 2 1, 3) := by decide +kernel
theorem dX10_writeRoute_96 : decode cX10_writeRoute 96 = .ok (.goto (-76), 3) := by decide +kernel
theorem dX10_writeRoute_99 : decode cX10_writeRoute 99 = .ok (.aload_n 0, 1) := by decide +kernel
theorem dX10_writeRoute_100 : decode cX10_writeRoute 100 = .ok (.getfield 43, 3) := by decide +kernel
theorem dX10_writeRoute_103 : decode cX10_writeRoute 103 = .ok (.getfield 262, 3) := by decide +kernel
theorem dX10_writeRoute_106 : decode cX10_writeRoute 106 = .ok (.ireturn, 1) := by decide +kernel
theorem dX10_writeTrails_0 : decode cX10_writeTrails 0 = .ok (.aload_n 0, 1) := by decide +kernel
theorem dX10_writeTrails_1 : decode cX10_writeTrails 1 = .ok (.iload_n 1, 1) := by decide +kernel
theorem dX10_writeTrails_2 : decode cX10_writeTrails 2 = .ok (.invokevirtual 74, 3) := by decide +kernel
theorem dX10_writeTrails_5 : decode cX10_writeTrails 5 = .ok (.aload_n 0, 1) := by decide +kernel
theorem dX10_writeTrails_6 : decode cX10_writeTrails 6 = .ok (.getfield 12, 3) := by decide +kernel
theorem dX10_writeTrails_9 : decode cX10_writeTrails 9 = .ok (.getfield 62, 3) := by decide +kernel
theorem dX10_writeTrails_12 : decode cX10_writeTrails 12 = .ok (.getfield 65, 3) := by decide +kernel
theorem dX10_writeTrails_15 : decode cX10_writeTrails 15 = .ok (.astore_n 2, 1) := by decide +kernel
theorem dX10_writeTrails_16 : decode cX10_writeTrails 16 = .ok (.aload_n 0, 1) := by decide +kernel
theorem dX10_writeTrails_17 : decode cX10_writeTrails 17 = .ok (.getfield 43, 3) := by decide +kernel
theorem dX10_writeTrails_20 : decode cX10_writeTrails 20 = .ok (.invokevirtual 249, 3) := by decide +kernel
theorem dX10_writeTrails_23 : decode cX10_writeTrails 23 = .ok (.iconst 0, 1) := by decide +kernel
theorem dX10_writeTrails_24 : decode cX10_writeTrails 24 = .ok (.istore_n 3, 1) := by decide +kernel
theorem dX10_writeTrails_25 : decode cX10_writeTrails 25 = .ok (.iload_n 3, 1) := by decide +kernel
theorem dX10_writeTrails_26 : decode cX10_writeTrails 26 = .ok (.aload_n 2, 1) := by decide +kernel
theorem dX10_writeTrails_27 : decode cX10_writeTrails 27 = .ok (.getfield 69, 3) := by decide +kernel
theorem dX10_writeTrails_30 : decode cX10_writeTrails 30 = .ok (.if_icmp .ge 57, 3) := by decide +kernel
theorem dX10_writeTrails_33 : decode cX10_writeTrails 33 = .ok (.aload_n 2, 1) := by decide +kernel
theorem dX10_writeTrails_34 : decode cX10_writeTrails 34 = .ok (.iload_n 1, 1) := by decide +kernel
theorem dX10_writeTrails_35 : decode cX10_writeTrails 35 = .ok (.iload_n 3, 1) := by decide +kernel
theorem dX10_writeTrails_36 : decode cX10_writeTrails 36 = .ok (.invokevirtual 91, 3) := by decide +kernel
theorem dX10_writeTrails_39 : decode cX10_writeTrails 39 = .ok (.ifCond .eq 42, 3) := by decide +kernel
theorem dX10_writeTrails_42 : decode cX10_writeTrails 42 = .ok (.aload_n 0, 1) := by decide +kernel
theorem dX10_writeTrails_43 : decode cX10_writeTrails 43 = .ok (.getfield 43, 3) := by decide +kernel
theorem dX10_writeTrails_46 : decode cX10_writeTrails 46 = .ok (.bipush 45, 2) := by decide +kernel
theorem dX10_writeTrails_48 : decode cX10_writeTrails 48 = .ok (.invokevirtual 252, 3) := by decide +kernel
theorem dX10_writeTrails_51 : decode cX10_writeTrails 51 = .ok (.aload_n 0, 1) := by decide +kernel
theorem dX10_writeTrails_52 : decode cX10_writeTrails 52 = .ok (.getfield 43, 3) := by decide +kernel
theorem dX10_writeTrails_55 : decode cX10_writeTrails 55 = .ok (.iload_n 3, 1) := by decide +kernel
theorem dX10_writeTrails_56 : decode cX10_writeTrails 56 = .ok (.invokevirtual 259, 3) := by decide +kernel
theorem dX10_writeTrails_59 : decode cX10_writeTrails 59 = .ok (.aload_n 0, 1) := by decide +kernel
theorem dX10_writeTrails_60 : decode cX10_writeTrails 60 = .ok (.getfield 43, 3) := by decide +kernel
theorem dX10_writeTrails_63 : decode cX10_writeTrails 63 = .ok (.bipush 61, 2) := by decide +kernel
theorem dX10_writeTrails_65 : decode cX10_writeTrails 65 = .ok (.invokevirtual 252, 3) := by decide +kernel
theorem dX10_writeTrails_68 : decode cX10_writeTrails 68 = .ok (.aload_n 0, 1) := by decide +kernel
theorem dX10_writeTrails_69 : decode cX10_writeTrails 69 = .ok (.getfield 43, 3) := by decide +kernel
theorem dX10_writeTrails_72 : decode cX10_writeTrails 72 = .ok (.aload_n 2, 1) := by decide +kernel
theorem dX10_writeTrails_73 : decode cX10_writeTrails 73 = .ok (.iload_n 1, 1) := by decide +kernel
theorem dX10_writeTrails_74 : decode cX10_writeTrails 74 = .ok (.iload_n 3, 1) := by decide +kernel
theorem dX10_writeTrails_75 : decode cX10_writeTrails 75 = .ok (.invokevirtual 102, 3) := by decide +kernel
theorem dX10_writeTrails_78 : decode cX10_writeTrails 78 = .ok (.invokevirtual 259, 3) := by decide +kernel
theorem dX10_writeTrails_81 : decode cX10_writeTrails 81 = .ok (.iinc 3 1, 3) := by decide +kernel
theorem dX10_writeTrails_84 : decode cX10_writeTrails 84 = .ok (.goto (-59), 3) := by decide +kernel
theorem dX10_writeTrails_87 : decode cX10_writeTrails 87 = .ok (.aload_n 0, 1) := by decide +kernel
theorem dX10_writeTrails_88 : decode cX10_writeTrails 88 = .ok (.getfield 43, 3) := by decide +kernel
theorem dX10_writeTrails_91 : decode cX10_writeTrails 91 = .ok (.getfield 262, 3) := by decide +kernel
theorem dX10_writeTrails_94 : decode cX10_writeTrails 94 = .ok (.ireturn, 1) := by decide +kernel
theorem dX10_charAt_0 : decode cX10_charAt 0 = .ok (.iload_n 1, 1) := by decide +kernel
theorem dX10_charAt_1 : decode cX10_charAt 1 = .ok (.ifCond .lt 14, 3) := by decide +kernel
theorem dX10_charAt_4 : decode cX10_charAt 4 = .ok (.iload_n 1, 1) := by decide +kernel
theorem dX10_charAt_5 : decode cX10_charAt 5 = .ok (.aload_n 0, 1) := by decide +kernel
theorem dX10_charAt_6 : decode cX10_charAt 6 = .ok (.getfield 43, 3) := by decide +kernel
theorem dX10_charAt_9 : decode cX10_charAt 9 = .ok (.getfield 262, 3) := by decide +kernel
theorem dX10_charAt_12 : decode cX10_charAt 12 = .ok (.if_icmp .lt 14, 3) := by decide +kernel
theorem dX10_charAt_15 : decode cX10_charAt 15 = .ok (.new 265, 3) := by decide +kernel
theorem dX10_charAt_18 : decode cX10_charAt 18 = .ok (.dup, 1) := by decide +kernel
theorem dX10_charAt_19 : decode cX10_charAt 19 = .ok (.ldc_w 267, 3) := by decide +kernel
theorem dX10_charAt_22 : decode cX10_charAt 22 = .ok (.invokespecial 269, 3) := by decide +kernel
theorem dX10_charAt_25 : decode cX10_charAt 25 = .ok (.athrow, 1) := by decide +kernel
theorem dX10_charAt_26 : decode cX10_charAt 26 = .ok (.aload_n 0, 1) := by decide +kernel
theorem dX10_charAt_27 : decode cX10_charAt 27 = .ok (.getfield 43, 3) := by decide +kernel
theorem dX10_charAt_30 : decode cX10_charAt 30 = .ok (.iload_n 1, 1) := by decide +kernel
theorem dX10_charAt_31 : decode cX10_charAt 31 = .ok (.invokevirtual 270, 3) := by decide +kernel
theorem dX10_charAt_34 : decode cX10_charAt 34 = .ok (.ireturn, 1) := by decide +kernel
theorem dX10_type_0 : decode cX10_type 0 = .ok (.aload_n 0, 1) := by decide +kernel
theorem dX10_type_1 : decode cX10_type 1 = .ok (.getfield 36, 3) := by decide +kernel
theorem dX10_type_4 : decode cX10_type 4 = .ok (.invokevirtual 273, 3) := by decide +kernel
theorem dX10_type_7 : decode cX10_type 7 = .ok (.ifCond .eq 14, 3) := by decide +kernel
theorem dX10_type_10 : decode cX10_type 10 = .ok (.new 276, 3) := by decide +kernel
theorem dX10_type_13 : decode cX10_type 13 = .ok (.dup, 1) := by decide +kernel
theorem dX10_type_14 : decode cX10_type 14 = .ok (.ldc_w 278, 3) := by decide +kernel
theorem dX10_type_17 : decode cX10_type 17 = .ok (.invokespecial 280, 3) := by decide +kernel
theorem dX10_type_20 : decode cX10_type 20 = .ok (.athrow, 1) := by decide +kernel
theorem dX10_type_21 : decode cX10_type 21 = .ok (.aload_n 0, 1) := by decide +kernel
theorem dX10_type_22 : decode cX10_type 22 = .ok (.getfield 36, 3) := by decide +kernel
theorem dX10_type_25 : decode cX10_type 25 = .ok (.iload_n 1, 1) := by decide +kernel
theorem dX10_type_26 : decode cX10_type 26 = .ok (.invokevirtual 281, 3) := by decide +kernel
theorem dX10_type_29 : decode cX10_type 29 = .ok (.ireturn, 1) := by decide +kernel
theorem dX10_run_0 : decode cX10_run 0 = .ok (.aload_n 0, 1) := by decide +kernel
theorem dX10_run_1 : decode cX10_run 1 = .ok (.getfield 36, 3) := by decide +kernel
theorem dX10_run_4 : decode cX10_run 4 = .ok (.invokevirtual 285, 3) := by decide +kernel
theorem dX10_run_7 : decode cX10_run 7 = .ok (.istore_n 1, 1) := by decide +kernel
theorem dX10_run_8 : decode cX10_run 8 = .ok (.aload_n 0, 1) := by decide +kernel
theorem dX10_run_9 : decode cX10_run 9 = .ok (.getfield 36, 3) := by decide +kernel
theorem dX10_run_12 : decode cX10_run 12 = .ok (.invokevirtual 288, 3) := by decide +kernel
theorem dX10_run_15 : decode cX10_run 15 = .ok (.iload_n 1, 1) := by decide +kernel
theorem dX10_run_16 : decode cX10_run 16 = .ok (.ifCond .ne 25, 3) := by decide +kernel
theorem dX10_run_19 : decode cX10_run 19 = .ok (.aload_n 0, 1) := by decide +kernel
theorem dX10_run_20 : decode cX10_run 20 = .ok (.aload_n 0, 1) := by decide +kernel
theorem dX10_run_21 : decode cX10_run 21 = .ok (.getfield 36, 3) := by decide +kernel
theorem dX10_run_24 : decode cX10_run 24 = .ok (.getfield 291, 3) := by decide +kernel
theorem dX10_run_27 : decode cX10_run 27 = .ok (.putfield 51, 3) := by decide +kernel
theorem dX10_run_30 : decode cX10_run 30 = .ok (.new 294, 3) := by decide +kernel
theorem dX10_run_33 : decode cX10_run 33 = .ok (.dup, 1) := by decide +kernel
theorem dX10_run_34 : decode cX10_run 34 = .ok (.ldc_w 296, 3) := by decide +kernel
theorem dX10_run_37 : decode cX10_run 37 = .ok (.invokespecial 298, 3) := by decide +kernel
theorem dX10_run_40 : decode cX10_run 40 = .ok (.athrow, 1) := by decide +kernel
theorem dX10_run_41 : decode cX10_run 41 = .ok (.aload_n 0, 1) := by decide +kernel
theorem dX10_run_42 : decode cX10_run 42 = .ok (.getfield 30, 3) := by decide +kernel
theorem dX10_run_45 : decode cX10_run 45 = .ok (.aload_n 0, 1) := by decide +kernel
theorem dX10_run_46 : decode cX10_run 46 = .ok (.getfield 12, 3) := by decide +kernel
theorem dX10_run_49 : decode cX10_run 49 = .ok (.getfield 62, 3) := by decide +kernel
theorem dX10_run_52 : decode cX10_run 52 = .ok (.invokevirtual 299, 3) := by decide +kernel
theorem dX10_run_55 : decode cX10_run 55 = .ok (.aload_n 0, 1) := by decide +kernel
theorem dX10_run_56 : decode cX10_run 56 = .ok (.invokevirtual 303, 3) := by decide +kernel
theorem dX10_run_59 : decode cX10_run 59 = .ok (.istore_n 2, 1) := by decide +kernel
theorem dX10_run_60 : decode cX10_run 60 = .ok (.iload_n 2, 1) := by decide +kernel
theorem dX10_run_61 : decode cX10_run 61 = .ok (.iconst (-1), 1) := by decide +kernel
theorem dX10_run_62 : decode cX10_run 62 = .ok (.if_icmp .eq 33, 3) := by decide +kernel
theorem dX10_run_65 : decode cX10_run 65 = .ok (.aload_n 0, 1) := by decide +kernel
theorem dX10_run_66 : decode cX10_run 66 = .ok (.getfield 12, 3) := by decide +kernel
theorem dX10_run_69 : decode cX10_run 69 = .ok (.getfield 62, 3) := by decide +kernel
theorem dX10_run_72 : decode cX10_run 72 = .ok (.aload_n 0, 1) := by decide +kernel
theorem dX10_run_73 : decode cX10_run 73 = .ok (.getfield 30, 3) := by decide +kernel
theorem dX10_run_76 : decode cX10_run 76 = .ok (.invokevirtual 299, 3) := by decide +kernel
theorem dX10_run_79 : decode cX10_run 79 = .ok (.aload_n 0, 1) := by decide +kernel
theorem dX10_run_80 : decode cX10_run 80 = .ok (.iload_n 2, 1) := by decide +kernel
theorem dX10_run_81 : decode cX10_run 81 = .ok (.putfield 55, 3) := by decide +kernel
theorem dX10_run_84 : decode cX10_run 84 = .ok (.new 306, 3) := by decide +kernel
theorem dX10_run_87 : decode cX10_run 87 = .ok (.dup, 1) := by decide +kernel
theorem dX10_run_88 : decode cX10_run 88 = .ok (.ldc_w 308, 3) := by decide +kernel
theorem dX10_run_91 : decode cX10_run 91 = .ok (.invokespecial 310, 3) := by decide +kernel
theorem dX10_run_94 : decode cX10_run 94 = .ok (.athrow, 1) := by decide +kernel
theorem dX10_run_95 : decode cX10_run 95 = .ok (.aload_n 0, 1) := by decide +kernel
theorem dX10_run_96 : decode cX10_run 96 = .ok (.getfield 19, 3) := by decide +kernel
theorem dX10_run_99 : decode cX10_run 99 = .ok (.aload_n 0, 1) := by decide +kernel
theorem dX10_run_100 : decode cX10_run 100 = .ok (.getfield 30, 3) := by decide +kernel
theorem dX10_run_103 : decode cX10_run 103 = .ok (.invokevirtual 311, 3) := by decide +kernel
theorem dX10_run_106 : decode cX10_run 106 = .ok (.aload_n 0, 1) := by decide +kernel
theorem dX10_run_107 : decode cX10_run 107 = .ok (.getfield 36, 3) := by decide +kernel
theorem dX10_run_110 : decode cX10_run 110 = .ok (.getfield 314, 3) := by decide +kernel
theorem dX10_run_113 : decode cX10_run 113 = .ok (.ireturn, 1) := by decide +kernel
theorem dX10_errorPosition_0 : decode cX10_errorPosition 0 = .ok (.aload_n 0, 1) := by decide +kernel
theorem dX10_errorPosition_1 : decode cX10_errorPosition 1 = .ok (.getfield 51, 3) := by decide +kernel
theorem dX10_errorPosition_4 : decode cX10_errorPosition 4 = .ok (.iconst (-1), 1) := by decide +kernel
theorem dX10_errorPosition_5 : decode cX10_errorPosition 5 = .ok (.if_icmp .ne 14, 3) := by decide +kernel
theorem dX10_errorPosition_8 : decode cX10_errorPosition 8 = .ok (.new 95, 3) := by decide +kernel
theorem dX10_errorPosition_11 : decode cX10_errorPosition 11 = .ok (.dup, 1) := by decide +kernel
theorem dX10_errorPosition_12 : decode cX10_errorPosition 12 = .ok (.ldc_w 315, 3) := by decide +kernel
theorem dX10_errorPosition_15 : decode cX10_errorPosition 15 = .ok (.invokespecial 99, 3) := by decide +kernel
theorem dX10_errorPosition_18 : decode cX10_errorPosition 18 = .ok (.athrow, 1) := by decide +kernel
theorem dX10_errorPosition_19 : decode cX10_errorPosition 19 = .ok (.aload_n 0, 1) := by decide +kernel
theorem dX10_errorPosition_20 : decode cX10_errorPosition 20 = .ok (.getfield 51, 3) := by decide +kernel
theorem dX10_errorPosition_23 : decode cX10_errorPosition 23 = .ok (.ireturn, 1) := by decide +kernel
theorem dX10_failedCommand_0 : decode cX10_failedCommand 0 = .ok (.aload_n 0, 1) := by decide +kernel
theorem dX10_failedCommand_1 : decode cX10_failedCommand 1 = .ok (.getfield 55, 3) := by decide +kernel
theorem dX10_failedCommand_4 : decode cX10_failedCommand 4 = .ok (.iconst (-1), 1) := by decide +kernel
theorem dX10_failedCommand_5 : decode cX10_failedCommand 5 = .ok (.if_icmp .ne 14, 3) := by decide +kernel
theorem dX10_failedCommand_8 : decode cX10_failedCommand 8 = .ok (.new 95, 3) := by decide +kernel
theorem dX10_failedCommand_11 : decode cX10_failedCommand 11 = .ok (.dup, 1) := by decide +kernel
theorem dX10_failedCommand_12 : decode cX10_failedCommand 12 = .ok (.ldc_w 317, 3) := by decide +kernel
theorem dX10_failedCommand_15 : decode cX10_failedCommand 15 = .ok (.invokespecial 99, 3) := by decide +kernel
theorem dX10_failedCommand_18 : decode cX10_failedCommand 18 = .ok (.athrow, 1) := by decide +kernel
theorem dX10_failedCommand_19 : decode cX10_failedCommand 19 = .ok (.aload_n 0, 1) := by decide +kernel
theorem dX10_failedCommand_20 : decode cX10_failedCommand 20 = .ok (.getfield 55, 3) := by decide +kernel
theorem dX10_failedCommand_23 : decode cX10_failedCommand 23 = .ok (.ireturn, 1) := by decide +kernel
theorem dX10_undo_0 : decode cX10_undo 0 = .ok (.aload_n 0, 1) := by decide +kernel
theorem dX10_undo_1 : decode cX10_undo 1 = .ok (.getfield 19, 3) := by decide +kernel
theorem dX10_undo_4 : decode cX10_undo 4 = .ok (.getfield 319, 3) := by decide +kernel
theorem dX10_undo_7 : decode cX10_undo 7 = .ok (.ifCond .ne 14, 3) := by decide +kernel
theorem dX10_undo_10 : decode cX10_undo 10 = .ok (.new 276, 3) := by decide +kernel
theorem dX10_undo_13 : decode cX10_undo 13 = .ok (.dup, 1) := by decide +kernel
theorem dX10_undo_14 : decode cX10_undo 14 = .ok (.ldc_w 320, 3) := by decide +kernel
theorem dX10_undo_17 : decode cX10_undo 17 = .ok (.invokespecial 280, 3) := by decide +kernel
theorem dX10_undo_20 : decode cX10_undo 20 = .ok (.athrow, 1) := by decide +kernel
theorem dX10_undo_21 : decode cX10_undo 21 = .ok (.aload_n 0, 1) := by decide +kernel
theorem dX10_undo_22 : decode cX10_undo 22 = .ok (.getfield 19, 3) := by decide +kernel
theorem dX10_undo_25 : decode cX10_undo 25 = .ok (.aload_n 0, 1) := by decide +kernel
theorem dX10_undo_26 : decode cX10_undo 26 = .ok (.getfield 12, 3) := by decide +kernel
theorem dX10_undo_29 : decode cX10_undo 29 = .ok (.getfield 62, 3) := by decide +kernel
theorem dX10_undo_32 : decode cX10_undo 32 = .ok (.invokevirtual 322, 3) := by decide +kernel
theorem dX10_undo_35 : decode cX10_undo 35 = .ok (.aload_n 0, 1) := by decide +kernel
theorem dX10_undo_36 : decode cX10_undo 36 = .ok (.getfield 19, 3) := by decide +kernel
theorem dX10_undo_39 : decode cX10_undo 39 = .ok (.getfield 319, 3) := by decide +kernel
theorem dX10_undo_42 : decode cX10_undo 42 = .ok (.ireturn, 1) := by decide +kernel
theorem dX10_save_0 : decode cX10_save 0 = .ok (.aload_n 0, 1) := by decide +kernel
theorem dX10_save_1 : decode cX10_save 1 = .ok (.getfield 26, 3) := by decide +kernel
theorem dX10_save_4 : decode cX10_save 4 = .ok (.aload_n 0, 1) := by decide +kernel
theorem dX10_save_5 : decode cX10_save 5 = .ok (.getfield 12, 3) := by decide +kernel
theorem dX10_save_8 : decode cX10_save 8 = .ok (.getfield 62, 3) := by decide +kernel
theorem dX10_save_11 : decode cX10_save 11 = .ok (.invokevirtual 299, 3) := by decide +kernel
theorem dX10_save_14 : decode cX10_save 14 = .ok (.aload_n 0, 1) := by decide +kernel
theorem dX10_save_15 : decode cX10_save 15 = .ok (.iconst 1, 1) := by decide +kernel
theorem dX10_save_16 : decode cX10_save 16 = .ok (.putfield 47, 3) := by decide +kernel
theorem dX10_save_19 : decode cX10_save 19 = .ok (.aload_n 0, 1) := by decide +kernel
theorem dX10_save_20 : decode cX10_save 20 = .ok (.getfield 26, 3) := by decide +kernel
theorem dX10_save_23 : decode cX10_save 23 = .ok (.getfield 65, 3) := by decide +kernel
theorem dX10_save_26 : decode cX10_save 26 = .ok (.getfield 69, 3) := by decide +kernel
theorem dX10_save_29 : decode cX10_save 29 = .ok (.ireturn, 1) := by decide +kernel
theorem dX10_restore_0 : decode cX10_restore 0 = .ok (.aload_n 0, 1) := by decide +kernel
theorem dX10_restore_1 : decode cX10_restore 1 = .ok (.getfield 47, 3) := by decide +kernel
theorem dX10_restore_4 : decode cX10_restore 4 = .ok (.ifCond .ne 14, 3) := by decide +kernel
theorem dX10_restore_7 : decode cX10_restore 7 = .ok (.new 276, 3) := by decide +kernel
theorem dX10_restore_10 : decode cX10_restore 10 = .ok (.dup, 1) := by decide +kernel
theorem dX10_restore_11 : decode cX10_restore 11 = .ok (.ldc_w 325, 3) := by decide +kernel
theorem dX10_restore_14 : decode cX10_restore 14 = .ok (.invokespecial 280, 3) := by decide +kernel
theorem dX10_restore_17 : decode cX10_restore 17 = .ok (.athrow, 1) := by decide +kernel
theorem dX10_restore_18 : decode cX10_restore 18 = .ok (.aload_n 0, 1) := by decide +kernel
theorem dX10_restore_19 : decode cX10_restore 19 = .ok (.getfield 12, 3) := by decide +kernel
theorem dX10_restore_22 : decode cX10_restore 22 = .ok (.getfield 62, 3) := by decide +kernel
theorem dX10_restore_25 : decode cX10_restore 25 = .ok (.aload_n 0, 1) := by decide +kernel
theorem dX10_restore_26 : decode cX10_restore 26 = .ok (.getfield 26, 3) := by decide +kernel
theorem dX10_restore_29 : decode cX10_restore 29 = .ok (.invokevirtual 299, 3) := by decide +kernel
theorem dX10_restore_32 : decode cX10_restore 32 = .ok (.aload_n 0, 1) := by decide +kernel
theorem dX10_restore_33 : decode cX10_restore 33 = .ok (.getfield 19, 3) := by decide +kernel
theorem dX10_restore_36 : decode cX10_restore 36 = .ok (.invokevirtual 327, 3) := by decide +kernel
theorem dX10_restore_39 : decode cX10_restore 39 = .ok (.aload_n 0, 1) := by decide +kernel
theorem dX10_restore_40 : decode cX10_restore 40 = .ok (.getfield 12, 3) := by decide +kernel
theorem dX10_restore_43 : decode cX10_restore 43 = .ok (.getfield 62, 3) := by decide +kernel
theorem dX10_restore_46 : decode cX10_restore 46 = .ok (.getfield 65, 3) := by decide +kernel
theorem dX10_restore_49 : decode cX10_restore 49 = .ok (.getfield 69, 3) := by decide +kernel
theorem dX10_restore_52 : decode cX10_restore 52 = .ok (.ireturn, 1) := by decide +kernel
theorem dX10_change_0 : decode cX10_change 0 = .ok (.aload_n 0, 1) := by decide +kernel
theorem dX10_change_1 : decode cX10_change 1 = .ok (.getfield 12, 3) := by decide +kernel
theorem dX10_change_4 : decode cX10_change 4 = .ok (.iload_n 1, 1) := by decide +kernel
theorem dX10_change_5 : decode cX10_change 5 = .ok (.iload_n 2, 1) := by decide +kernel
theorem dX10_change_6 : decode cX10_change 6 = .ok (.iload_n 3, 1) := by decide +kernel
theorem dX10_change_7 : decode cX10_change 7 = .ok (.iload 4, 2) := by decide +kernel
theorem dX10_change_9 : decode cX10_change 9 = .ok (.invokevirtual 330, 3) := by decide +kernel
theorem dX10_change_12 : decode cX10_change 12 = .ok (.invokestatic 333, 3) := by decide +kernel
theorem dX10_change_15 : decode cX10_change 15 = .ok (.aload_n 0, 1) := by decide +kernel
theorem dX10_change_16 : decode cX10_change 16 = .ok (.getfield 19, 3) := by decide +kernel
theorem dX10_change_19 : decode cX10_change 19 = .ok (.aload_n 0, 1) := by decide +kernel
theorem dX10_change_20 : decode cX10_change 20 = .ok (.getfield 12, 3) := by decide +kernel
theorem dX10_change_23 : decode cX10_change 23 = .ok (.getfield 62, 3) := by decide +kernel
theorem dX10_change_26 : decode cX10_change 26 = .ok (.invokevirtual 311, 3) := by decide +kernel
theorem dX10_change_29 : decode cX10_change 29 = .ok (.aload_n 0, 1) := by decide +kernel
theorem dX10_change_30 : decode cX10_change 30 = .ok (.getfield 12, 3) := by decide +kernel
theorem dX10_change_33 : decode cX10_change 33 = .ok (.iload_n 1, 1) := by decide +kernel
theorem dX10_change_34 : decode cX10_change 34 = .ok (.iload_n 2, 1) := by decide +kernel
theorem dX10_change_35 : decode cX10_change 35 = .ok (.iload_n 3, 1) := by decide +kernel
theorem dX10_change_36 : decode cX10_change 36 = .ok (.iload 4, 2) := by decide +kernel
theorem dX10_change_38 : decode cX10_change 38 = .ok (.invokevirtual 336, 3) := by decide +kernel
theorem dX10_change_41 : decode cX10_change 41 = .ok (.ireturn, 1) := by decide +kernel
theorem dX10_firstFailure_0 : decode cX10_firstFailure 0 = .ok (.iconst 0, 1) := by decide +kernel
theorem dX10_firstFailure_1 : decode cX10_firstFailure 1 = .ok (.istore_n 1, 1) := by decide +kernel
theorem dX10_firstFailure_2 : decode cX10_firstFailure 2 = .ok (.iload_n 1, 1) := by decide +kernel
theorem dX10_firstFailure_3 : decode cX10_firstFailure 3 = .ok (.aload_n 0, 1) := by decide +kernel
theorem dX10_firstFailure_4 : decode cX10_firstFailure 4 = .ok (.getfield 36, 3) := by decide +kernel
theorem dX10_firstFailure_7 : decode cX10_firstFailure 7 = .ok (.getfield 314, 3) := by decide +kernel
theorem dX10_firstFailure_10 : decode cX10_firstFailure 10 = .ok (.if_icmp .ge 82, 3) := by decide +kernel
theorem dX10_firstFailure_13 : decode cX10_firstFailure 13 = .ok (.aload_n 0, 1) := by decide +kernel
theorem dX10_firstFailure_14 : decode cX10_firstFailure 14 = .ok (.getfield 36, 3) := by decide +kernel
theorem dX10_firstFailure_17 : decode cX10_firstFailure 17 = .ok (.iload_n 1, 1) := by decide +kernel
theorem dX10_firstFailure_18 : decode cX10_firstFailure 18 = .ok (.invokevirtual 339, 3) := by decide +kernel
theorem dX10_firstFailure_21 : decode cX10_firstFailure 21 = .ok (.istore_n 2, 1) := by decide +kernel
theorem dX10_firstFailure_22 : decode cX10_firstFailure 22 = .ok (.aload_n 0, 1) := by decide +kernel
theorem dX10_firstFailure_23 : decode cX10_firstFailure 23 = .ok (.getfield 36, 3) := by decide +kernel
theorem dX10_firstFailure_26 : decode cX10_firstFailure 26 = .ok (.iload_n 1, 1) := by decide +kernel
theorem dX10_firstFailure_27 : decode cX10_firstFailure 27 = .ok (.iconst 0, 1) := by decide +kernel
theorem dX10_firstFailure_28 : decode cX10_firstFailure 28 = .ok (.invokevirtual 342, 3) := by decide +kernel
theorem dX10_firstFailure_31 : decode cX10_firstFailure 31 = .ok (.istore_n 3, 1) := by decide +kernel
theorem dX10_firstFailure_32 : decode cX10_firstFailure 32 = .ok (.aload_n 0, 1) := by decide +kernel
theorem dX10_firstFailure_33 : decode cX10_firstFailure 33 = .ok (.getfield 36, 3) := by decide +kernel
theorem dX10_firstFailure_36 : decode cX10_firstFailure 36 = .ok (.iload_n 1, 1) := by decide +kernel
theorem dX10_firstFailure_37 : decode cX10_firstFailure 37 = .ok (.iconst 1, 1) := by decide +kernel
theorem dX10_firstFailure_38 : decode cX10_firstFailure 38 = .ok (.invokevirtual 342, 3) := by decide +kernel
theorem dX10_firstFailure_41 : decode cX10_firstFailure 41 = .ok (.istore 4, 2) := by decide +kernel
theorem dX10_firstFailure_43 : decode cX10_firstFailure 43 = .ok (.aload_n 0, 1) := by decide +kernel
theorem dX10_firstFailure_44 : decode cX10_firstFailure 44 = .ok (.getfield 36, 3) := by decide +kernel
theorem dX10_firstFailure_47 : decode cX10_firstFailure 47 = .ok (.iload_n 1, 1) := by decide +kernel
theorem dX10_firstFailure_48 : decode cX10_firstFailure 48 = .ok (.iconst 2, 1) := by decide +kernel
theorem dX10_firstFailure_49 : decode cX10_firstFailure 49 = .ok (.invokevirtual 342, 3) := by decide +kernel
theorem dX10_firstFailure_52 : decode cX10_firstFailure 52 = .ok (.istore 5, 2) := by decide +kernel
theorem dX10_firstFailure_54 : decode cX10_firstFailure 54 = .ok (.aload_n 0, 1) := by decide +kernel
theorem dX10_firstFailure_55 : decode cX10_firstFailure 55 = .ok (.getfield 12, 3) := by decide +kernel
theorem dX10_firstFailure_58 : decode cX10_firstFailure 58 = .ok (.iload_n 2, 1) := by decide +kernel
theorem dX10_firstFailure_59 : decode cX10_firstFailure 59 = .ok (.iload_n 3, 1) := by decide +kernel
theorem dX10_firstFailure_60 : decode cX10_firstFailure 60 = .ok (.iload 4, 2) := by decide +kernel
theorem dX10_firstFailure_62 : decode cX10_firstFailure 62 = .ok (.iload 5, 2) := by decide +kernel
theorem dX10_firstFailure_64 : decode cX10_firstFailure 64 = .ok (.invokevirtual 330, 3) := by decide +kernel
theorem dX10_firstFailure_67 : decode cX10_firstFailure 67 = .ok (.ifCond .eq 5, 3) := by decide +kernel
theorem dX10_firstFailure_70 : decode cX10_firstFailure 70 = .ok (.iload_n 1, 1) := by decide +kernel
theorem dX10_firstFailure_71 : decode cX10_firstFailure 71 = .ok (.ireturn, 1) := by decide +kernel
theorem dX10_firstFailure_72 : decode cX10_firstFailure 72 = .ok (.aload_n 0, 1) := by decide +kernel
theorem dX10_firstFailure_73 : decode cX10_firstFailure 73 = .ok (.getfield 12, 3) := by decide +kernel
theorem dX10_firstFailure_76 : decode cX10_firstFailure 76 = .ok (.iload_n 2, 1) := by decide +kernel
theorem dX10_firstFailure_77 : decode cX10_firstFailure 77 = .ok (.iload_n 3, 1) := by decide +kernel
theorem dX10_firstFailure_78 : decode cX10_firstFailure 78 = .ok (.iload 4, 2) := by decide +kernel
theorem dX10_firstFailure_80 : decode cX10_firstFailure 80 = .ok (.iload 5, 2) := by decide +kernel
theorem dX10_firstFailure_82 : decode cX10_firstFailure 82 = .ok (.invokevirtual 336, 3) := by decide +kernel
theorem dX10_firstFailure_85 : decode cX10_firstFailure 85 = .ok (.pop, 1) := by decide +kernel
theorem dX10_firstFailure_86 : decode cX10_firstFailure 86 = .ok (.iinc 1 1, 3) := by decide +kernel
theorem dX10_firstFailure_89 : decode cX10_firstFailure 89 = .ok (.goto (-87), 3) := by decide +kernel
theorem dX10_firstFailure_92 : decode cX10_firstFailure 92 = .ok (.iconst (-1), 1) := by decide +kernel
theorem dX10_firstFailure_93 : decode cX10_firstFailure 93 = .ok (.ireturn, 1) := by decide +kernel
theorem dX10_refuse_0 : decode cX10_refuse 0 = .ok (.iload_n 0, 1) := by decide +kernel
theorem dX10_refuse_1 : decode cX10_refuse 1 = .ok (.tableswitch 90 1 5 #[35, 46, 57, 68, 79], 35) := by decide +kernel
theorem dX10_refuse_36 : decode cX10_refuse 36 = .ok (.new 265, 3) := by decide +kernel
theorem dX10_refuse_39 : decode cX10_refuse 39 = .ok (.dup, 1) := by decide +kernel
theorem dX10_refuse_40 : decode cX10_refuse 40 = .ok (.ldc_w 345, 3) := by decide +kernel
theorem dX10_refuse_43 : decode cX10_refuse 43 = .ok (.invokespecial 269, 3) := by decide +kernel
theorem dX10_refuse_46 : decode cX10_refuse 46 = .ok (.athrow, 1) := by decide +kernel
theorem dX10_refuse_47 : decode cX10_refuse 47 = .ok (.new 294, 3) := by decide +kernel
theorem dX10_refuse_50 : decode cX10_refuse 50 = .ok (.dup, 1) := by decide +kernel
theorem dX10_refuse_51 : decode cX10_refuse 51 = .ok (.ldc_w 347, 3) := by decide +kernel
theorem dX10_refuse_54 : decode cX10_refuse 54 = .ok (.invokespecial 298, 3) := by decide +kernel
theorem dX10_refuse_57 : decode cX10_refuse 57 = .ok (.athrow, 1) := by decide +kernel
theorem dX10_refuse_58 : decode cX10_refuse 58 = .ok (.new 276, 3) := by decide +kernel
theorem dX10_refuse_61 : decode cX10_refuse 61 = .ok (.dup, 1) := by decide +kernel
theorem dX10_refuse_62 : decode cX10_refuse 62 = .ok (.ldc_w 349, 3) := by decide +kernel
theorem dX10_refuse_65 : decode cX10_refuse 65 = .ok (.invokespecial 280, 3) := by decide +kernel
theorem dX10_refuse_68 : decode cX10_refuse 68 = .ok (.athrow, 1) := by decide +kernel
theorem dX10_refuse_69 : decode cX10_refuse 69 = .ok (.new 95, 3) := by decide +kernel
theorem dX10_refuse_72 : decode cX10_refuse 72 = .ok (.dup, 1) := by decide +kernel
theorem dX10_refuse_73 : decode cX10_refuse 73 = .ok (.ldc_w 351, 3) := by decide +kernel
theorem dX10_refuse_76 : decode cX10_refuse 76 = .ok (.invokespecial 99, 3) := by decide +kernel
theorem dX10_refuse_79 : decode cX10_refuse 79 = .ok (.athrow, 1) := by decide +kernel
theorem dX10_refuse_80 : decode cX10_refuse 80 = .ok (.new 306, 3) := by decide +kernel
theorem dX10_refuse_83 : decode cX10_refuse 83 = .ok (.dup, 1) := by decide +kernel
theorem dX10_refuse_84 : decode cX10_refuse 84 = .ok (.ldc_w 353, 3) := by decide +kernel
theorem dX10_refuse_87 : decode cX10_refuse 87 = .ok (.invokespecial 310, 3) := by decide +kernel
theorem dX10_refuse_90 : decode cX10_refuse 90 = .ok (.athrow, 1) := by decide +kernel
theorem dX10_refuse_91 : decode cX10_refuse 91 = .ok (.return_, 1) := by decide +kernel
theorem dX10_requireWaypoint_0 : decode cX10_requireWaypoint 0 = .ok (.aload_n 0, 1) := by decide +kernel
theorem dX10_requireWaypoint_1 : decode cX10_requireWaypoint 1 = .ok (.getfield 12, 3) := by decide +kernel
theorem dX10_requireWaypoint_4 : decode cX10_requireWaypoint 4 = .ok (.getfield 62, 3) := by decide +kernel
theorem dX10_requireWaypoint_7 : decode cX10_requireWaypoint 7 = .ok (.getfield 65, 3) := by decide +kernel
theorem dX10_requireWaypoint_10 : decode cX10_requireWaypoint 10 = .ok (.iload_n 1, 1) := by decide +kernel
theorem dX10_requireWaypoint_11 : decode cX10_requireWaypoint 11 = .ok (.invokevirtual 355, 3) := by decide +kernel
theorem dX10_requireWaypoint_14 : decode cX10_requireWaypoint 14 = .ok (.ifCond .ne 14, 3) := by decide +kernel
theorem dX10_requireWaypoint_17 : decode cX10_requireWaypoint 17 = .ok (.new 265, 3) := by decide +kernel
theorem dX10_requireWaypoint_20 : decode cX10_requireWaypoint 20 = .ok (.dup, 1) := by decide +kernel
theorem dX10_requireWaypoint_21 : decode cX10_requireWaypoint 21 = .ok (.ldc_w 345, 3) := by decide +kernel
theorem dX10_requireWaypoint_24 : decode cX10_requireWaypoint 24 = .ok (.invokespecial 269, 3) := by decide +kernel
theorem dX10_requireWaypoint_27 : decode cX10_requireWaypoint 27 = .ok (.athrow, 1) := by decide +kernel
theorem dX10_requireWaypoint_28 : decode cX10_requireWaypoint 28 = .ok (.return_, 1) := by decide +kernel
theorem dX10_requirePath_0 : decode cX10_requirePath 0 = .ok (.iload_n 0, 1) := by decide +kernel
theorem dX10_requirePath_1 : decode cX10_requirePath 1 = .ok (.ldc_w 358, 3) := by decide +kernel
theorem dX10_requirePath_4 : decode cX10_requirePath 4 = .ok (.if_icmp .lt 14, 3) := by decide +kernel
theorem dX10_requirePath_7 : decode cX10_requirePath 7 = .ok (.new 95, 3) := by decide +kernel
theorem dX10_requirePath_10 : decode cX10_requirePath 10 = .ok (.dup, 1) := by decide +kernel
theorem dX10_requirePath_11 : decode cX10_requirePath 11 = .ok (.ldc_w 359, 3) := by decide +kernel
theorem dX10_requirePath_14 : decode cX10_requirePath 14 = .ok (.invokespecial 99, 3) := by decide +kernel
theorem dX10_requirePath_17 : decode cX10_requirePath 17 = .ok (.athrow, 1) := by decide +kernel
theorem dX10_requirePath_18 : decode cX10_requirePath 18 = .ok (.return_, 1) := by decide +kernel
theorem dX10_requireCoordinates_0 : decode cX10_requireCoordinates 0 = .ok (.iload_n 0, 1) := by decide +kernel
theorem dX10_requireCoordinates_1 : decode cX10_requireCoordinates 1 = .ok (.iload_n 1, 1) := by decide +kernel
theorem dX10_requireCoordinates_2 : decode cX10_requireCoordinates 2 = .ok (.invokestatic 361, 3) := by decide +kernel
theorem dX10_requireCoordinates_5 : decode cX10_requireCoordinates 5 = .ok (.ifCond .ne 14, 3) := by decide +kernel
theorem dX10_requireCoordinates_8 : decode cX10_requireCoordinates 8 = .ok (.new 294, 3) := by decide +kernel
theorem dX10_requireCoordinates_11 : decode cX10_requireCoordinates 11 = .ok (.dup, 1) := by decide +kernel
theorem dX10_requireCoordinates_12 : decode cX10_requireCoordinates 12 = .ok (.ldc_w 364, 3) := by decide +kernel
theorem dX10_requireCoordinates_15 : decode cX10_requireCoordinates 15 = .ok (.invokespecial 298, 3) := by decide +kernel
theorem dX10_requireCoordinates_18 : decode cX10_requireCoordinates 18 = .ok (.athrow, 1) := by decide +kernel
theorem dX10_requireCoordinates_19 : decode cX10_requireCoordinates 19 = .ok (.return_, 1) := by decide +kernel
theorem dX10_requireTour_0 : decode cX10_requireTour 0 = .ok (.aload_n 0, 1) := by decide +kernel
theorem dX10_requireTour_1 : decode cX10_requireTour 1 = .ok (.getfield 12, 3) := by decide +kernel
theorem dX10_requireTour_4 : decode cX10_requireTour 4 = .ok (.getfield 62, 3) := by decide +kernel
theorem dX10_requireTour_7 : decode cX10_requireTour 7 = .ok (.getfield 144, 3) := by decide +kernel
theorem dX10_requireTour_10 : decode cX10_requireTour 10 = .ok (.invokevirtual 148, 3) := by decide +kernel
theorem dX10_requireTour_13 : decode cX10_requireTour 13 = .ok (.ifCond .ne 14, 3) := by decide +kernel
theorem dX10_requireTour_16 : decode cX10_requireTour 16 = .ok (.new 276, 3) := by decide +kernel
theorem dX10_requireTour_19 : decode cX10_requireTour 19 = .ok (.dup, 1) := by decide +kernel
theorem dX10_requireTour_20 : decode cX10_requireTour 20 = .ok (.ldc_w 366, 3) := by decide +kernel
theorem dX10_requireTour_23 : decode cX10_requireTour 23 = .ok (.invokespecial 280, 3) := by decide +kernel
theorem dX10_requireTour_26 : decode cX10_requireTour 26 = .ok (.athrow, 1) := by decide +kernel
theorem dX10_requireTour_27 : decode cX10_requireTour 27 = .ok (.return_, 1) := by decide +kernel
theorem dX10_requireRouteIndex_0 : decode cX10_requireRouteIndex 0 = .ok (.aload_n 0, 1) := by decide +kernel
theorem dX10_requireRouteIndex_1 : decode cX10_requireRouteIndex 1 = .ok (.getfield 12, 3) := by decide +kernel
theorem dX10_requireRouteIndex_4 : decode cX10_requireRouteIndex 4 = .ok (.getfield 62, 3) := by decide +kernel
theorem dX10_requireRouteIndex_7 : decode cX10_requireRouteIndex 7 = .ok (.getfield 144, 3) := by decide +kernel
theorem dX10_requireRouteIndex_10 : decode cX10_requireRouteIndex 10 = .ok (.iload_n 1, 1) := by decide +kernel
theorem dX10_requireRouteIndex_11 : decode cX10_requireRouteIndex 11 = .ok (.invokevirtual 368, 3) := by decide +kernel
theorem dX10_requireRouteIndex_14 : decode cX10_requireRouteIndex 14 = .ok (.ifCond .ne 14, 3) := by decide +kernel
theorem dX10_requireRouteIndex_17 : decode cX10_requireRouteIndex 17 = .ok (.new 265, 3) := by decide +kernel
theorem dX10_requireRouteIndex_20 : decode cX10_requireRouteIndex 20 = .ok (.dup, 1) := by decide +kernel
theorem dX10_requireRouteIndex_21 : decode cX10_requireRouteIndex 21 = .ok (.ldc_w 371, 3) := by decide +kernel
theorem dX10_requireRouteIndex_24 : decode cX10_requireRouteIndex 24 = .ok (.invokespecial 269, 3) := by decide +kernel
theorem dX10_requireRouteIndex_27 : decode cX10_requireRouteIndex 27 = .ok (.athrow, 1) := by decide +kernel
theorem dX10_requireRouteIndex_28 : decode cX10_requireRouteIndex 28 = .ok (.return_, 1) := by decide +kernel
theorem dX10_isWithin_0 : decode cX10_isWithin 0 = .ok (.iload_n 0, 1) := by decide +kernel
theorem dX10_isWithin_1 : decode cX10_isWithin 1 = .ok (.iload_n 1, 1) := by decide +kernel
theorem dX10_isWithin_2 : decode cX10_isWithin 2 = .ok (.if_icmp .lt 12, 3) := by decide +kernel
theorem dX10_isWithin_5 : decode cX10_isWithin 5 = .ok (.iload_n 0, 1) := by decide +kernel
theorem dX10_isWithin_6 : decode cX10_isWithin 6 = .ok (.iload_n 2, 1) := by decide +kernel
theorem dX10_isWithin_7 : decode cX10_isWithin 7 = .ok (.if_icmp .gt 7, 3) := by decide +kernel
theorem dX10_isWithin_10 : decode cX10_isWithin 10 = .ok (.iconst 1, 1) := by decide +kernel
theorem dX10_isWithin_11 : decode cX10_isWithin 11 = .ok (.goto 4, 3) := by decide +kernel
theorem dX10_isWithin_14 : decode cX10_isWithin 14 = .ok (.iconst 0, 1) := by decide +kernel
theorem dX10_isWithin_15 : decode cX10_isWithin 15 = .ok (.ireturn, 1) := by decide +kernel
theorem dX10_areCoordinates_0 : decode cX10_areCoordinates 0 = .ok (.iload_n 0, 1) := by decide +kernel
theorem dX10_areCoordinates_1 : decode cX10_areCoordinates 1 = .ok (.iconst 0, 1) := by decide +kernel
theorem dX10_areCoordinates_2 : decode cX10_areCoordinates 2 = .ok (.bipush 99, 2) := by decide +kernel
theorem dX10_areCoordinates_4 : decode cX10_areCoordinates 4 = .ok (.invokestatic 373, 3) := by decide +kernel
theorem dX10_areCoordinates_7 : decode cX10_areCoordinates 7 = .ok (.ifCond .eq 17, 3) := by decide +kernel
theorem dX10_areCoordinates_10 : decode cX10_areCoordinates 10 = .ok (.iload_n 1, 1) := by decide +kernel
theorem dX10_areCoordinates_11 : decode cX10_areCoordinates 11 = .ok (.iconst 0, 1) := by decide +kernel
theorem dX10_areCoordinates_12 : decode cX10_areCoordinates 12 = .ok (.bipush 99, 2) := by decide +kernel
theorem dX10_areCoordinates_14 : decode cX10_areCoordinates 14 = .ok (.invokestatic 373, 3) := by decide +kernel
theorem dX10_areCoordinates_17 : decode cX10_areCoordinates 17 = .ok (.ifCond .eq 7, 3) := by decide +kernel
theorem dX10_areCoordinates_20 : decode cX10_areCoordinates 20 = .ok (.iconst 1, 1) := by decide +kernel
theorem dX10_areCoordinates_21 : decode cX10_areCoordinates 21 = .ok (.goto 4, 3) := by decide +kernel
theorem dX10_areCoordinates_24 : decode cX10_areCoordinates 24 = .ok (.iconst 0, 1) := by decide +kernel
theorem dX10_areCoordinates_25 : decode cX10_areCoordinates 25 = .ok (.ireturn, 1) := by decide +kernel
theorem dX11_init_0 : decode cX11_init 0 = .ok (.aload_n 0, 1) := by decide +kernel
theorem dX11_init_1 : decode cX11_init 1 = .ok (.invokespecial 3, 3) := by decide +kernel
theorem dX11_init_4 : decode cX11_init 4 = .ok (.aload_n 0, 1) := by decide +kernel
theorem dX11_init_5 : decode cX11_init 5 = .ok (.sipush 204, 3) := by decide +kernel
theorem dX11_init_8 : decode cX11_init 8 = .ok (.newarray .int, 2) := by decide +kernel
theorem dX11_init_10 : decode cX11_init 10 = .ok (.putfield 9, 3) := by decide +kernel
theorem dX11_init_13 : decode cX11_init 13 = .ok (.aload_n 0, 1) := by decide +kernel
theorem dX11_init_14 : decode cX11_init 14 = .ok (.sipush 204, 3) := by decide +kernel
theorem dX11_init_17 : decode cX11_init 17 = .ok (.newarray .int, 2) := by decide +kernel
theorem dX11_init_19 : decode cX11_init 19 = .ok (.putfield 13, 3) := by decide +kernel
theorem dX11_init_22 : decode cX11_init 22 = .ok (.aload_n 0, 1) := by decide +kernel
theorem dX11_init_23 : decode cX11_init 23 = .ok (.sipush 204, 3) := by decide +kernel
theorem dX11_init_26 : decode cX11_init 26 = .ok (.newarray .int, 2) := by decide +kernel
theorem dX11_init_28 : decode cX11_init 28 = .ok (.putfield 16, 3) := by decide +kernel
theorem dX11_init_31 : decode cX11_init 31 = .ok (.aload_n 0, 1) := by decide +kernel
theorem dX11_init_32 : decode cX11_init 32 = .ok (.sipush 1632, 3) := by decide +kernel
theorem dX11_init_35 : decode cX11_init 35 = .ok (.newarray .int, 2) := by decide +kernel
theorem dX11_init_37 : decode cX11_init 37 = .ok (.putfield 19, 3) := by decide +kernel
theorem dX11_init_40 : decode cX11_init 40 = .ok (.aload_n 0, 1) := by decide +kernel
theorem dX11_init_41 : decode cX11_init 41 = .ok (.bipush 12, 2) := by decide +kernel
theorem dX11_init_43 : decode cX11_init 43 = .ok (.newarray .int, 2) := by decide +kernel
theorem dX11_init_45 : decode cX11_init 45 = .ok (.putfield 22, 3) := by decide +kernel
theorem dX11_init_48 : decode cX11_init 48 = .ok (.aload_n 0, 1) := by decide +kernel
theorem dX11_init_49 : decode cX11_init 49 = .ok (.iconst (-1), 1) := by decide +kernel
theorem dX11_init_50 : decode cX11_init 50 = .ok (.putfield 25, 3) := by decide +kernel
theorem dX11_init_53 : decode cX11_init 53 = .ok (.aload_n 0, 1) := by decide +kernel
theorem dX11_init_54 : decode cX11_init 54 = .ok (.iconst (-1), 1) := by decide +kernel
theorem dX11_init_55 : decode cX11_init 55 = .ok (.putfield 29, 3) := by decide +kernel
theorem dX11_init_58 : decode cX11_init 58 = .ok (.aload_n 0, 1) := by decide +kernel
theorem dX11_init_59 : decode cX11_init 59 = .ok (.bipush 120, 2) := by decide +kernel
theorem dX11_init_61 : decode cX11_init 61 = .ok (.newarray .int, 2) := by decide +kernel
theorem dX11_init_63 : decode cX11_init 63 = .ok (.putfield 32, 3) := by decide +kernel
theorem dX11_init_66 : decode cX11_init 66 = .ok (.aload_n 0, 1) := by decide +kernel
theorem dX11_init_67 : decode cX11_init 67 = .ok (.bipush 60, 2) := by decide +kernel
theorem dX11_init_69 : decode cX11_init 69 = .ok (.newarray .int, 2) := by decide +kernel
theorem dX11_init_71 : decode cX11_init 71 = .ok (.putfield 35, 3) := by decide +kernel
theorem dX11_init_74 : decode cX11_init 74 = .ok (.aload_n 0, 1) := by decide +kernel
theorem dX11_init_75 : decode cX11_init 75 = .ok (.bipush 124, 2) := by decide +kernel
theorem dX11_init_77 : decode cX11_init 77 = .ok (.newarray .int, 2) := by decide +kernel
theorem dX11_init_79 : decode cX11_init 79 = .ok (.putfield 38, 3) := by decide +kernel
theorem dX11_init_82 : decode cX11_init 82 = .ok (.aload_n 0, 1) := by decide +kernel
theorem dX11_init_83 : decode cX11_init 83 = .ok (.getfield 9, 3) := by decide +kernel
theorem dX11_init_86 : decode cX11_init 86 = .ok (.bipush 6, 2) := by decide +kernel
theorem dX11_init_88 : decode cX11_init 88 = .ok (.sipush 1000, 3) := by decide +kernel
theorem dX11_init_91 : decode cX11_init 91 = .ok (.iastore, 1) := by decide +kernel
theorem dX11_init_92 : decode cX11_init 92 = .ok (.aload_n 0, 1) := by decide +kernel
theorem dX11_init_93 : decode cX11_init 93 = .ok (.getfield 9, 3) := by decide +kernel
theorem dX11_init_96 : decode cX11_init 96 = .ok (.bipush 7, 2) := by decide +kernel
theorem dX11_init_98 : decode cX11_init 98 = .ok (.iconst 1, 1) := by decide +kernel
theorem dX11_init_99 : decode cX11_init 99 = .ok (.iastore, 1) := by decide +kernel
theorem dX11_init_100 : decode cX11_init 100 = .ok (.aload_n 0, 1) := by decide +kernel
theorem dX11_init_101 : decode cX11_init 101 = .ok (.getfield 9, 3) := by decide +kernel
theorem dX11_init_104 : decode cX11_init 104 = .ok (.bipush 8, 2) := by decide +kernel
theorem dX11_init_106 : decode cX11_init 106 = .ok (.iconst 5, 1) := by decide +kernel
theorem dX11_init_107 : decode cX11_init 107 = .ok (.iastore, 1) := by decide +kernel
theorem dX11_init_108 : decode cX11_init 108 = .ok (.return_, 1) := by decide +kernel
theorem dX11_thrown_0 : decode cX11_thrown 0 = .ok (.aload_n 0, 1) := by decide +kernel
theorem dX11_thrown_1 : decode cX11_thrown 1 = .ok (.getfield 41, 3) := by decide +kernel
theorem dX11_thrown_4 : decode cX11_thrown 4 = .ok (.ireturn, 1) := by decide +kernel
theorem dX11_isIn_0 : decode cX11_isIn 0 = .ok (.iload_n 0, 1) := by decide +kernel
theorem dX11_isIn_1 : decode cX11_isIn 1 = .ok (.iload_n 1, 1) := by decide +kernel
theorem dX11_isIn_2 : decode cX11_isIn 2 = .ok (.if_icmp .lt 12, 3) := by decide +kernel
theorem dX11_isIn_5 : decode cX11_isIn 5 = .ok (.iload_n 0, 1) := by decide +kernel
theorem dX11_isIn_6 : decode cX11_isIn 6 = .ok (.iload_n 2, 1) := by decide +kernel
theorem dX11_isIn_7 : decode cX11_isIn 7 = .ok (.if_icmp .gt 7, 3) := by decide +kernel
theorem dX11_isIn_10 : decode cX11_isIn 10 = .ok (.iconst 1, 1) := by decide +kernel
theorem dX11_isIn_11 : decode cX11_isIn 11 = .ok (.goto 4, 3) := by decide +kernel
theorem dX11_isIn_14 : decode cX11_isIn 14 = .ok (.iconst 0, 1) := by decide +kernel
theorem dX11_isIn_15 : decode cX11_isIn 15 = .ok (.ireturn, 1) := by decide +kernel
theorem dX11_copies_0 : decode cX11_copies 0 = .ok (.iconst 0, 1) := by decide +kernel
theorem dX11_copies_1 : decode cX11_copies 1 = .ok (.istore 4, 2) := by decide +kernel
theorem dX11_copies_3 : decode cX11_copies 3 = .ok (.iload 4, 2) := by decide +kernel
theorem dX11_copies_5 : decode cX11_copies 5 = .ok (.sipush 204, 3) := by decide +kernel
theorem dX11_copies_8 : decode cX11_copies 8 = .ok (.if_icmp .ge 21, 3) := by decide +kernel
theorem dX11_copies_11 : decode cX11_copies 11 = .ok (.aload_n 2, 1) := by decide +kernel
theorem dX11_copies_12 : decode cX11_copies 12 = .ok (.iload_n 3, 1) := by decide +kernel
theorem dX11_copies_13 : decode cX11_copies 13 = .ok (.iload 4, 2) := by decide +kernel
theorem dX11_copies_15 : decode cX11_copies 15 = .ok (.iadd, 1) := by decide +kernel
theorem dX11_copies_16 : decode cX11_copies 16 = .ok (.aload_n 0, 1) := by decide +kernel
theorem dX11_copies_17 : decode cX11_copies 17 = .ok (.iload_n 1, 1) := by decide +kernel
theorem dX11_copies_18 : decode cX11_copies 18 = .ok (.iload 4, 2) := by decide +kernel
theorem dX11_copies_20 : decode cX11_copies 20 = .ok (.iadd, 1) := by decide +kernel
theorem dX11_copies_21 : decode cX11_copies 21 = .ok (.iaload, 1) := by decide +kernel
theorem dX11_copies_22 : decode cX11_copies 22 = .ok (.iastore, 1) := by decide +kernel
theorem dX11_copies_23 : decode cX11_copies 23 = .ok (.iinc 4 1, 3) := by decide +kernel
theorem dX11_copies_26 : decode cX11_copies 26 = .ok (.goto (-23), 3) := by decide +kernel
theorem dX11_copies_29 : decode cX11_copies 29 = .ok (.return_, 1) := by decide +kernel
theorem dX11_keeps_0 : decode cX11_keeps 0 = .ok (.aload_n 0, 1) := by decide +kernel
theorem dX11_keeps_1 : decode cX11_keeps 1 = .ok (.getfield 9, 3) := by decide +kernel
theorem dX11_keeps_4 : decode cX11_keeps 4 = .ok (.iconst 0, 1) := by decide +kernel
theorem dX11_keeps_5 : decode cX11_keeps 5 = .ok (.aload_n 0, 1) := by decide +kernel
theorem dX11_keeps_6 : decode cX11_keeps 6 = .ok (.getfield 13, 3) := by decide +kernel
theorem dX11_keeps_9 : decode cX11_keeps 9 = .ok (.iconst 0, 1) := by decide +kernel
theorem dX11_keeps_10 : decode cX11_keeps 10 = .ok (.invokestatic 44, 3) := by decide +kernel
theorem dX11_keeps_13 : decode cX11_keeps 13 = .ok (.aload_n 0, 1) := by decide +kernel
theorem dX11_keeps_14 : decode cX11_keeps 14 = .ok (.iconst 0, 1) := by decide +kernel
theorem dX11_keeps_15 : decode cX11_keeps 15 = .ok (.putfield 41, 3) := by decide +kernel
theorem dX11_keeps_18 : decode cX11_keeps 18 = .ok (.return_, 1) := by decide +kernel
theorem dX11_ends_0 : decode cX11_ends 0 = .ok (.aload_n 0, 1) := by decide +kernel
theorem dX11_ends_1 : decode cX11_ends 1 = .ok (.getfield 41, 3) := by decide +kernel
theorem dX11_ends_4 : decode cX11_ends 4 = .ok (.ifCond .eq 5, 3) := by decide +kernel
theorem dX11_ends_7 : decode cX11_ends 7 = .ok (.iconst 0, 1) := by decide +kernel
theorem dX11_ends_8 : decode cX11_ends 8 = .ok (.ireturn, 1) := by decide +kernel
theorem dX11_ends_9 : decode cX11_ends 9 = .ok (.aload_n 0, 1) := by decide +kernel
theorem dX11_ends_10 : decode cX11_ends 10 = .ok (.getfield 48, 3) := by decide +kernel
theorem dX11_ends_13 : decode cX11_ends 13 = .ok (.bipush 8, 2) := by decide +kernel
theorem dX11_ends_15 : decode cX11_ends 15 = .ok (.if_icmp .ne 50, 3) := by decide +kernel
theorem dX11_ends_18 : decode cX11_ends 18 = .ok (.iconst 1, 1) := by decide +kernel
theorem dX11_ends_19 : decode cX11_ends 19 = .ok (.istore_n 2, 1) := by decide +kernel
theorem dX11_ends_20 : decode cX11_ends 20 = .ok (.iload_n 2, 1) := by decide +kernel
theorem dX11_ends_21 : decode cX11_ends 21 = .ok (.bipush 8, 2) := by decide +kernel
theorem dX11_ends_23 : decode cX11_ends 23 = .ok (.if_icmp .ge 32, 3) := by decide +kernel
theorem dX11_ends_26 : decode cX11_ends 26 = .ok (.aload_n 0, 1) := by decide +kernel
theorem dX11_ends_27 : decode cX11_ends 27 = .ok (.getfield 19, 3) := by decide +kernel
theorem dX11_ends_30 : decode cX11_ends 30 = .ok (.sipush 204, 3) := by decide +kernel
theorem dX11_ends_33 : decode cX11_ends 33 = .ok (.iload_n 2, 1) := by decide +kernel
theorem dX11_ends_34 : decode cX11_ends 34 = .ok (.imul, 1) := by decide +kernel
theorem dX11_ends_35 : decode cX11_ends 35 = .ok (.aload_n 0, 1) := by decide +kernel
theorem dX11_ends_36 : decode cX11_ends 36 = .ok (.getfield 19, 3) := by decide +kernel
theorem dX11_ends_39 : decode cX11_ends 39 = .ok (.sipush 204, 3) := by decide +kernel
theorem dX11_ends_42 : decode cX11_ends 42 = .ok (.iload_n 2, 1) := by decide +kernel
theorem dX11_ends_43 : decode cX11_ends 43 = .ok (.iconst 1, 1) := by decide +kernel
theorem dX11_ends_44 : decode cX11_ends 44 = .ok (.isub, 1) := by decide +kernel
theorem dX11_ends_45 : decode cX11_ends 45 = .ok (.imul, 1) := by decide +kernel
theorem dX11_ends_46 : decode cX11_ends 46 = .ok (.invokestatic 44, 3) := by decide +kernel
theorem dX11_ends_49 : decode cX11_ends 49 = .ok (.iinc 2 1, 3) := by decide +kernel
theorem dX11_ends_52 : decode cX11_ends 52 = .ok (.goto (-32), 3) := by decide +kernel
theorem dX11_ends_55 : decode cX11_ends 55 = .ok (.aload_n 0, 1) := by decide +kernel
theorem dX11_ends_56 : decode cX11_ends 56 = .ok (.dup, 1) := by decide +kernel
theorem dX11_ends_57 : decode cX11_ends 57 = .ok (.getfield 48, 3) := by decide +kernel
theorem dX11_ends_60 : decode cX11_ends 60 = .ok (.iconst 1, 1) := by decide +kernel
theorem dX11_ends_61 : decode cX11_ends 61 = .ok (.isub, 1) := by decide +kernel
theorem dX11_ends_62 : decode cX11_ends 62 = .ok (.putfield 48, 3) := by decide +kernel
theorem dX11_ends_65 : decode cX11_ends 65 = .ok (.aload_n 0, 1) := by decide +kernel
theorem dX11_ends_66 : decode cX11_ends 66 = .ok (.getfield 13, 3) := by decide +kernel
theorem dX11_ends_69 : decode cX11_ends 69 = .ok (.iconst 0, 1) := by decide +kernel
theorem dX11_ends_70 : decode cX11_ends 70 = .ok (.aload_n 0, 1) := by decide +kernel
theorem dX11_ends_71 : decode cX11_ends 71 = .ok (.getfield 19, 3) := by decide +kernel
theorem dX11_ends_74 : decode cX11_ends 74 = .ok (.sipush 204, 3) := by decide +kernel
theorem dX11_ends_77 : decode cX11_ends 77 = .ok (.aload_n 0, 1) := by decide +kernel
theorem dX11_ends_78 : decode cX11_ends 78 = .ok (.getfield 48, 3) := by decide +kernel
theorem dX11_ends_81 : decode cX11_ends 81 = .ok (.imul, 1) := by decide +kernel
theorem dX11_ends_82 : decode cX11_ends 82 = .ok (.invokestatic 44, 3) := by decide +kernel
theorem dX11_ends_85 : decode cX11_ends 85 = .ok (.aload_n 0, 1) := by decide +kernel
theorem dX11_ends_86 : decode cX11_ends 86 = .ok (.dup, 1) := by decide +kernel
theorem dX11_ends_87 : decode cX11_ends 87 = .ok (.getfield 48, 3) := by decide +kernel
theorem dX11_ends_90 : decode cX11_ends 90 = .ok (.iconst 1, 1) := by decide +kernel
theorem dX11_ends_91 : decode cX11_ends 91 = .ok (.iadd, 1) := by decide +kernel
theorem dX11_ends_92 : decode cX11_ends 92 = .ok (.putfield 48, 3) := by decide +kernel
theorem dX11_ends_95 : decode cX11_ends 95 = .ok (.iload_n 1, 1) := by decide +kernel
theorem dX11_ends_96 : decode cX11_ends 96 = .ok (.ireturn, 1) := by decide +kernel
theorem dX11_isThrown_0 : decode cX11_isThrown 0 = .ok (.aload_n 0, 1) := by decide +kernel
theorem dX11_isThrown_1 : decode cX11_isThrown 1 = .ok (.iload_n 1, 1) := by decide +kernel
theorem dX11_isThrown_2 : decode cX11_isThrown 2 = .ok (.ifCond .eq 7, 3) := by decide +kernel
theorem dX11_isThrown_5 : decode cX11_isThrown 5 = .ok (.iload_n 2, 1) := by decide +kernel
theorem dX11_isThrown_6 : decode cX11_isThrown 6 = .ok (.goto 4, 3) := by decide +kernel
theorem dX11_isThrown_9 : decode cX11_isThrown 9 = .ok (.iconst 0, 1) := by decide +kernel
theorem dX11_isThrown_10 : decode cX11_isThrown 10 = .ok (.putfield 41, 3) := by decide +kernel
theorem dX11_isThrown_13 : decode cX11_isThrown 13 = .ok (.iload_n 1, 1) := by decide +kernel
theorem dX11_isThrown_14 : decode cX11_isThrown 14 = .ok (.ireturn, 1) := by decide +kernel
theorem dX11_of_0 : decode cX11_of 0 = .ok (.aload_n 0, 1) := by decide +kernel
theorem dX11_of_1 : decode cX11_of 1 = .ok (.getfield 9, 3) := by decide +kernel
theorem dX11_of_4 : decode cX11_of 4 = .ok (.bipush 12, 2) := by decide +kernel
theorem dX11_of_6 : decode cX11_of 6 = .ok (.iconst 3, 1) := by decide +kernel
theorem dX11_of_7 : decode cX11_of 7 = .ok (.iload_n 1, 1) := by decide +kernel
theorem dX11_of_8 : decode cX11_of 8 = .ok (.imul, 1) := by decide +kernel
theorem dX11_of_9 : decode cX11_of 9 = .ok (.iadd, 1) := by decide +kernel
theorem dX11_of_10 : decode cX11_of 10 = .ok (.iload_n 2, 1) := by decide +kernel
theorem dX11_of_11 : decode cX11_of 11 = .ok (.iadd, 1) := by decide +kernel
theorem dX11_of_12 : decode cX11_of 12 = .ok (.iaload, 1) := by decide +kernel
theorem dX11_of_13 : decode cX11_of 13 = .ok (.ireturn, 1) := by decide +kernel
theorem dX11_isPoint_0 : decode cX11_isPoint 0 = .ok (.iload_n 1, 1) := by decide +kernel
theorem dX11_isPoint_1 : decode cX11_isPoint 1 = .ok (.iconst 0, 1) := by decide +kernel
theorem dX11_isPoint_2 : decode cX11_isPoint 2 = .ok (.aload_n 0, 1) := by decide +kernel
theorem dX11_isPoint_3 : decode cX11_isPoint 3 = .ok (.getfield 9, 3) := by decide +kernel
theorem dX11_isPoint_6 : decode cX11_isPoint 6 = .ok (.iconst 0, 1) := by decide +kernel
theorem dX11_isPoint_7 : decode cX11_isPoint 7 = .ok (.iaload, 1) := by decide +kernel
theorem dX11_isPoint_8 : decode cX11_isPoint 8 = .ok (.iconst 1, 1) := by decide +kernel
theorem dX11_isPoint_9 : decode cX11_isPoint 9 = .ok (.isub, 1) := by decide +kernel
theorem dX11_isPoint_10 : decode cX11_isPoint 10 = .ok (.invokestatic 51, 3) := by decide +kernel
theorem dX11_isPoint_13 : decode cX11_isPoint 13 = .ok (.ireturn, 1) := by decide +kernel
theorem dX11_isPlace_0 : decode cX11_isPlace 0 = .ok (.iload_n 0, 1) := by decide +kernel
theorem dX11_isPlace_1 : decode cX11_isPlace 1 = .ok (.iconst 0, 1) := by decide +kernel
theorem dX11_isPlace_2 : decode cX11_isPlace 2 = .ok (.bipush 99, 2) := by decide +kernel
theorem dX11_isPlace_4 : decode cX11_isPlace 4 = .ok (.invokestatic 51, 3) := by decide +kernel
theorem dX11_isPlace_7 : decode cX11_isPlace 7 = .ok (.ifCond .eq 17, 3) := by decide +kernel
theorem dX11_isPlace_10 : decode cX11_isPlace 10 = .ok (.iload_n 1, 1) := by decide +kernel
theorem dX11_isPlace_11 : decode cX11_isPlace 11 = .ok (.iconst 0, 1) := by decide +kernel
theorem dX11_isPlace_12 : decode cX11_isPlace 12 = .ok (.bipush 99, 2) := by decide +kernel
theorem dX11_isPlace_14 : decode cX11_isPlace 14 = .ok (.invokestatic 51, 3) := by decide +kernel
theorem dX11_isPlace_17 : decode cX11_isPlace 17 = .ok (.ifCond .eq 7, 3) := by decide +kernel
theorem dX11_isPlace_20 : decode cX11_isPlace 20 = .ok (.iconst 1, 1) := by decide +kernel
theorem dX11_isPlace_21 : decode cX11_isPlace 21 = .ok (.goto 4, 3) := by decide +kernel
theorem dX11_isPlace_24 : decode cX11_isPlace 24 = .ok (.iconst 0, 1) := by decide +kernel
theorem dX11_isPlace_25 : decode cX11_isPlace 25 = .ok (.ireturn, 1) := by decide +kernel
theorem dX11_trail_0 : decode cX11_trail 0 = .ok (.aload_n 0, 1) := by decide +kernel
theorem dX11_trail_1 : decode cX11_trail 1 = .ok (.getfield 9, 3) := by decide +kernel
theorem dX11_trail_4 : decode cX11_trail 4 = .ok (.bipush 48, 2) := by decide +kernel
theorem dX11_trail_6 : decode cX11_trail 6 = .ok (.bipush 12, 2) := by decide +kernel
theorem dX11_trail_8 : decode cX11_trail 8 = .ok (.iload_n 1, 1) := by decide +kernel
theorem dX11_trail_9 : decode cX11_trail 9 = .ok (.imul, 1) := by decide +kernel
theorem dX11_trail_10 : decode cX11_trail 10 = .ok (.iadd, 1) := by decide +kernel
theorem dX11_trail_11 : decode cX11_trail 11 = .ok (.iload_n 2, 1) := by decide +kernel
theorem dX11_trail_12 : decode cX11_trail 12 = .ok (.iadd, 1) := by decide +kernel
theorem dX11_trail_13 : decode cX11_trail 13 = .ok (.iaload, 1) := by decide +kernel
theorem dX11_trail_14 : decode cX11_trail 14 = .ok (.ireturn, 1) := by decide +kernel
theorem dX11_setsTrail_0 : decode cX11_setsTrail 0 = .ok (.aload_n 0, 1) := by decide +kernel
theorem dX11_setsTrail_1 : decode cX11_setsTrail 1 = .ok (.getfield 9, 3) := by decide +kernel
theorem dX11_setsTrail_4 : decode cX11_setsTrail 4 = .ok (.bipush 48, 2) := by decide +kernel
theorem dX11_setsTrail_6 : decode cX11_setsTrail 6 = .ok (.bipush 12, 2) := by decide +kernel
theorem dX11_setsTrail_8 : decode cX11_setsTrail 8 = .ok (.iload_n 1, 1) := by decide +kernel
theorem dX11_setsTrail_9 : decode cX11_setsTrail 9 = .ok (.imul, 1) := by decide +kernel
theorem dX11_setsTrail_10 : decode cX11_setsTrail 10 = .ok (.iadd, 1) := by decide +kernel
theorem dX11_setsTrail_11 : decode cX11_setsTrail 11 = .ok (.iload_n 2, 1) := by decide +kernel
theorem dX11_setsTrail_12 : decode cX11_setsTrail 12 = .ok (.iadd, 1) := by decide +kernel
theorem dX11_setsTrail_13 : decode cX11_setsTrail 13 = .ok (.iload_n 3, 1) := by decide +kernel
theorem dX11_setsTrail_14 : decode cX11_setsTrail 14 = .ok (.iastore, 1) := by decide +kernel
theorem dX11_setsTrail_15 : decode cX11_setsTrail 15 = .ok (.aload_n 0, 1) := by decide +kernel
theorem dX11_setsTrail_16 : decode cX11_setsTrail 16 = .ok (.getfield 9, 3) := by decide +kernel
theorem dX11_setsTrail_19 : decode cX11_setsTrail 19 = .ok (.bipush 48, 2) := by decide +kernel
theorem dX11_setsTrail_21 : decode cX11_setsTrail 21 = .ok (.bipush 12, 2) := by decide +kernel
theorem dX11_setsTrail_23 : decode cX11_setsTrail 23 = .ok (.iload_n 2, 1) := by decide +kernel
theorem dX11_setsTrail_24 : decode cX11_setsTrail 24 = .ok (.imul, 1) := by decide +kernel
theorem dX11_setsTrail_25 : decode cX11_setsTrail 25 = .ok (.iadd, 1) := by decide +kernel
theorem dX11_setsTrail_26 : decode cX11_setsTrail 26 = .ok (.iload_n 1, 1) := by decide +kernel
theorem dX11_setsTrail_27 : decode cX11_setsTrail 27 = .ok (.iadd, 1) := by decide +kernel
theorem dX11_setsTrail_28 : decode cX11_setsTrail 28 = .ok (.iload_n 3, 1) := by decide +kernel
theorem dX11_setsTrail_29 : decode cX11_setsTrail 29 = .ok (.iastore, 1) := by decide +kernel
theorem dX11_setsTrail_30 : decode cX11_setsTrail 30 = .ok (.return_, 1) := by decide +kernel
theorem dX11_manyTrails_0 : decode cX11_manyTrails 0 = .ok (.iconst 0, 1) := by decide +kernel
theorem dX11_manyTrails_1 : decode cX11_manyTrails 1 = .ok (.istore_n 1, 1) := by decide +kernel
theorem dX11_manyTrails_2 : decode cX11_manyTrails 2 = .ok (.iconst 0, 1) := by decide +kernel
theorem dX11_manyTrails_3 : decode cX11_manyTrails 3 = .ok (.istore_n 2, 1) := by decide +kernel
theorem dX11_manyTrails_4 : decode cX11_manyTrails 4 = .ok (.iload_n 2, 1) := by decide +kernel
theorem dX11_manyTrails_5 : decode cX11_manyTrails 5 = .ok (.bipush 12, 2) := by decide +kernel
theorem dX11_manyTrails_7 : decode cX11_manyTrails 7 = .ok (.if_icmp .ge 39, 3) := by decide +kernel
theorem dX11_manyTrails_10 : decode cX11_manyTrails 10 = .ok (.iconst 0, 1) := by decide +kernel
theorem dX11_manyTrails_11 : decode cX11_manyTrails 11 = .ok (.istore_n 3, 1) := by decide +kernel
theorem dX11_manyTrails_12 : decode cX11_manyTrails 12 = .ok (.iload_n 3, 1) := by decide +kernel
theorem dX11_manyTrails_13 : decode cX11_manyTrails 13 = .ok (.iload_n 2, 1) := by decide +kernel
theorem dX11_manyTrails_14 : decode cX11_manyTrails 14 = .ok (.if_icmp .ge 26, 3) := by decide +kernel
theorem dX11_manyTrails_17 : decode cX11_manyTrails 17 = .ok (.iload_n 1, 1) := by decide +kernel
theorem dX11_manyTrails_18 : decode cX11_manyTrails 18 = .ok (.aload_n 0, 1) := by decide +kernel
theorem dX11_manyTrails_19 : decode cX11_manyTrails 19 = .ok (.iload_n 2, 1) := by decide +kernel
theorem dX11_manyTrails_20 : decode cX11_manyTrails 20 = .ok (.iload_n 3, 1) := by decide +kernel
theorem dX11_manyTrails_21 : decode cX11_manyTrails 21 = .ok (.invokevirtual 55, 3) := by decide +kernel
theorem dX11_manyTrails_24 : decode cX11_manyTrails 24 = .ok (.ifCond .le 7, 3) := by decide +kernel
theorem dX11_manyTrails_27 : decode cX11_manyTrails 27 = .ok (.iconst 1, 1) := by decide +kernel
theorem dX11_manyTrails_28 : decode cX11_manyTrails 28 = .ok (.goto 4, 3) := by decide +kernel
theorem dX11_manyTrails_31 : decode cX11_manyTrails 31 = .ok (.iconst 0, 1) := by decide +kernel
theorem dX11_manyTrails_32 : decode cX11_manyTrails 32 = .ok (.iadd, 1) := by decide +kernel
theorem dX11_manyTrails_33 : decode cX11_manyTrails 33 = .ok (.istore_n 1, 1) := by decide +kernel
theorem dX11_manyTrails_34 : decode cX11_manyTrails 34 = .ok (.iinc 3 1, 3) := by decide +kernel
theorem dX11_manyTrails_37 : decode cX11_manyTrails 37 = .ok (.goto (-25), 3) := by decide +kernel
theorem dX11_manyTrails_40 : decode cX11_manyTrails 40 = .ok (.iinc 2 1, 3) := by decide +kernel
theorem dX11_manyTrails_43 : decode cX11_manyTrails 43 = .ok (.goto (-39), 3) := by decide +kernel
theorem dX11_manyTrails_46 : decode cX11_manyTrails 46 = .ok (.iload_n 1, 1) := by decide +kernel
theorem dX11_manyTrails_47 : decode cX11_manyTrails 47 = .ok (.ireturn, 1) := by decide +kernel
theorem dX11_points_0 : decode cX11_points 0 = .ok (.aload_n 0, 1) := by decide +kernel
theorem dX11_points_1 : decode cX11_points 1 = .ok (.iload_n 1, 1) := by decide +kernel
theorem dX11_points_2 : decode cX11_points 2 = .ok (.iload_n 2, 1) := by decide +kernel
theorem dX11_points_3 : decode cX11_points 3 = .ok (.invokestatic 59, 3) := by decide +kernel
theorem dX11_points_6 : decode cX11_points 6 = .ok (.ifCond .eq 13, 3) := by decide +kernel
theorem dX11_points_9 : decode cX11_points 9 = .ok (.iload_n 3, 1) := by decide +kernel
theorem dX11_points_10 : decode cX11_points 10 = .ok (.iconst 1, 1) := by decide +kernel
theorem dX11_points_11 : decode cX11_points 11 = .ok (.bipush 9, 2) := by decide +kernel
theorem dX11_points_13 : decode cX11_points 13 = .ok (.invokestatic 51, 3) := by decide +kernel
theorem dX11_points_16 : decode cX11_points 16 = .ok (.ifCond .ne 7, 3) := by decide +kernel
theorem dX11_points_19 : decode cX11_points 19 = .ok (.iconst 1, 1) := by decide +kernel
theorem dX11_points_20 : decode cX11_points 20 = .ok (.goto 4, 3) := by decide +kernel
theorem dX11_points_23 : decode cX11_points 23 = .ok (.iconst 0, 1) := by decide +kernel
theorem dX11_points_24 : decode cX11_points 24 = .ok (.iconst 1, 1) := by decide +kernel
theorem dX11_points_25 : decode cX11_points 25 = .ok (.invokevirtual 63, 3) := by decide +kernel
theorem dX11_points_28 : decode cX11_points 28 = .ok (.ifCond .ne 27, 3) := by decide +kernel
theorem dX11_points_31 : decode cX11_points 31 = .ok (.aload_n 0, 1) := by decide +kernel
theorem dX11_points_32 : decode cX11_points 32 = .ok (.aload_n 0, 1) := by decide +kernel
theorem dX11_points_33 : decode cX11_points 33 = .ok (.getfield 9, 3) := by decide +kernel
theorem dX11_points_36 : decode cX11_points 36 = .ok (.iconst 0, 1) := by decide +kernel
theorem dX11_points_37 : decode cX11_points 37 = .ok (.iaload, 1) := by decide +kernel
theorem dX11_points_38 : decode cX11_points 38 = .ok (.bipush 12, 2) := by decide +kernel
theorem dX11_points_40 : decode cX11_points 40 = .ok (.if_icmp .ne 7, 3) := by decide +kernel
theorem dX11_points_43 : decode cX11_points 43 = .ok (.iconst 1, 1) := by decide +kernel
theorem dX11_points_44 : decode cX11_points 44 = .ok (.goto 4, 3) := by decide +kernel
theorem dX11_points_47 : decode cX11_points 47 = .ok (.iconst 0, 1) := by decide +kernel
theorem dX11_points_48 : decode cX11_points 48 = .ok (.iconst 2, 1) := by decide +kernel
theorem dX11_points_49 : decode cX11_points 49 = .ok (.invokevirtual 63, 3) := by decide +kernel
theorem dX11_points_52 : decode cX11_points 52 = .ok (.ifCond .eq 5, 3) := by decide +kernel
theorem dX11_points_55 : decode cX11_points 55 = .ok (.iconst 0, 1) := by decide +kernel
theorem dX11_points_56 : decode cX11_points 56 = .ok (.ireturn, 1) := by decide +kernel
theorem dX11_points_57 : decode cX11_points 57 = .ok (.bipush 12, 2) := by decide +kernel
theorem dX11_points_59 : decode cX11_points 59 = .ok (.iconst 3, 1) := by decide +kernel
theorem dX11_points_60 : decode cX11_points 60 = .ok (.aload_n 0, 1) := by decide +kernel
theorem dX11_points_61 : decode cX11_points 61 = .ok (.getfield 9, 3) := by decide +kernel
theorem dX11_points_64 : decode cX11_points 64 = .ok (.iconst 0, 1) := by decide +kernel
theorem dX11_points_65 : decode cX11_points 65 = .ok (.iaload, 1) := by decide +kernel
theorem dX11_points_66 : decode cX11_points 66 = .ok (.imul, 1) := by decide +kernel
theorem dX11_points_67 : decode cX11_points 67 = .ok (.iadd, 1) := by decide +kernel
theorem dX11_points_68 : decode cX11_points 68 = .ok (.istore 4, 2) := by decide +kernel
theorem dX11_points_70 : decode cX11_points 70 = .ok (.aload_n 0, 1) := by decide +kernel
theorem dX11_points_71 : decode cX11_points 71 = .ok (.getfield 9, 3) := by decide +kernel
theorem dX11_points_74 : decode cX11_points 74 = .ok (.iload 4, 2) := by decide +kernel
theorem dX11_points_76 : decode cX11_points 76 = .ok (.iconst 0, 1) := by decide +kernel
theorem dX11_points_77 : decode cX11_points 77 = .ok (.iadd, 1) := by decide +kernel
theorem dX11_points_78 : decode cX11_points 78 = .ok (.iload_n 1, 1) := by decide +kernel
theorem dX11_points_79 : decode cX11_points 79 = .ok (.iastore, 1) := by decide +kernel
theorem dX11_points_80 : decode cX11_points 80 = .ok (.aload_n 0, 1) := by decide +kernel
theorem dX11_points_81 : decode cX11_points 81 = .ok (.getfield 9, 3) := by decide +kernel
theorem dX11_points_84 : decode cX11_points 84 = .ok (.iload 4, 2) := by decide +kernel
theorem dX11_points_86 : decode cX11_points 86 = .ok (.iconst 1, 1) := by decide +kernel
theorem dX11_points_87 : decode cX11_points 87 = .ok (.iadd, 1) := by decide +kernel
theorem dX11_points_88 : decode cX11_points 88 = .ok (.iload_n 2, 1) := by decide +kernel
theorem dX11_points_89 : decode cX11_points 89 = .ok (.iastore, 1) := by decide +kernel
theorem dX11_points_90 : decode cX11_points 90 = .ok (.aload_n 0, 1) := by decide +kernel
theorem dX11_points_91 : decode cX11_points 91 = .ok (.getfield 9, 3) := by decide +kernel
theorem dX11_points_94 : decode cX11_points 94 = .ok (.iload 4, 2) := by decide +kernel
theorem dX11_points_96 : decode cX11_points 96 = .ok (.iconst 2, 1) := by decide +kernel
theorem dX11_points_97 : decode cX11_points 97 = .ok (.iadd, 1) := by decide +kernel
theorem dX11_points_98 : decode cX11_points 98 = .ok (.iload_n 3, 1) := by decide +kernel
theorem dX11_points_99 : decode cX11_points 99 = .ok (.iastore, 1) := by decide +kernel
theorem dX11_points_100 : decode cX11_points 100 = .ok (.aload_n 0, 1) := by decide +kernel
theorem dX11_points_101 : decode cX11_points 101 = .ok (.getfield 9, 3) := by decide +kernel
theorem dX11_points_104 : decode cX11_points 104 = .ok (.iconst 0, 1) := by decide +kernel
theorem dX11_points_105 : decode cX11_points 105 = .ok (.dup2, 1) := by decide +kernel
theorem dX11_points_106 : decode cX11_points 106 = .ok (.iaload, 1) := by decide +kernel
theorem dX11_points_107 : decode cX11_points 107 = .ok (.iconst 1, 1) := by decide +kernel
theorem dX11_points_108 : decode cX11_points 108 = .ok (.iadd, 1) := by decide +kernel
theorem dX11_points_109 : decode cX11_points 109 = .ok (.iastore, 1) := by decide +kernel
theorem dX11_points_110 : decode cX11_points 110 = .ok (.aload_n 0, 1) := by decide +kernel
theorem dX11_points_111 : decode cX11_points 111 = .ok (.getfield 9, 3) := by decide +kernel
theorem dX11_points_114 : decode cX11_points 114 = .ok (.iconst 0, 1) := by decide +kernel
theorem dX11_points_115 : decode cX11_points 115 = .ok (.iaload, 1) := by decide +kernel
theorem dX11_points_116 : decode cX11_points 116 = .ok (.iconst 1, 1) := by decide +kernel
theorem dX11_points_117 : decode cX11_points 117 = .ok (.isub, 1) := by decide +kernel
theorem dX11_points_118 : decode cX11_points 118 = .ok (.ireturn, 1) := by decide +kernel
theorem dX11_addWaypoint_0 : decode cX11_addWaypoint 0 = .ok (.aload_n 0, 1) := by decide +kernel
theorem dX11_addWaypoint_1 : decode cX11_addWaypoint 1 = .ok (.invokevirtual 67, 3) := by decide +kernel
theorem dX11_addWaypoint_4 : decode cX11_addWaypoint 4 = .ok (.aload_n 0, 1) := by decide +kernel
theorem dX11_addWaypoint_5 : decode cX11_addWaypoint 5 = .ok (.aload_n 0, 1) := by decide +kernel
theorem dX11_addWaypoint_6 : decode cX11_addWaypoint 6 = .ok (.iload_n 1, 1) := by decide +kernel
theorem dX11_addWaypoint_7 : decode cX11_addWaypoint 7 = .ok (.iload_n 2, 1) := by decide +kernel
theorem dX11_addWaypoint_8 : decode cX11_addWaypoint 8 = .ok (.iload_n 3, 1) := by decide +kernel
theorem dX11_addWaypoint_9 : decode cX11_addWaypoint 9 = .ok (.invokevirtual 70, 3) := by decide +kernel
theorem dX11_addWaypoint_12 : decode cX11_addWaypoint 12 = .ok (.invokevirtual 74, 3) := by decide +kernel
theorem dX11_addWaypoint_15 : decode cX11_addWaypoint 15 = .ok (.ireturn, 1) := by decide +kernel
theorem dX11_joins_0 : decode cX11_joins 0 = .ok (.aload_n 0, 1) := by decide +kernel
theorem dX11_joins_1 : decode cX11_joins 1 = .ok (.aload_n 0, 1) := by decide +kernel
theorem dX11_joins_2 : decode cX11_joins 2 = .ok (.iload_n 1, 1) := by decide +kernel
theorem dX11_joins_3 : decode cX11_joins 3 = .ok (.invokevirtual 78, 3) := by decide +kernel
theorem dX11_joins_6 : decode cX11_joins 6 = .ok (.ifCond .eq 11, 3) := by decide +kernel
theorem dX11_joins_9 : decode cX11_joins 9 = .ok (.aload_n 0, 1) := by decide +kernel
theorem dX11_joins_10 : decode cX11_joins 10 = .ok (.iload_n 2, 1) := by decide +kernel
theorem dX11_joins_11 : decode cX11_joins 11 = .ok (.invokevirtual 78, 3) := by decide +kernel
theorem dX11_joins_14 : decode cX11_joins 14 = .ok (.ifCond .ne 7, 3) := by decide +kernel
theorem dX11_joins_17 : decode cX11_joins 17 = .ok (.iconst 1, 1) := by decide +kernel
theorem dX11_joins_18 : decode cX11_joins 18 = .ok (.goto 4, 3) := by decide +kernel
theorem dX11_joins_21 : decode cX11_joins 21 = .ok (.iconst 0, 1) := by decide +kernel
theorem dX11_joins_22 : decode cX11_joins 22 = .ok (.iconst 1, 1) := by decide +kernel
theorem dX11_joins_23 : decode cX11_joins 23 = .ok (.invokevirtual 63, 3) := by decide +kernel
theorem dX11_joins_26 : decode cX11_joins 26 = .ok (.ifCond .ne 53, 3) := by decide +kernel
theorem dX11_joins_29 : decode cX11_joins 29 = .ok (.aload_n 0, 1) := by decide +kernel
theorem dX11_joins_30 : decode cX11_joins 30 = .ok (.iload_n 1, 1) := by decide +kernel
theorem dX11_joins_31 : decode cX11_joins 31 = .ok (.iload_n 2, 1) := by decide +kernel
theorem dX11_joins_32 : decode cX11_joins 32 = .ok (.if_icmp .eq 13, 3) := by decide +kernel
theorem dX11_joins_35 : decode cX11_joins 35 = .ok (.iload_n 3, 1) := by decide +kernel
theorem dX11_joins_36 : decode cX11_joins 36 = .ok (.iconst 1, 1) := by decide +kernel
theorem dX11_joins_37 : decode cX11_joins 37 = .ok (.bipush 99, 2) := by decide +kernel
theorem dX11_joins_39 : decode cX11_joins 39 = .ok (.invokestatic 51, 3) := by decide +kernel
theorem dX11_joins_42 : decode cX11_joins 42 = .ok (.ifCond .ne 7, 3) := by decide +kernel
theorem dX11_joins_45 : decode cX11_joins 45 = .ok (.iconst 1, 1) := by decide +kernel
theorem dX11_joins_46 : decode cX11_joins 46 = .ok (.goto 4, 3) := by decide +kernel
theorem dX11_joins_49 : decode cX11_joins 49 = .ok (.iconst 0, 1) := by decide +kernel
theorem dX11_joins_50 : decode cX11_joins 50 = .ok (.iconst 2, 1) := by decide +kernel
theorem dX11_joins_51 : decode cX11_joins 51 = .ok (.invokevirtual 63, 3) := by decide +kernel
theorem dX11_joins_54 : decode cX11_joins 54 = .ok (.ifCond .ne 25, 3) := by decide +kernel
theorem dX11_joins_57 : decode cX11_joins 57 = .ok (.aload_n 0, 1) := by decide +kernel
theorem dX11_joins_58 : decode cX11_joins 58 = .ok (.aload_n 0, 1) := by decide +kernel
theorem dX11_joins_59 : decode cX11_joins 59 = .ok (.iload_n 1, 1) := by decide +kernel
theorem dX11_joins_60 : decode cX11_joins 60 = .ok (.iload_n 2, 1) := by decide +kernel
theorem dX11_joins_61 : decode cX11_joins 61 = .ok (.invokevirtual 55, 3) := by decide +kernel
theorem dX11_joins_64 : decode cX11_joins 64 = .ok (.ifCond .le 7, 3) := by decide +kernel
theorem dX11_joins_67 : decode cX11_joins 67 = .ok (.iconst 1, 1) := by decide +kernel
theorem dX11_joins_68 : decode cX11_joins 68 = .ok (.goto 4, 3) := by decide +kernel
theorem dX11_joins_71 : decode cX11_joins 71 = .ok (.iconst 0, 1) := by decide +kernel
theorem dX11_joins_72 : decode cX11_joins 72 = .ok (.iconst 3, 1) := by decide +kernel
theorem dX11_joins_73 : decode cX11_joins 73 = .ok (.invokevirtual 63, 3) := by decide +kernel
theorem dX11_joins_76 : decode cX11_joins 76 = .ok (.ifCond .eq 5, 3) := by decide +kernel
theorem dX11_joins_79 : decode cX11_joins 79 = .ok (.iconst 0, 1) := by decide +kernel
theorem dX11_joins_80 : decode cX11_joins 80 = .ok (.ireturn, 1) := by decide +kernel
theorem dX11_joins_81 : decode cX11_joins 81 = .ok (.aload_n 0, 1) := by decide +kernel
theorem dX11_joins_82 : decode cX11_joins 82 = .ok (.iload_n 1, 1) := by decide +kernel
theorem dX11_joins_83 : decode cX11_joins 83 = .ok (.iload_n 2, 1) := by decide +kernel
theorem dX11_joins_84 : decode cX11_joins 84 = .ok (.iload_n 3, 1) := by decide +kernel
theorem dX11_joins_85 : decode cX11_joins 85 = .ok (.invokevirtual 82, 3) := by decide +kernel
theorem dX11_joins_88 : decode cX11_joins 88 = .ok (.aload_n 0, 1) := by decide +kernel
theorem dX11_joins_89 : decode cX11_joins 89 = .ok (.invokevirtual 86, 3) := by decide +kernel
theorem dX11_joins_92 : decode cX11_joins 92 = .ok (.ireturn, 1) := by decide +kernel
theorem dX11_addTrail_0 : decode cX11_addTrail 0 = .ok (.aload_n 0, 1) := by decide +kernel
theorem dX11_addTrail_1 : decode cX11_addTrail 1 = .ok (.invokevirtual 67, 3) := by decide +kernel
theorem dX11_addTrail_4 : decode cX11_addTrail 4 = .ok (.aload_n 0, 1) := by decide +kernel
theorem dX11_addTrail_5 : decode cX11_addTrail 5 = .ok (.aload_n 0, 1) := by decide +kernel
theorem dX11_addTrail_6 : decode cX11_addTrail 6 = .ok (.iload_n 1, 1) := by decide +kernel
theorem dX11_addTrail_7 : decode cX11_addTrail 7 = .ok (.iload_n 2, 1) := by decide +kernel
theorem dX11_addTrail_8 : decode cX11_addTrail 8 = .ok (.iload_n 3, 1) := by decide +kernel
theorem dX11_addTrail_9 : decode cX11_addTrail 9 = .ok (.invokevirtual 90, 3) := by decide +kernel
theorem dX11_addTrail_12 : decode cX11_addTrail 12 = .ok (.invokevirtual 74, 3) := by decide +kernel
theorem dX11_addTrail_15 : decode cX11_addTrail 15 = .ok (.ireturn, 1) := by decide +kernel
theorem dX11_cuts_0 : decode cX11_cuts 0 = .ok (.aload_n 0, 1) := by decide +kernel
theorem dX11_cuts_1 : decode cX11_cuts 1 = .ok (.aload_n 0, 1) := by decide +kernel
theorem dX11_cuts_2 : decode cX11_cuts 2 = .ok (.iload_n 1, 1) := by decide +kernel
theorem dX11_cuts_3 : decode cX11_cuts 3 = .ok (.invokevirtual 78, 3) := by decide +kernel
theorem dX11_cuts_6 : decode cX11_cuts 6 = .ok (.ifCond .eq 11, 3) := by decide +kernel
theorem dX11_cuts_9 : decode cX11_cuts 9 = .ok (.aload_n 0, 1) := by decide +kernel
theorem dX11_cuts_10 : decode cX11_cuts 10 = .ok (.iload_n 2, 1) := by decide +kernel
theorem dX11_cuts_11 : decode cX11_cuts 11 = .ok (.invokevirtual 78, 3) := by decide +kernel
theorem dX11_cuts_14 : decode cX11_cuts 14 = .ok (.ifCond .ne 7, 3) := by decide +kernel
theorem dX11_cuts_17 : decode cX11_cuts 17 = .ok (.iconst 1, 1) := by decide +kernel
theorem dX11_cuts_18 : decode cX11_cuts 18 = .ok (.goto 4, 3) := by decide +kernel
theorem dX11_cuts_21 : decode cX11_cuts 21 = .ok (.iconst 0, 1) := by decide +kernel
theorem dX11_cuts_22 : decode cX11_cuts 22 = .ok (.iconst 1, 1) := by decide +kernel
theorem dX11_cuts_23 : decode cX11_cuts 23 = .ok (.invokevirtual 63, 3) := by decide +kernel
theorem dX11_cuts_26 : decode cX11_cuts 26 = .ok (.ifCond .ne 25, 3) := by decide +kernel
theorem dX11_cuts_29 : decode cX11_cuts 29 = .ok (.aload_n 0, 1) := by decide +kernel
theorem dX11_cuts_30 : decode cX11_cuts 30 = .ok (.aload_n 0, 1) := by decide +kernel
theorem dX11_cuts_31 : decode cX11_cuts 31 = .ok (.iload_n 1, 1) := by decide +kernel
theorem dX11_cuts_32 : decode cX11_cuts 32 = .ok (.iload_n 2, 1) := by decide +kernel
theorem dX11_cuts_33 : decode cX11_cuts 33 = .ok (.invokevirtual 55, 3) := by decide +kernel
theorem dX11_cuts_36 : decode cX11_cuts 36 = .ok (.ifCond .ne 7, 3) := by decide +kernel
theorem dX11_cuts_39 : decode cX11_cuts 39 = .ok (.iconst 1, 1) := by decide +kernel
theorem dX11_cuts_40 : decode cX11_cuts 40 = .ok (.goto 4, 3) := by decide +kernel
theorem dX11_cuts_43 : decode cX11_cuts 43 = .ok (.iconst 0, 1) := by decide +kernel
theorem dX11_cuts_44 : decode cX11_cuts 44 = .ok (.iconst 2, 1) := by decide +kernel
theorem dX11_cuts_45 : decode cX11_cuts 45 = .ok (.invokevirtual 63, 3) := by decide +kernel
theorem dX11_cuts_48 : decode cX11_cuts 48 = .ok (.ifCond .eq 5, 3) := by decide +kernel
theorem dX11_cuts_51 : decode cX11_cuts 51 = .ok (.iconst 0, 1) := by decide +kernel
theorem dX11_cuts_52 : decode cX11_cuts 52 = .ok (.ireturn, 1) := by decide +kernel
theorem dX11_cuts_53 : decode cX11_cuts 53 = .ok (.aload_n 0, 1) := by decide +kernel
theorem dX11_cuts_54 : decode cX11_cuts 54 = .ok (.iload_n 1, 1) := by decide +kernel
theorem dX11_cuts_55 : decode cX11_cuts 55 = .ok (.iload_n 2, 1) := by decide +kernel
theorem dX11_cuts_56 : decode cX11_cuts 56 = .ok (.invokevirtual 55, 3) := by decide +kernel
theorem dX11_cuts_59 : decode cX11_cuts 59 = .ok (.istore_n 3, 1) := by decide +kernel
theorem dX11_cuts_60 : decode cX11_cuts 60 = .ok (.aload_n 0, 1) := by decide +kernel
theorem dX11_cuts_61 : decode cX11_cuts 61 = .ok (.iload_n 1, 1) := by decide +kernel
theorem dX11_cuts_62 : decode cX11_cuts 62 = .ok (.iload_n 2, 1) := by decide +kernel
theorem dX11_cuts_63 : decode cX11_cuts 63 = .ok (.iconst 0, 1) := by decide +kernel
theorem dX11_cuts_64 : decode cX11_cuts 64 = .ok (.invokevirtual 82, 3) := by decide +kernel
theorem dX11_cuts_67 : decode cX11_cuts 67 = .ok (.iload_n 3, 1) := by decide +kernel
theorem dX11_cuts_68 : decode cX11_cuts 68 = .ok (.ireturn, 1) := by decide +kernel
theorem dX11_removeTrail_0 : decode cX11_removeTrail 0 = .ok (.aload_n 0, 1) := by decide +kernel
theorem dX11_removeTrail_1 : decode cX11_removeTrail 1 = .ok (.invokevirtual 67, 3) := by decide +kernel
theorem dX11_removeTrail_4 : decode cX11_removeTrail 4 = .ok (.aload_n 0, 1) := by decide +kernel
theorem dX11_removeTrail_5 : decode cX11_removeTrail 5 = .ok (.aload_n 0, 1) := by decide +kernel
theorem dX11_removeTrail_6 : decode cX11_removeTrail 6 = .ok (.iload_n 1, 1) := by decide +kernel
theorem dX11_removeTrail_7 : decode cX11_removeTrail 7 = .ok (.iload_n 2, 1) := by decide +kernel
theorem dX11_removeTrail_8 : decode cX11_removeTrail 8 = .ok (.invokevirtual 93, 3) := by decide +kernel
theorem dX11_removeTrail_11 : decode cX11_removeTrail 11 = .ok (.invokevirtual 74, 3) := by decide +kernel
theorem dX11_removeTrail_14 : decode cX11_removeTrail 14 = .ok (.ireturn, 1) := by decide +kernel
theorem dX11_finds_0 : decode cX11_finds 0 = .ok (.iconst 0, 1) := by decide +kernel
theorem dX11_finds_1 : decode cX11_finds 1 = .ok (.istore_n 2, 1) := by decide +kernel
theorem dX11_finds_2 : decode cX11_finds 2 = .ok (.iload_n 2, 1) := by decide +kernel
theorem dX11_finds_3 : decode cX11_finds 3 = .ok (.bipush 12, 2) := by decide +kernel
theorem dX11_finds_5 : decode cX11_finds 5 = .ok (.if_icmp .ge 26, 3) := by decide +kernel
theorem dX11_finds_8 : decode cX11_finds 8 = .ok (.aload_n 0, 1) := by decide +kernel
theorem dX11_finds_9 : decode cX11_finds 9 = .ok (.getfield 22, 3) := by decide +kernel
theorem dX11_finds_12 : decode cX11_finds 12 = .ok (.iload_n 2, 1) := by decide +kernel
theorem dX11_finds_13 : decode cX11_finds 13 = .ok (.iload_n 2, 1) := by decide +kernel
theorem dX11_finds_14 : decode cX11_finds 14 = .ok (.iload_n 1, 1) := by decide +kernel
theorem dX11_finds_15 : decode cX11_finds 15 = .ok (.if_icmp .ne 7, 3) := by decide +kernel
theorem dX11_finds_18 : decode cX11_finds 18 = .ok (.iconst 0, 1) := by decide +kernel
theorem dX11_finds_19 : decode cX11_finds 19 = .ok (.goto 5, 3) := by decide +kernel
theorem dX11_finds_22 : decode cX11_finds 22 = .ok (.ldc 96, 2) := by decide +kernel
theorem dX11_finds_24 : decode cX11_finds 24 = .ok (.iastore, 1) := by decide +kernel
theorem dX11_finds_25 : decode cX11_finds 25 = .ok (.iinc 2 1, 3) := by decide +kernel
theorem dX11_finds_28 : decode cX11_finds 28 = .ok (.goto (-26), 3) := by decide +kernel
theorem dX11_finds_31 : decode cX11_finds 31 = .ok (.iconst 1, 1) := by decide +kernel
theorem dX11_finds_32 : decode cX11_finds 32 = .ok (.istore_n 2, 1) := by decide +kernel
theorem dX11_finds_33 : decode cX11_finds 33 = .ok (.iload_n 2, 1) := by decide +kernel
theorem dX11_finds_34 : decode cX11_finds 34 = .ok (.ifCond .eq 109, 3) := by decide +kernel
theorem dX11_finds_37 : decode cX11_finds 37 = .ok (.iconst 0, 1) := by decide +kernel
theorem dX11_finds_38 : decode cX11_finds 38 = .ok (.istore_n 2, 1) := by decide +kernel
theorem dX11_finds_39 : decode cX11_finds 39 = .ok (.iconst 0, 1) := by decide +kernel
theorem dX11_finds_40 : decode cX11_finds 40 = .ok (.istore_n 3, 1) := by decide +kernel
theorem dX11_finds_41 : decode cX11_finds 41 = .ok (.iload_n 3, 1) := by decide +kernel
theorem dX11_finds_42 : decode cX11_finds 42 = .ok (.sipush 144, 3) := by decide +kernel
theorem dX11_finds_45 : decode cX11_finds 45 = .ok (.if_icmp .ge 95, 3) := by decide +kernel
theorem dX11_finds_48 : decode cX11_finds 48 = .ok (.iload_n 3, 1) := by decide +kernel
theorem dX11_finds_49 : decode cX11_finds 49 = .ok (.bipush 12, 2) := by decide +kernel
theorem dX11_finds_51 : decode cX11_finds 51 = .ok (.idiv, 1) := by decide +kernel
theorem dX11_finds_52 : decode cX11_finds 52 = .ok (.istore 4, 2) := by decide +kernel
theorem dX11_finds_54 : decode cX11_finds 54 = .ok (.iload_n 3, 1) := by decide +kernel
theorem dX11_finds_55 : decode cX11_finds 55 = .ok (.bipush 12, 2) := by decide +kernel
theorem dX11_finds_57 : decode cX11_finds 57 = .ok (.irem, 1) := by decide +kernel
theorem dX11_finds_58 : decode cX11_finds 58 = .ok (.istore 5, 2) := by decide +kernel
theorem dX11_finds_60 : decode cX11_finds 60 = .ok (.aload_n 0, 1) := by decide +kernel
theorem dX11_finds_61 : decode cX11_finds 61 = .ok (.iload 4, 2) := by decide +kernel
theorem dX11_finds_63 : decode cX11_finds 63 = .ok (.iload 5, 2) := by decide +kernel
theorem dX11_finds_65 : decode cX11_finds 65 = .ok (.invokevirtual 55, 3) := by decide +kernel
theorem dX11_finds_68 : decode cX11_finds 68 = .ok (.ifCond .le 33, 3) := by decide +kernel
theorem dX11_finds_71 : decode cX11_finds 71 = .ok (.aload_n 0, 1) := by decide +kernel
theorem dX11_finds_72 : decode cX11_finds 72 = .ok (.getfield 22, 3) := by decide +kernel
theorem dX11_finds_75 : decode cX11_finds 75 = .ok (.iload 4, 2) := by decide +kernel
theorem dX11_finds_77 : decode cX11_finds 77 = .ok (.iaload, 1) := by decide +kernel
theorem dX11_finds_78 : decode cX11_finds 78 = .ok (.aload_n 0, 1) := by decide +kernel
theorem dX11_finds_79 : decode cX11_finds 79 = .ok (.iload 4, 2) := by decide +kernel
theorem dX11_finds_81 : decode cX11_finds 81 = .ok (.iload 5, 2) := by decide +kernel
theorem dX11_finds_83 : decode cX11_finds 83 = .ok (.invokevirtual 55, 3) := by decide +kernel
theorem dX11_finds_86 : decode cX11_finds 86 = .ok (.iadd, 1) := by decide +kernel
theorem dX11_finds_87 : decode cX11_finds 87 = .ok (.aload_n 0, 1) := by decide +kernel
theorem dX11_finds_88 : decode cX11_finds 88 = .ok (.getfield 22, 3) := by decide +kernel
theorem dX11_finds_91 : decode cX11_finds 91 = .ok (.iload 5, 2) := by decide +kernel
theorem dX11_finds_93 : decode cX11_finds 93 = .ok (.iaload, 1) := by decide +kernel
theorem dX11_finds_94 : decode cX11_finds 94 = .ok (.if_icmp .ge 7, 3) := by decide +kernel
theorem dX11_finds_97 : decode cX11_finds 97 = .ok (.iconst 1, 1) := by decide +kernel
theorem dX11_finds_98 : decode cX11_finds 98 = .ok (.goto 4, 3) := by decide +kernel
theorem dX11_finds_101 : decode cX11_finds 101 = .ok (.iconst 0, 1) := by decide +kernel
theorem dX11_finds_102 : decode cX11_finds 102 = .ok (.istore 6, 2) := by decide +kernel
theorem dX11_finds_104 : decode cX11_finds 104 = .ok (.iload 6, 2) := by decide +kernel
theorem dX11_finds_106 : decode cX11_finds 106 = .ok (.ifCond .eq 28, 3) := by decide +kernel
theorem dX11_finds_109 : decode cX11_finds 109 = .ok (.aload_n 0, 1) := by decide +kernel
theorem dX11_finds_110 : decode cX11_finds 110 = .ok (.getfield 22, 3) := by decide +kernel
theorem dX11_finds_113 : decode cX11_finds 113 = .ok (.iload 5, 2) := by decide +kernel
theorem dX11_finds_115 : decode cX11_finds 115 = .ok (.aload_n 0, 1) := by decide +kernel
theorem dX11_finds_116 : decode cX11_finds 116 = .ok (.getfield 22, 3) := by decide +kernel
theorem dX11_finds_119 : decode cX11_finds 119 = .ok (.iload 4, 2) := by decide +kernel
theorem dX11_finds_121 : decode cX11_finds 121 = .ok (.iaload, 1) := by decide +kernel
theorem dX11_finds_122 : decode cX11_finds 122 = .ok (.aload_n 0, 1) := by decide +kernel
theorem dX11_finds_123 : decode cX11_finds 123 = .ok (.iload 4, 2) := by decide +kernel
theorem dX11_finds_125 : decode cX11_finds 125 = .ok (.iload 5, 2) := by decide +kernel
theorem dX11_finds_127 : decode cX11_finds 127 = .ok (.invokevirtual 55, 3) := by decide +kernel
theorem dX11_finds_130 : decode cX11_finds 130 = .ok (.iadd, 1) := by decide +kernel
theorem dX11_finds_131 : decode cX11_finds 131 = .ok (.iastore, 1) := by decide +kernel
theorem dX11_finds_132 : decode cX11_finds 132 = .ok (.iconst 1, 1) := by decide +kernel
theorem dX11_finds_133 : decode cX11_finds 133 = .ok (.istore_n 2, 1) := by decide +kernel
theorem dX11_finds_134 : decode cX11_finds 134 = .ok (.iinc 3 1, 3) := by decide +kernel
theorem dX11_finds_137 : decode cX11_finds 137 = .ok (.goto (-96), 3) := by decide +kernel
theorem dX11_finds_140 : decode cX11_finds 140 = .ok (.goto (-107), 3) := by decide +kernel
theorem dX11_finds_143 : decode cX11_finds 143 = .ok (.return_, 1) := by decide +kernel
theorem dX11_isOnTour_0 : decode cX11_isOnTour 0 = .ok (.aload_n 0, 1) := by decide +kernel
theorem dX11_isOnTour_1 : decode cX11_isOnTour 1 = .ok (.getfield 9, 3) := by decide +kernel
theorem dX11_isOnTour_4 : decode cX11_isOnTour 4 = .ok (.iconst 1, 1) := by decide +kernel
theorem dX11_isOnTour_5 : decode cX11_isOnTour 5 = .ok (.iaload, 1) := by decide +kernel
theorem dX11_isOnTour_6 : decode cX11_isOnTour 6 = .ok (.ifCond .le 7, 3) := by decide +kernel
theorem dX11_isOnTour_9 : decode cX11_isOnTour 9 = .ok (.iconst 1, 1) := by decide +kernel
theorem dX11_isOnTour_10 : decode cX11_isOnTour 10 = .ok (.goto 4, 3) := by decide +kernel
theorem dX11_isOnTour_13 : decode cX11_isOnTour 13 = .ok (.iconst 0, 1) := by decide +kernel
theorem dX11_isOnTour_14 : decode cX11_isOnTour 14 = .ok (.ireturn, 1) := by decide +kernel
theorem dX11_following_0 : decode cX11_following 0 = .ok (.iconst 0, 1) := by decide +kernel
theorem dX11_following_1 : decode cX11_following 1 = .ok (.istore_n 2, 1) := by decide +kernel
theorem dX11_following_2 : decode cX11_following 2 = .ok (.iload_n 2, 1) := by decide +kernel
theorem dX11_following_3 : decode cX11_following 3 = .ok (.aload_n 0, 1) := by decide +kernel
theorem dX11_following_4 : decode cX11_following 4 = .ok (.getfield 9, 3) := by decide +kernel
theorem dX11_following_7 : decode cX11_following 7 = .ok (.iconst 0, 1) := by decide +kernel
theorem dX11_following_8 : decode cX11_following 8 = .ok (.iaload, 1) := by decide +kernel
theorem dX11_following_9 : decode cX11_following 9 = .ok (.if_icmp .ge 42, 3) := by decide +kernel
theorem dX11_following_12 : decode cX11_following 12 = .ok (.aload_n 0, 1) := by decide +kernel
theorem dX11_following_13 : decode cX11_following 13 = .ok (.iload_n 1, 1) := by decide +kernel
theorem dX11_following_14 : decode cX11_following 14 = .ok (.iload_n 2, 1) := by decide +kernel
theorem dX11_following_15 : decode cX11_following 15 = .ok (.invokevirtual 55, 3) := by decide +kernel
theorem dX11_following_18 : decode cX11_following 18 = .ok (.ifCond .le 27, 3) := by decide +kernel
theorem dX11_following_21 : decode cX11_following 21 = .ok (.aload_n 0, 1) := by decide +kernel
theorem dX11_following_22 : decode cX11_following 22 = .ok (.iload_n 1, 1) := by decide +kernel
theorem dX11_following_23 : decode cX11_following 23 = .ok (.iload_n 2, 1) := by decide +kernel
theorem dX11_following_24 : decode cX11_following 24 = .ok (.invokevirtual 55, 3) := by decide +kernel
theorem dX11_following_27 : decode cX11_following 27 = .ok (.aload_n 0, 1) := by decide +kernel
theorem dX11_following_28 : decode cX11_following 28 = .ok (.getfield 22, 3) := by decide +kernel
theorem dX11_following_31 : decode cX11_following 31 = .ok (.iload_n 2, 1) := by decide +kernel
theorem dX11_following_32 : decode cX11_following 32 = .ok (.iaload, 1) := by decide +kernel
theorem dX11_following_33 : decode cX11_following 33 = .ok (.iadd, 1) := by decide +kernel
theorem dX11_following_34 : decode cX11_following 34 = .ok (.aload_n 0, 1) := by decide +kernel
theorem dX11_following_35 : decode cX11_following 35 = .ok (.getfield 22, 3) := by decide +kernel
theorem dX11_following_38 : decode cX11_following 38 = .ok (.iload_n 1, 1) := by decide +kernel
theorem dX11_following_39 : decode cX11_following 39 = .ok (.iaload, 1) := by decide +kernel
theorem dX11_following_40 : decode cX11_following 40 = .ok (.if_icmp .ne 5, 3) := by decide +kernel
theorem dX11_following_43 : decode cX11_following 43 = .ok (.iload_n 2, 1) := by decide +kernel
theorem dX11_following_44 : decode cX11_following 44 = .ok (.ireturn, 1) := by decide +kernel
theorem dX11_following_45 : decode cX11_following 45 = .ok (.iinc 2 1, 3) := by decide +kernel
theorem dX11_following_48 : decode cX11_following 48 = .ok (.goto (-46), 3) := by decide +kernel
theorem dX11_following_51 : decode cX11_following 51 = .ok (.iload_n 1, 1) := by decide +kernel
theorem dX11_following_52 : decode cX11_following 52 = .ok (.ireturn, 1) := by decide +kernel
theorem dX11_tours_0 : decode cX11_tours 0 = .ok (.aload_n 0, 1) := by decide +kernel
theorem dX11_tours_1 : decode cX11_tours 1 = .ok (.aload_n 0, 1) := by decide +kernel
theorem dX11_tours_2 : decode cX11_tours 2 = .ok (.iload_n 1, 1) := by decide +kernel
theorem dX11_tours_3 : decode cX11_tours 3 = .ok (.invokevirtual 78, 3) := by decide +kernel
theorem dX11_tours_6 : decode cX11_tours 6 = .ok (.ifCond .eq 11, 3) := by decide +kernel
theorem dX11_tours_9 : decode cX11_tours 9 = .ok (.aload_n 0, 1) := by decide +kernel
theorem dX11_tours_10 : decode cX11_tours 10 = .ok (.iload_n 2, 1) := by decide +kernel
theorem dX11_tours_11 : decode cX11_tours 11 = .ok (.invokevirtual 78, 3) := by decide +kernel
theorem dX11_tours_14 : decode cX11_tours 14 = .ok (.ifCond .ne 7, 3) := by decide +kernel
theorem dX11_tours_17 : decode cX11_tours 17 = .ok (.iconst 1, 1) := by decide +kernel
theorem dX11_tours_18 : decode cX11_tours 18 = .ok (.goto 4, 3) := by decide +kernel
theorem dX11_tours_21 : decode cX11_tours 21 = .ok (.iconst 0, 1) := by decide +kernel
theorem dX11_tours_22 : decode cX11_tours 22 = .ok (.iconst 1, 1) := by decide +kernel
theorem dX11_tours_23 : decode cX11_tours 23 = .ok (.invokevirtual 63, 3) := by decide +kernel
theorem dX11_tours_26 : decode cX11_tours 26 = .ok (.ifCond .ne 33, 3) := by decide +kernel
theorem dX11_tours_29 : decode cX11_tours 29 = .ok (.aload_n 0, 1) := by decide +kernel
theorem dX11_tours_30 : decode cX11_tours 30 = .ok (.iload_n 1, 1) := by decide +kernel
theorem dX11_tours_31 : decode cX11_tours 31 = .ok (.iload_n 2, 1) := by decide +kernel
theorem dX11_tours_32 : decode cX11_tours 32 = .ok (.if_icmp .ne 7, 3) := by decide +kernel
theorem dX11_tours_35 : decode cX11_tours 35 = .ok (.iconst 1, 1) := by decide +kernel
theorem dX11_tours_36 : decode cX11_tours 36 = .ok (.goto 4, 3) := by decide +kernel
theorem dX11_tours_39 : decode cX11_tours 39 = .ok (.iconst 0, 1) := by decide +kernel
theorem dX11_tours_40 : decode cX11_tours 40 = .ok (.iconst 2, 1) := by decide +kernel
theorem dX11_tours_41 : decode cX11_tours 41 = .ok (.invokevirtual 63, 3) := by decide +kernel
theorem dX11_tours_44 : decode cX11_tours 44 = .ok (.ifCond .ne 15, 3) := by decide +kernel
theorem dX11_tours_47 : decode cX11_tours 47 = .ok (.aload_n 0, 1) := by decide +kernel
theorem dX11_tours_48 : decode cX11_tours 48 = .ok (.aload_n 0, 1) := by decide +kernel
theorem dX11_tours_49 : decode cX11_tours 49 = .ok (.invokevirtual 97, 3) := by decide +kernel
theorem dX11_tours_52 : decode cX11_tours 52 = .ok (.iconst 3, 1) := by decide +kernel
theorem dX11_tours_53 : decode cX11_tours 53 = .ok (.invokevirtual 63, 3) := by decide +kernel
theorem dX11_tours_56 : decode cX11_tours 56 = .ok (.ifCond .eq 5, 3) := by decide +kernel
theorem dX11_tours_59 : decode cX11_tours 59 = .ok (.iconst 0, 1) := by decide +kernel
theorem dX11_tours_60 : decode cX11_tours 60 = .ok (.ireturn, 1) := by decide +kernel
theorem dX11_tours_61 : decode cX11_tours 61 = .ok (.aload_n 0, 1) := by decide +kernel
theorem dX11_tours_62 : decode cX11_tours 62 = .ok (.iload_n 2, 1) := by decide +kernel
theorem dX11_tours_63 : decode cX11_tours 63 = .ok (.invokevirtual 101, 3) := by decide +kernel
theorem dX11_tours_66 : decode cX11_tours 66 = .ok (.aload_n 0, 1) := by decide +kernel
theorem dX11_tours_67 : decode cX11_tours 67 = .ok (.aload_n 0, 1) := by decide +kernel
theorem dX11_tours_68 : decode cX11_tours 68 = .ok (.getfield 22, 3) := by decide +kernel
theorem dX11_tours_71 : decode cX11_tours 71 = .ok (.iload_n 1, 1) := by decide +kernel
theorem dX11_tours_72 : decode cX11_tours 72 = .ok (.iaload, 1) := by decide +kernel
theorem dX11_tours_73 : decode cX11_tours 73 = .ok (.ldc 96, 2) := by decide +kernel
theorem dX11_tours_75 : decode cX11_tours 75 = .ok (.if_icmp .lt 7, 3) := by decide +kernel
theorem dX11_tours_78 : decode cX11_tours 78 = .ok (.iconst 1, 1) := by decide +kernel
theorem dX11_tours_79 : decode cX11_tours 79 = .ok (.goto 4, 3) := by decide +kernel
theorem dX11_tours_82 : decode cX11_tours 82 = .ok (.iconst 0, 1) := by decide +kernel
theorem dX11_tours_83 : decode cX11_tours 83 = .ok (.iconst 4, 1) := by decide +kernel
theorem dX11_tours_84 : decode cX11_tours 84 = .ok (.invokevirtual 63, 3) := by decide +kernel
theorem dX11_tours_87 : decode cX11_tours 87 = .ok (.ifCond .eq 5, 3) := by decide +kernel
theorem dX11_tours_90 : decode cX11_tours 90 = .ok (.iconst 0, 1) := by decide +kernel
theorem dX11_tours_91 : decode cX11_tours 91 = .ok (.ireturn, 1) := by decide +kernel
theorem dX11_tours_92 : decode cX11_tours 92 = .ok (.iload_n 1, 1) := by decide +kernel
theorem dX11_tours_93 : decode cX11_tours 93 = .ok (.istore_n 3, 1) := by decide +kernel
theorem dX11_tours_94 : decode cX11_tours 94 = .ok (.aload_n 0, 1) := by decide +kernel
theorem dX11_tours_95 : decode cX11_tours 95 = .ok (.getfield 9, 3) := by decide +kernel
theorem dX11_tours_98 : decode cX11_tours 98 = .ok (.sipush 192, 3) := by decide +kernel
theorem dX11_tours_101 : decode cX11_tours 101 = .ok (.iload_n 1, 1) := by decide +kernel
theorem dX11_tours_102 : decode cX11_tours 102 = .ok (.iastore, 1) := by decide +kernel
theorem dX11_tours_103 : decode cX11_tours 103 = .ok (.aload_n 0, 1) := by decide +kernel
theorem dX11_tours_104 : decode cX11_tours 104 = .ok (.getfield 9, 3) := by decide +kernel
theorem dX11_tours_107 : decode cX11_tours 107 = .ok (.iconst 1, 1) := by decide +kernel
theorem dX11_tours_108 : decode cX11_tours 108 = .ok (.iconst 1, 1) := by decide +kernel
theorem dX11_tours_109 : decode cX11_tours 109 = .ok (.iastore, 1) := by decide +kernel
theorem dX11_tours_110 : decode cX11_tours 110 = .ok (.iload_n 3, 1) := by decide +kernel
theorem dX11_tours_111 : decode cX11_tours 111 = .ok (.iload_n 2, 1) := by decide +kernel
theorem dX11_tours_112 : decode cX11_tours 112 = .ok (.if_icmp .eq 38, 3) := by decide +kernel
theorem dX11_tours_115 : decode cX11_tours 115 = .ok (.aload_n 0, 1) := by decide +kernel
theorem dX11_tours_116 : decode cX11_tours 116 = .ok (.iload_n 3, 1) := by decide +kernel
theorem dX11_tours_117 : decode cX11_tours 117 = .ok (.invokevirtual 105, 3) := by decide +kernel
theorem dX11_tours_120 : decode cX11_tours 120 = .ok (.istore_n 3, 1) := by decide +kernel
theorem dX11_tours_121 : decode cX11_tours 121 = .ok (.aload_n 0, 1) := by decide +kernel
theorem dX11_tours_122 : decode cX11_tours 122 = .ok (.getfield 9, 3) := by decide +kernel
theorem dX11_tours_125 : decode cX11_tours 125 = .ok (.sipush 192, 3) := by decide +kernel
theorem dX11_tours_128 : decode cX11_tours 128 = .ok (.aload_n 0, 1) := by decide +kernel
theorem dX11_tours_129 : decode cX11_tours 129 = .ok (.getfield 9, 3) := by decide +kernel
theorem dX11_tours_132 : decode cX11_tours 132 = .ok (.iconst 1, 1) := by decide +kernel
theorem dX11_tours_133 : decode cX11_tours 133 = .ok (.iaload, 1) := by decide +kernel
theorem dX11_tours_134 : decode cX11_tours 134 = .ok (.iadd, 1) := by decide +kernel
theorem dX11_tours_135 : decode cX11_tours 135 = .ok (.iload_n 3, 1) := by decide +kernel
theorem dX11_tours_136 : decode cX11_tours 136 = .ok (.iastore, 1) := by decide +kernel
theorem dX11_tours_137 : decode cX11_tours 137 = .ok (.aload_n 0, 1) := by decide +kernel
theorem dX11_tours_138 : decode cX11_tours 138 = .ok (.getfield 9, 3) := by decide +kernel
theorem dX11_tours_141 : decode cX11_tours 141 = .ok (.iconst 1, 1) := by decide +kernel
theorem dX11_tours_142 : decode cX11_tours 142 = .ok (.dup2, 1) := by decide +kernel
theorem dX11_tours_143 : decode cX11_tours 143 = .ok (.iaload, 1) := by decide +kernel
theorem dX11_tours_144 : decode cX11_tours 144 = .ok (.iconst 1, 1) := by decide +kernel
theorem dX11_tours_145 : decode cX11_tours 145 = .ok (.iadd, 1) := by decide +kernel
theorem dX11_tours_146 : decode cX11_tours 146 = .ok (.iastore, 1) := by decide +kernel
theorem dX11_tours_147 : decode cX11_tours 147 = .ok (.goto (-37), 3) := by decide +kernel
theorem dX11_tours_150 : decode cX11_tours 150 = .ok (.aload_n 0, 1) := by decide +kernel
theorem dX11_tours_151 : decode cX11_tours 151 = .ok (.getfield 9, 3) := by decide +kernel
theorem dX11_tours_154 : decode cX11_tours 154 = .ok (.iconst 2, 1) := by decide +kernel
theorem dX11_tours_155 : decode cX11_tours 155 = .ok (.iconst 1, 1) := by decide +kernel
theorem dX11_tours_156 : decode cX11_tours 156 = .ok (.iastore, 1) := by decide +kernel
theorem dX11_tours_157 : decode cX11_tours 157 = .ok (.aload_n 0, 1) := by decide +kernel
theorem dX11_tours_158 : decode cX11_tours 158 = .ok (.getfield 9, 3) := by decide +kernel
theorem dX11_tours_161 : decode cX11_tours 161 = .ok (.iconst 3, 1) := by decide +kernel
theorem dX11_tours_162 : decode cX11_tours 162 = .ok (.aload_n 0, 1) := by decide +kernel
theorem dX11_tours_163 : decode cX11_tours 163 = .ok (.iload_n 1, 1) := by decide +kernel
theorem dX11_tours_164 : decode cX11_tours 164 = .ok (.iconst 0, 1) := by decide +kernel
theorem dX11_tours_165 : decode cX11_tours 165 = .ok (.invokevirtual 108, 3) := by decide +kernel
theorem dX11_tours_168 : decode cX11_tours 168 = .ok (.iastore, 1) := by decide +kernel
theorem dX11_tours_169 : decode cX11_tours 169 = .ok (.aload_n 0, 1) := by decide +kernel
theorem dX11_tours_170 : decode cX11_tours 170 = .ok (.getfield 9, 3) := by decide +kernel
theorem dX11_tours_173 : decode cX11_tours 173 = .ok (.iconst 4, 1) := by decide +kernel
theorem dX11_tours_174 : decode cX11_tours 174 = .ok (.aload_n 0, 1) := by decide +kernel
theorem dX11_tours_175 : decode cX11_tours 175 = .ok (.iload_n 1, 1) := by decide +kernel
theorem dX11_tours_176 : decode cX11_tours 176 = .ok (.iconst 1, 1) := by decide +kernel
theorem dX11_tours_177 : decode cX11_tours 177 = .ok (.invokevirtual 108, 3) := by decide +kernel
theorem dX11_tours_180 : decode cX11_tours 180 = .ok (.iastore, 1) := by decide +kernel
theorem dX11_tours_181 : decode cX11_tours 181 = .ok (.aload_n 0, 1) := by decide +kernel
theorem dX11_tours_182 : decode cX11_tours 182 = .ok (.getfield 9, 3) := by decide +kernel
theorem dX11_tours_185 : decode cX11_tours 185 = .ok (.iconst 5, 1) := by decide +kernel
theorem dX11_tours_186 : decode cX11_tours 186 = .ok (.iconst 0, 1) := by decide +kernel
theorem dX11_tours_187 : decode cX11_tours 187 = .ok (.iastore, 1) := by decide +kernel
theorem dX11_tours_188 : decode cX11_tours 188 = .ok (.aload_n 0, 1) := by decide +kernel
theorem dX11_tours_189 : decode cX11_tours 189 = .ok (.getfield 9, 3) := by decide +kernel
theorem dX11_tours_192 : decode cX11_tours 192 = .ok (.iconst 1, 1) := by decide +kernel
theorem dX11_tours_193 : decode cX11_tours 193 = .ok (.iaload, 1) := by decide +kernel
theorem dX11_tours_194 : decode cX11_tours 194 = .ok (.ireturn, 1) := by decide +kernel
theorem dX11_startTour_0 : decode cX11_startTour 0 = .ok (.aload_n 0, 1) := by decide +kernel
theorem dX11_startTour_1 : decode cX11_startTour 1 = .ok (.invokevirtual 67, 3) := by decide +kernel
theorem dX11_startTour_4 : decode cX11_startTour 4 = .ok (.aload_n 0, 1) := by decide +kernel
theorem dX11_startTour_5 : decode cX11_startTour 5 = .ok (.aload_n 0, 1) := by decide +kernel
theorem dX11_startTour_6 : decode cX11_startTour 6 = .ok (.iload_n 1, 1) := by decide +kernel
theorem dX11_startTour_7 : decode cX11_startTour 7 = .ok (.iload_n 2, 1) := by decide +kernel
theorem dX11_startTour_8 : decode cX11_startTour 8 = .ok (.invokevirtual 111, 3) := by decide +kernel
theorem dX11_startTour_11 : decode cX11_startTour 11 = .ok (.invokevirtual 74, 3) := by decide +kernel
theorem dX11_startTour_14 : decode cX11_startTour 14 = .ok (.ireturn, 1) := by decide +kernel
theorem dX11_over_0 : decode cX11_over 0 = .ok (.iconst 0, 1) := by decide +kernel
theorem dX11_over_1 : decode cX11_over 1 = .ok (.istore_n 1, 1) := by decide +kernel
theorem dX11_over_2 : decode cX11_over 2 = .ok (.iload_n 1, 1) := by decide +kernel
theorem dX11_over_3 : decode cX11_over 3 = .ok (.bipush 12, 2) := by decide +kernel
theorem dX11_over_5 : decode cX11_over 5 = .ok (.if_icmp .ge 20, 3) := by decide +kernel
theorem dX11_over_8 : decode cX11_over 8 = .ok (.aload_n 0, 1) := by decide +kernel
theorem dX11_over_9 : decode cX11_over 9 = .ok (.getfield 9, 3) := by decide +kernel
theorem dX11_over_12 : decode cX11_over 12 = .ok (.sipush 192, 3) := by decide +kernel
theorem dX11_over_15 : decode cX11_over 15 = .ok (.iload_n 1, 1) := by decide +kernel
theorem dX11_over_16 : decode cX11_over 16 = .ok (.iadd, 1) := by decide +kernel
theorem dX11_over_17 : decode cX11_over 17 = .ok (.iconst 0, 1) := by decide +kernel
theorem dX11_over_18 : decode cX11_over 18 = .ok (.iastore, 1) := by decide +kernel
theorem dX11_over_19 : decode cX11_over 19 = .ok (.iinc 1 1, 3) := by decide +kernel
theorem dX11_over_22 : decode cX11_over 22 = .ok (.goto (-20), 3) := by decide +kernel
theorem dX11_over_25 : decode cX11_over 25 = .ok (.aload_n 0, 1) := by decide +kernel
theorem dX11_over_26 : decode cX11_over 26 = .ok (.getfield 9, 3) := by decide +kernel
theorem dX11_over_29 : decode cX11_over 29 = .ok (.iconst 1, 1) := by decide +kernel
theorem dX11_over_30 : decode cX11_over 30 = .ok (.iconst 0, 1) := by decide +kernel
theorem dX11_over_31 : decode cX11_over 31 = .ok (.iastore, 1) := by decide +kernel
theorem dX11_over_32 : decode cX11_over 32 = .ok (.aload_n 0, 1) := by decide +kernel
theorem dX11_over_33 : decode cX11_over 33 = .ok (.getfield 9, 3) := by decide +kernel
theorem dX11_over_36 : decode cX11_over 36 = .ok (.iconst 2, 1) := by decide +kernel
theorem dX11_over_37 : decode cX11_over 37 = .ok (.iconst 0, 1) := by decide +kernel
theorem dX11_over_38 : decode cX11_over 38 = .ok (.iastore, 1) := by decide +kernel
theorem dX11_over_39 : decode cX11_over 39 = .ok (.aload_n 0, 1) := by decide +kernel
theorem dX11_over_40 : decode cX11_over 40 = .ok (.getfield 9, 3) := by decide +kernel
theorem dX11_over_43 : decode cX11_over 43 = .ok (.iconst 3, 1) := by decide +kernel
theorem dX11_over_44 : decode cX11_over 44 = .ok (.iconst 0, 1) := by decide +kernel
theorem dX11_over_45 : decode cX11_over 45 = .ok (.iastore, 1) := by decide +kernel
theorem dX11_over_46 : decode cX11_over 46 = .ok (.aload_n 0, 1) := by decide +kernel
theorem dX11_over_47 : decode cX11_over 47 = .ok (.getfield 9, 3) := by decide +kernel
theorem dX11_over_50 : decode cX11_over 50 = .ok (.iconst 4, 1) := by decide +kernel
theorem dX11_over_51 : decode cX11_over 51 = .ok (.iconst 0, 1) := by decide +kernel
theorem dX11_over_52 : decode cX11_over 52 = .ok (.iastore, 1) := by decide +kernel
theorem dX11_over_53 : decode cX11_over 53 = .ok (.aload_n 0, 1) := by decide +kernel
theorem dX11_over_54 : decode cX11_over 54 = .ok (.getfield 9, 3) := by decide +kernel
theorem dX11_over_57 : decode cX11_over 57 = .ok (.iconst 5, 1) := by decide +kernel
theorem dX11_over_58 : decode cX11_over 58 = .ok (.iconst 0, 1) := by decide +kernel
theorem dX11_over_59 : decode cX11_over 59 = .ok (.iastore, 1) := by decide +kernel
theorem dX11_over_60 : decode cX11_over 60 = .ok (.return_, 1) := by decide +kernel
theorem dX11_stops_0 : decode cX11_stops 0 = .ok (.aload_n 0, 1) := by decide +kernel
theorem dX11_stops_1 : decode cX11_stops 1 = .ok (.aload_n 0, 1) := by decide +kernel
theorem dX11_stops_2 : decode cX11_stops 2 = .ok (.invokevirtual 97, 3) := by decide +kernel
theorem dX11_stops_5 : decode cX11_stops 5 = .ok (.ifCond .ne 7, 3) := by decide +kernel
theorem dX11_stops_8 : decode cX11_stops 8 = .ok (.iconst 1, 1) := by decide +kernel
theorem dX11_stops_9 : decode cX11_stops 9 = .ok (.goto 4, 3) := by decide +kernel
theorem dX11_stops_12 : decode cX11_stops 12 = .ok (.iconst 0, 1) := by decide +kernel
theorem dX11_stops_13 : decode cX11_stops 13 = .ok (.iconst 1, 1) := by decide +kernel
theorem dX11_stops_14 : decode cX11_stops 14 = .ok (.invokevirtual 63, 3) := by decide +kernel
theorem dX11_stops_17 : decode cX11_stops 17 = .ok (.ifCond .eq 5, 3) := by decide +kernel
theorem dX11_stops_20 : decode cX11_stops 20 = .ok (.iconst 0, 1) := by decide +kernel
theorem dX11_stops_21 : decode cX11_stops 21 = .ok (.ireturn, 1) := by decide +kernel
theorem dX11_stops_22 : decode cX11_stops 22 = .ok (.aload_n 0, 1) := by decide +kernel
theorem dX11_stops_23 : decode cX11_stops 23 = .ok (.getfield 9, 3) := by decide +kernel
theorem dX11_stops_26 : decode cX11_stops 26 = .ok (.iconst 1, 1) := by decide +kernel
theorem dX11_stops_27 : decode cX11_stops 27 = .ok (.iaload, 1) := by decide +kernel
theorem dX11_stops_28 : decode cX11_stops 28 = .ok (.aload_n 0, 1) := by decide +kernel
theorem dX11_stops_29 : decode cX11_stops 29 = .ok (.getfield 9, 3) := by decide +kernel
theorem dX11_stops_32 : decode cX11_stops 32 = .ok (.iconst 2, 1) := by decide +kernel
theorem dX11_stops_33 : decode cX11_stops 33 = .ok (.iaload, 1) := by decide +kernel
theorem dX11_stops_34 : decode cX11_stops 34 = .ok (.isub, 1) := by decide +kernel
theorem dX11_stops_35 : decode cX11_stops 35 = .ok (.istore_n 1, 1) := by decide +kernel
theorem dX11_stops_36 : decode cX11_stops 36 = .ok (.aload_n 0, 1) := by decide +kernel
theorem dX11_stops_37 : decode cX11_stops 37 = .ok (.invokevirtual 114, 3) := by decide +kernel
theorem dX11_stops_40 : decode cX11_stops 40 = .ok (.iload_n 1, 1) := by decide +kernel
theorem dX11_stops_41 : decode cX11_stops 41 = .ok (.ireturn, 1) := by decide +kernel
theorem dX11_stopTour_0 : decode cX11_stopTour 0 = .ok (.aload_n 0, 1) := by decide +kernel
theorem dX11_stopTour_1 : decode cX11_stopTour 1 = .ok (.invokevirtual 67, 3) := by decide +kernel
theorem dX11_stopTour_4 : decode cX11_stopTour 4 = .ok (.aload_n 0, 1) := by decide +kernel
theorem dX11_stopTour_5 : decode cX11_stopTour 5 = .ok (.aload_n 0, 1) := by decide +kernel
theorem dX11_stopTour_6 : decode cX11_stopTour 6 = .ok (.invokevirtual 117, 3) := by decide +kernel
theorem dX11_stopTour_9 : decode cX11_stopTour 9 = .ok (.invokevirtual 74, 3) := by decide +kernel
theorem dX11_stopTour_12 : decode cX11_stopTour 12 = .ok (.ireturn, 1) := by decide +kernel
theorem dX11_aim_0 : decode cX11_aim 0 = .ok (.aload_n 0, 1) := by decide +kernel
theorem dX11_aim_1 : decode cX11_aim 1 = .ok (.getfield 9, 3) := by decide +kernel
theorem dX11_aim_4 : decode cX11_aim 4 = .ok (.sipush 192, 3) := by decide +kernel
theorem dX11_aim_7 : decode cX11_aim 7 = .ok (.aload_n 0, 1) := by decide +kernel
theorem dX11_aim_8 : decode cX11_aim 8 = .ok (.getfield 9, 3) := by decide +kernel
theorem dX11_aim_11 : decode cX11_aim 11 = .ok (.iconst 2, 1) := by decide +kernel
theorem dX11_aim_12 : decode cX11_aim 12 = .ok (.iaload, 1) := by decide +kernel
theorem dX11_aim_13 : decode cX11_aim 13 = .ok (.iadd, 1) := by decide +kernel
theorem dX11_aim_14 : decode cX11_aim 14 = .ok (.iaload, 1) := by decide +kernel
theorem dX11_aim_15 : decode cX11_aim 15 = .ok (.ireturn, 1) := by decide +kernel
theorem dX11_square_0 : decode cX11_square 0 = .ok (.iload_n 0, 1) := by decide +kernel
theorem dX11_square_1 : decode cX11_square 1 = .ok (.iload_n 0, 1) := by decide +kernel
theorem dX11_square_2 : decode cX11_square 2 = .ok (.imul, 1) := by decide +kernel
theorem dX11_square_3 : decode cX11_square 3 = .ok (.iload_n 1, 1) := by decide +kernel
theorem dX11_square_4 : decode cX11_square 4 = .ok (.iload_n 1, 1) := by decide +kernel
theorem dX11_square_5 : decode cX11_square 5 = .ok (.imul, 1) := by decide +kernel
theorem dX11_square_6 : decode cX11_square 6 = .ok (.iadd, 1) := by decide +kernel
theorem dX11_square_7 : decode cX11_square 7 = .ok (.ireturn, 1) := by decide +kernel
theorem dX11_reaches_0 : decode cX11_reaches 0 = .ok (.aload_n 0, 1) := by decide +kernel
theorem dX11_reaches_1 : decode cX11_reaches 1 = .ok (.invokevirtual 120, 3) := by decide +kernel
theorem dX11_reaches_4 : decode cX11_reaches 4 = .ok (.istore_n 3, 1) := by decide +kernel
theorem dX11_reaches_5 : decode cX11_reaches 5 = .ok (.iload_n 1, 1) := by decide +kernel
theorem dX11_reaches_6 : decode cX11_reaches 6 = .ok (.aload_n 0, 1) := by decide +kernel
theorem dX11_reaches_7 : decode cX11_reaches 7 = .ok (.iload_n 3, 1) := by decide +kernel
theorem dX11_reaches_8 : decode cX11_reaches 8 = .ok (.iconst 0, 1) := by decide +kernel
theorem dX11_reaches_9 : decode cX11_reaches 9 = .ok (.invokevirtual 108, 3) := by decide +kernel
theorem dX11_reaches_12 : decode cX11_reaches 12 = .ok (.isub, 1) := by decide +kernel
theorem dX11_reaches_13 : decode cX11_reaches 13 = .ok (.iload_n 2, 1) := by decide +kernel
theorem dX11_reaches_14 : decode cX11_reaches 14 = .ok (.aload_n 0, 1) := by decide +kernel
theorem dX11_reaches_15 : decode cX11_reaches 15 = .ok (.iload_n 3, 1) := by decide +kernel
theorem dX11_reaches_16 : decode cX11_reaches 16 = .ok (.iconst 1, 1) := by decide +kernel
theorem dX11_reaches_17 : decode cX11_reaches 17 = .ok (.invokevirtual 108, 3) := by decide +kernel
theorem dX11_reaches_20 : decode cX11_reaches 20 = .ok (.isub, 1) := by decide +kernel
theorem dX11_reaches_21 : decode cX11_reaches 21 = .ok (.invokestatic 123, 3) := by decide +kernel
theorem dX11_reaches_24 : decode cX11_reaches 24 = .ok (.aload_n 0, 1) := by decide +kernel
theorem dX11_reaches_25 : decode cX11_reaches 25 = .ok (.iload_n 3, 1) := by decide +kernel
theorem dX11_reaches_26 : decode cX11_reaches 26 = .ok (.iconst 2, 1) := by decide +kernel
theorem dX11_reaches_27 : decode cX11_reaches 27 = .ok (.invokevirtual 108, 3) := by decide +kernel
theorem dX11_reaches_30 : decode cX11_reaches 30 = .ok (.aload_n 0, 1) := by decide +kernel
theorem dX11_reaches_31 : decode cX11_reaches 31 = .ok (.iload_n 3, 1) := by decide +kernel
theorem dX11_reaches_32 : decode cX11_reaches 32 = .ok (.iconst 2, 1) := by decide +kernel
theorem dX11_reaches_33 : decode cX11_reaches 33 = .ok (.invokevirtual 108, 3) := by decide +kernel
theorem dX11_reaches_36 : decode cX11_reaches 36 = .ok (.imul, 1) := by decide +kernel
theorem dX11_reaches_37 : decode cX11_reaches 37 = .ok (.if_icmp .gt 7, 3) := by decide +kernel
theorem dX11_reaches_40 : decode cX11_reaches 40 = .ok (.iconst 1, 1) := by decide +kernel
theorem dX11_reaches_41 : decode cX11_reaches 41 = .ok (.goto 4, 3) := by decide +kernel
theorem dX11_reaches_44 : decode cX11_reaches 44 = .ok (.iconst 0, 1) := by decide +kernel
theorem dX11_reaches_45 : decode cX11_reaches 45 = .ok (.ireturn, 1) := by decide +kernel
theorem dX11_compared_0 : decode cX11_compared 0 = .ok (.aload_n 0, 1) := by decide +kernel
theorem dX11_compared_1 : decode cX11_compared 1 = .ok (.getfield 9, 3) := by decide +kernel
theorem dX11_compared_4 : decode cX11_compared 4 = .ok (.sipush 192, 3) := by decide +kernel
theorem dX11_compared_7 : decode cX11_compared 7 = .ok (.aload_n 0, 1) := by decide +kernel
theorem dX11_compared_8 : decode cX11_compared 8 = .ok (.getfield 9, 3) := by decide +kernel
theorem dX11_compared_11 : decode cX11_compared 11 = .ok (.iconst 2, 1) := by decide +kernel
theorem dX11_compared_12 : decode cX11_compared 12 = .ok (.iaload, 1) := by decide +kernel
theorem dX11_compared_13 : decode cX11_compared 13 = .ok (.iadd, 1) := by decide +kernel
theorem dX11_compared_14 : decode cX11_compared 14 = .ok (.iconst 1, 1) := by decide +kernel
theorem dX11_compared_15 : decode cX11_compared 15 = .ok (.isub, 1) := by decide +kernel
theorem dX11_compared_16 : decode cX11_compared 16 = .ok (.iaload, 1) := by decide +kernel
theorem dX11_compared_17 : decode cX11_compared 17 = .ok (.istore 4, 2) := by decide +kernel
theorem dX11_compared_19 : decode cX11_compared 19 = .ok (.aload_n 0, 1) := by decide +kernel
theorem dX11_compared_20 : decode cX11_compared 20 = .ok (.invokevirtual 120, 3) := by decide +kernel
theorem dX11_compared_23 : decode cX11_compared 23 = .ok (.istore 5, 2) := by decide +kernel
theorem dX11_compared_25 : decode cX11_compared 25 = .ok (.aload_n 0, 1) := by decide +kernel
theorem dX11_compared_26 : decode cX11_compared 26 = .ok (.iload 5, 2) := by decide +kernel
theorem dX11_compared_28 : decode cX11_compared 28 = .ok (.iconst 0, 1) := by decide +kernel
theorem dX11_compared_29 : decode cX11_compared 29 = .ok (.invokevirtual 108, 3) := by decide +kernel
theorem dX11_compared_32 : decode cX11_compared 32 = .ok (.aload_n 0, 1) := by decide +kernel
theorem dX11_compared_33 : decode cX11_compared 33 = .ok (.iload 4, 2) := by decide +kernel
theorem dX11_compared_35 : decode cX11_compared 35 = .ok (.iconst 0, 1) := by decide +kernel
theorem dX11_compared_36 : decode cX11_compared 36 = .ok (.invokevirtual 108, 3) := by decide +kernel
theorem dX11_compared_39 : decode cX11_compared 39 = .ok (.isub, 1) := by decide +kernel
theorem dX11_compared_40 : decode cX11_compared 40 = .ok (.istore 6, 2) := by decide +kernel
theorem dX11_compared_42 : decode cX11_compared 42 = .ok (.aload_n 0, 1) := by decide +kernel
theorem dX11_compared_43 : decode cX11_compared 43 = .ok (.iload 5, 2) := by decide +kernel
theorem dX11_compared_45 : decode cX11_compared 45 = .ok (.iconst 1, 1) := by decide +kernel
theorem dX11_compared_46 : decode cX11_compared 46 = .ok (.invokevirtual 108, 3) := by decide +kernel
theorem dX11_compared_49 : decode cX11_compared 49 = .ok (.aload_n 0, 1) := by decide +kernel
theorem dX11_compared_50 : decode cX11_compared 50 = .ok (.iload 4, 2) := by decide +kernel
theorem dX11_compared_52 : decode cX11_compared 52 = .ok (.iconst 1, 1) := by decide +kernel
theorem dX11_compared_53 : decode cX11_compared 53 = .ok (.invokevirtual 108, 3) := by decide +kernel
theorem dX11_compared_56 : decode cX11_compared 56 = .ok (.isub, 1) := by decide +kernel
theorem dX11_compared_57 : decode cX11_compared 57 = .ok (.istore 7, 2) := by decide +kernel
theorem dX11_compared_59 : decode cX11_compared 59 = .ok (.iload_n 1, 1) := by decide +kernel
theorem dX11_compared_60 : decode cX11_compared 60 = .ok (.aload_n 0, 1) := by decide +kernel
theorem dX11_compared_61 : decode cX11_compared 61 = .ok (.iload 4, 2) := by decide +kernel
theorem dX11_compared_63 : decode cX11_compared 63 = .ok (.iconst 0, 1) := by decide +kernel
theorem dX11_compared_64 : decode cX11_compared 64 = .ok (.invokevirtual 108, 3) := by decide +kernel
theorem dX11_compared_67 : decode cX11_compared 67 = .ok (.isub, 1) := by decide +kernel
theorem dX11_compared_68 : decode cX11_compared 68 = .ok (.istore 8, 2) := by decide +kernel
theorem dX11_compared_70 : decode cX11_compared 70 = .ok (.iload_n 2, 1) := by decide +kernel
theorem dX11_compared_71 : decode cX11_compared 71 = .ok (.aload_n 0, 1) := by decide +kernel
theorem dX11_compared_72 : decode cX11_compared 72 = .ok (.iload 4, 2) := by decide +kernel
theorem dX11_compared_74 : decode cX11_compared 74 = .ok (.iconst 1, 1) := by decide +kernel
theorem dX11_compared_75 : decode cX11_compared 75 = .ok (.invokevirtual 108, 3) := by decide +kernel
theorem dX11_compared_78 : decode cX11_compared 78 = .ok (.isub, 1) := by decide +kernel
theorem dX11_compared_79 : decode cX11_compared 79 = .ok (.istore 9, 2) := by decide +kernel
theorem dX11_compared_81 : decode cX11_compared 81 = .ok (.iload 8, 2) := by decide +kernel
theorem dX11_compared_83 : decode cX11_compared 83 = .ok (.iload 6, 2) := by decide +kernel
theorem dX11_compared_85 : decode cX11_compared 85 = .ok (.imul, 1) := by decide +kernel
theorem dX11_compared_86 : decode cX11_compared 86 = .ok (.iload 9, 2) := by decide +kernel
theorem dX11_compared_88 : decode cX11_compared 88 = .ok (.iload 7, 2) := by decide +kernel
theorem dX11_compared_90 : decode cX11_compared 90 = .ok (.imul, 1) := by decide +kernel
theorem dX11_compared_91 : decode cX11_compared 91 = .ok (.iadd, 1) := by decide +kernel
theorem dX11_compared_92 : decode cX11_compared 92 = .ok (.istore 10, 2) := by decide +kernel
theorem dX11_compared_94 : decode cX11_compared 94 = .ok (.iload 6, 2) := by decide +kernel
theorem dX11_compared_96 : decode cX11_compared 96 = .ok (.iload 7, 2) := by decide +kernel
theorem dX11_compared_98 : decode cX11_compared 98 = .ok (.invokestatic 123, 3) := by decide +kernel
theorem dX11_compared_101 : decode cX11_compared 101 = .ok (.istore 11, 2) := by decide +kernel
theorem dX11_compared_103 : decode cX11_compared 103 = .ok (.iload 10, 2) := by decide +kernel
theorem dX11_compared_105 : decode cX11_compared 105 = .ok (.ifCond .gt 15, 3) := by decide +kernel
theorem dX11_compared_108 : decode cX11_compared 108 = .ok (.iload 8, 2) := by decide +kernel
theorem dX11_compared_110 : decode cX11_compared 110 = .ok (.iload 9, 2) := by decide +kernel
theorem dX11_compared_112 : decode cX11_compared 112 = .ok (.invokestatic 123, 3) := by decide +kernel
theorem dX11_compared_115 : decode cX11_compared 115 = .ok (.iload_n 3, 1) := by decide +kernel
theorem dX11_compared_116 : decode cX11_compared 116 = .ok (.iload_n 3, 1) := by decide +kernel
theorem dX11_compared_117 : decode cX11_compared 117 = .ok (.imul, 1) := by decide +kernel
theorem dX11_compared_118 : decode cX11_compared 118 = .ok (.isub, 1) := by decide +kernel
theorem dX11_compared_119 : decode cX11_compared 119 = .ok (.ireturn, 1) := by decide +kernel
theorem dX11_compared_120 : decode cX11_compared 120 = .ok (.iload 10, 2) := by decide +kernel
theorem dX11_compared_122 : decode cX11_compared 122 = .ok (.iload 11, 2) := by decide +kernel
theorem dX11_compared_124 : decode cX11_compared 124 = .ok (.if_icmp .lt 29, 3) := by decide +kernel
theorem dX11_compared_127 : decode cX11_compared 127 = .ok (.iload_n 1, 1) := by decide +kernel
theorem dX11_compared_128 : decode cX11_compared 128 = .ok (.aload_n 0, 1) := by decide +kernel
theorem dX11_compared_129 : decode cX11_compared 129 = .ok (.iload 5, 2) := by decide +kernel
theorem dX11_compared_131 : decode cX11_compared 131 = .ok (.iconst 0, 1) := by decide +kernel
theorem dX11_compared_132 : decode cX11_compared 132 = .ok (.invokevirtual 108, 3) := by decide +kernel
theorem dX11_compared_135 : decode cX11_compared 135 = .ok (.isub, 1) := by decide +kernel
theorem dX11_compared_136 : decode cX11_compared 136 = .ok (.iload_n 2, 1) := by decide +kernel
theorem dX11_compared_137 : decode cX11_compared 137 = .ok (.aload_n 0, 1) := by decide +kernel
theorem dX11_compared_138 : decode cX11_compared 138 = .ok (.iload 5, 2) := by decide +kernel
theorem dX11_compared_140 : decode cX11_compared 140 = .ok (.iconst 1, 1) := by decide +kernel
theorem dX11_compared_141 : decode cX11_compared 141 = .ok (.invokevirtual 108, 3) := by decide +kernel
theorem dX11_compared_144 : decode cX11_compared 144 = .ok (.isub, 1) := by decide +kernel
theorem dX11_compared_145 : decode cX11_compared 145 = .ok (.invokestatic 123, 3) := by decide +kernel
theorem dX11_compared_148 : decode cX11_compared 148 = .ok (.iload_n 3, 1) := by decide +kernel
theorem dX11_compared_149 : decode cX11_compared 149 = .ok (.iload_n 3, 1) := by decide +kernel
theorem dX11_compared_150 : decode cX11_compared 150 = .ok (.imul, 1) := by decide +kernel
theorem dX11_compared_151 : decode cX11_compared 151 = .ok (.isub, 1) := by decide +kernel
theorem dX11_compared_152 : decode cX11_compared 152 = .ok (.ireturn, 1) := by decide +kernel
theorem dX11_compared_153 : decode cX11_compared 153 = .ok (.iload 8, 2) := by decide +kernel
theorem dX11_compared_155 : decode cX11_compared 155 = .ok (.iload 7, 2) := by decide +kernel
theorem dX11_compared_157 : decode cX11_compared 157 = .ok (.imul, 1) := by decide +kernel
theorem dX11_compared_158 : decode cX11_compared 158 = .ok (.iload 9, 2) := by decide +kernel
theorem dX11_compared_160 : decode cX11_compared 160 = .ok (.iload 6, 2) := by decide +kernel
theorem dX11_compared_162 : decode cX11_compared 162 = .ok (.imul, 1) := by decide +kernel
theorem dX11_compared_163 : decode cX11_compared 163 = .ok (.isub, 1) := by decide +kernel
theorem dX11_compared_164 : decode cX11_compared 164 = .ok (.istore 12, 2) := by decide +kernel
theorem dX11_compared_166 : decode cX11_compared 166 = .ok (.iload 12, 2) := by decide +kernel
theorem dX11_compared_168 : decode cX11_compared 168 = .ok (.iload 12, 2) := by decide +kernel
theorem dX11_compared_170 : decode cX11_compared 170 = .ok (.imul, 1) := by decide +kernel
theorem dX11_compared_171 : decode cX11_compared 171 = .ok (.iload_n 3, 1) := by decide +kernel
theorem dX11_compared_172 : decode cX11_compared 172 = .ok (.iload_n 3, 1) := by decide +kernel
theorem dX11_compared_173 : decode cX11_compared 173 = .ok (.imul, 1) := by decide +kernel
theorem dX11_compared_174 : decode cX11_compared 174 = .ok (.iload 11, 2) := by decide +kernel
theorem dX11_compared_176 : decode cX11_compared 176 = .ok (.imul, 1) := by decide +kernel
theorem dX11_compared_177 : decode cX11_compared 177 = .ok (.isub, 1) := by decide +kernel
theorem dX11_compared_178 : decode cX11_compared 178 = .ok (.ireturn, 1) := by decide +kernel
theorem dX11_isBeyond_0 : decode cX11_isBeyond 0 = .ok (.aload_n 0, 1) := by decide +kernel
theorem dX11_isBeyond_1 : decode cX11_isBeyond 1 = .ok (.iload_n 1, 1) := by decide +kernel
theorem dX11_isBeyond_2 : decode cX11_isBeyond 2 = .ok (.iload_n 2, 1) := by decide +kernel
theorem dX11_isBeyond_3 : decode cX11_isBeyond 3 = .ok (.iload_n 3, 1) := by decide +kernel
theorem dX11_isBeyond_4 : decode cX11_isBeyond 4 = .ok (.invokevirtual 126, 3) := by decide +kernel
theorem dX11_isBeyond_7 : decode cX11_isBeyond 7 = .ok (.ifCond .lt 7, 3) := by decide +kernel
theorem dX11_isBeyond_10 : decode cX11_isBeyond 10 = .ok (.iconst 1, 1) := by decide +kernel
theorem dX11_isBeyond_11 : decode cX11_isBeyond 11 = .ok (.goto 4, 3) := by decide +kernel
theorem dX11_isBeyond_14 : decode cX11_isBeyond 14 = .ok (.iconst 0, 1) := by decide +kernel
theorem dX11_isBeyond_15 : decode cX11_isBeyond 15 = .ok (.ireturn, 1) := by decide +kernel
theorem dX11_isWithin_0 : decode cX11_isWithin 0 = .ok (.aload_n 0, 1) := by decide +kernel
theorem dX11_isWithin_1 : decode cX11_isWithin 1 = .ok (.iload_n 1, 1) := by decide +kernel
theorem dX11_isWithin_2 : decode cX11_isWithin 2 = .ok (.iload_n 2, 1) := by decide +kernel
theorem dX11_isWithin_3 : decode cX11_isWithin 3 = .ok (.iload_n 3, 1) := by decide +kernel
theorem dX11_isWithin_4 : decode cX11_isWithin 4 = .ok (.invokevirtual 126, 3) := by decide +kernel
theorem dX11_isWithin_7 : decode cX11_isWithin 7 = .ok (.ifCond .gt 7, 3) := by decide +kernel
theorem dX11_isWithin_10 : decode cX11_isWithin 10 = .ok (.iconst 1, 1) := by decide +kernel
theorem dX11_isWithin_11 : decode cX11_isWithin 11 = .ok (.goto 4, 3) := by decide +kernel
theorem dX11_isWithin_14 : decode cX11_isWithin 14 = .ok (.iconst 0, 1) := by decide +kernel
theorem dX11_isWithin_15 : decode cX11_isWithin 15 = .ok (.ireturn, 1) := by decide +kernel
theorem dX11_costOf_0 : decode cX11_costOf 0 = .ok (.iload_n 0, 1) := by decide +kernel
theorem dX11_costOf_1 : decode cX11_costOf 1 = .ok (.ifCond .ne 7, 3) := by decide +kernel
theorem dX11_costOf_4 : decode cX11_costOf 4 = .ok (.iconst 1, 1) := by decide +kernel
theorem dX11_costOf_5 : decode cX11_costOf 5 = .ok (.goto 13, 3) := by decide +kernel
theorem dX11_costOf_8 : decode cX11_costOf 8 = .ok (.iload_n 0, 1) := by decide +kernel
theorem dX11_costOf_9 : decode cX11_costOf 9 = .ok (.iconst 1, 1) := by decide +kernel
theorem dX11_costOf_10 : decode cX11_costOf 10 = .ok (.if_icmp .ne 7, 3) := by decide +kernel
theorem dX11_costOf_13 : decode cX11_costOf 13 = .ok (.iconst 2, 1) := by decide +kernel
theorem dX11_costOf_14 : decode cX11_costOf 14 = .ok (.goto 4, 3) := by decide +kernel
theorem dX11_costOf_17 : decode cX11_costOf 17 = .ok (.iconst 4, 1) := by decide +kernel
theorem dX11_costOf_18 : decode cX11_costOf 18 = .ok (.ireturn, 1) := by decide +kernel
theorem dX11_drains_0 : decode cX11_drains 0 = .ok (.aload_n 0, 1) := by decide +kernel
theorem dX11_drains_1 : decode cX11_drains 1 = .ok (.getfield 9, 3) := by decide +kernel
theorem dX11_drains_4 : decode cX11_drains 4 = .ok (.bipush 6, 2) := by decide +kernel
theorem dX11_drains_6 : decode cX11_drains 6 = .ok (.aload_n 0, 1) := by decide +kernel
theorem dX11_drains_7 : decode cX11_drains 7 = .ok (.getfield 9, 3) := by decide +kernel
theorem dX11_drains_10 : decode cX11_drains 10 = .ok (.bipush 6, 2) := by decide +kernel
theorem dX11_drains_12 : decode cX11_drains 12 = .ok (.iaload, 1) := by decide +kernel
theorem dX11_drains_13 : decode cX11_drains 13 = .ok (.iload_n 1, 1) := by decide +kernel
theorem dX11_drains_14 : decode cX11_drains 14 = .ok (.if_icmp .le 15, 3) := by decide +kernel
theorem dX11_drains_17 : decode cX11_drains 17 = .ok (.aload_n 0, 1) := by decide +kernel
theorem dX11_drains_18 : decode cX11_drains 18 = .ok (.getfield 9, 3) := by decide +kernel
theorem dX11_drains_21 : decode cX11_drains 21 = .ok (.bipush 6, 2) := by decide +kernel
theorem dX11_drains_23 : decode cX11_drains 23 = .ok (.iaload, 1) := by decide +kernel
theorem dX11_drains_24 : decode cX11_drains 24 = .ok (.iload_n 1, 1) := by decide +kernel
theorem dX11_drains_25 : decode cX11_drains 25 = .ok (.isub, 1) := by decide +kernel
theorem dX11_drains_26 : decode cX11_drains 26 = .ok (.goto 4, 3) := by decide +kernel
theorem dX11_drains_29 : decode cX11_drains 29 = .ok (.iconst 0, 1) := by decide +kernel
theorem dX11_drains_30 : decode cX11_drains 30 = .ok (.iastore, 1) := by decide +kernel
theorem dX11_drains_31 : decode cX11_drains 31 = .ok (.return_, 1) := by decide +kernel
theorem dX11_watches_0 : decode cX11_watches 0 = .ok (.aload_n 0, 1) := by decide +kernel
theorem dX11_watches_1 : decode cX11_watches 1 = .ok (.aload_n 0, 1) := by decide +kernel
theorem dX11_watches_2 : decode cX11_watches 2 = .ok (.getfield 9, 3) := by decide +kernel
theorem dX11_watches_5 : decode cX11_watches 5 = .ok (.iconst 3, 1) := by decide +kernel
theorem dX11_watches_6 : decode cX11_watches 6 = .ok (.iaload, 1) := by decide +kernel
theorem dX11_watches_7 : decode cX11_watches 7 = .ok (.aload_n 0, 1) := by decide +kernel
theorem dX11_watches_8 : decode cX11_watches 8 = .ok (.getfield 9, 3) := by decide +kernel
theorem dX11_watches_11 : decode cX11_watches 11 = .ok (.iconst 4, 1) := by decide +kernel
theorem dX11_watches_12 : decode cX11_watches 12 = .ok (.iaload, 1) := by decide +kernel
theorem dX11_watches_13 : decode cX11_watches 13 = .ok (.aload_n 0, 1) := by decide +kernel
theorem dX11_watches_14 : decode cX11_watches 14 = .ok (.getfield 9, 3) := by decide +kernel
theorem dX11_watches_17 : decode cX11_watches 17 = .ok (.bipush 8, 2) := by decide +kernel
theorem dX11_watches_19 : decode cX11_watches 19 = .ok (.iaload, 1) := by decide +kernel
theorem dX11_watches_20 : decode cX11_watches 20 = .ok (.invokevirtual 129, 3) := by decide +kernel
theorem dX11_watches_23 : decode cX11_watches 23 = .ok (.ifCond .ne 7, 3) := by decide +kernel
theorem dX11_watches_26 : decode cX11_watches 26 = .ok (.iconst 1, 1) := by decide +kernel
theorem dX11_watches_27 : decode cX11_watches 27 = .ok (.goto 4, 3) := by decide +kernel
theorem dX11_watches_30 : decode cX11_watches 30 = .ok (.iconst 0, 1) := by decide +kernel
theorem dX11_watches_31 : decode cX11_watches 31 = .ok (.istore_n 1, 1) := by decide +kernel
theorem dX11_watches_32 : decode cX11_watches 32 = .ok (.iload_n 1, 1) := by decide +kernel
theorem dX11_watches_33 : decode cX11_watches 33 = .ok (.ifCond .eq 28, 3) := by decide +kernel
theorem dX11_watches_36 : decode cX11_watches 36 = .ok (.aload_n 0, 1) := by decide +kernel
theorem dX11_watches_37 : decode cX11_watches 37 = .ok (.getfield 9, 3) := by decide +kernel
theorem dX11_watches_40 : decode cX11_watches 40 = .ok (.iconst 5, 1) := by decide +kernel
theorem dX11_watches_41 : decode cX11_watches 41 = .ok (.iaload, 1) := by decide +kernel
theorem dX11_watches_42 : decode cX11_watches 42 = .ok (.ifCond .ne 19, 3) := by decide +kernel
theorem dX11_watches_45 : decode cX11_watches 45 = .ok (.aload_n 0, 1) := by decide +kernel
theorem dX11_watches_46 : decode cX11_watches 46 = .ok (.getfield 9, 3) := by decide +kernel
theorem dX11_watches_49 : decode cX11_watches 49 = .ok (.bipush 10, 2) := by decide +kernel
theorem dX11_watches_51 : decode cX11_watches 51 = .ok (.dup2, 1) := by decide +kernel
theorem dX11_watches_52 : decode cX11_watches 52 = .ok (.iaload, 1) := by decide +kernel
theorem dX11_watches_53 : decode cX11_watches 53 = .ok (.iconst 1, 1) := by decide +kernel
theorem dX11_watches_54 : decode cX11_watches 54 = .ok (.iadd, 1) := by decide +kernel
theorem dX11_watches_55 : decode cX11_watches 55 = .ok (.iastore, 1) := by decide +kernel
theorem dX11_watches_56 : decode cX11_watches 56 = .ok (.aload_n 0, 1) := by decide +kernel
theorem dX11_watches_57 : decode cX11_watches 57 = .ok (.iconst 5, 1) := by decide +kernel
theorem dX11_watches_58 : decode cX11_watches 58 = .ok (.invokevirtual 132, 3) := by decide +kernel
theorem dX11_watches_61 : decode cX11_watches 61 = .ok (.aload_n 0, 1) := by decide +kernel
theorem dX11_watches_62 : decode cX11_watches 62 = .ok (.getfield 9, 3) := by decide +kernel
theorem dX11_watches_65 : decode cX11_watches 65 = .ok (.iconst 5, 1) := by decide +kernel
theorem dX11_watches_66 : decode cX11_watches 66 = .ok (.iload_n 1, 1) := by decide +kernel
theorem dX11_watches_67 : decode cX11_watches 67 = .ok (.ifCond .eq 7, 3) := by decide +kernel
theorem dX11_watches_70 : decode cX11_watches 70 = .ok (.iconst 1, 1) := by decide +kernel
theorem dX11_watches_71 : decode cX11_watches 71 = .ok (.goto 4, 3) := by decide +kernel
theorem dX11_watches_74 : decode cX11_watches 74 = .ok (.iconst 0, 1) := by decide +kernel
theorem dX11_watches_75 : decode cX11_watches 75 = .ok (.iastore, 1) := by decide +kernel
theorem dX11_watches_76 : decode cX11_watches 76 = .ok (.return_, 1) := by decide +kernel
theorem dX11_updated_0 : decode cX11_updated 0 = .ok (.aload_n 0, 1) := by decide +kernel
theorem dX11_updated_1 : decode cX11_updated 1 = .ok (.iload_n 1, 1) := by decide +kernel
theorem dX11_updated_2 : decode cX11_updated 2 = .ok (.iload_n 2, 1) := by decide +kernel
theorem dX11_updated_3 : decode cX11_updated 3 = .ok (.invokestatic 59, 3) := by decide +kernel
theorem dX11_updated_6 : decode cX11_updated 6 = .ok (.ifCond .ne 7, 3) := by decide +kernel
theorem dX11_updated_9 : decode cX11_updated 9 = .ok (.iconst 1, 1) := by decide +kernel
theorem dX11_updated_10 : decode cX11_updated 10 = .ok (.goto 4, 3) := by decide +kernel
theorem dX11_updated_13 : decode cX11_updated 13 = .ok (.iconst 0, 1) := by decide +kernel
theorem dX11_updated_14 : decode cX11_updated 14 = .ok (.iconst 1, 1) := by decide +kernel
theorem dX11_updated_15 : decode cX11_updated 15 = .ok (.invokevirtual 63, 3) := by decide +kernel
theorem dX11_updated_18 : decode cX11_updated 18 = .ok (.ifCond .ne 46, 3) := by decide +kernel
theorem dX11_updated_21 : decode cX11_updated 21 = .ok (.aload_n 0, 1) := by decide +kernel
theorem dX11_updated_22 : decode cX11_updated 22 = .ok (.aload_n 0, 1) := by decide +kernel
theorem dX11_updated_23 : decode cX11_updated 23 = .ok (.invokevirtual 97, 3) := by decide +kernel
theorem dX11_updated_26 : decode cX11_updated 26 = .ok (.ifCond .ne 7, 3) := by decide +kernel
theorem dX11_updated_29 : decode cX11_updated 29 = .ok (.iconst 1, 1) := by decide +kernel
theorem dX11_updated_30 : decode cX11_updated 30 = .ok (.goto 4, 3) := by decide +kernel
theorem dX11_updated_33 : decode cX11_updated 33 = .ok (.iconst 0, 1) := by decide +kernel
theorem dX11_updated_34 : decode cX11_updated 34 = .ok (.iconst 2, 1) := by decide +kernel
theorem dX11_updated_35 : decode cX11_updated 35 = .ok (.invokevirtual 63, 3) := by decide +kernel
theorem dX11_updated_38 : decode cX11_updated 38 = .ok (.ifCond .ne 26, 3) := by decide +kernel
theorem dX11_updated_41 : decode cX11_updated 41 = .ok (.aload_n 0, 1) := by decide +kernel
theorem dX11_updated_42 : decode cX11_updated 42 = .ok (.aload_n 0, 1) := by decide +kernel
theorem dX11_updated_43 : decode cX11_updated 43 = .ok (.getfield 9, 3) := by decide +kernel
theorem dX11_updated_46 : decode cX11_updated 46 = .ok (.bipush 6, 2) := by decide +kernel
theorem dX11_updated_48 : decode cX11_updated 48 = .ok (.iaload, 1) := by decide +kernel
theorem dX11_updated_49 : decode cX11_updated 49 = .ok (.ifCond .ne 7, 3) := by decide +kernel
theorem dX11_updated_52 : decode cX11_updated 52 = .ok (.iconst 1, 1) := by decide +kernel
theorem dX11_updated_53 : decode cX11_updated 53 = .ok (.goto 4, 3) := by decide +kernel
theorem dX11_updated_56 : decode cX11_updated 56 = .ok (.iconst 0, 1) := by decide +kernel
theorem dX11_updated_57 : decode cX11_updated 57 = .ok (.iconst 3, 1) := by decide +kernel
theorem dX11_updated_58 : decode cX11_updated 58 = .ok (.invokevirtual 63, 3) := by decide +kernel
theorem dX11_updated_61 : decode cX11_updated 61 = .ok (.ifCond .eq 5, 3) := by decide +kernel
theorem dX11_updated_64 : decode cX11_updated 64 = .ok (.iconst 0, 1) := by decide +kernel
theorem dX11_updated_65 : decode cX11_updated 65 = .ok (.ireturn, 1) := by decide +kernel
theorem dX11_updated_66 : decode cX11_updated 66 = .ok (.aload_n 0, 1) := by decide +kernel
theorem dX11_updated_67 : decode cX11_updated 67 = .ok (.getfield 9, 3) := by decide +kernel
theorem dX11_updated_70 : decode cX11_updated 70 = .ok (.iconst 3, 1) := by decide +kernel
theorem dX11_updated_71 : decode cX11_updated 71 = .ok (.iload_n 1, 1) := by decide +kernel
theorem dX11_updated_72 : decode cX11_updated 72 = .ok (.iastore, 1) := by decide +kernel
theorem dX11_updated_73 : decode cX11_updated 73 = .ok (.aload_n 0, 1) := by decide +kernel
theorem dX11_updated_74 : decode cX11_updated 74 = .ok (.getfield 9, 3) := by decide +kernel
theorem dX11_updated_77 : decode cX11_updated 77 = .ok (.iconst 4, 1) := by decide +kernel
theorem dX11_updated_78 : decode cX11_updated 78 = .ok (.iload_n 2, 1) := by decide +kernel
theorem dX11_updated_79 : decode cX11_updated 79 = .ok (.iastore, 1) := by decide +kernel
theorem dX11_updated_80 : decode cX11_updated 80 = .ok (.aload_n 0, 1) := by decide +kernel
theorem dX11_updated_81 : decode cX11_updated 81 = .ok (.getfield 9, 3) := by decide +kernel
theorem dX11_updated_84 : decode cX11_updated 84 = .ok (.bipush 9, 2) := by decide +kernel
theorem dX11_updated_86 : decode cX11_updated 86 = .ok (.dup2, 1) := by decide +kernel
theorem dX11_updated_87 : decode cX11_updated 87 = .ok (.iaload, 1) := by decide +kernel
theorem dX11_updated_88 : decode cX11_updated 88 = .ok (.iconst 1, 1) := by decide +kernel
theorem dX11_updated_89 : decode cX11_updated 89 = .ok (.iadd, 1) := by decide +kernel
theorem dX11_updated_90 : decode cX11_updated 90 = .ok (.iastore, 1) := by decide +kernel
theorem dX11_updated_91 : decode cX11_updated 91 = .ok (.aload_n 0, 1) := by decide +kernel
theorem dX11_updated_92 : decode cX11_updated 92 = .ok (.aload_n 0, 1) := by decide +kernel
theorem dX11_updated_93 : decode cX11_updated 93 = .ok (.getfield 9, 3) := by decide +kernel
theorem dX11_updated_96 : decode cX11_updated 96 = .ok (.bipush 7, 2) := by decide +kernel
theorem dX11_updated_98 : decode cX11_updated 98 = .ok (.iaload, 1) := by decide +kernel
theorem dX11_updated_99 : decode cX11_updated 99 = .ok (.invokestatic 135, 3) := by decide +kernel
theorem dX11_updated_102 : decode cX11_updated 102 = .ok (.invokevirtual 132, 3) := by decide +kernel
theorem dX11_updated_105 : decode cX11_updated 105 = .ok (.aload_n 0, 1) := by decide +kernel
theorem dX11_updated_106 : decode cX11_updated 106 = .ok (.iload_n 1, 1) := by decide +kernel
theorem dX11_updated_107 : decode cX11_updated 107 = .ok (.iload_n 2, 1) := by decide +kernel
theorem dX11_updated_108 : decode cX11_updated 108 = .ok (.invokevirtual 138, 3) := by decide +kernel
theorem dX11_updated_111 : decode cX11_updated 111 = .ok (.istore_n 3, 1) := by decide +kernel
theorem dX11_updated_112 : decode cX11_updated 112 = .ok (.iload_n 3, 1) := by decide +kernel
theorem dX11_updated_113 : decode cX11_updated 113 = .ok (.ifCond .eq 29, 3) := by decide +kernel
theorem dX11_updated_116 : decode cX11_updated 116 = .ok (.aload_n 0, 1) := by decide +kernel
theorem dX11_updated_117 : decode cX11_updated 117 = .ok (.getfield 9, 3) := by decide +kernel
theorem dX11_updated_120 : decode cX11_updated 120 = .ok (.bipush 11, 2) := by decide +kernel
theorem dX11_updated_122 : decode cX11_updated 122 = .ok (.dup2, 1) := by decide +kernel
theorem dX11_updated_123 : decode cX11_updated 123 = .ok (.iaload, 1) := by decide +kernel
theorem dX11_updated_124 : decode cX11_updated 124 = .ok (.iconst 1, 1) := by decide +kernel
theorem dX11_updated_125 : decode cX11_updated 125 = .ok (.iadd, 1) := by decide +kernel
theorem dX11_updated_126 : decode cX11_updated 126 = .ok (.iastore, 1) := by decide +kernel
theorem dX11_updated_127 : decode cX11_updated 127 = .ok (.aload_n 0, 1) := by decide +kernel
theorem dX11_updated_128 : decode cX11_updated 128 = .ok (.iconst 3, 1) := by decide +kernel
theorem dX11_updated_129 : decode cX11_updated 129 = .ok (.invokevirtual 132, 3) := by decide +kernel
theorem dX11_updated_132 : decode cX11_updated 132 = .ok (.aload_n 0, 1) := by decide +kernel
theorem dX11_updated_133 : decode cX11_updated 133 = .ok (.getfield 9, 3) := by decide +kernel
theorem dX11_updated_136 : decode cX11_updated 136 = .ok (.iconst 2, 1) := by decide +kernel
theorem dX11_updated_137 : decode cX11_updated 137 = .ok (.dup2, 1) := by decide +kernel
theorem dX11_updated_138 : decode cX11_updated 138 = .ok (.iaload, 1) := by decide +kernel
theorem dX11_updated_139 : decode cX11_updated 139 = .ok (.iconst 1, 1) := by decide +kernel
theorem dX11_updated_140 : decode cX11_updated 140 = .ok (.iadd, 1) := by decide +kernel
theorem dX11_updated_141 : decode cX11_updated 141 = .ok (.iastore, 1) := by decide +kernel
theorem dX11_updated_142 : decode cX11_updated 142 = .ok (.aload_n 0, 1) := by decide +kernel
theorem dX11_updated_143 : decode cX11_updated 143 = .ok (.getfield 9, 3) := by decide +kernel
theorem dX11_updated_146 : decode cX11_updated 146 = .ok (.iconst 2, 1) := by decide +kernel
theorem dX11_updated_147 : decode cX11_updated 147 = .ok (.iaload, 1) := by decide +kernel
theorem dX11_updated_148 : decode cX11_updated 148 = .ok (.aload_n 0, 1) := by decide +kernel
theorem dX11_updated_149 : decode cX11_updated 149 = .ok (.getfield 9, 3) := by decide +kernel
theorem dX11_updated_152 : decode cX11_updated 152 = .ok (.iconst 1, 1) := by decide +kernel
theorem dX11_updated_153 : decode cX11_updated 153 = .ok (.iaload, 1) := by decide +kernel
theorem dX11_updated_154 : decode cX11_updated 154 = .ok (.if_icmp .ne 10, 3) := by decide +kernel
theorem dX11_updated_157 : decode cX11_updated 157 = .ok (.aload_n 0, 1) := by decide +kernel
theorem dX11_updated_158 : decode cX11_updated 158 = .ok (.invokevirtual 114, 3) := by decide +kernel
theorem dX11_updated_161 : decode cX11_updated 161 = .ok (.goto 7, 3) := by decide +kernel
theorem dX11_updated_164 : decode cX11_updated 164 = .ok (.aload_n 0, 1) := by decide +kernel
theorem dX11_updated_165 : decode cX11_updated 165 = .ok (.invokevirtual 141, 3) := by decide +kernel
theorem dX11_updated_168 : decode cX11_updated 168 = .ok (.iload_n 3, 1) := by decide +kernel
theorem dX11_updated_169 : decode cX11_updated 169 = .ok (.ifCond .eq 7, 3) := by decide +kernel
theorem dX11_updated_172 : decode cX11_updated 172 = .ok (.iconst 1, 1) := by decide +kernel
theorem dX11_updated_173 : decode cX11_updated 173 = .ok (.goto 4, 3) := by decide +kernel
theorem dX11_updated_176 : decode cX11_updated 176 = .ok (.iconst 0, 1) := by decide +kernel
theorem dX11_updated_177 : decode cX11_updated 177 = .ok (.ireturn, 1) := by decide +kernel
theorem dX11_update_0 : decode cX11_update 0 = .ok (.aload_n 0, 1) := by decide +kernel
theorem dX11_update_1 : decode cX11_update 1 = .ok (.invokevirtual 67, 3) := by decide +kernel
theorem dX11_update_4 : decode cX11_update 4 = .ok (.aload_n 0, 1) := by decide +kernel
theorem dX11_update_5 : decode cX11_update 5 = .ok (.aload_n 0, 1) := by decide +kernel
theorem dX11_update_6 : decode cX11_update 6 = .ok (.iload_n 1, 1) := by decide +kernel
theorem dX11_update_7 : decode cX11_update 7 = .ok (.iload_n 2, 1) := by decide +kernel
theorem dX11_update_8 : decode cX11_update 8 = .ok (.invokevirtual 144, 3) := by decide +kernel
theorem dX11_update_11 : decode cX11_update 11 = .ok (.invokevirtual 74, 3) := by decide +kernel
theorem dX11_update_14 : decode cX11_update 14 = .ok (.iconst 1, 1) := by decide +kernel
theorem dX11_update_15 : decode cX11_update 15 = .ok (.if_icmp .ne 7, 3) := by decide +kernel
theorem dX11_update_18 : decode cX11_update 18 = .ok (.iconst 1, 1) := by decide +kernel
theorem dX11_update_19 : decode cX11_update 19 = .ok (.goto 4, 3) := by decide +kernel
theorem dX11_update_22 : decode cX11_update 22 = .ok (.iconst 0, 1) := by decide +kernel
theorem dX11_update_23 : decode cX11_update 23 = .ok (.ireturn, 1) := by decide +kernel
theorem dX11_tells_0 : decode cX11_tells 0 = .ok (.aload_n 0, 1) := by decide +kernel
theorem dX11_tells_1 : decode cX11_tells 1 = .ok (.iload_n 2, 1) := by decide +kernel
theorem dX11_tells_2 : decode cX11_tells 2 = .ok (.iload_n 3, 1) := by decide +kernel
theorem dX11_tells_3 : decode cX11_tells 3 = .ok (.iload 4, 2) := by decide +kernel
theorem dX11_tells_5 : decode cX11_tells 5 = .ok (.invokestatic 51, 3) := by decide +kernel
theorem dX11_tells_8 : decode cX11_tells 8 = .ok (.ifCond .ne 7, 3) := by decide +kernel
theorem dX11_tells_11 : decode cX11_tells 11 = .ok (.iconst 1, 1) := by decide +kernel
theorem dX11_tells_12 : decode cX11_tells 12 = .ok (.goto 4, 3) := by decide +kernel
theorem dX11_tells_15 : decode cX11_tells 15 = .ok (.iconst 0, 1) := by decide +kernel
theorem dX11_tells_16 : decode cX11_tells 16 = .ok (.iconst 1, 1) := by decide +kernel
theorem dX11_tells_17 : decode cX11_tells 17 = .ok (.invokevirtual 63, 3) := by decide +kernel
theorem dX11_tells_20 : decode cX11_tells 20 = .ok (.ifCond .eq 5, 3) := by decide +kernel
theorem dX11_tells_23 : decode cX11_tells 23 = .ok (.iconst 0, 1) := by decide +kernel
theorem dX11_tells_24 : decode cX11_tells 24 = .ok (.ireturn, 1) := by decide +kernel
theorem dX11_tells_25 : decode cX11_tells 25 = .ok (.aload_n 0, 1) := by decide +kernel
theorem dX11_tells_26 : decode cX11_tells 26 = .ok (.getfield 9, 3) := by decide +kernel
theorem dX11_tells_29 : decode cX11_tells 29 = .ok (.iload_n 1, 1) := by decide +kernel
theorem dX11_tells_30 : decode cX11_tells 30 = .ok (.iaload, 1) := by decide +kernel
theorem dX11_tells_31 : decode cX11_tells 31 = .ok (.istore 5, 2) := by decide +kernel
theorem dX11_tells_33 : decode cX11_tells 33 = .ok (.aload_n 0, 1) := by decide +kernel
theorem dX11_tells_34 : decode cX11_tells 34 = .ok (.getfield 9, 3) := by decide +kernel
theorem dX11_tells_37 : decode cX11_tells 37 = .ok (.iload_n 1, 1) := by decide +kernel
theorem dX11_tells_38 : decode cX11_tells 38 = .ok (.iload_n 2, 1) := by decide +kernel
theorem dX11_tells_39 : decode cX11_tells 39 = .ok (.iastore, 1) := by decide +kernel
theorem dX11_tells_40 : decode cX11_tells 40 = .ok (.iload 5, 2) := by decide +kernel
theorem dX11_tells_42 : decode cX11_tells 42 = .ok (.ireturn, 1) := by decide +kernel
theorem dX11_setTolerance_0 : decode cX11_setTolerance 0 = .ok (.aload_n 0, 1) := by decide +kernel
theorem dX11_setTolerance_1 : decode cX11_setTolerance 1 = .ok (.invokevirtual 67, 3) := by decide +kernel
theorem dX11_setTolerance_4 : decode cX11_setTolerance 4 = .ok (.aload_n 0, 1) := by decide +kernel
theorem dX11_setTolerance_5 : decode cX11_setTolerance 5 = .ok (.aload_n 0, 1) := by decide +kernel
theorem dX11_setTolerance_6 : decode cX11_setTolerance 6 = .ok (.bipush 8, 2) := by decide +kernel
theorem dX11_setTolerance_8 : decode cX11_setTolerance 8 = .ok (.iload_n 1, 1) := by decide +kernel
theorem dX11_setTolerance_9 : decode cX11_setTolerance 9 = .ok (.iconst 1, 1) := by decide +kernel
theorem dX11_setTolerance_10 : decode cX11_setTolerance 10 = .ok (.bipush 30, 2) := by decide +kernel
theorem dX11_setTolerance_12 : decode cX11_setTolerance 12 = .ok (.invokevirtual 147, 3) := by decide +kernel
theorem dX11_setTolerance_15 : decode cX11_setTolerance 15 = .ok (.invokevirtual 74, 3) := by decide +kernel
theorem dX11_setTolerance_18 : decode cX11_setTolerance 18 = .ok (.ireturn, 1) := by decide +kernel
theorem dX11_setMode_0 : decode cX11_setMode 0 = .ok (.aload_n 0, 1) := by decide +kernel
theorem dX11_setMode_1 : decode cX11_setMode 1 = .ok (.invokevirtual 67, 3) := by decide +kernel
theorem dX11_setMode_4 : decode cX11_setMode 4 = .ok (.aload_n 0, 1) := by decide +kernel
theorem dX11_setMode_5 : decode cX11_setMode 5 = .ok (.aload_n 0, 1) := by decide +kernel
theorem dX11_setMode_6 : decode cX11_setMode 6 = .ok (.bipush 7, 2) := by decide +kernel
theorem dX11_setMode_8 : decode cX11_setMode 8 = .ok (.iload_n 1, 1) := by decide +kernel
theorem dX11_setMode_9 : decode cX11_setMode 9 = .ok (.iconst 0, 1) := by decide +kernel
theorem dX11_setMode_10 : decode cX11_setMode 10 = .ok (.iconst 2, 1) := by decide +kernel
theorem dX11_setMode_11 : decode cX11_setMode 11 = .ok (.invokevirtual 147, 3) := by decide +kernel
theorem dX11_setMode_14 : decode cX11_setMode 14 = .ok (.invokevirtual 74, 3) := by decide +kernel
theorem dX11_setMode_17 : decode cX11_setMode 17 = .ok (.ireturn, 1) := by decide +kernel
theorem dX11_charges_0 : decode cX11_charges 0 = .ok (.aload_n 0, 1) := by decide +kernel
theorem dX11_charges_1 : decode cX11_charges 1 = .ok (.iload_n 1, 1) := by decide +kernel
theorem dX11_charges_2 : decode cX11_charges 2 = .ok (.iconst 1, 1) := by decide +kernel
theorem dX11_charges_3 : decode cX11_charges 3 = .ok (.sipush 999, 3) := by decide +kernel
theorem dX11_charges_6 : decode cX11_charges 6 = .ok (.invokestatic 51, 3) := by decide +kernel
theorem dX11_charges_9 : decode cX11_charges 9 = .ok (.ifCond .ne 7, 3) := by decide +kernel
theorem dX11_charges_12 : decode cX11_charges 12 = .ok (.iconst 1, 1) := by decide +kernel
theorem dX11_charges_13 : decode cX11_charges 13 = .ok (.goto 4, 3) := by decide +kernel
theorem dX11_charges_16 : decode cX11_charges 16 = .ok (.iconst 0, 1) := by decide +kernel
theorem dX11_charges_17 : decode cX11_charges 17 = .ok (.iconst 1, 1) := by decide +kernel
theorem dX11_charges_18 : decode cX11_charges 18 = .ok (.invokevirtual 63, 3) := by decide +kernel
theorem dX11_charges_21 : decode cX11_charges 21 = .ok (.ifCond .eq 5, 3) := by decide +kernel
theorem dX11_charges_24 : decode cX11_charges 24 = .ok (.iconst 0, 1) := by decide +kernel
theorem dX11_charges_25 : decode cX11_charges 25 = .ok (.ireturn, 1) := by decide +kernel
theorem dX11_charges_26 : decode cX11_charges 26 = .ok (.aload_n 0, 1) := by decide +kernel
theorem dX11_charges_27 : decode cX11_charges 27 = .ok (.getfield 9, 3) := by decide +kernel
theorem dX11_charges_30 : decode cX11_charges 30 = .ok (.bipush 6, 2) := by decide +kernel
theorem dX11_charges_32 : decode cX11_charges 32 = .ok (.aload_n 0, 1) := by decide +kernel
theorem dX11_charges_33 : decode cX11_charges 33 = .ok (.getfield 9, 3) := by decide +kernel
theorem dX11_charges_36 : decode cX11_charges 36 = .ok (.bipush 6, 2) := by decide +kernel
theorem dX11_charges_38 : decode cX11_charges 38 = .ok (.iaload, 1) := by decide +kernel
theorem dX11_charges_39 : decode cX11_charges 39 = .ok (.iload_n 1, 1) := by decide +kernel
theorem dX11_charges_40 : decode cX11_charges 40 = .ok (.iadd, 1) := by decide +kernel
theorem dX11_charges_41 : decode cX11_charges 41 = .ok (.sipush 1000, 3) := by decide +kernel
theorem dX11_charges_44 : decode cX11_charges 44 = .ok (.if_icmp .le 9, 3) := by decide +kernel
theorem dX11_charges_47 : decode cX11_charges 47 = .ok (.sipush 1000, 3) := by decide +kernel
theorem dX11_charges_50 : decode cX11_charges 50 = .ok (.goto 12, 3) := by decide +kernel
theorem dX11_charges_53 : decode cX11_charges 53 = .ok (.aload_n 0, 1) := by decide +kernel
theorem dX11_charges_54 : decode cX11_charges 54 = .ok (.getfield 9, 3) := by decide +kernel
theorem dX11_charges_57 : decode cX11_charges 57 = .ok (.bipush 6, 2) := by decide +kernel
theorem dX11_charges_59 : decode cX11_charges 59 = .ok (.iaload, 1) := by decide +kernel
theorem dX11_charges_60 : decode cX11_charges 60 = .ok (.iload_n 1, 1) := by decide +kernel
theorem dX11_charges_61 : decode cX11_charges 61 = .ok (.iadd, 1) := by decide +kernel
theorem dX11_charges_62 : decode cX11_charges 62 = .ok (.iastore, 1) := by decide +kernel
theorem dX11_charges_63 : decode cX11_charges 63 = .ok (.aload_n 0, 1) := by decide +kernel
theorem dX11_charges_64 : decode cX11_charges 64 = .ok (.getfield 9, 3) := by decide +kernel
theorem dX11_charges_67 : decode cX11_charges 67 = .ok (.bipush 6, 2) := by decide +kernel
theorem dX11_charges_69 : decode cX11_charges 69 = .ok (.iaload, 1) := by decide +kernel
theorem dX11_charges_70 : decode cX11_charges 70 = .ok (.ireturn, 1) := by decide +kernel
theorem dX11_charge_0 : decode cX11_charge 0 = .ok (.aload_n 0, 1) := by decide +kernel
theorem dX11_charge_1 : decode cX11_charge 1 = .ok (.invokevirtual 67, 3) := by decide +kernel
theorem dX11_charge_4 : decode cX11_charge 4 = .ok (.aload_n 0, 1) := by decide +kernel
theorem dX11_charge_5 : decode cX11_charge 5 = .ok (.aload_n 0, 1) := by decide +kernel
theorem dX11_charge_6 : decode cX11_charge 6 = .ok (.iload_n 1, 1) := by decide +kernel
theorem dX11_charge_7 : decode cX11_charge 7 = .ok (.invokevirtual 151, 3) := by decide +kernel
theorem dX11_charge_10 : decode cX11_charge 10 = .ok (.invokevirtual 74, 3) := by decide +kernel
theorem dX11_charge_13 : decode cX11_charge 13 = .ok (.ireturn, 1) := by decide +kernel
theorem dX11_waypoints_0 : decode cX11_waypoints 0 = .ok (.aload_n 0, 1) := by decide +kernel
theorem dX11_waypoints_1 : decode cX11_waypoints 1 = .ok (.iconst 0, 1) := by decide +kernel
theorem dX11_waypoints_2 : decode cX11_waypoints 2 = .ok (.putfield 41, 3) := by decide +kernel
theorem dX11_waypoints_5 : decode cX11_waypoints 5 = .ok (.aload_n 0, 1) := by decide +kernel
theorem dX11_waypoints_6 : decode cX11_waypoints 6 = .ok (.getfield 9, 3) := by decide +kernel
theorem dX11_waypoints_9 : decode cX11_waypoints 9 = .ok (.iconst 0, 1) := by decide +kernel
theorem dX11_waypoints_10 : decode cX11_waypoints 10 = .ok (.iaload, 1) := by decide +kernel
theorem dX11_waypoints_11 : decode cX11_waypoints 11 = .ok (.ireturn, 1) := by decide +kernel
theorem dX11_ofPoint_0 : decode cX11_ofPoint 0 = .ok (.aload_n 0, 1) := by decide +kernel
theorem dX11_ofPoint_1 : decode cX11_ofPoint 1 = .ok (.aload_n 0, 1) := by decide +kernel
theorem dX11_ofPoint_2 : decode cX11_ofPoint 2 = .ok (.iload_n 1, 1) := by decide +kernel
theorem dX11_ofPoint_3 : decode cX11_ofPoint 3 = .ok (.invokevirtual 78, 3) := by decide +kernel
theorem dX11_ofPoint_6 : decode cX11_ofPoint 6 = .ok (.ifCond .ne 7, 3) := by decide +kernel
theorem dX11_ofPoint_9 : decode cX11_ofPoint 9 = .ok (.iconst 1, 1) := by decide +kernel
theorem dX11_ofPoint_10 : decode cX11_ofPoint 10 = .ok (.goto 4, 3) := by decide +kernel
theorem dX11_ofPoint_13 : decode cX11_ofPoint 13 = .ok (.iconst 0, 1) := by decide +kernel
theorem dX11_ofPoint_14 : decode cX11_ofPoint 14 = .ok (.iconst 1, 1) := by decide +kernel
theorem dX11_ofPoint_15 : decode cX11_ofPoint 15 = .ok (.invokevirtual 63, 3) := by decide +kernel
theorem dX11_ofPoint_18 : decode cX11_ofPoint 18 = .ok (.ifCond .eq 7, 3) := by decide +kernel
theorem dX11_ofPoint_21 : decode cX11_ofPoint 21 = .ok (.iconst 0, 1) := by decide +kernel
theorem dX11_ofPoint_22 : decode cX11_ofPoint 22 = .ok (.goto 9, 3) := by decide +kernel
theorem dX11_ofPoint_25 : decode cX11_ofPoint 25 = .ok (.aload_n 0, 1) := by decide +kernel
theorem dX11_ofPoint_26 : decode cX11_ofPoint 26 = .ok (.iload_n 1, 1) := by decide +kernel
theorem dX11_ofPoint_27 : decode cX11_ofPoint 27 = .ok (.iload_n 2, 1) := by decide +kernel
theorem dX11_ofPoint_28 : decode cX11_ofPoint 28 = .ok (.invokevirtual 108, 3) := by decide +kernel
theorem dX11_ofPoint_31 : decode cX11_ofPoint 31 = .ok (.ireturn, 1) := by decide +kernel
theorem dX11_waypointX_0 : decode cX11_waypointX 0 = .ok (.aload_n 0, 1) := by decide +kernel
theorem dX11_waypointX_1 : decode cX11_waypointX 1 = .ok (.iload_n 1, 1) := by decide +kernel
theorem dX11_waypointX_2 : decode cX11_waypointX 2 = .ok (.iconst 0, 1) := by decide +kernel
theorem dX11_waypointX_3 : decode cX11_waypointX 3 = .ok (.invokevirtual 154, 3) := by decide +kernel
theorem dX11_waypointX_6 : decode cX11_waypointX 6 = .ok (.ireturn, 1) := by decide +kernel
theorem dX11_waypointY_0 : decode cX11_waypointY 0 = .ok (.aload_n 0, 1) := by decide +kernel
theorem dX11_waypointY_1 : decode cX11_waypointY 1 = .ok (.iload_n 1, 1) := by decide +kernel
theorem dX11_waypointY_2 : decode cX11_waypointY 2 = .ok (.iconst 1, 1) := by decide +kernel
theorem dX11_waypointY_3 : decode cX11_waypointY 3 = .ok (.invokevirtual 154, 3) := by decide +kernel
theorem dX11_waypointY_6 : decode cX11_waypointY 6 = .ok (.ireturn, 1) := by decide +kernel
theorem dX11_radius_0 : decode cX11_radius 0 = .ok (.aload_n 0, 1) := by decide +kernel
theorem dX11_radius_1 : decode cX11_radius 1 = .ok (.iload_n 1, 1) := by decide +kernel
theorem dX11_radius_2 : decode cX11_radius 2 = .ok (.iconst 2, 1) := by decide +kernel
theorem dX11_radius_3 : decode cX11_radius 3 = .ok (.invokevirtual 154, 3) := by decide +kernel
theorem dX11_radius_6 : decode cX11_radius 6 = .ok (.ireturn, 1) := by decide +kernel
theorem dX11_trails_0 : decode cX11_trails 0 = .ok (.aload_n 0, 1) := by decide +kernel
theorem dX11_trails_1 : decode cX11_trails 1 = .ok (.iconst 0, 1) := by decide +kernel
theorem dX11_trails_2 : decode cX11_trails 2 = .ok (.putfield 41, 3) := by decide +kernel
theorem dX11_trails_5 : decode cX11_trails 5 = .ok (.aload_n 0, 1) := by decide +kernel
theorem dX11_trails_6 : decode cX11_trails 6 = .ok (.invokevirtual 86, 3) := by decide +kernel
theorem dX11_trails_9 : decode cX11_trails 9 = .ok (.ireturn, 1) := by decide +kernel
theorem dX11_hasTrail_0 : decode cX11_hasTrail 0 = .ok (.aload_n 0, 1) := by decide +kernel
theorem dX11_hasTrail_1 : decode cX11_hasTrail 1 = .ok (.aload_n 0, 1) := by decide +kernel
theorem dX11_hasTrail_2 : decode cX11_hasTrail 2 = .ok (.iload_n 1, 1) := by decide +kernel
theorem dX11_hasTrail_3 : decode cX11_hasTrail 3 = .ok (.invokevirtual 78, 3) := by decide +kernel
theorem dX11_hasTrail_6 : decode cX11_hasTrail 6 = .ok (.ifCond .eq 11, 3) := by decide +kernel
theorem dX11_hasTrail_9 : decode cX11_hasTrail 9 = .ok (.aload_n 0, 1) := by decide +kernel
theorem dX11_hasTrail_10 : decode cX11_hasTrail 10 = .ok (.iload_n 2, 1) := by decide +kernel
theorem dX11_hasTrail_11 : decode cX11_hasTrail 11 = .ok (.invokevirtual 78, 3) := by decide +kernel
theorem dX11_hasTrail_14 : decode cX11_hasTrail 14 = .ok (.ifCond .ne 7, 3) := by decide +kernel
theorem dX11_hasTrail_17 : decode cX11_hasTrail 17 = .ok (.iconst 1, 1) := by decide +kernel
theorem dX11_hasTrail_18 : decode cX11_hasTrail 18 = .ok (.goto 4, 3) := by decide +kernel
theorem dX11_hasTrail_21 : decode cX11_hasTrail 21 = .ok (.iconst 0, 1) := by decide +kernel
theorem dX11_hasTrail_22 : decode cX11_hasTrail 22 = .ok (.iconst 1, 1) := by decide +kernel
theorem dX11_hasTrail_23 : decode cX11_hasTrail 23 = .ok (.invokevirtual 63, 3) := by decide +kernel
theorem dX11_hasTrail_26 : decode cX11_hasTrail 26 = .ok (.ifCond .ne 16, 3) := by decide +kernel
theorem dX11_hasTrail_29 : decode cX11_hasTrail 29 = .ok (.aload_n 0, 1) := by decide +kernel
theorem dX11_hasTrail_30 : decode cX11_hasTrail 30 = .ok (.iload_n 1, 1) := by decide +kernel
theorem dX11_hasTrail_31 : decode cX11_hasTrail 31 = .ok (.iload_n 2, 1) := by decide +kernel
theorem dX11_hasTrail_32 : decode cX11_hasTrail 32 = .ok (.invokevirtual 55, 3) := by decide +kernel
theorem dX11_hasTrail_35 : decode cX11_hasTrail 35 = .ok (.ifCond .le 7, 3) := by decide +kernel
theorem dX11_hasTrail_38 : decode cX11_hasTrail 38 = .ok (.iconst 1, 1) := by decide +kernel
theorem dX11_hasTrail_39 : decode cX11_hasTrail 39 = .ok (.goto 4, 3) := by decide +kernel
theorem dX11_hasTrail_42 : decode cX11_hasTrail 42 = .ok (.iconst 0, 1) := by decide +kernel
theorem dX11_hasTrail_43 : decode cX11_hasTrail 43 = .ok (.ireturn, 1) := by decide +kernel
theorem dX11_trailLength_0 : decode cX11_trailLength 0 = .ok (.aload_n 0, 1) := by decide +kernel
theorem dX11_trailLength_1 : decode cX11_trailLength 1 = .ok (.aload_n 0, 1) := by decide +kernel
theorem dX11_trailLength_2 : decode cX11_trailLength 2 = .ok (.iload_n 1, 1) := by decide +kernel
theorem dX11_trailLength_3 : decode cX11_trailLength 3 = .ok (.invokevirtual 78, 3) := by decide +kernel
theorem dX11_trailLength_6 : decode cX11_trailLength 6 = .ok (.ifCond .eq 11, 3) := by decide +kernel
theorem dX11_trailLength_9 : decode cX11_trailLength 9 = .ok (.aload_n 0, 1) := by decide +kernel
theorem dX11_trailLength_10 : decode cX11_trailLength 10 = .ok (.iload_n 2, 1) := by decide +kernel
theorem dX11_trailLength_11 : decode cX11_trailLength 11 = .ok (.invokevirtual 78, 3) := by decide +kernel
theorem dX11_trailLength_14 : decode cX11_trailLength 14 = .ok (.ifCond .ne 7, 3) := by decide +kernel
theorem dX11_trailLength_17 : decode cX11_trailLength 17 = .ok (.iconst 1, 1) := by decide +kernel
theorem dX11_trailLength_18 : decode cX11_trailLength 18 = .ok (.goto 4, 3) := by decide +kernel
theorem dX11_trailLength_21 : decode cX11_trailLength 21 = .ok (.iconst 0, 1) := by decide +kernel
theorem dX11_trailLength_22 : decode cX11_trailLength 22 = .ok (.iconst 1, 1) := by decide +kernel
theorem dX11_trailLength_23 : decode cX11_trailLength 23 = .ok (.invokevirtual 63, 3) := by decide +kernel
theorem dX11_trailLength_26 : decode cX11_trailLength 26 = .ok (.ifCond .ne 25, 3) := by decide +kernel
theorem dX11_trailLength_29 : decode cX11_trailLength 29 = .ok (.aload_n 0, 1) := by decide +kernel
theorem dX11_trailLength_30 : decode cX11_trailLength 30 = .ok (.aload_n 0, 1) := by decide +kernel
theorem dX11_trailLength_31 : decode cX11_trailLength 31 = .ok (.iload_n 1, 1) := by decide +kernel
theorem dX11_trailLength_32 : decode cX11_trailLength 32 = .ok (.iload_n 2, 1) := by decide +kernel
theorem dX11_trailLength_33 : decode cX11_trailLength 33 = .ok (.invokevirtual 55, 3) := by decide +kernel
theorem dX11_trailLength_36 : decode cX11_trailLength 36 = .ok (.ifCond .ne 7, 3) := by decide +kernel
theorem dX11_trailLength_39 : decode cX11_trailLength 39 = .ok (.iconst 1, 1) := by decide +kernel
theorem dX11_trailLength_40 : decode cX11_trailLength 40 = .ok (.goto 4, 3) := by decide +kernel
theorem dX11_trailLength_43 : decode cX11_trailLength 43 = .ok (.iconst 0, 1) := by decide +kernel
theorem dX11_trailLength_44 : decode cX11_trailLength 44 = .ok (.iconst 2, 1) := by decide +kernel
theorem dX11_trailLength_45 : decode cX11_trailLength 45 = .ok (.invokevirtual 63, 3) := by decide +kernel
theorem dX11_trailLength_48 : decode cX11_trailLength 48 = .ok (.ifCond .eq 7, 3) := by decide +kernel
theorem dX11_trailLength_51 : decode cX11_trailLength 51 = .ok (.iconst 0, 1) := by decide +kernel
theorem dX11_trailLength_52 : decode cX11_trailLength 52 = .ok (.goto 9, 3) := by decide +kernel
theorem dX11_trailLength_55 : decode cX11_trailLength 55 = .ok (.aload_n 0, 1) := by decide +kernel
theorem dX11_trailLength_56 : decode cX11_trailLength 56 = .ok (.iload_n 1, 1) := by decide +kernel
theorem dX11_trailLength_57 : decode cX11_trailLength 57 = .ok (.iload_n 2, 1) := by decide +kernel
theorem dX11_trailLength_58 : decode cX11_trailLength 58 = .ok (.invokevirtual 55, 3) := by decide +kernel
theorem dX11_trailLength_61 : decode cX11_trailLength 61 = .ok (.ireturn, 1) := by decide +kernel
theorem dX11_distance_0 : decode cX11_distance 0 = .ok (.aload_n 0, 1) := by decide +kernel
theorem dX11_distance_1 : decode cX11_distance 1 = .ok (.aload_n 0, 1) := by decide +kernel
theorem dX11_distance_2 : decode cX11_distance 2 = .ok (.iload_n 1, 1) := by decide +kernel
theorem dX11_distance_3 : decode cX11_distance 3 = .ok (.invokevirtual 78, 3) := by decide +kernel
theorem dX11_distance_6 : decode cX11_distance 6 = .ok (.ifCond .eq 11, 3) := by decide +kernel
theorem dX11_distance_9 : decode cX11_distance 9 = .ok (.aload_n 0, 1) := by decide +kernel
theorem dX11_distance_10 : decode cX11_distance 10 = .ok (.iload_n 2, 1) := by decide +kernel
theorem dX11_distance_11 : decode cX11_distance 11 = .ok (.invokevirtual 78, 3) := by decide +kernel
theorem dX11_distance_14 : decode cX11_distance 14 = .ok (.ifCond .ne 7, 3) := by decide +kernel
theorem dX11_distance_17 : decode cX11_distance 17 = .ok (.iconst 1, 1) := by decide +kernel
theorem dX11_distance_18 : decode cX11_distance 18 = .ok (.goto 4, 3) := by decide +kernel
theorem dX11_distance_21 : decode cX11_distance 21 = .ok (.iconst 0, 1) := by decide +kernel
theorem dX11_distance_22 : decode cX11_distance 22 = .ok (.iconst 1, 1) := by decide +kernel
theorem dX11_distance_23 : decode cX11_distance 23 = .ok (.invokevirtual 63, 3) := by decide +kernel
theorem dX11_distance_26 : decode cX11_distance 26 = .ok (.ifCond .eq 5, 3) := by decide +kernel
theorem dX11_distance_29 : decode cX11_distance 29 = .ok (.iconst 0, 1) := by decide +kernel
theorem dX11_distance_30 : decode cX11_distance 30 = .ok (.ireturn, 1) := by decide +kernel
theorem dX11_distance_31 : decode cX11_distance 31 = .ok (.aload_n 0, 1) := by decide +kernel
theorem dX11_distance_32 : decode cX11_distance 32 = .ok (.iload_n 1, 1) := by decide +kernel
theorem dX11_distance_33 : decode cX11_distance 33 = .ok (.invokevirtual 101, 3) := by decide +kernel
theorem dX11_distance_36 : decode cX11_distance 36 = .ok (.aload_n 0, 1) := by decide +kernel
theorem dX11_distance_37 : decode cX11_distance 37 = .ok (.aload_n 0, 1) := by decide +kernel
theorem dX11_distance_38 : decode cX11_distance 38 = .ok (.getfield 22, 3) := by decide +kernel
theorem dX11_distance_41 : decode cX11_distance 41 = .ok (.iload_n 2, 1) := by decide +kernel
theorem dX11_distance_42 : decode cX11_distance 42 = .ok (.iaload, 1) := by decide +kernel
theorem dX11_distance_43 : decode cX11_distance 43 = .ok (.ldc 96, 2) := by decide +kernel
theorem dX11_distance_45 : decode cX11_distance 45 = .ok (.if_icmp .lt 7, 3) := by decide +kernel
theorem dX11_distance_48 : decode cX11_distance 48 = .ok (.iconst 1, 1) := by decide +kernel
theorem dX11_distance_49 : decode cX11_distance 49 = .ok (.goto 4, 3) := by decide +kernel
theorem dX11_distance_52 : decode cX11_distance 52 = .ok (.iconst 0, 1) := by decide +kernel
theorem dX11_distance_53 : decode cX11_distance 53 = .ok (.iconst 2, 1) := by decide +kernel
theorem dX11_distance_54 : decode cX11_distance 54 = .ok (.invokevirtual 63, 3) := by decide +kernel
theorem dX11_distance_57 : decode cX11_distance 57 = .ok (.ifCond .eq 7, 3) := by decide +kernel
theorem dX11_distance_60 : decode cX11_distance 60 = .ok (.iconst 0, 1) := by decide +kernel
theorem dX11_distance_61 : decode cX11_distance 61 = .ok (.goto 9, 3) := by decide +kernel
theorem dX11_distance_64 : decode cX11_distance 64 = .ok (.aload_n 0, 1) := by decide +kernel
theorem dX11_distance_65 : decode cX11_distance 65 = .ok (.getfield 22, 3) := by decide +kernel
theorem dX11_distance_68 : decode cX11_distance 68 = .ok (.iload_n 2, 1) := by decide +kernel
theorem dX11_distance_69 : decode cX11_distance 69 = .ok (.iaload, 1) := by decide +kernel
theorem dX11_distance_70 : decode cX11_distance 70 = .ok (.ireturn, 1) := by decide +kernel
theorem dX11_distanceByRelaxation_0 : decode cX11_distanceByRelaxation 0 = .ok (.aload_n 0, 1) := by decide +kernel
theorem dX11_distanceByRelaxation_1 : decode cX11_distanceByRelaxation 1 = .ok (.iload_n 1, 1) := by decide +kernel
theorem dX11_distanceByRelaxation_2 : decode cX11_distanceByRelaxation 2 = .ok (.iload_n 2, 1) := by decide +kernel
theorem dX11_distanceByRelaxation_3 : decode cX11_distanceByRelaxation 3 = .ok (.invokevirtual 157, 3) := by decide +kernel
theorem dX11_distanceByRelaxation_6 : decode cX11_distanceByRelaxation 6 = .ok (.ireturn, 1) := by decide +kernel
theorem dX11_components_0 : decode cX11_components 0 = .ok (.aload_n 0, 1) := by decide +kernel
theorem dX11_components_1 : decode cX11_components 1 = .ok (.iconst 0, 1) := by decide +kernel
theorem dX11_components_2 : decode cX11_components 2 = .ok (.putfield 41, 3) := by decide +kernel
theorem dX11_components_5 : decode cX11_components 5 = .ok (.iconst 0, 1) := by decide +kernel
theorem dX11_components_6 : decode cX11_components 6 = .ok (.istore_n 1, 1) := by decide +kernel
theorem dX11_components_7 : decode cX11_components 7 = .ok (.iconst 0, 1) := by decide +kernel
theorem dX11_components_8 : decode cX11_components 8 = .ok (.istore_n 2, 1) := by decide +kernel
theorem dX11_components_9 : decode cX11_components 9 = .ok (.iload_n 2, 1) := by decide +kernel
theorem dX11_components_10 : decode cX11_components 10 = .ok (.aload_n 0, 1) := by decide +kernel
theorem dX11_components_11 : decode cX11_components 11 = .ok (.getfield 9, 3) := by decide +kernel
theorem dX11_components_14 : decode cX11_components 14 = .ok (.iconst 0, 1) := by decide +kernel
theorem dX11_components_15 : decode cX11_components 15 = .ok (.iaload, 1) := by decide +kernel
theorem dX11_components_16 : decode cX11_components 16 = .ok (.if_icmp .ge 63, 3) := by decide +kernel
theorem dX11_components_19 : decode cX11_components 19 = .ok (.aload_n 0, 1) := by decide +kernel
theorem dX11_components_20 : decode cX11_components 20 = .ok (.iload_n 2, 1) := by decide +kernel
theorem dX11_components_21 : decode cX11_components 21 = .ok (.invokevirtual 101, 3) := by decide +kernel
theorem dX11_components_24 : decode cX11_components 24 = .ok (.iconst 1, 1) := by decide +kernel
theorem dX11_components_25 : decode cX11_components 25 = .ok (.istore_n 3, 1) := by decide +kernel
theorem dX11_components_26 : decode cX11_components 26 = .ok (.iconst 0, 1) := by decide +kernel
theorem dX11_components_27 : decode cX11_components 27 = .ok (.istore 4, 2) := by decide +kernel
theorem dX11_components_29 : decode cX11_components 29 = .ok (.iload 4, 2) := by decide +kernel
theorem dX11_components_31 : decode cX11_components 31 = .ok (.iload_n 2, 1) := by decide +kernel
theorem dX11_components_32 : decode cX11_components 32 = .ok (.if_icmp .ge 29, 3) := by decide +kernel
theorem dX11_components_35 : decode cX11_components 35 = .ok (.iload_n 3, 1) := by decide +kernel
theorem dX11_components_36 : decode cX11_components 36 = .ok (.aload_n 0, 1) := by decide +kernel
theorem dX11_components_37 : decode cX11_components 37 = .ok (.getfield 22, 3) := by decide +kernel
theorem dX11_components_40 : decode cX11_components 40 = .ok (.iload 4, 2) := by decide +kernel
theorem dX11_components_42 : decode cX11_components 42 = .ok (.iaload, 1) := by decide +kernel
theorem dX11_components_43 : decode cX11_components 43 = .ok (.ldc 96, 2) := by decide +kernel
theorem dX11_components_45 : decode cX11_components 45 = .ok (.if_icmp .lt 7, 3) := by decide +kernel
theorem dX11_components_48 : decode cX11_components 48 = .ok (.iconst 1, 1) := by decide +kernel
theorem dX11_components_49 : decode cX11_components 49 = .ok (.goto 4, 3) := by decide +kernel
theorem dX11_components_52 : decode cX11_components 52 = .ok (.iconst 0, 1) := by decide +kernel
theorem dX11_components_53 : decode cX11_components 53 = .ok (.iand, 1) := by decide +kernel
theorem dX11_components_54 : decode cX11_components 54 = .ok (.istore_n 3, 1) := by decide +kernel
theorem dX11_components_55 : decode cX11_components 55 = .ok (.iinc 4 1, 3) := by decide +kernel
theorem dX11_components_58 : decode cX11_components 58 = .ok (.goto (-29), 3) := by decide +kernel
theorem dX11_components_61 : decode cX11_components 61 = .ok (.iload_n 1, 1) := by decide +kernel
theorem dX11_components_62 : decode cX11_components 62 = .ok (.iload_n 3, 1) := by decide +kernel
theorem dX11_components_63 : decode cX11_components 63 = .ok (.ifCond .eq 7, 3) := by decide +kernel
theorem dX11_components_66 : decode cX11_components 66 = .ok (.iconst 1, 1) := by decide +kernel
theorem dX11_components_67 : decode cX11_components 67 = .ok (.goto 4, 3) := by decide +kernel
theorem dX11_components_70 : decode cX11_components 70 = .ok (.iconst 0, 1) := by decide +kernel
theorem dX11_components_71 : decode cX11_components 71 = .ok (.iadd, 1) := by decide +kernel
theorem dX11_components_72 : decode cX11_components 72 = .ok (.istore_n 1, 1) := by decide +kernel
theorem dX11_components_73 : decode cX11_components 73 = .ok (.iinc 2 1, 3) := by decide +kernel
theorem dX11_components_76 : decode cX11_components 76 = .ok (.goto (-67), 3) := by decide +kernel
theorem dX11_components_79 : decode cX11_components 79 = .ok (.iload_n 1, 1) := by decide +kernel
theorem dX11_components_80 : decode cX11_components 80 = .ok (.ireturn, 1) := by decide +kernel
theorem dX11_componentsByMerging_0 : decode cX11_componentsByMerging 0 = .ok (.aload_n 0, 1) := by decide +kernel
theorem dX11_componentsByMerging_1 : decode cX11_componentsByMerging 1 = .ok (.invokevirtual 160, 3) := by decide +kernel
theorem dX11_componentsByMerging_4 : decode cX11_componentsByMerging 4 = .ok (.ireturn, 1) := by decide +kernel
theorem dX11_away_0 : decode cX11_away 0 = .ok (.iload_n 2, 1) := by decide +kernel
theorem dX11_away_1 : decode cX11_away 1 = .ok (.aload_n 0, 1) := by decide +kernel
theorem dX11_away_2 : decode cX11_away 2 = .ok (.iload_n 1, 1) := by decide +kernel
theorem dX11_away_3 : decode cX11_away 3 = .ok (.iconst 0, 1) := by decide +kernel
theorem dX11_away_4 : decode cX11_away 4 = .ok (.invokevirtual 108, 3) := by decide +kernel
theorem dX11_away_7 : decode cX11_away 7 = .ok (.isub, 1) := by decide +kernel
theorem dX11_away_8 : decode cX11_away 8 = .ok (.iload_n 3, 1) := by decide +kernel
theorem dX11_away_9 : decode cX11_away 9 = .ok (.aload_n 0, 1) := by decide +kernel
theorem dX11_away_10 : decode cX11_away 10 = .ok (.iload_n 1, 1) := by decide +kernel
theorem dX11_away_11 : decode cX11_away 11 = .ok (.iconst 1, 1) := by decide +kernel
theorem dX11_away_12 : decode cX11_away 12 = .ok (.invokevirtual 108, 3) := by decide +kernel
theorem dX11_away_15 : decode cX11_away 15 = .ok (.isub, 1) := by decide +kernel
theorem dX11_away_16 : decode cX11_away 16 = .ok (.invokestatic 123, 3) := by decide +kernel
theorem dX11_away_19 : decode cX11_away 19 = .ok (.ireturn, 1) := by decide +kernel
theorem dX11_nearest_0 : decode cX11_nearest 0 = .ok (.aload_n 0, 1) := by decide +kernel
theorem dX11_nearest_1 : decode cX11_nearest 1 = .ok (.iload_n 1, 1) := by decide +kernel
theorem dX11_nearest_2 : decode cX11_nearest 2 = .ok (.iload_n 2, 1) := by decide +kernel
theorem dX11_nearest_3 : decode cX11_nearest 3 = .ok (.invokestatic 59, 3) := by decide +kernel
theorem dX11_nearest_6 : decode cX11_nearest 6 = .ok (.ifCond .ne 7, 3) := by decide +kernel
theorem dX11_nearest_9 : decode cX11_nearest 9 = .ok (.iconst 1, 1) := by decide +kernel
theorem dX11_nearest_10 : decode cX11_nearest 10 = .ok (.goto 4, 3) := by decide +kernel
theorem dX11_nearest_13 : decode cX11_nearest 13 = .ok (.iconst 0, 1) := by decide +kernel
theorem dX11_nearest_14 : decode cX11_nearest 14 = .ok (.iconst 1, 1) := by decide +kernel
theorem dX11_nearest_15 : decode cX11_nearest 15 = .ok (.invokevirtual 63, 3) := by decide +kernel
theorem dX11_nearest_18 : decode cX11_nearest 18 = .ok (.ifCond .ne 25, 3) := by decide +kernel
theorem dX11_nearest_21 : decode cX11_nearest 21 = .ok (.aload_n 0, 1) := by decide +kernel
theorem dX11_nearest_22 : decode cX11_nearest 22 = .ok (.aload_n 0, 1) := by decide +kernel
theorem dX11_nearest_23 : decode cX11_nearest 23 = .ok (.getfield 9, 3) := by decide +kernel
theorem dX11_nearest_26 : decode cX11_nearest 26 = .ok (.iconst 0, 1) := by decide +kernel
theorem dX11_nearest_27 : decode cX11_nearest 27 = .ok (.iaload, 1) := by decide +kernel
theorem dX11_nearest_28 : decode cX11_nearest 28 = .ok (.ifCond .ne 7, 3) := by decide +kernel
theorem dX11_nearest_31 : decode cX11_nearest 31 = .ok (.iconst 1, 1) := by decide +kernel
theorem dX11_nearest_32 : decode cX11_nearest 32 = .ok (.goto 4, 3) := by decide +kernel
theorem dX11_nearest_35 : decode cX11_nearest 35 = .ok (.iconst 0, 1) := by decide +kernel
theorem dX11_nearest_36 : decode cX11_nearest 36 = .ok (.iconst 2, 1) := by decide +kernel
theorem dX11_nearest_37 : decode cX11_nearest 37 = .ok (.invokevirtual 63, 3) := by decide +kernel
theorem dX11_nearest_40 : decode cX11_nearest 40 = .ok (.ifCond .eq 5, 3) := by decide +kernel
theorem dX11_nearest_43 : decode cX11_nearest 43 = .ok (.iconst 0, 1) := by decide +kernel
theorem dX11_nearest_44 : decode cX11_nearest 44 = .ok (.ireturn, 1) := by decide +kernel
theorem dX11_nearest_45 : decode cX11_nearest 45 = .ok (.iconst 0, 1) := by decide +kernel
theorem dX11_nearest_46 : decode cX11_nearest 46 = .ok (.istore_n 3, 1) := by decide +kernel
theorem dX11_nearest_47 : decode cX11_nearest 47 = .ok (.iconst 1, 1) := by decide +kernel
theorem dX11_nearest_48 : decode cX11_nearest 48 = .ok (.istore 4, 2) := by decide +kernel
theorem dX11_nearest_50 : decode cX11_nearest 50 = .ok (.iload 4, 2) := by decide +kernel
theorem dX11_nearest_52 : decode cX11_nearest 52 = .ok (.aload_n 0, 1) := by decide +kernel
theorem dX11_nearest_53 : decode cX11_nearest 53 = .ok (.getfield 9, 3) := by decide +kernel
theorem dX11_nearest_56 : decode cX11_nearest 56 = .ok (.iconst 0, 1) := by decide +kernel
theorem dX11_nearest_57 : decode cX11_nearest 57 = .ok (.iaload, 1) := by decide +kernel
theorem dX11_nearest_58 : decode cX11_nearest 58 = .ok (.if_icmp .ge 34, 3) := by decide +kernel
theorem dX11_nearest_61 : decode cX11_nearest 61 = .ok (.aload_n 0, 1) := by decide +kernel
theorem dX11_nearest_62 : decode cX11_nearest 62 = .ok (.iload 4, 2) := by decide +kernel
theorem dX11_nearest_64 : decode cX11_nearest 64 = .ok (.iload_n 1, 1) := by decide +kernel
theorem dX11_nearest_65 : decode cX11_nearest 65 = .ok (.iload_n 2, 1) := by decide +kernel
theorem dX11_nearest_66 : decode cX11_nearest 66 = .ok (.invokevirtual 163, 3) := by decide +kernel
theorem dX11_nearest_69 : decode cX11_nearest 69 = .ok (.aload_n 0, 1) := by decide +kernel
theorem dX11_nearest_70 : decode cX11_nearest 70 = .ok (.iload_n 3, 1) := by decide +kernel
theorem dX11_nearest_71 : decode cX11_nearest 71 = .ok (.iload_n 1, 1) := by decide +kernel
theorem dX11_nearest_72 : decode cX11_nearest 72 = .ok (.iload_n 2, 1) := by decide +kernel
theorem dX11_nearest_73 : decode cX11_nearest 73 = .ok (.invokevirtual 163, 3) := by decide +kernel
theorem dX11_nearest_76 : decode cX11_nearest 76 = .ok (.if_icmp .ge 8, 3) := by decide +kernel
theorem dX11_nearest_79 : decode cX11_nearest 79 = .ok (.iload 4, 2) := by decide +kernel
theorem dX11_nearest_81 : decode cX11_nearest 81 = .ok (.goto 4, 3) := by decide +kernel
theorem dX11_nearest_84 : decode cX11_nearest 84 = .ok (.iload_n 3, 1) := by decide +kernel
theorem dX11_nearest_85 : decode cX11_nearest 85 = .ok (.istore_n 3, 1) := by decide +kernel
theorem dX11_nearest_86 : decode cX11_nearest 86 = .ok (.iinc 4 1, 3) := by decide +kernel
theorem dX11_nearest_89 : decode cX11_nearest 89 = .ok (.goto (-39), 3) := by decide +kernel
theorem dX11_nearest_92 : decode cX11_nearest 92 = .ok (.iload_n 3, 1) := by decide +kernel
theorem dX11_nearest_93 : decode cX11_nearest 93 = .ok (.ireturn, 1) := by decide +kernel
theorem dX11_isTouring_0 : decode cX11_isTouring 0 = .ok (.aload_n 0, 1) := by decide +kernel
theorem dX11_isTouring_1 : decode cX11_isTouring 1 = .ok (.iconst 0, 1) := by decide +kernel
theorem dX11_isTouring_2 : decode cX11_isTouring 2 = .ok (.putfield 41, 3) := by decide +kernel
theorem dX11_isTouring_5 : decode cX11_isTouring 5 = .ok (.aload_n 0, 1) := by decide +kernel
theorem dX11_isTouring_6 : decode cX11_isTouring 6 = .ok (.invokevirtual 97, 3) := by decide +kernel
theorem dX11_isTouring_9 : decode cX11_isTouring 9 = .ok (.ireturn, 1) := by decide +kernel
theorem dX11_ofTour_0 : decode cX11_ofTour 0 = .ok (.aload_n 0, 1) := by decide +kernel
theorem dX11_ofTour_1 : decode cX11_ofTour 1 = .ok (.aload_n 0, 1) := by decide +kernel
theorem dX11_ofTour_2 : decode cX11_ofTour 2 = .ok (.invokevirtual 97, 3) := by decide +kernel
theorem dX11_ofTour_5 : decode cX11_ofTour 5 = .ok (.ifCond .ne 7, 3) := by decide +kernel
theorem dX11_ofTour_8 : decode cX11_ofTour 8 = .ok (.iconst 1, 1) := by decide +kernel
theorem dX11_ofTour_9 : decode cX11_ofTour 9 = .ok (.goto 4, 3) := by decide +kernel
theorem dX11_ofTour_12 : decode cX11_ofTour 12 = .ok (.iconst 0, 1) := by decide +kernel
theorem dX11_ofTour_13 : decode cX11_ofTour 13 = .ok (.iconst 1, 1) := by decide +kernel
theorem dX11_ofTour_14 : decode cX11_ofTour 14 = .ok (.invokevirtual 63, 3) := by decide +kernel
theorem dX11_ofTour_17 : decode cX11_ofTour 17 = .ok (.ifCond .eq 7, 3) := by decide +kernel
theorem dX11_ofTour_20 : decode cX11_ofTour 20 = .ok (.iconst 0, 1) := by decide +kernel
theorem dX11_ofTour_21 : decode cX11_ofTour 21 = .ok (.goto 4, 3) := by decide +kernel
theorem dX11_ofTour_24 : decode cX11_ofTour 24 = .ok (.iload_n 1, 1) := by decide +kernel
theorem dX11_ofTour_25 : decode cX11_ofTour 25 = .ok (.ireturn, 1) := by decide +kernel
theorem dX11_routeLength_0 : decode cX11_routeLength 0 = .ok (.aload_n 0, 1) := by decide +kernel
theorem dX11_routeLength_1 : decode cX11_routeLength 1 = .ok (.aload_n 0, 1) := by decide +kernel
theorem dX11_routeLength_2 : decode cX11_routeLength 2 = .ok (.getfield 9, 3) := by decide +kernel
theorem dX11_routeLength_5 : decode cX11_routeLength 5 = .ok (.iconst 1, 1) := by decide +kernel
theorem dX11_routeLength_6 : decode cX11_routeLength 6 = .ok (.iaload, 1) := by decide +kernel
theorem dX11_routeLength_7 : decode cX11_routeLength 7 = .ok (.invokevirtual 166, 3) := by decide +kernel
theorem dX11_routeLength_10 : decode cX11_routeLength 10 = .ok (.ireturn, 1) := by decide +kernel
theorem dX11_isNoIndex_0 : decode cX11_isNoIndex 0 = .ok (.aload_n 0, 1) := by decide +kernel
theorem dX11_isNoIndex_1 : decode cX11_isNoIndex 1 = .ok (.aload_n 0, 1) := by decide +kernel
theorem dX11_isNoIndex_2 : decode cX11_isNoIndex 2 = .ok (.invokevirtual 97, 3) := by decide +kernel
theorem dX11_isNoIndex_5 : decode cX11_isNoIndex 5 = .ok (.ifCond .ne 7, 3) := by decide +kernel
theorem dX11_isNoIndex_8 : decode cX11_isNoIndex 8 = .ok (.iconst 1, 1) := by decide +kernel
theorem dX11_isNoIndex_9 : decode cX11_isNoIndex 9 = .ok (.goto 4, 3) := by decide +kernel
theorem dX11_isNoIndex_12 : decode cX11_isNoIndex 12 = .ok (.iconst 0, 1) := by decide +kernel
theorem dX11_isNoIndex_13 : decode cX11_isNoIndex 13 = .ok (.iconst 1, 1) := by decide +kernel
theorem dX11_isNoIndex_14 : decode cX11_isNoIndex 14 = .ok (.invokevirtual 63, 3) := by decide +kernel
theorem dX11_isNoIndex_17 : decode cX11_isNoIndex 17 = .ok (.ifCond .ne 32, 3) := by decide +kernel
theorem dX11_isNoIndex_20 : decode cX11_isNoIndex 20 = .ok (.aload_n 0, 1) := by decide +kernel
theorem dX11_isNoIndex_21 : decode cX11_isNoIndex 21 = .ok (.iload_n 1, 1) := by decide +kernel
theorem dX11_isNoIndex_22 : decode cX11_isNoIndex 22 = .ok (.iconst 0, 1) := by decide +kernel
theorem dX11_isNoIndex_23 : decode cX11_isNoIndex 23 = .ok (.aload_n 0, 1) := by decide +kernel
theorem dX11_isNoIndex_24 : decode cX11_isNoIndex 24 = .ok (.getfield 9, 3) := by decide +kernel
theorem dX11_isNoIndex_27 : decode cX11_isNoIndex 27 = .ok (.iconst 1, 1) := by decide +kernel
theorem dX11_isNoIndex_28 : decode cX11_isNoIndex 28 = .ok (.iaload, 1) := by decide +kernel
theorem dX11_isNoIndex_29 : decode cX11_isNoIndex 29 = .ok (.iconst 1, 1) := by decide +kernel
theorem dX11_isNoIndex_30 : decode cX11_isNoIndex 30 = .ok (.isub, 1) := by decide +kernel
theorem dX11_isNoIndex_31 : decode cX11_isNoIndex 31 = .ok (.invokestatic 51, 3) := by decide +kernel
theorem dX11_isNoIndex_34 : decode cX11_isNoIndex 34 = .ok (.ifCond .ne 7, 3) := by decide +kernel
theorem dX11_isNoIndex_37 : decode cX11_isNoIndex 37 = .ok (.iconst 1, 1) := by decide +kernel
theorem dX11_isNoIndex_38 : decode cX11_isNoIndex 38 = .ok (.goto 4, 3) := by decide +kernel
theorem dX11_isNoIndex_41 : decode cX11_isNoIndex 41 = .ok (.iconst 0, 1) := by decide +kernel
theorem dX11_isNoIndex_42 : decode cX11_isNoIndex 42 = .ok (.iconst 2, 1) := by decide +kernel
theorem dX11_isNoIndex_43 : decode cX11_isNoIndex 43 = .ok (.invokevirtual 63, 3) := by decide +kernel
theorem dX11_isNoIndex_46 : decode cX11_isNoIndex 46 = .ok (.ifCond .eq 7, 3) := by decide +kernel
theorem dX11_isNoIndex_49 : decode cX11_isNoIndex 49 = .ok (.iconst 1, 1) := by decide +kernel
theorem dX11_isNoIndex_50 : decode cX11_isNoIndex 50 = .ok (.goto 4, 3) := by decide +kernel
theorem dX11_isNoIndex_53 : decode cX11_isNoIndex 53 = .ok (.iconst 0, 1) := by decide +kernel
theorem dX11_isNoIndex_54 : decode cX11_isNoIndex 54 = .ok (.ireturn, 1) := by decide +kernel
theorem dX11_routeWaypoint_0 : decode cX11_routeWaypoint 0 = .ok (.aload_n 0, 1) := by decide +kernel
theorem dX11_routeWaypoint_1 : decode cX11_routeWaypoint 1 = .ok (.iload_n 1, 1) := by decide +kernel
theorem dX11_routeWaypoint_2 : decode cX11_routeWaypoint 2 = .ok (.invokevirtual 169, 3) := by decide +kernel
theorem dX11_routeWaypoint_5 : decode cX11_routeWaypoint 5 = .ok (.ifCond .eq 7, 3) := by decide +kernel
theorem dX11_routeWaypoint_8 : decode cX11_routeWaypoint 8 = .ok (.iconst 0, 1) := by decide +kernel
theorem dX11_routeWaypoint_9 : decode cX11_routeWaypoint 9 = .ok (.goto 13, 3) := by decide +kernel
theorem dX11_routeWaypoint_12 : decode cX11_routeWaypoint 12 = .ok (.aload_n 0, 1) := by decide +kernel
theorem dX11_routeWaypoint_13 : decode cX11_routeWaypoint 13 = .ok (.getfield 9, 3) := by decide +kernel
theorem dX11_routeWaypoint_16 : decode cX11_routeWaypoint 16 = .ok (.sipush 192, 3) := by decide +kernel
theorem dX11_routeWaypoint_19 : decode cX11_routeWaypoint 19 = .ok (.iload_n 1, 1) := by decide +kernel
theorem dX11_routeWaypoint_20 : decode cX11_routeWaypoint 20 = .ok (.iadd, 1) := by decide +kernel
theorem dX11_routeWaypoint_21 : decode cX11_routeWaypoint 21 = .ok (.iaload, 1) := by decide +kernel
theorem dX11_routeWaypoint_22 : decode cX11_routeWaypoint 22 = .ok (.ireturn, 1) := by decide +kernel
theorem dX11_turnAt_0 : decode cX11_turnAt 0 = .ok (.aload_n 0, 1) := by decide +kernel
theorem dX11_turnAt_1 : decode cX11_turnAt 1 = .ok (.getfield 9, 3) := by decide +kernel
theorem dX11_turnAt_4 : decode cX11_turnAt 4 = .ok (.sipush 192, 3) := by decide +kernel
theorem dX11_turnAt_7 : decode cX11_turnAt 7 = .ok (.iload_n 1, 1) := by decide +kernel
theorem dX11_turnAt_8 : decode cX11_turnAt 8 = .ok (.iadd, 1) := by decide +kernel
theorem dX11_turnAt_9 : decode cX11_turnAt 9 = .ok (.iconst 1, 1) := by decide +kernel
theorem dX11_turnAt_10 : decode cX11_turnAt 10 = .ok (.isub, 1) := by decide +kernel
theorem dX11_turnAt_11 : decode cX11_turnAt 11 = .ok (.iaload, 1) := by decide +kernel
theorem dX11_turnAt_12 : decode cX11_turnAt 12 = .ok (.istore_n 2, 1) := by decide +kernel
theorem dX11_turnAt_13 : decode cX11_turnAt 13 = .ok (.aload_n 0, 1) := by decide +kernel
theorem dX11_turnAt_14 : decode cX11_turnAt 14 = .ok (.getfield 9, 3) := by decide +kernel
theorem dX11_turnAt_17 : decode cX11_turnAt 17 = .ok (.sipush 192, 3) := by decide +kernel
theorem dX11_turnAt_20 : decode cX11_turnAt 20 = .ok (.iload_n 1, 1) := by decide +kernel
theorem dX11_turnAt_21 : decode cX11_turnAt 21 = .ok (.iadd, 1) := by decide +kernel
theorem dX11_turnAt_22 : decode cX11_turnAt 22 = .ok (.iaload, 1) := by decide +kernel
theorem dX11_turnAt_23 : decode cX11_turnAt 23 = .ok (.istore_n 3, 1) := by decide +kernel
theorem dX11_turnAt_24 : decode cX11_turnAt 24 = .ok (.aload_n 0, 1) := by decide +kernel
theorem dX11_turnAt_25 : decode cX11_turnAt 25 = .ok (.getfield 9, 3) := by decide +kernel
theorem dX11_turnAt_28 : decode cX11_turnAt 28 = .ok (.sipush 192, 3) := by decide +kernel
theorem dX11_turnAt_31 : decode cX11_turnAt 31 = .ok (.iload_n 1, 1) := by decide +kernel
theorem dX11_turnAt_32 : decode cX11_turnAt 32 = .ok (.iadd, 1) := by decide +kernel
theorem dX11_turnAt_33 : decode cX11_turnAt 33 = .ok (.iconst 1, 1) := by decide +kernel
theorem dX11_turnAt_34 : decode cX11_turnAt 34 = .ok (.iadd, 1) := by decide +kernel
theorem dX11_turnAt_35 : decode cX11_turnAt 35 = .ok (.iaload, 1) := by decide +kernel
theorem dX11_turnAt_36 : decode cX11_turnAt 36 = .ok (.istore 4, 2) := by decide +kernel
theorem dX11_turnAt_38 : decode cX11_turnAt 38 = .ok (.aload_n 0, 1) := by decide +kernel
theorem dX11_turnAt_39 : decode cX11_turnAt 39 = .ok (.iload_n 3, 1) := by decide +kernel
theorem dX11_turnAt_40 : decode cX11_turnAt 40 = .ok (.iconst 0, 1) := by decide +kernel
theorem dX11_turnAt_41 : decode cX11_turnAt 41 = .ok (.invokevirtual 108, 3) := by decide +kernel
theorem dX11_turnAt_44 : decode cX11_turnAt 44 = .ok (.aload_n 0, 1) := by decide +kernel
theorem dX11_turnAt_45 : decode cX11_turnAt 45 = .ok (.iload_n 2, 1) := by decide +kernel
theorem dX11_turnAt_46 : decode cX11_turnAt 46 = .ok (.iconst 0, 1) := by decide +kernel
theorem dX11_turnAt_47 : decode cX11_turnAt 47 = .ok (.invokevirtual 108, 3) := by decide +kernel
theorem dX11_turnAt_50 : decode cX11_turnAt 50 = .ok (.isub, 1) := by decide +kernel
theorem dX11_turnAt_51 : decode cX11_turnAt 51 = .ok (.istore 5, 2) := by decide +kernel
theorem dX11_turnAt_53 : decode cX11_turnAt 53 = .ok (.aload_n 0, 1) := by decide +kernel
theorem dX11_turnAt_54 : decode cX11_turnAt 54 = .ok (.iload_n 3, 1) := by decide +kernel
theorem dX11_turnAt_55 : decode cX11_turnAt 55 = .ok (.iconst 1, 1) := by decide +kernel
theorem dX11_turnAt_56 : decode cX11_turnAt 56 = .ok (.invokevirtual 108, 3) := by decide +kernel
theorem dX11_turnAt_59 : decode cX11_turnAt 59 = .ok (.aload_n 0, 1) := by decide +kernel
theorem dX11_turnAt_60 : decode cX11_turnAt 60 = .ok (.iload_n 2, 1) := by decide +kernel
theorem dX11_turnAt_61 : decode cX11_turnAt 61 = .ok (.iconst 1, 1) := by decide +kernel
theorem dX11_turnAt_62 : decode cX11_turnAt 62 = .ok (.invokevirtual 108, 3) := by decide +kernel
theorem dX11_turnAt_65 : decode cX11_turnAt 65 = .ok (.isub, 1) := by decide +kernel
theorem dX11_turnAt_66 : decode cX11_turnAt 66 = .ok (.istore 6, 2) := by decide +kernel
theorem dX11_turnAt_68 : decode cX11_turnAt 68 = .ok (.aload_n 0, 1) := by decide +kernel
theorem dX11_turnAt_69 : decode cX11_turnAt 69 = .ok (.iload 4, 2) := by decide +kernel
theorem dX11_turnAt_71 : decode cX11_turnAt 71 = .ok (.iconst 0, 1) := by decide +kernel
theorem dX11_turnAt_72 : decode cX11_turnAt 72 = .ok (.invokevirtual 108, 3) := by decide +kernel
theorem dX11_turnAt_75 : decode cX11_turnAt 75 = .ok (.aload_n 0, 1) := by decide +kernel
theorem dX11_turnAt_76 : decode cX11_turnAt 76 = .ok (.iload_n 3, 1) := by decide +kernel
theorem dX11_turnAt_77 : decode cX11_turnAt 77 = .ok (.iconst 0, 1) := by decide +kernel
theorem dX11_turnAt_78 : decode cX11_turnAt 78 = .ok (.invokevirtual 108, 3) := by decide +kernel
theorem dX11_turnAt_81 : decode cX11_turnAt 81 = .ok (.isub, 1) := by decide +kernel
theorem dX11_turnAt_82 : decode cX11_turnAt 82 = .ok (.istore 7, 2) := by decide +kernel
theorem dX11_turnAt_84 : decode cX11_turnAt 84 = .ok (.aload_n 0, 1) := by decide +kernel
theorem dX11_turnAt_85 : decode cX11_turnAt 85 = .ok (.iload 4, 2) := by decide +kernel
theorem dX11_turnAt_87 : decode cX11_turnAt 87 = .ok (.iconst 1, 1) := by decide +kernel
theorem dX11_turnAt_88 : decode cX11_turnAt 88 = .ok (.invokevirtual 108, 3) := by decide +kernel
theorem dX11_turnAt_91 : decode cX11_turnAt 91 = .ok (.aload_n 0, 1) := by decide +kernel
theorem dX11_turnAt_92 : decode cX11_turnAt 92 = .ok (.iload_n 3, 1) := by decide +kernel
theorem dX11_turnAt_93 : decode cX11_turnAt 93 = .ok (.iconst 1, 1) := by decide +kernel
theorem dX11_turnAt_94 : decode cX11_turnAt 94 = .ok (.invokevirtual 108, 3) := by decide +kernel
theorem dX11_turnAt_97 : decode cX11_turnAt 97 = .ok (.isub, 1) := by decide +kernel
theorem dX11_turnAt_98 : decode cX11_turnAt 98 = .ok (.istore 8, 2) := by decide +kernel
theorem dX11_turnAt_100 : decode cX11_turnAt 100 = .ok (.iload 5, 2) := by decide +kernel
theorem dX11_turnAt_102 : decode cX11_turnAt 102 = .ok (.iload 8, 2) := by decide +kernel
theorem dX11_turnAt_104 : decode cX11_turnAt 104 = .ok (.imul, 1) := by decide +kernel
theorem dX11_turnAt_105 : decode cX11_turnAt 105 = .ok (.iload 6, 2) := by decide +kernel
theorem dX11_turnAt_107 : decode cX11_turnAt 107 = .ok (.iload 7, 2) := by decide +kernel
theorem dX11_turnAt_109 : decode cX11_turnAt 109 = .ok (.imul, 1) := by decide +kernel
theorem dX11_turnAt_110 : decode cX11_turnAt 110 = .ok (.isub, 1) := by decide +kernel
theorem dX11_turnAt_111 : decode cX11_turnAt 111 = .ok (.istore 9, 2) := by decide +kernel
theorem dX11_turnAt_113 : decode cX11_turnAt 113 = .ok (.iload 5, 2) := by decide +kernel
theorem dX11_turnAt_115 : decode cX11_turnAt 115 = .ok (.iload 7, 2) := by decide +kernel
theorem dX11_turnAt_117 : decode cX11_turnAt 117 = .ok (.imul, 1) := by decide +kernel
theorem dX11_turnAt_118 : decode cX11_turnAt 118 = .ok (.iload 6, 2) := by decide +kernel
theorem dX11_turnAt_120 : decode cX11_turnAt 120 = .ok (.iload 8, 2) := by decide +kernel
theorem dX11_turnAt_122 : decode cX11_turnAt 122 = .ok (.imul, 1) := by decide +kernel
theorem dX11_turnAt_123 : decode cX11_turnAt 123 = .ok (.iadd, 1) := by decide +kernel
theorem dX11_turnAt_124 : decode cX11_turnAt 124 = .ok (.istore 10, 2) := by decide +kernel
theorem dX11_turnAt_126 : decode cX11_turnAt 126 = .ok (.iload 9, 2) := by decide +kernel
theorem dX11_turnAt_128 : decode cX11_turnAt 128 = .ok (.ifCond .le 8, 3) := by decide +kernel
theorem dX11_turnAt_131 : decode cX11_turnAt 131 = .ok (.bipush 108, 2) := by decide +kernel
theorem dX11_turnAt_133 : decode cX11_turnAt 133 = .ok (.goto 25, 3) := by decide +kernel
theorem dX11_turnAt_136 : decode cX11_turnAt 136 = .ok (.iload 9, 2) := by decide +kernel
theorem dX11_turnAt_138 : decode cX11_turnAt 138 = .ok (.ifCond .ge 8, 3) := by decide +kernel
theorem dX11_turnAt_141 : decode cX11_turnAt 141 = .ok (.bipush 114, 2) := by decide +kernel
theorem dX11_turnAt_143 : decode cX11_turnAt 143 = .ok (.goto 15, 3) := by decide +kernel
theorem dX11_turnAt_146 : decode cX11_turnAt 146 = .ok (.iload 10, 2) := by decide +kernel
theorem dX11_turnAt_148 : decode cX11_turnAt 148 = .ok (.ifCond .lt 8, 3) := by decide +kernel
theorem dX11_turnAt_151 : decode cX11_turnAt 151 = .ok (.bipush 115, 2) := by decide +kernel
theorem dX11_turnAt_153 : decode cX11_turnAt 153 = .ok (.goto 5, 3) := by decide +kernel
theorem dX11_turnAt_156 : decode cX11_turnAt 156 = .ok (.bipush 98, 2) := by decide +kernel
theorem dX11_turnAt_158 : decode cX11_turnAt 158 = .ok (.ireturn, 1) := by decide +kernel
theorem dX11_turn_0 : decode cX11_turn 0 = .ok (.aload_n 0, 1) := by decide +kernel
theorem dX11_turn_1 : decode cX11_turn 1 = .ok (.iload_n 1, 1) := by decide +kernel
theorem dX11_turn_2 : decode cX11_turn 2 = .ok (.invokevirtual 169, 3) := by decide +kernel
theorem dX11_turn_5 : decode cX11_turn 5 = .ok (.ifCond .ne 32, 3) := by decide +kernel
theorem dX11_turn_8 : decode cX11_turn 8 = .ok (.aload_n 0, 1) := by decide +kernel
theorem dX11_turn_9 : decode cX11_turn 9 = .ok (.iload_n 1, 1) := by decide +kernel
theorem dX11_turn_10 : decode cX11_turn 10 = .ok (.ifCond .eq 15, 3) := by decide +kernel
theorem dX11_turn_13 : decode cX11_turn 13 = .ok (.iload_n 1, 1) := by decide +kernel
theorem dX11_turn_14 : decode cX11_turn 14 = .ok (.aload_n 0, 1) := by decide +kernel
theorem dX11_turn_15 : decode cX11_turn 15 = .ok (.getfield 9, 3) := by decide +kernel
theorem dX11_turn_18 : decode cX11_turn 18 = .ok (.iconst 1, 1) := by decide +kernel
theorem dX11_turn_19 : decode cX11_turn 19 = .ok (.iaload, 1) := by decide +kernel
theorem dX11_turn_20 : decode cX11_turn 20 = .ok (.iconst 1, 1) := by decide +kernel
theorem dX11_turn_21 : decode cX11_turn 21 = .ok (.isub, 1) := by decide +kernel
theorem dX11_turn_22 : decode cX11_turn 22 = .ok (.if_icmp .ne 7, 3) := by decide +kernel
theorem dX11_turn_25 : decode cX11_turn 25 = .ok (.iconst 1, 1) := by decide +kernel
theorem dX11_turn_26 : decode cX11_turn 26 = .ok (.goto 4, 3) := by decide +kernel
theorem dX11_turn_29 : decode cX11_turn 29 = .ok (.iconst 0, 1) := by decide +kernel
theorem dX11_turn_30 : decode cX11_turn 30 = .ok (.iconst 3, 1) := by decide +kernel
theorem dX11_turn_31 : decode cX11_turn 31 = .ok (.invokevirtual 63, 3) := by decide +kernel
theorem dX11_turn_34 : decode cX11_turn 34 = .ok (.ifCond .eq 5, 3) := by decide +kernel
theorem dX11_turn_37 : decode cX11_turn 37 = .ok (.iconst 0, 1) := by decide +kernel
theorem dX11_turn_38 : decode cX11_turn 38 = .ok (.ireturn, 1) := by decide +kernel
theorem dX11_turn_39 : decode cX11_turn 39 = .ok (.aload_n 0, 1) := by decide +kernel
theorem dX11_turn_40 : decode cX11_turn 40 = .ok (.iload_n 1, 1) := by decide +kernel
theorem dX11_turn_41 : decode cX11_turn 41 = .ok (.invokevirtual 172, 3) := by decide +kernel
theorem dX11_turn_44 : decode cX11_turn 44 = .ok (.i2c, 1) := by decide +kernel
theorem dX11_turn_45 : decode cX11_turn 45 = .ok (.ireturn, 1) := by decide +kernel
theorem dX11_target_0 : decode cX11_target 0 = .ok (.aload_n 0, 1) := by decide +kernel
theorem dX11_target_1 : decode cX11_target 1 = .ok (.aload_n 0, 1) := by decide +kernel
theorem dX11_target_2 : decode cX11_target 2 = .ok (.invokevirtual 97, 3) := by decide +kernel
theorem dX11_target_5 : decode cX11_target 5 = .ok (.ifCond .ne 7, 3) := by decide +kernel
theorem dX11_target_8 : decode cX11_target 8 = .ok (.iconst 1, 1) := by decide +kernel
theorem dX11_target_9 : decode cX11_target 9 = .ok (.goto 4, 3) := by decide +kernel
theorem dX11_target_12 : decode cX11_target 12 = .ok (.iconst 0, 1) := by decide +kernel
theorem dX11_target_13 : decode cX11_target 13 = .ok (.iconst 1, 1) := by decide +kernel
theorem dX11_target_14 : decode cX11_target 14 = .ok (.invokevirtual 63, 3) := by decide +kernel
theorem dX11_target_17 : decode cX11_target 17 = .ok (.ifCond .eq 7, 3) := by decide +kernel
theorem dX11_target_20 : decode cX11_target 20 = .ok (.iconst 0, 1) := by decide +kernel
theorem dX11_target_21 : decode cX11_target 21 = .ok (.goto 7, 3) := by decide +kernel
theorem dX11_target_24 : decode cX11_target 24 = .ok (.aload_n 0, 1) := by decide +kernel
theorem dX11_target_25 : decode cX11_target 25 = .ok (.invokevirtual 120, 3) := by decide +kernel
theorem dX11_target_28 : decode cX11_target 28 = .ok (.ireturn, 1) := by decide +kernel
theorem dX11_hikerX_0 : decode cX11_hikerX 0 = .ok (.aload_n 0, 1) := by decide +kernel
theorem dX11_hikerX_1 : decode cX11_hikerX 1 = .ok (.aload_n 0, 1) := by decide +kernel
theorem dX11_hikerX_2 : decode cX11_hikerX 2 = .ok (.getfield 9, 3) := by decide +kernel
theorem dX11_hikerX_5 : decode cX11_hikerX 5 = .ok (.iconst 3, 1) := by decide +kernel
theorem dX11_hikerX_6 : decode cX11_hikerX 6 = .ok (.iaload, 1) := by decide +kernel
theorem dX11_hikerX_7 : decode cX11_hikerX 7 = .ok (.invokevirtual 166, 3) := by decide +kernel
theorem dX11_hikerX_10 : decode cX11_hikerX 10 = .ok (.ireturn, 1) := by decide +kernel
theorem dX11_hikerY_0 : decode cX11_hikerY 0 = .ok (.aload_n 0, 1) := by decide +kernel
theorem dX11_hikerY_1 : decode cX11_hikerY 1 = .ok (.aload_n 0, 1) := by decide +kernel
theorem dX11_hikerY_2 : decode cX11_hikerY 2 = .ok (.getfield 9, 3) := by decide +kernel
theorem dX11_hikerY_5 : decode cX11_hikerY 5 = .ok (.iconst 4, 1) := by decide +kernel
theorem dX11_hikerY_6 : decode cX11_hikerY 6 = .ok (.iaload, 1) := by decide +kernel
theorem dX11_hikerY_7 : decode cX11_hikerY 7 = .ok (.invokevirtual 166, 3) := by decide +kernel
theorem dX11_hikerY_10 : decode cX11_hikerY 10 = .ok (.ireturn, 1) := by decide +kernel
theorem dX11_drift_0 : decode cX11_drift 0 = .ok (.aload_n 0, 1) := by decide +kernel
theorem dX11_drift_1 : decode cX11_drift 1 = .ok (.aload_n 0, 1) := by decide +kernel
theorem dX11_drift_2 : decode cX11_drift 2 = .ok (.invokevirtual 97, 3) := by decide +kernel
theorem dX11_drift_5 : decode cX11_drift 5 = .ok (.ifCond .ne 7, 3) := by decide +kernel
theorem dX11_drift_8 : decode cX11_drift 8 = .ok (.iconst 1, 1) := by decide +kernel
theorem dX11_drift_9 : decode cX11_drift 9 = .ok (.goto 4, 3) := by decide +kernel
theorem dX11_drift_12 : decode cX11_drift 12 = .ok (.iconst 0, 1) := by decide +kernel
theorem dX11_drift_13 : decode cX11_drift 13 = .ok (.iconst 1, 1) := by decide +kernel
theorem dX11_drift_14 : decode cX11_drift 14 = .ok (.invokevirtual 63, 3) := by decide +kernel
theorem dX11_drift_17 : decode cX11_drift 17 = .ok (.ifCond .eq 5, 3) := by decide +kernel
theorem dX11_drift_20 : decode cX11_drift 20 = .ok (.iconst 0, 1) := by decide +kernel
theorem dX11_drift_21 : decode cX11_drift 21 = .ok (.ireturn, 1) := by decide +kernel
theorem dX11_drift_22 : decode cX11_drift 22 = .ok (.iconst 0, 1) := by decide +kernel
theorem dX11_drift_23 : decode cX11_drift 23 = .ok (.istore_n 1, 1) := by decide +kernel
theorem dX11_drift_24 : decode cX11_drift 24 = .ok (.aload_n 0, 1) := by decide +kernel
theorem dX11_drift_25 : decode cX11_drift 25 = .ok (.aload_n 0, 1) := by decide +kernel
theorem dX11_drift_26 : decode cX11_drift 26 = .ok (.getfield 9, 3) := by decide +kernel
theorem dX11_drift_29 : decode cX11_drift 29 = .ok (.iconst 3, 1) := by decide +kernel
theorem dX11_drift_30 : decode cX11_drift 30 = .ok (.iaload, 1) := by decide +kernel
theorem dX11_drift_31 : decode cX11_drift 31 = .ok (.aload_n 0, 1) := by decide +kernel
theorem dX11_drift_32 : decode cX11_drift 32 = .ok (.getfield 9, 3) := by decide +kernel
theorem dX11_drift_35 : decode cX11_drift 35 = .ok (.iconst 4, 1) := by decide +kernel
theorem dX11_drift_36 : decode cX11_drift 36 = .ok (.iaload, 1) := by decide +kernel
theorem dX11_drift_37 : decode cX11_drift 37 = .ok (.iload_n 1, 1) := by decide +kernel
theorem dX11_drift_38 : decode cX11_drift 38 = .ok (.iconst 1, 1) := by decide +kernel
theorem dX11_drift_39 : decode cX11_drift 39 = .ok (.iadd, 1) := by decide +kernel
theorem dX11_drift_40 : decode cX11_drift 40 = .ok (.invokevirtual 175, 3) := by decide +kernel
theorem dX11_drift_43 : decode cX11_drift 43 = .ok (.ifCond .eq 9, 3) := by decide +kernel
theorem dX11_drift_46 : decode cX11_drift 46 = .ok (.iinc 1 1, 3) := by decide +kernel
theorem dX11_drift_49 : decode cX11_drift 49 = .ok (.goto (-25), 3) := by decide +kernel
theorem dX11_drift_52 : decode cX11_drift 52 = .ok (.iload_n 1, 1) := by decide +kernel
theorem dX11_drift_53 : decode cX11_drift 53 = .ok (.ireturn, 1) := by decide +kernel
theorem dX11_isAlarm_0 : decode cX11_isAlarm 0 = .ok (.aload_n 0, 1) := by decide +kernel
theorem dX11_isAlarm_1 : decode cX11_isAlarm 1 = .ok (.iconst 0, 1) := by decide +kernel
theorem dX11_isAlarm_2 : decode cX11_isAlarm 2 = .ok (.putfield 41, 3) := by decide +kernel
theorem dX11_isAlarm_5 : decode cX11_isAlarm 5 = .ok (.aload_n 0, 1) := by decide +kernel
theorem dX11_isAlarm_6 : decode cX11_isAlarm 6 = .ok (.getfield 9, 3) := by decide +kernel
theorem dX11_isAlarm_9 : decode cX11_isAlarm 9 = .ok (.iconst 5, 1) := by decide +kernel
theorem dX11_isAlarm_10 : decode cX11_isAlarm 10 = .ok (.iaload, 1) := by decide +kernel
theorem dX11_isAlarm_11 : decode cX11_isAlarm 11 = .ok (.iconst 1, 1) := by decide +kernel
theorem dX11_isAlarm_12 : decode cX11_isAlarm 12 = .ok (.if_icmp .ne 7, 3) := by decide +kernel
theorem dX11_isAlarm_15 : decode cX11_isAlarm 15 = .ok (.iconst 1, 1) := by decide +kernel
theorem dX11_isAlarm_16 : decode cX11_isAlarm 16 = .ok (.goto 4, 3) := by decide +kernel
theorem dX11_isAlarm_19 : decode cX11_isAlarm 19 = .ok (.iconst 0, 1) := by decide +kernel
theorem dX11_isAlarm_20 : decode cX11_isAlarm 20 = .ok (.ireturn, 1) := by decide +kernel
theorem dX11_forecast_0 : decode cX11_forecast 0 = .ok (.aload_n 0, 1) := by decide +kernel
theorem dX11_forecast_1 : decode cX11_forecast 1 = .ok (.iload_n 1, 1) := by decide +kernel
theorem dX11_forecast_2 : decode cX11_forecast 2 = .ok (.iload_n 2, 1) := by decide +kernel
theorem dX11_forecast_3 : decode cX11_forecast 3 = .ok (.invokestatic 59, 3) := by decide +kernel
theorem dX11_forecast_6 : decode cX11_forecast 6 = .ok (.ifCond .ne 7, 3) := by decide +kernel
theorem dX11_forecast_9 : decode cX11_forecast 9 = .ok (.iconst 1, 1) := by decide +kernel
theorem dX11_forecast_10 : decode cX11_forecast 10 = .ok (.goto 4, 3) := by decide +kernel
theorem dX11_forecast_13 : decode cX11_forecast 13 = .ok (.iconst 0, 1) := by decide +kernel
theorem dX11_forecast_14 : decode cX11_forecast 14 = .ok (.iconst 1, 1) := by decide +kernel
theorem dX11_forecast_15 : decode cX11_forecast 15 = .ok (.invokevirtual 63, 3) := by decide +kernel
theorem dX11_forecast_18 : decode cX11_forecast 18 = .ok (.ifCond .ne 23, 3) := by decide +kernel
theorem dX11_forecast_21 : decode cX11_forecast 21 = .ok (.aload_n 0, 1) := by decide +kernel
theorem dX11_forecast_22 : decode cX11_forecast 22 = .ok (.aload_n 0, 1) := by decide +kernel
theorem dX11_forecast_23 : decode cX11_forecast 23 = .ok (.invokevirtual 97, 3) := by decide +kernel
theorem dX11_forecast_26 : decode cX11_forecast 26 = .ok (.ifCond .ne 7, 3) := by decide +kernel
theorem dX11_forecast_29 : decode cX11_forecast 29 = .ok (.iconst 1, 1) := by decide +kernel
theorem dX11_forecast_30 : decode cX11_forecast 30 = .ok (.goto 4, 3) := by decide +kernel
theorem dX11_forecast_33 : decode cX11_forecast 33 = .ok (.iconst 0, 1) := by decide +kernel
theorem dX11_forecast_34 : decode cX11_forecast 34 = .ok (.iconst 2, 1) := by decide +kernel
theorem dX11_forecast_35 : decode cX11_forecast 35 = .ok (.invokevirtual 63, 3) := by decide +kernel
theorem dX11_forecast_38 : decode cX11_forecast 38 = .ok (.ifCond .eq 5, 3) := by decide +kernel
theorem dX11_forecast_41 : decode cX11_forecast 41 = .ok (.iconst 0, 1) := by decide +kernel
theorem dX11_forecast_42 : decode cX11_forecast 42 = .ok (.ireturn, 1) := by decide +kernel
theorem dX11_forecast_43 : decode cX11_forecast 43 = .ok (.aload_n 0, 1) := by decide +kernel
theorem dX11_forecast_44 : decode cX11_forecast 44 = .ok (.iload_n 1, 1) := by decide +kernel
theorem dX11_forecast_45 : decode cX11_forecast 45 = .ok (.iload_n 2, 1) := by decide +kernel
theorem dX11_forecast_46 : decode cX11_forecast 46 = .ok (.invokevirtual 138, 3) := by decide +kernel
theorem dX11_forecast_49 : decode cX11_forecast 49 = .ok (.ifCond .eq 8, 3) := by decide +kernel
theorem dX11_forecast_52 : decode cX11_forecast 52 = .ok (.bipush 116, 2) := by decide +kernel
theorem dX11_forecast_54 : decode cX11_forecast 54 = .ok (.goto 26, 3) := by decide +kernel
theorem dX11_forecast_57 : decode cX11_forecast 57 = .ok (.aload_n 0, 1) := by decide +kernel
theorem dX11_forecast_58 : decode cX11_forecast 58 = .ok (.iload_n 1, 1) := by decide +kernel
theorem dX11_forecast_59 : decode cX11_forecast 59 = .ok (.iload_n 2, 1) := by decide +kernel
theorem dX11_forecast_60 : decode cX11_forecast 60 = .ok (.aload_n 0, 1) := by decide +kernel
theorem dX11_forecast_61 : decode cX11_forecast 61 = .ok (.getfield 9, 3) := by decide +kernel
theorem dX11_forecast_64 : decode cX11_forecast 64 = .ok (.bipush 8, 2) := by decide +kernel
theorem dX11_forecast_66 : decode cX11_forecast 66 = .ok (.iaload, 1) := by decide +kernel
theorem dX11_forecast_67 : decode cX11_forecast 67 = .ok (.invokevirtual 129, 3) := by decide +kernel
theorem dX11_forecast_70 : decode cX11_forecast 70 = .ok (.ifCond .eq 8, 3) := by decide +kernel
theorem dX11_forecast_73 : decode cX11_forecast 73 = .ok (.bipush 113, 2) := by decide +kernel
theorem dX11_forecast_75 : decode cX11_forecast 75 = .ok (.goto 5, 3) := by decide +kernel
theorem dX11_forecast_78 : decode cX11_forecast 78 = .ok (.bipush 97, 2) := by decide +kernel
theorem dX11_forecast_80 : decode cX11_forecast 80 = .ok (.ireturn, 1) := by decide +kernel
theorem dX11_battery_0 : decode cX11_battery 0 = .ok (.aload_n 0, 1) := by decide +kernel
theorem dX11_battery_1 : decode cX11_battery 1 = .ok (.iconst 0, 1) := by decide +kernel
theorem dX11_battery_2 : decode cX11_battery 2 = .ok (.putfield 41, 3) := by decide +kernel
theorem dX11_battery_5 : decode cX11_battery 5 = .ok (.aload_n 0, 1) := by decide +kernel
theorem dX11_battery_6 : decode cX11_battery 6 = .ok (.getfield 9, 3) := by decide +kernel
theorem dX11_battery_9 : decode cX11_battery 9 = .ok (.bipush 6, 2) := by decide +kernel
theorem dX11_battery_11 : decode cX11_battery 11 = .ok (.iaload, 1) := by decide +kernel
theorem dX11_battery_12 : decode cX11_battery 12 = .ok (.ireturn, 1) := by decide +kernel
theorem dX11_mode_0 : decode cX11_mode 0 = .ok (.aload_n 0, 1) := by decide +kernel
theorem dX11_mode_1 : decode cX11_mode 1 = .ok (.iconst 0, 1) := by decide +kernel
theorem dX11_mode_2 : decode cX11_mode 2 = .ok (.putfield 41, 3) := by decide +kernel
theorem dX11_mode_5 : decode cX11_mode 5 = .ok (.aload_n 0, 1) := by decide +kernel
theorem dX11_mode_6 : decode cX11_mode 6 = .ok (.getfield 9, 3) := by decide +kernel
theorem dX11_mode_9 : decode cX11_mode 9 = .ok (.bipush 7, 2) := by decide +kernel
theorem dX11_mode_11 : decode cX11_mode 11 = .ok (.iaload, 1) := by decide +kernel
theorem dX11_mode_12 : decode cX11_mode 12 = .ok (.ireturn, 1) := by decide +kernel
theorem dX11_tolerance_0 : decode cX11_tolerance 0 = .ok (.aload_n 0, 1) := by decide +kernel
theorem dX11_tolerance_1 : decode cX11_tolerance 1 = .ok (.iconst 0, 1) := by decide +kernel
theorem dX11_tolerance_2 : decode cX11_tolerance 2 = .ok (.putfield 41, 3) := by decide +kernel
theorem dX11_tolerance_5 : decode cX11_tolerance 5 = .ok (.aload_n 0, 1) := by decide +kernel
theorem dX11_tolerance_6 : decode cX11_tolerance 6 = .ok (.getfield 9, 3) := by decide +kernel
theorem dX11_tolerance_9 : decode cX11_tolerance 9 = .ok (.bipush 8, 2) := by decide +kernel
theorem dX11_tolerance_11 : decode cX11_tolerance 11 = .ok (.iaload, 1) := by decide +kernel
theorem dX11_tolerance_12 : decode cX11_tolerance 12 = .ok (.ireturn, 1) := by decide +kernel
theorem dX11_updatesLeft_0 : decode cX11_updatesLeft 0 = .ok (.aload_n 0, 1) := by decide +kernel
theorem dX11_updatesLeft_1 : decode cX11_updatesLeft 1 = .ok (.iconst 0, 1) := by decide +kernel
theorem dX11_updatesLeft_2 : decode cX11_updatesLeft 2 = .ok (.putfield 41, 3) := by decide +kernel
theorem dX11_updatesLeft_5 : decode cX11_updatesLeft 5 = .ok (.aload_n 0, 1) := by decide +kernel
theorem dX11_updatesLeft_6 : decode cX11_updatesLeft 6 = .ok (.getfield 9, 3) := by decide +kernel
theorem dX11_updatesLeft_9 : decode cX11_updatesLeft 9 = .ok (.bipush 7, 2) := by decide +kernel
theorem dX11_updatesLeft_11 : decode cX11_updatesLeft 11 = .ok (.iaload, 1) := by decide +kernel
theorem dX11_updatesLeft_12 : decode cX11_updatesLeft 12 = .ok (.invokestatic 135, 3) := by decide +kernel
theorem dX11_updatesLeft_15 : decode cX11_updatesLeft 15 = .ok (.istore_n 1, 1) := by decide +kernel
theorem dX11_updatesLeft_16 : decode cX11_updatesLeft 16 = .ok (.aload_n 0, 1) := by decide +kernel
theorem dX11_updatesLeft_17 : decode cX11_updatesLeft 17 = .ok (.getfield 9, 3) := by decide +kernel
theorem dX11_updatesLeft_20 : decode cX11_updatesLeft 20 = .ok (.bipush 6, 2) := by decide +kernel
theorem dX11_updatesLeft_22 : decode cX11_updatesLeft 22 = .ok (.iaload, 1) := by decide +kernel
theorem dX11_updatesLeft_23 : decode cX11_updatesLeft 23 = .ok (.iload_n 1, 1) := by decide +kernel
theorem dX11_updatesLeft_24 : decode cX11_updatesLeft 24 = .ok (.iadd, 1) := by decide +kernel
theorem dX11_updatesLeft_25 : decode cX11_updatesLeft 25 = .ok (.iconst 1, 1) := by decide +kernel
theorem dX11_updatesLeft_26 : decode cX11_updatesLeft 26 = .ok (.isub, 1) := by decide +kernel
theorem dX11_updatesLeft_27 : decode cX11_updatesLeft 27 = .ok (.iload_n 1, 1) := by decide +kernel
theorem dX11_updatesLeft_28 : decode cX11_updatesLeft 28 = .ok (.idiv, 1) := by decide +kernel
theorem dX11_updatesLeft_29 : decode cX11_updatesLeft 29 = .ok (.ireturn, 1) := by decide +kernel
theorem dX11_updatesLeftByCounting_0 : decode cX11_updatesLeftByCounting 0 = .ok (.aload_n 0, 1) := by decide +kernel
theorem dX11_updatesLeftByCounting_1 : decode cX11_updatesLeftByCounting 1 = .ok (.invokevirtual 178, 3) := by decide +kernel
theorem dX11_updatesLeftByCounting_4 : decode cX11_updatesLeftByCounting 4 = .ok (.ireturn, 1) := by decide +kernel
theorem dX11_updates_0 : decode cX11_updates 0 = .ok (.aload_n 0, 1) := by decide +kernel
theorem dX11_updates_1 : decode cX11_updates 1 = .ok (.iconst 0, 1) := by decide +kernel
theorem dX11_updates_2 : decode cX11_updates 2 = .ok (.putfield 41, 3) := by decide +kernel
theorem dX11_updates_5 : decode cX11_updates 5 = .ok (.aload_n 0, 1) := by decide +kernel
theorem dX11_updates_6 : decode cX11_updates 6 = .ok (.getfield 9, 3) := by decide +kernel
theorem dX11_updates_9 : decode cX11_updates 9 = .ok (.bipush 9, 2) := by decide +kernel
theorem dX11_updates_11 : decode cX11_updates 11 = .ok (.iaload, 1) := by decide +kernel
theorem dX11_updates_12 : decode cX11_updates 12 = .ok (.ireturn, 1) := by decide +kernel
theorem dX11_alarms_0 : decode cX11_alarms 0 = .ok (.aload_n 0, 1) := by decide +kernel
theorem dX11_alarms_1 : decode cX11_alarms 1 = .ok (.iconst 0, 1) := by decide +kernel
theorem dX11_alarms_2 : decode cX11_alarms 2 = .ok (.putfield 41, 3) := by decide +kernel
theorem dX11_alarms_5 : decode cX11_alarms 5 = .ok (.aload_n 0, 1) := by decide +kernel
theorem dX11_alarms_6 : decode cX11_alarms 6 = .ok (.getfield 9, 3) := by decide +kernel
theorem dX11_alarms_9 : decode cX11_alarms 9 = .ok (.bipush 10, 2) := by decide +kernel
theorem dX11_alarms_11 : decode cX11_alarms 11 = .ok (.iaload, 1) := by decide +kernel
theorem dX11_alarms_12 : decode cX11_alarms 12 = .ok (.ireturn, 1) := by decide +kernel
theorem dX11_reached_0 : decode cX11_reached 0 = .ok (.aload_n 0, 1) := by decide +kernel
theorem dX11_reached_1 : decode cX11_reached 1 = .ok (.iconst 0, 1) := by decide +kernel
theorem dX11_reached_2 : decode cX11_reached 2 = .ok (.putfield 41, 3) := by decide +kernel
theorem dX11_reached_5 : decode cX11_reached 5 = .ok (.aload_n 0, 1) := by decide +kernel
theorem dX11_reached_6 : decode cX11_reached 6 = .ok (.getfield 9, 3) := by decide +kernel
theorem dX11_reached_9 : decode cX11_reached 9 = .ok (.bipush 11, 2) := by decide +kernel
theorem dX11_reached_11 : decode cX11_reached 11 = .ok (.iaload, 1) := by decide +kernel
theorem dX11_reached_12 : decode cX11_reached 12 = .ok (.ireturn, 1) := by decide +kernel
theorem dX11_alarmRate_0 : decode cX11_alarmRate 0 = .ok (.aload_n 0, 1) := by decide +kernel
theorem dX11_alarmRate_1 : decode cX11_alarmRate 1 = .ok (.aload_n 0, 1) := by decide +kernel
theorem dX11_alarmRate_2 : decode cX11_alarmRate 2 = .ok (.getfield 9, 3) := by decide +kernel
theorem dX11_alarmRate_5 : decode cX11_alarmRate 5 = .ok (.bipush 9, 2) := by decide +kernel
theorem dX11_alarmRate_7 : decode cX11_alarmRate 7 = .ok (.iaload, 1) := by decide +kernel
theorem dX11_alarmRate_8 : decode cX11_alarmRate 8 = .ok (.ifCond .ne 7, 3) := by decide +kernel
theorem dX11_alarmRate_11 : decode cX11_alarmRate 11 = .ok (.iconst 1, 1) := by decide +kernel
theorem dX11_alarmRate_12 : decode cX11_alarmRate 12 = .ok (.goto 4, 3) := by decide +kernel
theorem dX11_alarmRate_15 : decode cX11_alarmRate 15 = .ok (.iconst 0, 1) := by decide +kernel
theorem dX11_alarmRate_16 : decode cX11_alarmRate 16 = .ok (.iconst 1, 1) := by decide +kernel
theorem dX11_alarmRate_17 : decode cX11_alarmRate 17 = .ok (.invokevirtual 63, 3) := by decide +kernel
theorem dX11_alarmRate_20 : decode cX11_alarmRate 20 = .ok (.ifCond .eq 7, 3) := by decide +kernel
theorem dX11_alarmRate_23 : decode cX11_alarmRate 23 = .ok (.fconst 0, 1) := by decide +kernel
theorem dX11_alarmRate_24 : decode cX11_alarmRate 24 = .ok (.goto 20, 3) := by decide +kernel
theorem dX11_alarmRate_27 : decode cX11_alarmRate 27 = .ok (.aload_n 0, 1) := by decide +kernel
theorem dX11_alarmRate_28 : decode cX11_alarmRate 28 = .ok (.getfield 9, 3) := by decide +kernel
theorem dX11_alarmRate_31 : decode cX11_alarmRate 31 = .ok (.bipush 10, 2) := by decide +kernel
theorem dX11_alarmRate_33 : decode cX11_alarmRate 33 = .ok (.iaload, 1) := by decide +kernel
theorem dX11_alarmRate_34 : decode cX11_alarmRate 34 = .ok (.i2f, 1) := by decide +kernel
theorem dX11_alarmRate_35 : decode cX11_alarmRate 35 = .ok (.aload_n 0, 1) := by decide +kernel
theorem dX11_alarmRate_36 : decode cX11_alarmRate 36 = .ok (.getfield 9, 3) := by decide +kernel
theorem dX11_alarmRate_39 : decode cX11_alarmRate 39 = .ok (.bipush 9, 2) := by decide +kernel
theorem dX11_alarmRate_41 : decode cX11_alarmRate 41 = .ok (.iaload, 1) := by decide +kernel
theorem dX11_alarmRate_42 : decode cX11_alarmRate 42 = .ok (.i2f, 1) := by decide +kernel
theorem dX11_alarmRate_43 : decode cX11_alarmRate 43 = .ok (.fdiv, 1) := by decide +kernel
theorem dX11_alarmRate_44 : decode cX11_alarmRate 44 = .ok (.freturn, 1) := by decide +kernel
theorem dX11_meanTrailLength_0 : decode cX11_meanTrailLength 0 = .ok (.iconst 0, 1) := by decide +kernel
theorem dX11_meanTrailLength_1 : decode cX11_meanTrailLength 1 = .ok (.istore_n 1, 1) := by decide +kernel
theorem dX11_meanTrailLength_2 : decode cX11_meanTrailLength 2 = .ok (.iconst 0, 1) := by decide +kernel
theorem dX11_meanTrailLength_3 : decode cX11_meanTrailLength 3 = .ok (.istore_n 2, 1) := by decide +kernel
theorem dX11_meanTrailLength_4 : decode cX11_meanTrailLength 4 = .ok (.iload_n 2, 1) := by decide +kernel
theorem dX11_meanTrailLength_5 : decode cX11_meanTrailLength 5 = .ok (.bipush 12, 2) := by decide +kernel
theorem dX11_meanTrailLength_7 : decode cX11_meanTrailLength 7 = .ok (.if_icmp .ge 31, 3) := by decide +kernel
theorem dX11_meanTrailLength_10 : decode cX11_meanTrailLength 10 = .ok (.iconst 0, 1) := by decide +kernel
theorem dX11_meanTrailLength_11 : decode cX11_meanTrailLength 11 = .ok (.istore_n 3, 1) := by decide +kernel
theorem dX11_meanTrailLength_12 : decode cX11_meanTrailLength 12 = .ok (.iload_n 3, 1) := by decide +kernel
theorem dX11_meanTrailLength_13 : decode cX11_meanTrailLength 13 = .ok (.iload_n 2, 1) := by decide +kernel
theorem dX11_meanTrailLength_14 : decode cX11_meanTrailLength 14 = .ok (.if_icmp .ge 18, 3) := by decide +kernel
theorem dX11_meanTrailLength_17 : decode cX11_meanTrailLength 17 = .ok (.iload_n 1, 1) := by decide +kernel
theorem dX11_meanTrailLength_18 : decode cX11_meanTrailLength 18 = .ok (.aload_n 0, 1) := by decide +kernel
theorem dX11_meanTrailLength_19 : decode cX11_meanTrailLength 19 = .ok (.iload_n 2, 1) := by decide +kernel
theorem dX11_meanTrailLength_20 : decode cX11_meanTrailLength 20 = .ok (.iload_n 3, 1) := by decide +kernel
theorem dX11_meanTrailLength_21 : decode cX11_meanTrailLength 21 = .ok (.invokevirtual 55, 3) := by decide +kernel
theorem dX11_meanTrailLength_24 : decode cX11_meanTrailLength 24 = .ok (.iadd, 1) := by decide +kernel
theorem dX11_meanTrailLength_25 : decode cX11_meanTrailLength 25 = .ok (.istore_n 1, 1) := by decide +kernel
theorem dX11_meanTrailLength_26 : decode cX11_meanTrailLength 26 = .ok (.iinc 3 1, 3) := by decide +kernel
theorem dX11_meanTrailLength_29 : decode cX11_meanTrailLength 29 = .ok (.goto (-17), 3) := by decide +kernel
theorem dX11_meanTrailLength_32 : decode cX11_meanTrailLength 32 = .ok (.iinc 2 1, 3) := by decide +kernel
theorem dX11_meanTrailLength_35 : decode cX11_meanTrailLength 35 = .ok (.goto (-31), 3) := by decide +kernel
theorem dX11_meanTrailLength_38 : decode cX11_meanTrailLength 38 = .ok (.aload_n 0, 1) := by decide +kernel
theorem dX11_meanTrailLength_39 : decode cX11_meanTrailLength 39 = .ok (.iload_n 1, 1) := by decide +kernel
theorem dX11_meanTrailLength_40 : decode cX11_meanTrailLength 40 = .ok (.ifCond .ne 7, 3) := by decide +kernel
theorem dX11_meanTrailLength_43 : decode cX11_meanTrailLength 43 = .ok (.iconst 1, 1) := by decide +kernel
theorem dX11_meanTrailLength_44 : decode cX11_meanTrailLength 44 = .ok (.goto 4, 3) := by decide +kernel
theorem dX11_meanTrailLength_47 : decode cX11_meanTrailLength 47 = .ok (.iconst 0, 1) := by decide +kernel
theorem dX11_meanTrailLength_48 : decode cX11_meanTrailLength 48 = .ok (.iconst 1, 1) := by decide +kernel
theorem dX11_meanTrailLength_49 : decode cX11_meanTrailLength 49 = .ok (.invokevirtual 63, 3) := by decide +kernel
theorem dX11_meanTrailLength_52 : decode cX11_meanTrailLength 52 = .ok (.ifCond .eq 7, 3) := by decide +kernel
theorem dX11_meanTrailLength_55 : decode cX11_meanTrailLength 55 = .ok (.dconst 0, 1) := by decide +kernel
theorem dX11_meanTrailLength_56 : decode cX11_meanTrailLength 56 = .ok (.goto 11, 3) := by decide +kernel
theorem dX11_meanTrailLength_59 : decode cX11_meanTrailLength 59 = .ok (.iload_n 1, 1) := by decide +kernel
theorem dX11_meanTrailLength_60 : decode cX11_meanTrailLength 60 = .ok (.i2d, 1) := by decide +kernel
theorem dX11_meanTrailLength_61 : decode cX11_meanTrailLength 61 = .ok (.aload_n 0, 1) := by decide +kernel
theorem dX11_meanTrailLength_62 : decode cX11_meanTrailLength 62 = .ok (.invokevirtual 86, 3) := by decide +kernel
theorem dX11_meanTrailLength_65 : decode cX11_meanTrailLength 65 = .ok (.i2d, 1) := by decide +kernel
theorem dX11_meanTrailLength_66 : decode cX11_meanTrailLength 66 = .ok (.ddiv, 1) := by decide +kernel
theorem dX11_meanTrailLength_67 : decode cX11_meanTrailLength 67 = .ok (.dreturn, 1) := by decide +kernel
theorem dX11_isConsistent_0 : decode cX11_isConsistent 0 = .ok (.aload_n 0, 1) := by decide +kernel
theorem dX11_isConsistent_1 : decode cX11_isConsistent 1 = .ok (.iconst 0, 1) := by decide +kernel
theorem dX11_isConsistent_2 : decode cX11_isConsistent 2 = .ok (.putfield 41, 3) := by decide +kernel
theorem dX11_isConsistent_5 : decode cX11_isConsistent 5 = .ok (.aload_n 0, 1) := by decide +kernel
theorem dX11_isConsistent_6 : decode cX11_isConsistent 6 = .ok (.getfield 9, 3) := by decide +kernel
theorem dX11_isConsistent_9 : decode cX11_isConsistent 9 = .ok (.iconst 5, 1) := by decide +kernel
theorem dX11_isConsistent_10 : decode cX11_isConsistent 10 = .ok (.iaload, 1) := by decide +kernel
theorem dX11_isConsistent_11 : decode cX11_isConsistent 11 = .ok (.ifCond .eq 10, 3) := by decide +kernel
theorem dX11_isConsistent_14 : decode cX11_isConsistent 14 = .ok (.aload_n 0, 1) := by decide +kernel
theorem dX11_isConsistent_15 : decode cX11_isConsistent 15 = .ok (.invokevirtual 97, 3) := by decide +kernel
theorem dX11_isConsistent_18 : decode cX11_isConsistent 18 = .ok (.ifCond .eq 7, 3) := by decide +kernel
theorem dX11_isConsistent_21 : decode cX11_isConsistent 21 = .ok (.iconst 1, 1) := by decide +kernel
theorem dX11_isConsistent_22 : decode cX11_isConsistent 22 = .ok (.goto 4, 3) := by decide +kernel
theorem dX11_isConsistent_25 : decode cX11_isConsistent 25 = .ok (.iconst 0, 1) := by decide +kernel
theorem dX11_isConsistent_26 : decode cX11_isConsistent 26 = .ok (.ireturn, 1) := by decide +kernel
theorem dX11_puts_0 : decode cX11_puts 0 = .ok (.aload_n 0, 1) := by decide +kernel
theorem dX11_puts_1 : decode cX11_puts 1 = .ok (.getfield 32, 3) := by decide +kernel
theorem dX11_puts_4 : decode cX11_puts 4 = .ok (.aload_n 0, 1) := by decide +kernel
theorem dX11_puts_5 : decode cX11_puts 5 = .ok (.getfield 181, 3) := by decide +kernel
theorem dX11_puts_8 : decode cX11_puts 8 = .ok (.iload_n 1, 1) := by decide +kernel
theorem dX11_puts_9 : decode cX11_puts 9 = .ok (.iastore, 1) := by decide +kernel
theorem dX11_puts_10 : decode cX11_puts 10 = .ok (.aload_n 0, 1) := by decide +kernel
theorem dX11_puts_11 : decode cX11_puts 11 = .ok (.dup, 1) := by decide +kernel
theorem dX11_puts_12 : decode cX11_puts 12 = .ok (.getfield 181, 3) := by decide +kernel
theorem dX11_puts_15 : decode cX11_puts 15 = .ok (.iconst 1, 1) := by decide +kernel
theorem dX11_puts_16 : decode cX11_puts 16 = .ok (.iadd, 1) := by decide +kernel
theorem dX11_puts_17 : decode cX11_puts 17 = .ok (.putfield 181, 3) := by decide +kernel
theorem dX11_puts_20 : decode cX11_puts 20 = .ok (.return_, 1) := by decide +kernel
theorem dX11_number_0 : decode cX11_number 0 = .ok (.iload_n 1, 1) := by decide +kernel
theorem dX11_number_1 : decode cX11_number 1 = .ok (.bipush 10, 2) := by decide +kernel
theorem dX11_number_3 : decode cX11_number 3 = .ok (.if_icmp .lt 11, 3) := by decide +kernel
theorem dX11_number_6 : decode cX11_number 6 = .ok (.aload_n 0, 1) := by decide +kernel
theorem dX11_number_7 : decode cX11_number 7 = .ok (.iload_n 1, 1) := by decide +kernel
theorem dX11_number_8 : decode cX11_number 8 = .ok (.bipush 10, 2) := by decide +kernel
theorem dX11_number_10 : decode cX11_number 10 = .ok (.idiv, 1) := by decide +kernel
theorem dX11_number_11 : decode cX11_number 11 = .ok (.invokevirtual 184, 3) := by decide +kernel
theorem dX11_number_14 : decode cX11_number 14 = .ok (.aload_n 0, 1) := by decide +kernel
theorem dX11_number_15 : decode cX11_number 15 = .ok (.bipush 48, 2) := by decide +kernel
theorem dX11_number_17 : decode cX11_number 17 = .ok (.iload_n 1, 1) := by decide +kernel
theorem dX11_number_18 : decode cX11_number 18 = .ok (.bipush 10, 2) := by decide +kernel
theorem dX11_number_20 : decode cX11_number 20 = .ok (.irem, 1) := by decide +kernel
theorem dX11_number_21 : decode cX11_number 21 = .ok (.iadd, 1) := by decide +kernel
theorem dX11_number_22 : decode cX11_number 22 = .ok (.invokevirtual 187, 3) := by decide +kernel
theorem dX11_number_25 : decode cX11_number 25 = .ok (.return_, 1) := by decide +kernel
theorem dX11_writeRoute_0 : decode cX11_writeRoute 0 = .ok (.aload_n 0, 1) := by decide +kernel
theorem dX11_writeRoute_1 : decode cX11_writeRoute 1 = .ok (.iconst 0, 1) := by decide +kernel
theorem dX11_writeRoute_2 : decode cX11_writeRoute 2 = .ok (.putfield 41, 3) := by decide +kernel
theorem dX11_writeRoute_5 : decode cX11_writeRoute 5 = .ok (.aload_n 0, 1) := by decide +kernel
theorem dX11_writeRoute_6 : decode cX11_writeRoute 6 = .ok (.iconst 0, 1) := by decide +kernel
theorem dX11_writeRoute_7 : decode cX11_writeRoute 7 = .ok (.putfield 181, 3) := by decide +kernel
theorem dX11_writeRoute_10 : decode cX11_writeRoute 10 = .ok (.iconst 0, 1) := by decide +kernel
theorem dX11_writeRoute_11 : decode cX11_writeRoute 11 = .ok (.istore_n 1, 1) := by decide +kernel
theorem dX11_writeRoute_12 : decode cX11_writeRoute 12 = .ok (.iload_n 1, 1) := by decide +kernel
theorem dX11_writeRoute_13 : decode cX11_writeRoute 13 = .ok (.aload_n 0, 1) := by decide +kernel
theorem dX11_writeRoute_14 : decode cX11_writeRoute 14 = .ok (.getfield 9, 3) := by decide +kernel
theorem dX11_writeRoute_17 : decode cX11_writeRoute 17 = .ok (.iconst 1, 1) := by decide +kernel
theorem dX11_writeRoute_18 : decode cX11_writeRoute 18 = .ok (.iaload, 1) := by decide +kernel
theorem dX11_writeRoute_19 : decode cX11_writeRoute 19 = .ok (.if_icmp .ge 74, 3) := by decide +kernel
theorem dX11_writeRoute_22 : decode cX11_writeRoute 22 = .ok (.iload_n 1, 1) := by decide +kernel
theorem dX11_writeRoute_23 : decode cX11_writeRoute 23 = .ok (.ifCond .le 9, 3) := by decide +kernel
theorem dX11_writeRoute_26 : decode cX11_writeRoute 26 = .ok (.aload_n 0, 1) := by decide +kernel
theorem dX11_writeRoute_27 : decode cX11_writeRoute 27 = .ok (.bipush 32, 2) := by decide +kernel
theorem dX11_writeRoute_29 : decode cX11_writeRoute 29 = .ok (.invokevirtual 187, 3) := by decide +kernel
theorem dX11_writeRoute_32 : decode cX11_writeRoute 32 = .ok (.iload_n 1, 1) := by decide +kernel
theorem dX11_writeRoute_33 : decode cX11_writeRoute 33 = .ok (.aload_n 0, 1) := by decide +kernel
theorem dX11_writeRoute_34 : decode cX11_writeRoute 34 = .ok (.getfield 9, 3) := by decide +kernel
theorem dX11_writeRoute_37 : decode cX11_writeRoute 37 = .ok (.iconst 2, 1) := by decide +kernel
theorem dX11_writeRoute_38 : decode cX11_writeRoute 38 = .ok (.iaload, 1) := by decide +kernel
theorem dX11_writeRoute_39 : decode cX11_writeRoute 39 = .ok (.if_icmp .ne 9, 3) := by decide +kernel
theorem dX11_writeRoute_42 : decode cX11_writeRoute 42 = .ok (.aload_n 0, 1) := by decide +kernel
theorem dX11_writeRoute_43 : decode cX11_writeRoute 43 = .ok (.bipush 42, 2) := by decide +kernel
theorem dX11_writeRoute_45 : decode cX11_writeRoute 45 = .ok (.invokevirtual 187, 3) := by decide +kernel
theorem dX11_writeRoute_48 : decode cX11_writeRoute 48 = .ok (.aload_n 0, 1) := by decide +kernel
theorem dX11_writeRoute_49 : decode cX11_writeRoute 49 = .ok (.aload_n 0, 1) := by decide +kernel
theorem dX11_writeRoute_50 : decode cX11_writeRoute 50 = .ok (.getfield 9, 3) := by decide +kernel
theorem dX11_writeRoute_53 : decode cX11_writeRoute 53 = .ok (.sipush 192, 3) := by decide +kernel
theorem dX11_writeRoute_56 : decode cX11_writeRoute 56 = .ok (.iload_n 1, 1) := by decide +kernel
theorem dX11_writeRoute_57 : decode cX11_writeRoute 57 = .ok (.iadd, 1) := by decide +kernel
theorem dX11_writeRoute_58 : decode cX11_writeRoute 58 = .ok (.iaload, 1) := by decide +kernel
theorem dX11_writeRoute_59 : decode cX11_writeRoute 59 = .ok (.invokevirtual 184, 3) := by decide +kernel
theorem dX11_writeRoute_62 : decode cX11_writeRoute 62 = .ok (.iload_n 1, 1) := by decide +kernel
theorem dX11_writeRoute_63 : decode cX11_writeRoute 63 = .ok (.ifCond .le 24, 3) := by decide +kernel
theorem dX11_writeRoute_66 : decode cX11_writeRoute 66 = .ok (.iload_n 1, 1) := by decide +kernel
theorem dX11_writeRoute_67 : decode cX11_writeRoute 67 = .ok (.aload_n 0, 1) := by decide +kernel
theorem dX11_writeRoute_68 : decode cX11_writeRoute 68 = .ok (.getfield 9, 3) := by decide +kernel
theorem dX11_writeRoute_71 : decode cX11_writeRoute 71 = .ok (.iconst 1, 1) := by decide +kernel
theorem dX11_writeRoute_72 : decode cX11_writeRoute 72 = .ok (.iaload, 1) := by decide +kernel
theorem dX11_writeRoute_73 : decode cX11_writeRoute 73 = .ok (.iconst 1, 1) := by decide +kernel
theorem dX11_writeRoute_74 : decode cX11_writeRoute 74 = .ok (.isub, 1) := by decide +kernel
theorem dX11_writeRoute_75 : decode cX11_writeRoute 75 = .ok (.if_icmp .ge 12, 3) := by decide +kernel
theorem dX11_writeRoute_78 : decode cX11_writeRoute 78 = .ok (.aload_n 0, 1) := by decide +kernel
theorem dX11_writeRoute_79 : decode cX11_writeRoute 79 = .ok (.aload_n 0, 1) := by decide +kernel
theorem dX11_writeRoute_80 : decode cX11_writeRoute 80 = .ok (.iload_n 1, 1) := by decide +kernel
theorem dX11_writeRoute_81 : decode cX11_writeRoute 81 = .ok (.invokevirtual 172, 3) := by decide +kernel
theorem dX11_writeRoute_84 : decode cX11_writeRoute 84 = .ok (.invokevirtual 187, 3) := by decide +kernel
theorem dX11_writeRoute_87 : decode cX11_writeRoute 87 = .ok (.iinc 1 1, 3) := by decide +kernel
theorem dX11_writeRoute_90 : decode cX11_writeRoute 90 = .ok (.goto (-78), 3) := by decide +kernel
theorem dX11_writeRoute_93 : decode cX11_writeRoute 93 = .ok (.aload_n 0, 1) := by decide +kernel
theorem dX11_writeRoute_94 : decode cX11_writeRoute 94 = .ok (.getfield 181, 3) := by decide +kernel
theorem dX11_writeRoute_97 : decode cX11_writeRoute 97 = .ok (.ireturn, 1) := by decide +kernel
theorem dX11_writeTrails_0 : decode cX11_writeTrails 0 = .ok (.aload_n 0, 1) := by decide +kernel
theorem dX11_writeTrails_1 : decode cX11_writeTrails 1 = .ok (.aload_n 0, 1) := by decide +kernel
theorem dX11_writeTrails_2 : decode cX11_writeTrails 2 = .ok (.iload_n 1, 1) := by decide +kernel
theorem dX11_writeTrails_3 : decode cX11_writeTrails 3 = .ok (.invokevirtual 78, 3) := by decide +kernel
theorem dX11_writeTrails_6 : decode cX11_writeTrails 6 = .ok (.ifCond .ne 7, 3) := by decide +kernel
theorem dX11_writeTrails_9 : decode cX11_writeTrails 9 = .ok (.iconst 1, 1) := by decide +kernel
theorem dX11_writeTrails_10 : decode cX11_writeTrails 10 = .ok (.goto 4, 3) := by decide +kernel
theorem dX11_writeTrails_13 : decode cX11_writeTrails 13 = .ok (.iconst 0, 1) := by decide +kernel
theorem dX11_writeTrails_14 : decode cX11_writeTrails 14 = .ok (.iconst 1, 1) := by decide +kernel
theorem dX11_writeTrails_15 : decode cX11_writeTrails 15 = .ok (.invokevirtual 63, 3) := by decide +kernel
theorem dX11_writeTrails_18 : decode cX11_writeTrails 18 = .ok (.ifCond .eq 5, 3) := by decide +kernel
theorem dX11_writeTrails_21 : decode cX11_writeTrails 21 = .ok (.iconst 0, 1) := by decide +kernel
theorem dX11_writeTrails_22 : decode cX11_writeTrails 22 = .ok (.ireturn, 1) := by decide +kernel
theorem dX11_writeTrails_23 : decode cX11_writeTrails 23 = .ok (.aload_n 0, 1) := by decide +kernel
theorem dX11_writeTrails_24 : decode cX11_writeTrails 24 = .ok (.iconst 0, 1) := by decide +kernel
theorem dX11_writeTrails_25 : decode cX11_writeTrails 25 = .ok (.putfield 181, 3) := by decide +kernel
theorem dX11_writeTrails_28 : decode cX11_writeTrails 28 = .ok (.iconst 0, 1) := by decide +kernel
theorem dX11_writeTrails_29 : decode cX11_writeTrails 29 = .ok (.istore_n 2, 1) := by decide +kernel
theorem dX11_writeTrails_30 : decode cX11_writeTrails 30 = .ok (.iload_n 2, 1) := by decide +kernel
theorem dX11_writeTrails_31 : decode cX11_writeTrails 31 = .ok (.aload_n 0, 1) := by decide +kernel
theorem dX11_writeTrails_32 : decode cX11_writeTrails 32 = .ok (.getfield 9, 3) := by decide +kernel
theorem dX11_writeTrails_35 : decode cX11_writeTrails 35 = .ok (.iconst 0, 1) := by decide +kernel
theorem dX11_writeTrails_36 : decode cX11_writeTrails 36 = .ok (.iaload, 1) := by decide +kernel
theorem dX11_writeTrails_37 : decode cX11_writeTrails 37 = .ok (.if_icmp .ge 45, 3) := by decide +kernel
theorem dX11_writeTrails_40 : decode cX11_writeTrails 40 = .ok (.aload_n 0, 1) := by decide +kernel
theorem dX11_writeTrails_41 : decode cX11_writeTrails 41 = .ok (.iload_n 1, 1) := by decide +kernel
theorem dX11_writeTrails_42 : decode cX11_writeTrails 42 = .ok (.iload_n 2, 1) := by decide +kernel
theorem dX11_writeTrails_43 : decode cX11_writeTrails 43 = .ok (.invokevirtual 55, 3) := by decide +kernel
theorem dX11_writeTrails_46 : decode cX11_writeTrails 46 = .ok (.ifCond .le 30, 3) := by decide +kernel
theorem dX11_writeTrails_49 : decode cX11_writeTrails 49 = .ok (.aload_n 0, 1) := by decide +kernel
theorem dX11_writeTrails_50 : decode cX11_writeTrails 50 = .ok (.bipush 45, 2) := by decide +kernel
theorem dX11_writeTrails_52 : decode cX11_writeTrails 52 = .ok (.invokevirtual 187, 3) := by decide +kernel
theorem dX11_writeTrails_55 : decode cX11_writeTrails 55 = .ok (.aload_n 0, 1) := by decide +kernel
theorem dX11_writeTrails_56 : decode cX11_writeTrails 56 = .ok (.iload_n 2, 1) := by decide +kernel
theorem dX11_writeTrails_57 : decode cX11_writeTrails 57 = .ok (.invokevirtual 184, 3) := by decide +kernel
theorem dX11_writeTrails_60 : decode cX11_writeTrails 60 = .ok (.aload_n 0, 1) := by decide +kernel
theorem dX11_writeTrails_61 : decode cX11_writeTrails 61 = .ok (.bipush 61, 2) := by decide +kernel
theorem dX11_writeTrails_63 : decode cX11_writeTrails 63 = .ok (.invokevirtual 187, 3) := by decide +kernel
theorem dX11_writeTrails_66 : decode cX11_writeTrails 66 = .ok (.aload_n 0, 1) := by decide +kernel
theorem dX11_writeTrails_67 : decode cX11_writeTrails 67 = .ok (.aload_n 0, 1) := by decide +kernel
theorem dX11_writeTrails_68 : decode cX11_writeTrails 68 = .ok (.iload_n 1, 1) := by decide +kernel
theorem dX11_writeTrails_69 : decode cX11_writeTrails 69 = .ok (.iload_n 2, 1) := by decide +kernel
theorem dX11_writeTrails_70 : decode cX11_writeTrails 70 = .ok (.invokevirtual 55, 3) := by decide +kernel
theorem dX11_writeTrails_73 : decode cX11_writeTrails 73 = .ok (.invokevirtual 184, 3) := by decide +kernel
theorem dX11_writeTrails_76 : decode cX11_writeTrails 76 = .ok (.iinc 2 1, 3) := by decide +kernel
theorem dX11_writeTrails_79 : decode cX11_writeTrails 79 = .ok (.goto (-49), 3) := by decide +kernel
theorem dX11_writeTrails_82 : decode cX11_writeTrails 82 = .ok (.aload_n 0, 1) := by decide +kernel
theorem dX11_writeTrails_83 : decode cX11_writeTrails 83 = .ok (.getfield 181, 3) := by decide +kernel
theorem dX11_writeTrails_86 : decode cX11_writeTrails 86 = .ok (.ireturn, 1) := by decide +kernel
theorem dX11_charAt_0 : decode cX11_charAt 0 = .ok (.aload_n 0, 1) := by decide +kernel
theorem dX11_charAt_1 : decode cX11_charAt 1 = .ok (.iload_n 1, 1) := by decide +kernel
theorem dX11_charAt_2 : decode cX11_charAt 2 = .ok (.iconst 0, 1) := by decide +kernel
theorem dX11_charAt_3 : decode cX11_charAt 3 = .ok (.aload_n 0, 1) := by decide +kernel
theorem dX11_charAt_4 : decode cX11_charAt 4 = .ok (.getfield 181, 3) := by decide +kernel
theorem dX11_charAt_7 : decode cX11_charAt 7 = .ok (.iconst 1, 1) := by decide +kernel
theorem dX11_charAt_8 : decode cX11_charAt 8 = .ok (.isub, 1) := by decide +kernel
theorem dX11_charAt_9 : decode cX11_charAt 9 = .ok (.invokestatic 51, 3) := by decide +kernel
theorem dX11_charAt_12 : decode cX11_charAt 12 = .ok (.ifCond .ne 7, 3) := by decide +kernel
theorem dX11_charAt_15 : decode cX11_charAt 15 = .ok (.iconst 1, 1) := by decide +kernel
theorem dX11_charAt_16 : decode cX11_charAt 16 = .ok (.goto 4, 3) := by decide +kernel
theorem dX11_charAt_19 : decode cX11_charAt 19 = .ok (.iconst 0, 1) := by decide +kernel
theorem dX11_charAt_20 : decode cX11_charAt 20 = .ok (.iconst 1, 1) := by decide +kernel
theorem dX11_charAt_21 : decode cX11_charAt 21 = .ok (.invokevirtual 63, 3) := by decide +kernel
theorem dX11_charAt_24 : decode cX11_charAt 24 = .ok (.ifCond .eq 7, 3) := by decide +kernel
theorem dX11_charAt_27 : decode cX11_charAt 27 = .ok (.iconst 0, 1) := by decide +kernel
theorem dX11_charAt_28 : decode cX11_charAt 28 = .ok (.goto 10, 3) := by decide +kernel
theorem dX11_charAt_31 : decode cX11_charAt 31 = .ok (.aload_n 0, 1) := by decide +kernel
theorem dX11_charAt_32 : decode cX11_charAt 32 = .ok (.getfield 32, 3) := by decide +kernel
theorem dX11_charAt_35 : decode cX11_charAt 35 = .ok (.iload_n 1, 1) := by decide +kernel
theorem dX11_charAt_36 : decode cX11_charAt 36 = .ok (.iaload, 1) := by decide +kernel
theorem dX11_charAt_37 : decode cX11_charAt 37 = .ok (.i2c, 1) := by decide +kernel
theorem dX11_charAt_38 : decode cX11_charAt 38 = .ok (.ireturn, 1) := by decide +kernel
theorem dX11_type_0 : decode cX11_type 0 = .ok (.aload_n 0, 1) := by decide +kernel
theorem dX11_type_1 : decode cX11_type 1 = .ok (.aload_n 0, 1) := by decide +kernel
theorem dX11_type_2 : decode cX11_type 2 = .ok (.getfield 190, 3) := by decide +kernel
theorem dX11_type_5 : decode cX11_type 5 = .ok (.bipush 60, 2) := by decide +kernel
theorem dX11_type_7 : decode cX11_type 7 = .ok (.if_icmp .ne 7, 3) := by decide +kernel
theorem dX11_type_10 : decode cX11_type 10 = .ok (.iconst 1, 1) := by decide +kernel
theorem dX11_type_11 : decode cX11_type 11 = .ok (.goto 4, 3) := by decide +kernel
theorem dX11_type_14 : decode cX11_type 14 = .ok (.iconst 0, 1) := by decide +kernel
theorem dX11_type_15 : decode cX11_type 15 = .ok (.iconst 1, 1) := by decide +kernel
theorem dX11_type_16 : decode cX11_type 16 = .ok (.invokevirtual 63, 3) := by decide +kernel
theorem dX11_type_19 : decode cX11_type 19 = .ok (.ifCond .eq 5, 3) := by decide +kernel
theorem dX11_type_22 : decode cX11_type 22 = .ok (.iconst 0, 1) := by decide +kernel
theorem dX11_type_23 : decode cX11_type 23 = .ok (.ireturn, 1) := by decide +kernel
theorem dX11_type_24 : decode cX11_type 24 = .ok (.aload_n 0, 1) := by decide +kernel
theorem dX11_type_25 : decode cX11_type 25 = .ok (.getfield 35, 3) := by decide +kernel
theorem dX11_type_28 : decode cX11_type 28 = .ok (.aload_n 0, 1) := by decide +kernel
theorem dX11_type_29 : decode cX11_type 29 = .ok (.getfield 190, 3) := by decide +kernel
theorem dX11_type_32 : decode cX11_type 32 = .ok (.iload_n 1, 1) := by decide +kernel
theorem dX11_type_33 : decode cX11_type 33 = .ok (.iastore, 1) := by decide +kernel
theorem dX11_type_34 : decode cX11_type 34 = .ok (.aload_n 0, 1) := by decide +kernel
theorem dX11_type_35 : decode cX11_type 35 = .ok (.dup, 1) := by decide +kernel
theorem dX11_type_36 : decode cX11_type 36 = .ok (.getfield 190, 3) := by decide +kernel
theorem dX11_type_39 : decode cX11_type 39 = .ok (.iconst 1, 1) := by decide +kernel
theorem dX11_type_40 : decode cX11_type 40 = .ok (.iadd, 1) := by decide +kernel
theorem dX11_type_41 : decode cX11_type 41 = .ok (.putfield 190, 3) := by decide +kernel
theorem dX11_type_44 : decode cX11_type 44 = .ok (.aload_n 0, 1) := by decide +kernel
theorem dX11_type_45 : decode cX11_type 45 = .ok (.getfield 190, 3) := by decide +kernel
theorem dX11_type_48 : decode cX11_type 48 = .ok (.ireturn, 1) := by decide +kernel
theorem dX11_sign_0 : decode cX11_sign 0 = .ok (.aload_n 0, 1) := by decide +kernel
theorem dX11_sign_1 : decode cX11_sign 1 = .ok (.getfield 193, 3) := by decide +kernel
theorem dX11_sign_4 : decode cX11_sign 4 = .ok (.aload_n 0, 1) := by decide +kernel
theorem dX11_sign_5 : decode cX11_sign 5 = .ok (.getfield 190, 3) := by decide +kernel
theorem dX11_sign_8 : decode cX11_sign 8 = .ok (.if_icmp .ge 15, 3) := by decide +kernel
theorem dX11_sign_11 : decode cX11_sign 11 = .ok (.aload_n 0, 1) := by decide +kernel
theorem dX11_sign_12 : decode cX11_sign 12 = .ok (.getfield 35, 3) := by decide +kernel
theorem dX11_sign_15 : decode cX11_sign 15 = .ok (.aload_n 0, 1) := by decide +kernel
theorem dX11_sign_16 : decode cX11_sign 16 = .ok (.getfield 193, 3) := by decide +kernel
theorem dX11_sign_19 : decode cX11_sign 19 = .ok (.iaload, 1) := by decide +kernel
theorem dX11_sign_20 : decode cX11_sign 20 = .ok (.goto 4, 3) := by decide +kernel
theorem dX11_sign_23 : decode cX11_sign 23 = .ok (.iconst (-1), 1) := by decide +kernel
theorem dX11_sign_24 : decode cX11_sign 24 = .ok (.ireturn, 1) := by decide +kernel
theorem dX11_isSign_0 : decode cX11_isSign 0 = .ok (.aload_n 0, 1) := by decide +kernel
theorem dX11_isSign_1 : decode cX11_isSign 1 = .ok (.invokevirtual 196, 3) := by decide +kernel
theorem dX11_isSign_4 : decode cX11_isSign 4 = .ok (.iload_n 1, 1) := by decide +kernel
theorem dX11_isSign_5 : decode cX11_isSign 5 = .ok (.if_icmp .ne 7, 3) := by decide +kernel
theorem dX11_isSign_8 : decode cX11_isSign 8 = .ok (.iconst 1, 1) := by decide +kernel
theorem dX11_isSign_9 : decode cX11_isSign 9 = .ok (.goto 4, 3) := by decide +kernel
theorem dX11_isSign_12 : decode cX11_isSign 12 = .ok (.iconst 0, 1) := by decide +kernel
theorem dX11_isSign_13 : decode cX11_isSign 13 = .ok (.istore_n 2, 1) := by decide +kernel
theorem dX11_isSign_14 : decode cX11_isSign 14 = .ok (.aload_n 0, 1) := by decide +kernel
theorem dX11_isSign_15 : decode cX11_isSign 15 = .ok (.dup, 1) := by decide +kernel
theorem dX11_isSign_16 : decode cX11_isSign 16 = .ok (.getfield 193, 3) := by decide +kernel
theorem dX11_isSign_19 : decode cX11_isSign 19 = .ok (.iload_n 2, 1) := by decide +kernel
theorem dX11_isSign_20 : decode cX11_isSign 20 = .ok (.ifCond .eq 7, 3) := by decide +kernel
theorem dX11_isSign_23 : decode cX11_isSign 23 = .ok (.iconst 1, 1) := by decide +kernel
theorem dX11_isSign_24 : decode cX11_isSign 24 = .ok (.goto 4, 3) := by decide +kernel
theorem dX11_isSign_27 : decode cX11_isSign 27 = .ok (.iconst 0, 1) := by decide +kernel
theorem dX11_isSign_28 : decode cX11_isSign 28 = .ok (.iadd, 1) := by decide +kernel
theorem dX11_isSign_29 : decode cX11_isSign 29 = .ok (.putfield 193, 3) := by decide +kernel
theorem dX11_isSign_32 : decode cX11_isSign 32 = .ok (.iload_n 2, 1) := by decide +kernel
theorem dX11_isSign_33 : decode cX11_isSign 33 = .ok (.ireturn, 1) := by decide +kernel
theorem dX11_isNumber_0 : decode cX11_isNumber 0 = .ok (.iconst 0, 1) := by decide +kernel
theorem dX11_isNumber_1 : decode cX11_isNumber 1 = .ok (.istore_n 3, 1) := by decide +kernel
theorem dX11_isNumber_2 : decode cX11_isNumber 2 = .ok (.iconst 0, 1) := by decide +kernel
theorem dX11_isNumber_3 : decode cX11_isNumber 3 = .ok (.istore 4, 2) := by decide +kernel
theorem dX11_isNumber_5 : decode cX11_isNumber 5 = .ok (.iload 4, 2) := by decide +kernel
theorem dX11_isNumber_7 : decode cX11_isNumber 7 = .ok (.iload_n 1, 1) := by decide +kernel
theorem dX11_isNumber_8 : decode cX11_isNumber 8 = .ok (.if_icmp .ge 46, 3) := by decide +kernel
theorem dX11_isNumber_11 : decode cX11_isNumber 11 = .ok (.aload_n 0, 1) := by decide +kernel
theorem dX11_isNumber_12 : decode cX11_isNumber 12 = .ok (.invokevirtual 196, 3) := by decide +kernel
theorem dX11_isNumber_15 : decode cX11_isNumber 15 = .ok (.bipush 48, 2) := by decide +kernel
theorem dX11_isNumber_17 : decode cX11_isNumber 17 = .ok (.bipush 57, 2) := by decide +kernel
theorem dX11_isNumber_19 : decode cX11_isNumber 19 = .ok (.invokestatic 51, 3) := by decide +kernel
theorem dX11_isNumber_22 : decode cX11_isNumber 22 = .ok (.ifCond .eq 32, 3) := by decide +kernel
theorem dX11_isNumber_25 : decode cX11_isNumber 25 = .ok (.bipush 10, 2) := by decide +kernel
theorem dX11_isNumber_27 : decode cX11_isNumber 27 = .ok (.iload_n 3, 1) := by decide +kernel
theorem dX11_isNumber_28 : decode cX11_isNumber 28 = .ok (.imul, 1) := by decide +kernel
theorem dX11_isNumber_29 : decode cX11_isNumber 29 = .ok (.aload_n 0, 1) := by decide +kernel
theorem dX11_isNumber_30 : decode cX11_isNumber 30 = .ok (.invokevirtual 196, 3) := by decide +kernel
theorem dX11_isNumber_33 : decode cX11_isNumber 33 = .ok (.iadd, 1) := by decide +kernel
theorem dX11_isNumber_34 : decode cX11_isNumber 34 = .ok (.bipush 48, 2) := by decide +kernel
theorem dX11_isNumber_36 : decode cX11_isNumber 36 = .ok (.isub, 1) := by decide +kernel
theorem dX11_isNumber_37 : decode cX11_isNumber 37 = .ok (.istore_n 3, 1) := by decide +kernel
theorem dX11_isNumber_38 : decode cX11_isNumber 38 = .ok (.aload_n 0, 1) := by decide +kernel
theorem dX11_isNumber_39 : decode cX11_isNumber 39 = .ok (.dup, 1) := by decide +kernel
theorem dX11_isNumber_40 : decode cX11_isNumber 40 = .ok (.getfield 193, 3) := by decide +kernel
theorem dX11_isNumber_43 : decode cX11_isNumber 43 = .ok (.iconst 1, 1) := by decide +kernel
theorem dX11_isNumber_44 : decode cX11_isNumber 44 = .ok (.iadd, 1) := by decide +kernel
theorem dX11_isNumber_45 : decode cX11_isNumber 45 = .ok (.putfield 193, 3) := by decide +kernel
theorem dX11_isNumber_48 : decode cX11_isNumber 48 = .ok (.iinc 4 1, 3) := by decide +kernel
theorem dX11_isNumber_51 : decode cX11_isNumber 51 = .ok (.goto (-46), 3) := by decide +kernel
theorem dX11_isNumber_54 : decode cX11_isNumber 54 = .ok (.aload_n 0, 1) := by decide +kernel
theorem dX11_isNumber_55 : decode cX11_isNumber 55 = .ok (.getfield 38, 3) := by decide +kernel
theorem dX11_isNumber_58 : decode cX11_isNumber 58 = .ok (.iload_n 2, 1) := by decide +kernel
theorem dX11_isNumber_59 : decode cX11_isNumber 59 = .ok (.iload_n 3, 1) := by decide +kernel
theorem dX11_isNumber_60 : decode cX11_isNumber 60 = .ok (.iastore, 1) := by decide +kernel
theorem dX11_isNumber_61 : decode cX11_isNumber 61 = .ok (.iload 4, 2) := by decide +kernel
theorem dX11_isNumber_63 : decode cX11_isNumber 63 = .ok (.ifCond .le 7, 3) := by decide +kernel
theorem dX11_isNumber_66 : decode cX11_isNumber 66 = .ok (.iconst 1, 1) := by decide +kernel
theorem dX11_isNumber_67 : decode cX11_isNumber 67 = .ok (.goto 4, 3) := by decide +kernel
theorem dX11_isNumber_70 : decode cX11_isNumber 70 = .ok (.iconst 0, 1) := by decide +kernel
theorem dX11_isNumber_71 : decode cX11_isNumber 71 = .ok (.ireturn, 1) := by decide +kernel
theorem dX11_isWord_0 : decode cX11_isWord 0 = .ok (.iconst 0, 1) := by decide +kernel
theorem dX11_isWord_1 : decode cX11_isWord 1 = .ok (.istore_n 2, 1) := by decide +kernel
theorem dX11_isWord_2 : decode cX11_isWord 2 = .ok (.iload_n 2, 1) := by decide +kernel
theorem dX11_isWord_3 : decode cX11_isWord 3 = .ok (.aload_n 1, 1) := by decide +kernel
theorem dX11_isWord_4 : decode cX11_isWord 4 = .ok (.invokevirtual 199, 3) := by decide +kernel
theorem dX11_isWord_7 : decode cX11_isWord 7 = .ok (.if_icmp .ge 23, 3) := by decide +kernel
theorem dX11_isWord_10 : decode cX11_isWord 10 = .ok (.aload_n 0, 1) := by decide +kernel
theorem dX11_isWord_11 : decode cX11_isWord 11 = .ok (.aload_n 1, 1) := by decide +kernel
theorem dX11_isWord_12 : decode cX11_isWord 12 = .ok (.iload_n 2, 1) := by decide +kernel
theorem dX11_isWord_13 : decode cX11_isWord 13 = .ok (.invokevirtual 204, 3) := by decide +kernel
theorem dX11_isWord_16 : decode cX11_isWord 16 = .ok (.invokevirtual 208, 3) := by decide +kernel
theorem dX11_isWord_19 : decode cX11_isWord 19 = .ok (.ifCond .ne 5, 3) := by decide +kernel
theorem dX11_isWord_22 : decode cX11_isWord 22 = .ok (.iconst 0, 1) := by decide +kernel
theorem dX11_isWord_23 : decode cX11_isWord 23 = .ok (.ireturn, 1) := by decide +kernel
theorem dX11_isWord_24 : decode cX11_isWord 24 = .ok (.iinc 2 1, 3) := by decide +kernel
theorem dX11_isWord_27 : decode cX11_isWord 27 = .ok (.goto (-25), 3) := by decide +kernel
theorem dX11_isWord_30 : decode cX11_isWord 30 = .ok (.iconst 1, 1) := by decide +kernel
theorem dX11_isWord_31 : decode cX11_isWord 31 = .ok (.ireturn, 1) := by decide +kernel
theorem dX11_isMode_0 : decode cX11_isMode 0 = .ok (.iconst 0, 1) := by decide +kernel
theorem dX11_isMode_1 : decode cX11_isMode 1 = .ok (.istore_n 2, 1) := by decide +kernel
theorem dX11_isMode_2 : decode cX11_isMode 2 = .ok (.iload_n 2, 1) := by decide +kernel
theorem dX11_isMode_3 : decode cX11_isMode 3 = .ok (.iconst 3, 1) := by decide +kernel
theorem dX11_isMode_4 : decode cX11_isMode 4 = .ok (.if_icmp .ge 31, 3) := by decide +kernel
theorem dX11_isMode_7 : decode cX11_isMode 7 = .ok (.aload_n 0, 1) := by decide +kernel
theorem dX11_isMode_8 : decode cX11_isMode 8 = .ok (.ldc 211, 2) := by decide +kernel
theorem dX11_isMode_10 : decode cX11_isMode 10 = .ok (.iload_n 2, 1) := by decide +kernel
theorem dX11_isMode_11 : decode cX11_isMode 11 = .ok (.invokevirtual 204, 3) := by decide +kernel
theorem dX11_isMode_14 : decode cX11_isMode 14 = .ok (.invokevirtual 208, 3) := by decide +kernel
theorem dX11_isMode_17 : decode cX11_isMode 17 = .ok (.ifCond .eq 12, 3) := by decide +kernel
theorem dX11_isMode_20 : decode cX11_isMode 20 = .ok (.aload_n 0, 1) := by decide +kernel
theorem dX11_isMode_21 : decode cX11_isMode 21 = .ok (.getfield 38, 3) := by decide +kernel
theorem dX11_isMode_24 : decode cX11_isMode 24 = .ok (.iload_n 1, 1) := by decide +kernel
theorem dX11_isMode_25 : decode cX11_isMode 25 = .ok (.iload_n 2, 1) := by decide +kernel
theorem dX11_isMode_26 : decode cX11_isMode 26 = .ok (.iastore, 1) := by decide +kernel
theorem dX11_isMode_27 : decode cX11_isMode 27 = .ok (.iconst 1, 1) := by decide +kernel
theorem dX11_isMode_28 : decode cX11_isMode 28 = .ok (.ireturn, 1) := by decide +kernel
theorem dX11_isMode_29 : decode cX11_isMode 29 = .ok (.iinc 2 1, 3) := by decide +kernel
theorem dX11_isMode_32 : decode cX11_isMode 32 = .ok (.goto (-30), 3) := by decide +kernel
theorem dX11_isMode_35 : decode cX11_isMode 35 = .ok (.iconst 0, 1) := by decide +kernel
theorem dX11_isMode_36 : decode cX11_isMode 36 = .ok (.ireturn, 1) := by decide +kernel
theorem dX11_isPair_0 : decode cX11_isPair 0 = .ok (.aload_n 0, 1) := by decide +kernel
theorem dX11_isPair_1 : decode cX11_isPair 1 = .ok (.iconst 3, 1) := by decide +kernel
theorem dX11_isPair_2 : decode cX11_isPair 2 = .ok (.iload_n 2, 1) := by decide +kernel
theorem dX11_isPair_3 : decode cX11_isPair 3 = .ok (.iconst 1, 1) := by decide +kernel
theorem dX11_isPair_4 : decode cX11_isPair 4 = .ok (.iadd, 1) := by decide +kernel
theorem dX11_isPair_5 : decode cX11_isPair 5 = .ok (.invokevirtual 213, 3) := by decide +kernel
theorem dX11_isPair_8 : decode cX11_isPair 8 = .ok (.ifCond .eq 26, 3) := by decide +kernel
theorem dX11_isPair_11 : decode cX11_isPair 11 = .ok (.aload_n 0, 1) := by decide +kernel
theorem dX11_isPair_12 : decode cX11_isPair 12 = .ok (.iload_n 1, 1) := by decide +kernel
theorem dX11_isPair_13 : decode cX11_isPair 13 = .ok (.invokevirtual 208, 3) := by decide +kernel
theorem dX11_isPair_16 : decode cX11_isPair 16 = .ok (.ifCond .eq 18, 3) := by decide +kernel
theorem dX11_isPair_19 : decode cX11_isPair 19 = .ok (.aload_n 0, 1) := by decide +kernel
theorem dX11_isPair_20 : decode cX11_isPair 20 = .ok (.iconst 3, 1) := by decide +kernel
theorem dX11_isPair_21 : decode cX11_isPair 21 = .ok (.iload_n 2, 1) := by decide +kernel
theorem dX11_isPair_22 : decode cX11_isPair 22 = .ok (.iconst 2, 1) := by decide +kernel
theorem dX11_isPair_23 : decode cX11_isPair 23 = .ok (.iadd, 1) := by decide +kernel
theorem dX11_isPair_24 : decode cX11_isPair 24 = .ok (.invokevirtual 213, 3) := by decide +kernel
theorem dX11_isPair_27 : decode cX11_isPair 27 = .ok (.ifCond .eq 7, 3) := by decide +kernel
theorem dX11_isPair_30 : decode cX11_isPair 30 = .ok (.iconst 1, 1) := by decide +kernel
theorem dX11_isPair_31 : decode cX11_isPair 31 = .ok (.goto 4, 3) := by decide +kernel
theorem dX11_isPair_34 : decode cX11_isPair 34 = .ok (.iconst 0, 1) := by decide +kernel
theorem dX11_isPair_35 : decode cX11_isPair 35 = .ok (.ireturn, 1) := by decide +kernel
theorem dX11_readsT_0 : decode cX11_readsT 0 = .ok (.aload_n 0, 1) := by decide +kernel
theorem dX11_readsT_1 : decode cX11_readsT 1 = .ok (.bipush 114, 2) := by decide +kernel
theorem dX11_readsT_3 : decode cX11_readsT 3 = .ok (.invokevirtual 208, 3) := by decide +kernel
theorem dX11_readsT_6 : decode cX11_readsT 6 = .ok (.ifCond .eq 48, 3) := by decide +kernel
theorem dX11_readsT_9 : decode cX11_readsT 9 = .ok (.aload_n 0, 1) := by decide +kernel
theorem dX11_readsT_10 : decode cX11_readsT 10 = .ok (.ldc 216, 2) := by decide +kernel
theorem dX11_readsT_12 : decode cX11_readsT 12 = .ok (.invokevirtual 218, 3) := by decide +kernel
theorem dX11_readsT_15 : decode cX11_readsT 15 = .ok (.ifCond .eq 37, 3) := by decide +kernel
theorem dX11_readsT_18 : decode cX11_readsT 18 = .ok (.aload_n 0, 1) := by decide +kernel
theorem dX11_readsT_19 : decode cX11_readsT 19 = .ok (.bipush 45, 2) := by decide +kernel
theorem dX11_readsT_21 : decode cX11_readsT 21 = .ok (.iload_n 1, 1) := by decide +kernel
theorem dX11_readsT_22 : decode cX11_readsT 22 = .ok (.invokevirtual 222, 3) := by decide +kernel
theorem dX11_readsT_25 : decode cX11_readsT 25 = .ok (.ifCond .eq 27, 3) := by decide +kernel
theorem dX11_readsT_28 : decode cX11_readsT 28 = .ok (.aload_n 0, 1) := by decide +kernel
theorem dX11_readsT_29 : decode cX11_readsT 29 = .ok (.bipush 61, 2) := by decide +kernel
theorem dX11_readsT_31 : decode cX11_readsT 31 = .ok (.invokevirtual 208, 3) := by decide +kernel
theorem dX11_readsT_34 : decode cX11_readsT 34 = .ok (.ifCond .eq 18, 3) := by decide +kernel
theorem dX11_readsT_37 : decode cX11_readsT 37 = .ok (.aload_n 0, 1) := by decide +kernel
theorem dX11_readsT_38 : decode cX11_readsT 38 = .ok (.iconst 3, 1) := by decide +kernel
theorem dX11_readsT_39 : decode cX11_readsT 39 = .ok (.iload_n 1, 1) := by decide +kernel
theorem dX11_readsT_40 : decode cX11_readsT 40 = .ok (.iconst 3, 1) := by decide +kernel
theorem dX11_readsT_41 : decode cX11_readsT 41 = .ok (.iadd, 1) := by decide +kernel
theorem dX11_readsT_42 : decode cX11_readsT 42 = .ok (.invokevirtual 213, 3) := by decide +kernel
theorem dX11_readsT_45 : decode cX11_readsT 45 = .ok (.ifCond .eq 7, 3) := by decide +kernel
theorem dX11_readsT_48 : decode cX11_readsT 48 = .ok (.iconst 1, 1) := by decide +kernel
theorem dX11_readsT_49 : decode cX11_readsT 49 = .ok (.goto 4, 3) := by decide +kernel
theorem dX11_readsT_52 : decode cX11_readsT 52 = .ok (.iconst 0, 1) := by decide +kernel
theorem dX11_readsT_53 : decode cX11_readsT 53 = .ok (.ireturn, 1) := by decide +kernel
theorem dX11_readsT_54 : decode cX11_readsT 54 = .ok (.aload_n 0, 1) := by decide +kernel
theorem dX11_readsT_55 : decode cX11_readsT 55 = .ok (.getfield 38, 3) := by decide +kernel
theorem dX11_readsT_58 : decode cX11_readsT 58 = .ok (.iload_n 1, 1) := by decide +kernel
theorem dX11_readsT_59 : decode cX11_readsT 59 = .ok (.bipush 111, 2) := by decide +kernel
theorem dX11_readsT_61 : decode cX11_readsT 61 = .ok (.iastore, 1) := by decide +kernel
theorem dX11_readsT_62 : decode cX11_readsT 62 = .ok (.aload_n 0, 1) := by decide +kernel
theorem dX11_readsT_63 : decode cX11_readsT 63 = .ok (.ldc 225, 2) := by decide +kernel
theorem dX11_readsT_65 : decode cX11_readsT 65 = .ok (.invokevirtual 218, 3) := by decide +kernel
theorem dX11_readsT_68 : decode cX11_readsT 68 = .ok (.ifCond .eq 17, 3) := by decide +kernel
theorem dX11_readsT_71 : decode cX11_readsT 71 = .ok (.aload_n 0, 1) := by decide +kernel
theorem dX11_readsT_72 : decode cX11_readsT 72 = .ok (.bipush 62, 2) := by decide +kernel
theorem dX11_readsT_74 : decode cX11_readsT 74 = .ok (.iload_n 1, 1) := by decide +kernel
theorem dX11_readsT_75 : decode cX11_readsT 75 = .ok (.invokevirtual 222, 3) := by decide +kernel
theorem dX11_readsT_78 : decode cX11_readsT 78 = .ok (.ifCond .eq 7, 3) := by decide +kernel
theorem dX11_readsT_81 : decode cX11_readsT 81 = .ok (.iconst 1, 1) := by decide +kernel
theorem dX11_readsT_82 : decode cX11_readsT 82 = .ok (.goto 4, 3) := by decide +kernel
theorem dX11_readsT_85 : decode cX11_readsT 85 = .ok (.iconst 0, 1) := by decide +kernel
theorem dX11_readsT_86 : decode cX11_readsT 86 = .ok (.ireturn, 1) := by decide +kernel
theorem dX11_readsC_0 : decode cX11_readsC 0 = .ok (.aload_n 0, 1) := by decide +kernel
theorem dX11_readsC_1 : decode cX11_readsC 1 = .ok (.bipush 117, 2) := by decide +kernel
theorem dX11_readsC_3 : decode cX11_readsC 3 = .ok (.invokevirtual 208, 3) := by decide +kernel
theorem dX11_readsC_6 : decode cX11_readsC 6 = .ok (.ifCond .eq 28, 3) := by decide +kernel
theorem dX11_readsC_9 : decode cX11_readsC 9 = .ok (.aload_n 0, 1) := by decide +kernel
theorem dX11_readsC_10 : decode cX11_readsC 10 = .ok (.ldc 227, 2) := by decide +kernel
theorem dX11_readsC_12 : decode cX11_readsC 12 = .ok (.invokevirtual 218, 3) := by decide +kernel
theorem dX11_readsC_15 : decode cX11_readsC 15 = .ok (.ifCond .eq 17, 3) := by decide +kernel
theorem dX11_readsC_18 : decode cX11_readsC 18 = .ok (.aload_n 0, 1) := by decide +kernel
theorem dX11_readsC_19 : decode cX11_readsC 19 = .ok (.bipush 45, 2) := by decide +kernel
theorem dX11_readsC_21 : decode cX11_readsC 21 = .ok (.iload_n 1, 1) := by decide +kernel
theorem dX11_readsC_22 : decode cX11_readsC 22 = .ok (.invokevirtual 222, 3) := by decide +kernel
theorem dX11_readsC_25 : decode cX11_readsC 25 = .ok (.ifCond .eq 7, 3) := by decide +kernel
theorem dX11_readsC_28 : decode cX11_readsC 28 = .ok (.iconst 1, 1) := by decide +kernel
theorem dX11_readsC_29 : decode cX11_readsC 29 = .ok (.goto 4, 3) := by decide +kernel
theorem dX11_readsC_32 : decode cX11_readsC 32 = .ok (.iconst 0, 1) := by decide +kernel
theorem dX11_readsC_33 : decode cX11_readsC 33 = .ok (.ireturn, 1) := by decide +kernel
theorem dX11_readsC_34 : decode cX11_readsC 34 = .ok (.aload_n 0, 1) := by decide +kernel
theorem dX11_readsC_35 : decode cX11_readsC 35 = .ok (.getfield 38, 3) := by decide +kernel
theorem dX11_readsC_38 : decode cX11_readsC 38 = .ok (.iload_n 1, 1) := by decide +kernel
theorem dX11_readsC_39 : decode cX11_readsC 39 = .ok (.bipush 104, 2) := by decide +kernel
theorem dX11_readsC_41 : decode cX11_readsC 41 = .ok (.iastore, 1) := by decide +kernel
theorem dX11_readsC_42 : decode cX11_readsC 42 = .ok (.aload_n 0, 1) := by decide +kernel
theorem dX11_readsC_43 : decode cX11_readsC 43 = .ok (.ldc 229, 2) := by decide +kernel
theorem dX11_readsC_45 : decode cX11_readsC 45 = .ok (.invokevirtual 218, 3) := by decide +kernel
theorem dX11_readsC_48 : decode cX11_readsC 48 = .ok (.ifCond .eq 18, 3) := by decide +kernel
theorem dX11_readsC_51 : decode cX11_readsC 51 = .ok (.aload_n 0, 1) := by decide +kernel
theorem dX11_readsC_52 : decode cX11_readsC 52 = .ok (.iconst 3, 1) := by decide +kernel
theorem dX11_readsC_53 : decode cX11_readsC 53 = .ok (.iload_n 1, 1) := by decide +kernel
theorem dX11_readsC_54 : decode cX11_readsC 54 = .ok (.iconst 1, 1) := by decide +kernel
theorem dX11_readsC_55 : decode cX11_readsC 55 = .ok (.iadd, 1) := by decide +kernel
theorem dX11_readsC_56 : decode cX11_readsC 56 = .ok (.invokevirtual 213, 3) := by decide +kernel
theorem dX11_readsC_59 : decode cX11_readsC 59 = .ok (.ifCond .eq 7, 3) := by decide +kernel
theorem dX11_readsC_62 : decode cX11_readsC 62 = .ok (.iconst 1, 1) := by decide +kernel
theorem dX11_readsC_63 : decode cX11_readsC 63 = .ok (.goto 4, 3) := by decide +kernel
theorem dX11_readsC_66 : decode cX11_readsC 66 = .ok (.iconst 0, 1) := by decide +kernel
theorem dX11_readsC_67 : decode cX11_readsC 67 = .ok (.ireturn, 1) := by decide +kernel
theorem dX11_readsM_0 : decode cX11_readsM 0 = .ok (.aload_n 0, 1) := by decide +kernel
theorem dX11_readsM_1 : decode cX11_readsM 1 = .ok (.bipush 111, 2) := by decide +kernel
theorem dX11_readsM_3 : decode cX11_readsM 3 = .ok (.invokevirtual 208, 3) := by decide +kernel
theorem dX11_readsM_6 : decode cX11_readsM 6 = .ok (.ifCond .ne 5, 3) := by decide +kernel
theorem dX11_readsM_9 : decode cX11_readsM 9 = .ok (.iconst 0, 1) := by decide +kernel
theorem dX11_readsM_10 : decode cX11_readsM 10 = .ok (.ireturn, 1) := by decide +kernel
theorem dX11_readsM_11 : decode cX11_readsM 11 = .ok (.aload_n 0, 1) := by decide +kernel
theorem dX11_readsM_12 : decode cX11_readsM 12 = .ok (.bipush 100, 2) := by decide +kernel
theorem dX11_readsM_14 : decode cX11_readsM 14 = .ok (.invokevirtual 208, 3) := by decide +kernel
theorem dX11_readsM_17 : decode cX11_readsM 17 = .ok (.ifCond .eq 28, 3) := by decide +kernel
theorem dX11_readsM_20 : decode cX11_readsM 20 = .ok (.aload_n 0, 1) := by decide +kernel
theorem dX11_readsM_21 : decode cX11_readsM 21 = .ok (.ldc 231, 2) := by decide +kernel
theorem dX11_readsM_23 : decode cX11_readsM 23 = .ok (.invokevirtual 218, 3) := by decide +kernel
theorem dX11_readsM_26 : decode cX11_readsM 26 = .ok (.ifCond .eq 17, 3) := by decide +kernel
theorem dX11_readsM_29 : decode cX11_readsM 29 = .ok (.aload_n 0, 1) := by decide +kernel
theorem dX11_readsM_30 : decode cX11_readsM 30 = .ok (.iload_n 1, 1) := by decide +kernel
theorem dX11_readsM_31 : decode cX11_readsM 31 = .ok (.iconst 1, 1) := by decide +kernel
theorem dX11_readsM_32 : decode cX11_readsM 32 = .ok (.iadd, 1) := by decide +kernel
theorem dX11_readsM_33 : decode cX11_readsM 33 = .ok (.invokevirtual 233, 3) := by decide +kernel
theorem dX11_readsM_36 : decode cX11_readsM 36 = .ok (.ifCond .eq 7, 3) := by decide +kernel
theorem dX11_readsM_39 : decode cX11_readsM 39 = .ok (.iconst 1, 1) := by decide +kernel
theorem dX11_readsM_40 : decode cX11_readsM 40 = .ok (.goto 4, 3) := by decide +kernel
theorem dX11_readsM_43 : decode cX11_readsM 43 = .ok (.iconst 0, 1) := by decide +kernel
theorem dX11_readsM_44 : decode cX11_readsM 44 = .ok (.ireturn, 1) := by decide +kernel
theorem dX11_readsM_45 : decode cX11_readsM 45 = .ok (.aload_n 0, 1) := by decide +kernel
theorem dX11_readsM_46 : decode cX11_readsM 46 = .ok (.getfield 38, 3) := by decide +kernel
theorem dX11_readsM_49 : decode cX11_readsM 49 = .ok (.iload_n 1, 1) := by decide +kernel
theorem dX11_readsM_50 : decode cX11_readsM 50 = .ok (.bipush 118, 2) := by decide +kernel
theorem dX11_readsM_52 : decode cX11_readsM 52 = .ok (.iastore, 1) := by decide +kernel
theorem dX11_readsM_53 : decode cX11_readsM 53 = .ok (.aload_n 0, 1) := by decide +kernel
theorem dX11_readsM_54 : decode cX11_readsM 54 = .ok (.ldc 236, 2) := by decide +kernel
theorem dX11_readsM_56 : decode cX11_readsM 56 = .ok (.invokevirtual 218, 3) := by decide +kernel
theorem dX11_readsM_59 : decode cX11_readsM 59 = .ok (.ifCond .eq 17, 3) := by decide +kernel
theorem dX11_readsM_62 : decode cX11_readsM 62 = .ok (.aload_n 0, 1) := by decide +kernel
theorem dX11_readsM_63 : decode cX11_readsM 63 = .ok (.bipush 44, 2) := by decide +kernel
theorem dX11_readsM_65 : decode cX11_readsM 65 = .ok (.iload_n 1, 1) := by decide +kernel
theorem dX11_readsM_66 : decode cX11_readsM 66 = .ok (.invokevirtual 222, 3) := by decide +kernel
theorem dX11_readsM_69 : decode cX11_readsM 69 = .ok (.ifCond .eq 7, 3) := by decide +kernel
theorem dX11_readsM_72 : decode cX11_readsM 72 = .ok (.iconst 1, 1) := by decide +kernel
theorem dX11_readsM_73 : decode cX11_readsM 73 = .ok (.goto 4, 3) := by decide +kernel
theorem dX11_readsM_76 : decode cX11_readsM 76 = .ok (.iconst 0, 1) := by decide +kernel
theorem dX11_readsM_77 : decode cX11_readsM 77 = .ok (.ireturn, 1) := by decide +kernel
theorem dX11_readsRest_0 : decode cX11_readsRest 0 = .ok (.iload_n 1, 1) := by decide +kernel
theorem dX11_readsRest_1 : decode cX11_readsRest 1 = .ok (.lookupswitch 140 #[(99, 102), (108, 114), (109, 108), (112, 51), (116, 96)], 51) := by decide +kernel
theorem dX11_readsRest_52 : decode cX11_readsRest 52 = .ok (.aload_n 0, 1) := by decide +kernel
theorem dX11_readsRest_53 : decode cX11_readsRest 53 = .ok (.ldc 238, 2) := by decide +kernel
theorem dX11_readsRest_55 : decode cX11_readsRest 55 = .ok (.invokevirtual 218, 3) := by decide +kernel
theorem dX11_readsRest_58 : decode cX11_readsRest 58 = .ok (.ifCond .eq 37, 3) := by decide +kernel
theorem dX11_readsRest_61 : decode cX11_readsRest 61 = .ok (.aload_n 0, 1) := by decide +kernel
theorem dX11_readsRest_62 : decode cX11_readsRest 62 = .ok (.bipush 44, 2) := by decide +kernel
theorem dX11_readsRest_64 : decode cX11_readsRest 64 = .ok (.iload_n 2, 1) := by decide +kernel
theorem dX11_readsRest_65 : decode cX11_readsRest 65 = .ok (.invokevirtual 222, 3) := by decide +kernel
theorem dX11_readsRest_68 : decode cX11_readsRest 68 = .ok (.ifCond .eq 27, 3) := by decide +kernel
theorem dX11_readsRest_71 : decode cX11_readsRest 71 = .ok (.aload_n 0, 1) := by decide +kernel
theorem dX11_readsRest_72 : decode cX11_readsRest 72 = .ok (.bipush 44, 2) := by decide +kernel
theorem dX11_readsRest_74 : decode cX11_readsRest 74 = .ok (.invokevirtual 208, 3) := by decide +kernel
theorem dX11_readsRest_77 : decode cX11_readsRest 77 = .ok (.ifCond .eq 18, 3) := by decide +kernel
theorem dX11_readsRest_80 : decode cX11_readsRest 80 = .ok (.aload_n 0, 1) := by decide +kernel
theorem dX11_readsRest_81 : decode cX11_readsRest 81 = .ok (.iconst 1, 1) := by decide +kernel
theorem dX11_readsRest_82 : decode cX11_readsRest 82 = .ok (.iload_n 2, 1) := by decide +kernel
theorem dX11_readsRest_83 : decode cX11_readsRest 83 = .ok (.iconst 3, 1) := by decide +kernel
theorem dX11_readsRest_84 : decode cX11_readsRest 84 = .ok (.iadd, 1) := by decide +kernel
theorem dX11_readsRest_85 : decode cX11_readsRest 85 = .ok (.invokevirtual 213, 3) := by decide +kernel
theorem dX11_readsRest_88 : decode cX11_readsRest 88 = .ok (.ifCond .eq 7, 3) := by decide +kernel
theorem dX11_readsRest_91 : decode cX11_readsRest 91 = .ok (.iconst 1, 1) := by decide +kernel
theorem dX11_readsRest_92 : decode cX11_readsRest 92 = .ok (.goto 4, 3) := by decide +kernel
theorem dX11_readsRest_95 : decode cX11_readsRest 95 = .ok (.iconst 0, 1) := by decide +kernel
theorem dX11_readsRest_96 : decode cX11_readsRest 96 = .ok (.ireturn, 1) := by decide +kernel
theorem dX11_readsRest_97 : decode cX11_readsRest 97 = .ok (.aload_n 0, 1) := by decide +kernel
theorem dX11_readsRest_98 : decode cX11_readsRest 98 = .ok (.iload_n 2, 1) := by decide +kernel
theorem dX11_readsRest_99 : decode cX11_readsRest 99 = .ok (.invokevirtual 240, 3) := by decide +kernel
theorem dX11_readsRest_102 : decode cX11_readsRest 102 = .ok (.ireturn, 1) := by decide +kernel
theorem dX11_readsRest_103 : decode cX11_readsRest 103 = .ok (.aload_n 0, 1) := by decide +kernel
theorem dX11_readsRest_104 : decode cX11_readsRest 104 = .ok (.iload_n 2, 1) := by decide +kernel
theorem dX11_readsRest_105 : decode cX11_readsRest 105 = .ok (.invokevirtual 243, 3) := by decide +kernel
theorem dX11_readsRest_108 : decode cX11_readsRest 108 = .ok (.ireturn, 1) := by decide +kernel
theorem dX11_readsRest_109 : decode cX11_readsRest 109 = .ok (.aload_n 0, 1) := by decide +kernel
theorem dX11_readsRest_110 : decode cX11_readsRest 110 = .ok (.iload_n 2, 1) := by decide +kernel
theorem dX11_readsRest_111 : decode cX11_readsRest 111 = .ok (.invokevirtual 246, 3) := by decide +kernel
theorem dX11_readsRest_114 : decode cX11_readsRest 114 = .ok (.ireturn, 1) := by decide +kernel
theorem dX11_readsRest_115 : decode cX11_readsRest 115 = .ok (.aload_n 0, 1) := by decide +kernel
theorem dX11_readsRest_116 : decode cX11_readsRest 116 = .ok (.ldc 249, 2) := by decide +kernel
theorem dX11_readsRest_118 : decode cX11_readsRest 118 = .ok (.invokevirtual 218, 3) := by decide +kernel
theorem dX11_readsRest_121 : decode cX11_readsRest 121 = .ok (.ifCond .eq 18, 3) := by decide +kernel
theorem dX11_readsRest_124 : decode cX11_readsRest 124 = .ok (.aload_n 0, 1) := by decide +kernel
theorem dX11_readsRest_125 : decode cX11_readsRest 125 = .ok (.iconst 3, 1) := by decide +kernel
theorem dX11_readsRest_126 : decode cX11_readsRest 126 = .ok (.iload_n 2, 1) := by decide +kernel
theorem dX11_readsRest_127 : decode cX11_readsRest 127 = .ok (.iconst 1, 1) := by decide +kernel
theorem dX11_readsRest_128 : decode cX11_readsRest 128 = .ok (.iadd, 1) := by decide +kernel
theorem dX11_readsRest_129 : decode cX11_readsRest 129 = .ok (.invokevirtual 213, 3) := by decide +kernel
theorem dX11_readsRest_132 : decode cX11_readsRest 132 = .ok (.ifCond .eq 7, 3) := by decide +kernel
theorem dX11_readsRest_135 : decode cX11_readsRest 135 = .ok (.iconst 1, 1) := by decide +kernel
theorem dX11_readsRest_136 : decode cX11_readsRest 136 = .ok (.goto 4, 3) := by decide +kernel
theorem dX11_readsRest_139 : decode cX11_readsRest 139 = .ok (.iconst 0, 1) := by decide +kernel
theorem dX11_readsRest_140 : decode cX11_readsRest 140 = .ok (.ireturn, 1) := by decide +kernel
theorem dX11_readsRest_141 : decode cX11_readsRest 141 = .ok (.aload_n 0, 1) := by decide +kernel
theorem dX11_readsRest_142 : decode cX11_readsRest 142 = .ok (.ldc 251, 2) := by decide +kernel
theorem dX11_readsRest_144 : decode cX11_readsRest 144 = .ok (.invokevirtual 218, 3) := by decide +kernel
theorem dX11_readsRest_147 : decode cX11_readsRest 147 = .ok (.ireturn, 1) := by decide +kernel
theorem dX11_isFirst_0 : decode cX11_isFirst 0 = .ok (.iload_n 0, 1) := by decide +kernel
theorem dX11_isFirst_1 : decode cX11_isFirst 1 = .ok (.bipush 112, 2) := by decide +kernel
theorem dX11_isFirst_3 : decode cX11_isFirst 3 = .ok (.if_icmp .eq 33, 3) := by decide +kernel
theorem dX11_isFirst_6 : decode cX11_isFirst 6 = .ok (.iload_n 0, 1) := by decide +kernel
theorem dX11_isFirst_7 : decode cX11_isFirst 7 = .ok (.bipush 116, 2) := by decide +kernel
theorem dX11_isFirst_9 : decode cX11_isFirst 9 = .ok (.if_icmp .eq 27, 3) := by decide +kernel
theorem dX11_isFirst_12 : decode cX11_isFirst 12 = .ok (.iload_n 0, 1) := by decide +kernel
theorem dX11_isFirst_13 : decode cX11_isFirst 13 = .ok (.bipush 99, 2) := by decide +kernel
theorem dX11_isFirst_15 : decode cX11_isFirst 15 = .ok (.if_icmp .eq 21, 3) := by decide +kernel
theorem dX11_isFirst_18 : decode cX11_isFirst 18 = .ok (.iload_n 0, 1) := by decide +kernel
theorem dX11_isFirst_19 : decode cX11_isFirst 19 = .ok (.bipush 109, 2) := by decide +kernel
theorem dX11_isFirst_21 : decode cX11_isFirst 21 = .ok (.if_icmp .eq 15, 3) := by decide +kernel
theorem dX11_isFirst_24 : decode cX11_isFirst 24 = .ok (.iload_n 0, 1) := by decide +kernel
theorem dX11_isFirst_25 : decode cX11_isFirst 25 = .ok (.bipush 108, 2) := by decide +kernel
theorem dX11_isFirst_27 : decode cX11_isFirst 27 = .ok (.if_icmp .eq 9, 3) := by decide +kernel
theorem dX11_isFirst_30 : decode cX11_isFirst 30 = .ok (.iload_n 0, 1) := by decide +kernel
theorem dX11_isFirst_31 : decode cX11_isFirst 31 = .ok (.bipush 115, 2) := by decide +kernel
theorem dX11_isFirst_33 : decode cX11_isFirst 33 = .ok (.if_icmp .ne 7, 3) := by decide +kernel
theorem dX11_isFirst_36 : decode cX11_isFirst 36 = .ok (.iconst 1, 1) := by decide +kernel
theorem dX11_isFirst_37 : decode cX11_isFirst 37 = .ok (.goto 4, 3) := by decide +kernel
theorem dX11_isFirst_40 : decode cX11_isFirst 40 = .ok (.iconst 0, 1) := by decide +kernel
theorem dX11_isFirst_41 : decode cX11_isFirst 41 = .ok (.ireturn, 1) := by decide +kernel
theorem dX11_readsCommand_0 : decode cX11_readsCommand 0 = .ok (.iconst 4, 1) := by decide +kernel
theorem dX11_readsCommand_1 : decode cX11_readsCommand 1 = .ok (.aload_n 0, 1) := by decide +kernel
theorem dX11_readsCommand_2 : decode cX11_readsCommand 2 = .ok (.getfield 253, 3) := by decide +kernel
theorem dX11_readsCommand_5 : decode cX11_readsCommand 5 = .ok (.imul, 1) := by decide +kernel
theorem dX11_readsCommand_6 : decode cX11_readsCommand 6 = .ok (.istore_n 1, 1) := by decide +kernel
theorem dX11_readsCommand_7 : decode cX11_readsCommand 7 = .ok (.aload_n 0, 1) := by decide +kernel
theorem dX11_readsCommand_8 : decode cX11_readsCommand 8 = .ok (.invokevirtual 196, 3) := by decide +kernel
theorem dX11_readsCommand_11 : decode cX11_readsCommand 11 = .ok (.istore_n 2, 1) := by decide +kernel
theorem dX11_readsCommand_12 : decode cX11_readsCommand 12 = .ok (.iload_n 2, 1) := by decide +kernel
theorem dX11_readsCommand_13 : decode cX11_readsCommand 13 = .ok (.invokestatic 256, 3) := by decide +kernel
theorem dX11_readsCommand_16 : decode cX11_readsCommand 16 = .ok (.ifCond .ne 5, 3) := by decide +kernel
theorem dX11_readsCommand_19 : decode cX11_readsCommand 19 = .ok (.iconst 0, 1) := by decide +kernel
theorem dX11_readsCommand_20 : decode cX11_readsCommand 20 = .ok (.ireturn, 1) := by decide +kernel
theorem dX11_readsCommand_21 : decode cX11_readsCommand 21 = .ok (.aload_n 0, 1) := by decide +kernel
theorem dX11_readsCommand_22 : decode cX11_readsCommand 22 = .ok (.getfield 38, 3) := by decide +kernel
theorem dX11_readsCommand_25 : decode cX11_readsCommand 25 = .ok (.iload_n 1, 1) := by decide +kernel
theorem dX11_readsCommand_26 : decode cX11_readsCommand 26 = .ok (.iload_n 2, 1) := by decide +kernel
theorem dX11_readsCommand_27 : decode cX11_readsCommand 27 = .ok (.iastore, 1) := by decide +kernel
theorem dX11_readsCommand_28 : decode cX11_readsCommand 28 = .ok (.aload_n 0, 1) := by decide +kernel
theorem dX11_readsCommand_29 : decode cX11_readsCommand 29 = .ok (.dup, 1) := by decide +kernel
theorem dX11_readsCommand_30 : decode cX11_readsCommand 30 = .ok (.getfield 193, 3) := by decide +kernel
theorem dX11_readsCommand_33 : decode cX11_readsCommand 33 = .ok (.iconst 1, 1) := by decide +kernel
theorem dX11_readsCommand_34 : decode cX11_readsCommand 34 = .ok (.iadd, 1) := by decide +kernel
theorem dX11_readsCommand_35 : decode cX11_readsCommand 35 = .ok (.putfield 193, 3) := by decide +kernel
theorem dX11_readsCommand_38 : decode cX11_readsCommand 38 = .ok (.aload_n 0, 1) := by decide +kernel
theorem dX11_readsCommand_39 : decode cX11_readsCommand 39 = .ok (.dup, 1) := by decide +kernel
theorem dX11_readsCommand_40 : decode cX11_readsCommand 40 = .ok (.getfield 253, 3) := by decide +kernel
theorem dX11_readsCommand_43 : decode cX11_readsCommand 43 = .ok (.iconst 1, 1) := by decide +kernel
theorem dX11_readsCommand_44 : decode cX11_readsCommand 44 = .ok (.iadd, 1) := by decide +kernel
theorem dX11_readsCommand_45 : decode cX11_readsCommand 45 = .ok (.putfield 253, 3) := by decide +kernel
theorem dX11_readsCommand_48 : decode cX11_readsCommand 48 = .ok (.aload_n 0, 1) := by decide +kernel
theorem dX11_readsCommand_49 : decode cX11_readsCommand 49 = .ok (.iload_n 2, 1) := by decide +kernel
theorem dX11_readsCommand_50 : decode cX11_readsCommand 50 = .ok (.iload_n 1, 1) := by decide +kernel
theorem dX11_readsCommand_51 : decode cX11_readsCommand 51 = .ok (.invokevirtual 259, 3) := by decide +kernel
theorem dX11_readsCommand_54 : decode cX11_readsCommand 54 = .ok (.ireturn, 1) := by decide +kernel
theorem dX11_isProgram_0 : decode cX11_isProgram 0 = .ok (.aload_n 0, 1) := by decide +kernel
theorem dX11_isProgram_1 : decode cX11_isProgram 1 = .ok (.iconst 0, 1) := by decide +kernel
theorem dX11_isProgram_2 : decode cX11_isProgram 2 = .ok (.putfield 193, 3) := by decide +kernel
theorem dX11_isProgram_5 : decode cX11_isProgram 5 = .ok (.aload_n 0, 1) := by decide +kernel
theorem dX11_isProgram_6 : decode cX11_isProgram 6 = .ok (.iconst 0, 1) := by decide +kernel
theorem dX11_isProgram_7 : decode cX11_isProgram 7 = .ok (.putfield 253, 3) := by decide +kernel
theorem dX11_isProgram_10 : decode cX11_isProgram 10 = .ok (.aload_n 0, 1) := by decide +kernel
theorem dX11_isProgram_11 : decode cX11_isProgram 11 = .ok (.invokevirtual 262, 3) := by decide +kernel
theorem dX11_isProgram_14 : decode cX11_isProgram 14 = .ok (.istore_n 1, 1) := by decide +kernel
theorem dX11_isProgram_15 : decode cX11_isProgram 15 = .ok (.iload_n 1, 1) := by decide +kernel
theorem dX11_isProgram_16 : decode cX11_isProgram 16 = .ok (.ifCond .eq 20, 3) := by decide +kernel
theorem dX11_isProgram_19 : decode cX11_isProgram 19 = .ok (.aload_n 0, 1) := by decide +kernel
theorem dX11_isProgram_20 : decode cX11_isProgram 20 = .ok (.bipush 59, 2) := by decide +kernel
theorem dX11_isProgram_22 : decode cX11_isProgram 22 = .ok (.invokevirtual 208, 3) := by decide +kernel
theorem dX11_isProgram_25 : decode cX11_isProgram 25 = .ok (.ifCond .eq 11, 3) := by decide +kernel
theorem dX11_isProgram_28 : decode cX11_isProgram 28 = .ok (.aload_n 0, 1) := by decide +kernel
theorem dX11_isProgram_29 : decode cX11_isProgram 29 = .ok (.invokevirtual 262, 3) := by decide +kernel
theorem dX11_isProgram_32 : decode cX11_isProgram 32 = .ok (.istore_n 1, 1) := by decide +kernel
theorem dX11_isProgram_33 : decode cX11_isProgram 33 = .ok (.goto (-18), 3) := by decide +kernel
theorem dX11_isProgram_36 : decode cX11_isProgram 36 = .ok (.iload_n 1, 1) := by decide +kernel
theorem dX11_isProgram_37 : decode cX11_isProgram 37 = .ok (.ifCond .eq 18, 3) := by decide +kernel
theorem dX11_isProgram_40 : decode cX11_isProgram 40 = .ok (.aload_n 0, 1) := by decide +kernel
theorem dX11_isProgram_41 : decode cX11_isProgram 41 = .ok (.getfield 193, 3) := by decide +kernel
theorem dX11_isProgram_44 : decode cX11_isProgram 44 = .ok (.aload_n 0, 1) := by decide +kernel
theorem dX11_isProgram_45 : decode cX11_isProgram 45 = .ok (.getfield 190, 3) := by decide +kernel
theorem dX11_isProgram_48 : decode cX11_isProgram 48 = .ok (.if_icmp .ne 7, 3) := by decide +kernel
theorem dX11_isProgram_51 : decode cX11_isProgram 51 = .ok (.iconst 1, 1) := by decide +kernel
theorem dX11_isProgram_52 : decode cX11_isProgram 52 = .ok (.goto 4, 3) := by decide +kernel
theorem dX11_isProgram_55 : decode cX11_isProgram 55 = .ok (.iconst 0, 1) := by decide +kernel
theorem dX11_isProgram_56 : decode cX11_isProgram 56 = .ok (.ireturn, 1) := by decide +kernel
theorem dX11_does_0 : decode cX11_does 0 = .ok (.aload_n 0, 1) := by decide +kernel
theorem dX11_does_1 : decode cX11_does 1 = .ok (.getfield 38, 3) := by decide +kernel
theorem dX11_does_4 : decode cX11_does 4 = .ok (.iload_n 1, 1) := by decide +kernel
theorem dX11_does_5 : decode cX11_does 5 = .ok (.iconst 1, 1) := by decide +kernel
theorem dX11_does_6 : decode cX11_does 6 = .ok (.iadd, 1) := by decide +kernel
theorem dX11_does_7 : decode cX11_does 7 = .ok (.iaload, 1) := by decide +kernel
theorem dX11_does_8 : decode cX11_does 8 = .ok (.istore_n 2, 1) := by decide +kernel
theorem dX11_does_9 : decode cX11_does 9 = .ok (.aload_n 0, 1) := by decide +kernel
theorem dX11_does_10 : decode cX11_does 10 = .ok (.getfield 38, 3) := by decide +kernel
theorem dX11_does_13 : decode cX11_does 13 = .ok (.iload_n 1, 1) := by decide +kernel
theorem dX11_does_14 : decode cX11_does 14 = .ok (.iconst 2, 1) := by decide +kernel
theorem dX11_does_15 : decode cX11_does 15 = .ok (.iadd, 1) := by decide +kernel
theorem dX11_does_16 : decode cX11_does 16 = .ok (.iaload, 1) := by decide +kernel
theorem dX11_does_17 : decode cX11_does 17 = .ok (.istore_n 3, 1) := by decide +kernel
theorem dX11_does_18 : decode cX11_does 18 = .ok (.aload_n 0, 1) := by decide +kernel
theorem dX11_does_19 : decode cX11_does 19 = .ok (.getfield 38, 3) := by decide +kernel
theorem dX11_does_22 : decode cX11_does 22 = .ok (.iload_n 1, 1) := by decide +kernel
theorem dX11_does_23 : decode cX11_does 23 = .ok (.iconst 3, 1) := by decide +kernel
theorem dX11_does_24 : decode cX11_does 24 = .ok (.iadd, 1) := by decide +kernel
theorem dX11_does_25 : decode cX11_does 25 = .ok (.iaload, 1) := by decide +kernel
theorem dX11_does_26 : decode cX11_does 26 = .ok (.istore 4, 2) := by decide +kernel
theorem dX11_does_28 : decode cX11_does 28 = .ok (.aload_n 0, 1) := by decide +kernel
theorem dX11_does_29 : decode cX11_does 29 = .ok (.getfield 38, 3) := by decide +kernel
theorem dX11_does_32 : decode cX11_does 32 = .ok (.iload_n 1, 1) := by decide +kernel
theorem dX11_does_33 : decode cX11_does 33 = .ok (.iaload, 1) := by decide +kernel
theorem dX11_does_34 : decode cX11_does 34 = .ok (.tableswitch 160 99 118 #[112, 160, 160, 160, 160, 147, 160, 160, 160, 136, 126, 160, 119, 94, 160, 160, 160, 103, 160, 153], 94) := by decide +kernel
theorem dX11_does_128 : decode cX11_does 128 = .ok (.aload_n 0, 1) := by decide +kernel
theorem dX11_does_129 : decode cX11_does 129 = .ok (.iload_n 2, 1) := by decide +kernel
theorem dX11_does_130 : decode cX11_does 130 = .ok (.iload_n 3, 1) := by decide +kernel
theorem dX11_does_131 : decode cX11_does 131 = .ok (.iload 4, 2) := by decide +kernel
theorem dX11_does_133 : decode cX11_does 133 = .ok (.invokevirtual 70, 3) := by decide +kernel
theorem dX11_does_136 : decode cX11_does 136 = .ok (.ireturn, 1) := by decide +kernel
theorem dX11_does_137 : decode cX11_does 137 = .ok (.aload_n 0, 1) := by decide +kernel
theorem dX11_does_138 : decode cX11_does 138 = .ok (.iload_n 2, 1) := by decide +kernel
theorem dX11_does_139 : decode cX11_does 139 = .ok (.iload_n 3, 1) := by decide +kernel
theorem dX11_does_140 : decode cX11_does 140 = .ok (.iload 4, 2) := by decide +kernel
theorem dX11_does_142 : decode cX11_does 142 = .ok (.invokevirtual 90, 3) := by decide +kernel
theorem dX11_does_145 : decode cX11_does 145 = .ok (.ireturn, 1) := by decide +kernel
theorem dX11_does_146 : decode cX11_does 146 = .ok (.aload_n 0, 1) := by decide +kernel
theorem dX11_does_147 : decode cX11_does 147 = .ok (.iload_n 2, 1) := by decide +kernel
theorem dX11_does_148 : decode cX11_does 148 = .ok (.iload_n 3, 1) := by decide +kernel
theorem dX11_does_149 : decode cX11_does 149 = .ok (.invokevirtual 93, 3) := by decide +kernel
theorem dX11_does_152 : decode cX11_does 152 = .ok (.ireturn, 1) := by decide +kernel
theorem dX11_does_153 : decode cX11_does 153 = .ok (.aload_n 0, 1) := by decide +kernel
theorem dX11_does_154 : decode cX11_does 154 = .ok (.iload_n 2, 1) := by decide +kernel
theorem dX11_does_155 : decode cX11_does 155 = .ok (.iload_n 3, 1) := by decide +kernel
theorem dX11_does_156 : decode cX11_does 156 = .ok (.invokevirtual 111, 3) := by decide +kernel
theorem dX11_does_159 : decode cX11_does 159 = .ok (.ireturn, 1) := by decide +kernel
theorem dX11_does_160 : decode cX11_does 160 = .ok (.aload_n 0, 1) := by decide +kernel
theorem dX11_does_161 : decode cX11_does 161 = .ok (.bipush 7, 2) := by decide +kernel
theorem dX11_does_163 : decode cX11_does 163 = .ok (.iload_n 2, 1) := by decide +kernel
theorem dX11_does_164 : decode cX11_does 164 = .ok (.iconst 0, 1) := by decide +kernel
theorem dX11_does_165 : decode cX11_does 165 = .ok (.iconst 2, 1) := by decide +kernel
theorem dX11_does_166 : decode cX11_does 166 = .ok (.invokevirtual 147, 3) := by decide +kernel
theorem dX11_does_169 : decode cX11_does 169 = .ok (.ireturn, 1) := by decide +kernel
theorem dX11_does_170 : decode cX11_does 170 = .ok (.aload_n 0, 1) := by decide +kernel
theorem dX11_does_171 : decode cX11_does 171 = .ok (.bipush 8, 2) := by decide +kernel
theorem dX11_does_173 : decode cX11_does 173 = .ok (.iload_n 2, 1) := by decide +kernel
theorem dX11_does_174 : decode cX11_does 174 = .ok (.iconst 1, 1) := by decide +kernel
theorem dX11_does_175 : decode cX11_does 175 = .ok (.bipush 30, 2) := by decide +kernel
theorem dX11_does_177 : decode cX11_does 177 = .ok (.invokevirtual 147, 3) := by decide +kernel
theorem dX11_does_180 : decode cX11_does 180 = .ok (.ireturn, 1) := by decide +kernel
theorem dX11_does_181 : decode cX11_does 181 = .ok (.aload_n 0, 1) := by decide +kernel
theorem dX11_does_182 : decode cX11_does 182 = .ok (.iload_n 2, 1) := by decide +kernel
theorem dX11_does_183 : decode cX11_does 183 = .ok (.invokevirtual 151, 3) := by decide +kernel
theorem dX11_does_186 : decode cX11_does 186 = .ok (.ireturn, 1) := by decide +kernel
theorem dX11_does_187 : decode cX11_does 187 = .ok (.aload_n 0, 1) := by decide +kernel
theorem dX11_does_188 : decode cX11_does 188 = .ok (.iload_n 2, 1) := by decide +kernel
theorem dX11_does_189 : decode cX11_does 189 = .ok (.iload_n 3, 1) := by decide +kernel
theorem dX11_does_190 : decode cX11_does 190 = .ok (.invokevirtual 144, 3) := by decide +kernel
theorem dX11_does_193 : decode cX11_does 193 = .ok (.ireturn, 1) := by decide +kernel
theorem dX11_does_194 : decode cX11_does 194 = .ok (.aload_n 0, 1) := by decide +kernel
theorem dX11_does_195 : decode cX11_does 195 = .ok (.invokevirtual 117, 3) := by decide +kernel
theorem dX11_does_198 : decode cX11_does 198 = .ok (.ireturn, 1) := by decide +kernel
theorem dX11_run_0 : decode cX11_run 0 = .ok (.aload_n 0, 1) := by decide +kernel
theorem dX11_run_1 : decode cX11_run 1 = .ok (.invokevirtual 265, 3) := by decide +kernel
theorem dX11_run_4 : decode cX11_run 4 = .ok (.istore_n 1, 1) := by decide +kernel
theorem dX11_run_5 : decode cX11_run 5 = .ok (.aload_n 0, 1) := by decide +kernel
theorem dX11_run_6 : decode cX11_run 6 = .ok (.iconst 0, 1) := by decide +kernel
theorem dX11_run_7 : decode cX11_run 7 = .ok (.putfield 190, 3) := by decide +kernel
theorem dX11_run_10 : decode cX11_run 10 = .ok (.aload_n 0, 1) := by decide +kernel
theorem dX11_run_11 : decode cX11_run 11 = .ok (.iload_n 1, 1) := by decide +kernel
theorem dX11_run_12 : decode cX11_run 12 = .ok (.ifCond .ne 7, 3) := by decide +kernel
theorem dX11_run_15 : decode cX11_run 15 = .ok (.iconst 1, 1) := by decide +kernel
theorem dX11_run_16 : decode cX11_run 16 = .ok (.goto 4, 3) := by decide +kernel
theorem dX11_run_19 : decode cX11_run 19 = .ok (.iconst 0, 1) := by decide +kernel
theorem dX11_run_20 : decode cX11_run 20 = .ok (.iconst 1, 1) := by decide +kernel
theorem dX11_run_21 : decode cX11_run 21 = .ok (.invokevirtual 63, 3) := by decide +kernel
theorem dX11_run_24 : decode cX11_run 24 = .ok (.ifCond .eq 13, 3) := by decide +kernel
theorem dX11_run_27 : decode cX11_run 27 = .ok (.aload_n 0, 1) := by decide +kernel
theorem dX11_run_28 : decode cX11_run 28 = .ok (.aload_n 0, 1) := by decide +kernel
theorem dX11_run_29 : decode cX11_run 29 = .ok (.getfield 193, 3) := by decide +kernel
theorem dX11_run_32 : decode cX11_run 32 = .ok (.putfield 25, 3) := by decide +kernel
theorem dX11_run_35 : decode cX11_run 35 = .ok (.iconst 0, 1) := by decide +kernel
theorem dX11_run_36 : decode cX11_run 36 = .ok (.ireturn, 1) := by decide +kernel
theorem dX11_run_37 : decode cX11_run 37 = .ok (.aload_n 0, 1) := by decide +kernel
theorem dX11_run_38 : decode cX11_run 38 = .ok (.invokevirtual 67, 3) := by decide +kernel
theorem dX11_run_41 : decode cX11_run 41 = .ok (.iconst 0, 1) := by decide +kernel
theorem dX11_run_42 : decode cX11_run 42 = .ok (.istore_n 2, 1) := by decide +kernel
theorem dX11_run_43 : decode cX11_run 43 = .ok (.iload_n 2, 1) := by decide +kernel
theorem dX11_run_44 : decode cX11_run 44 = .ok (.aload_n 0, 1) := by decide +kernel
theorem dX11_run_45 : decode cX11_run 45 = .ok (.getfield 253, 3) := by decide +kernel
theorem dX11_run_48 : decode cX11_run 48 = .ok (.if_icmp .ge 57, 3) := by decide +kernel
theorem dX11_run_51 : decode cX11_run 51 = .ok (.aload_n 0, 1) := by decide +kernel
theorem dX11_run_52 : decode cX11_run 52 = .ok (.iconst 0, 1) := by decide +kernel
theorem dX11_run_53 : decode cX11_run 53 = .ok (.putfield 41, 3) := by decide +kernel
theorem dX11_run_56 : decode cX11_run 56 = .ok (.aload_n 0, 1) := by decide +kernel
theorem dX11_run_57 : decode cX11_run 57 = .ok (.aload_n 0, 1) := by decide +kernel
theorem dX11_run_58 : decode cX11_run 58 = .ok (.iconst 4, 1) := by decide +kernel
theorem dX11_run_59 : decode cX11_run 59 = .ok (.iload_n 2, 1) := by decide +kernel
theorem dX11_run_60 : decode cX11_run 60 = .ok (.imul, 1) := by decide +kernel
theorem dX11_run_61 : decode cX11_run 61 = .ok (.invokevirtual 268, 3) := by decide +kernel
theorem dX11_run_64 : decode cX11_run 64 = .ok (.putfield 271, 3) := by decide +kernel
theorem dX11_run_67 : decode cX11_run 67 = .ok (.aload_n 0, 1) := by decide +kernel
theorem dX11_run_68 : decode cX11_run 68 = .ok (.getfield 41, 3) := by decide +kernel
theorem dX11_run_71 : decode cX11_run 71 = .ok (.ifCond .eq 28, 3) := by decide +kernel
theorem dX11_run_74 : decode cX11_run 74 = .ok (.aload_n 0, 1) := by decide +kernel
theorem dX11_run_75 : decode cX11_run 75 = .ok (.getfield 13, 3) := by decide +kernel
theorem dX11_run_78 : decode cX11_run 78 = .ok (.iconst 0, 1) := by decide +kernel
theorem dX11_run_79 : decode cX11_run 79 = .ok (.aload_n 0, 1) := by decide +kernel
theorem dX11_run_80 : decode cX11_run 80 = .ok (.getfield 9, 3) := by decide +kernel
theorem dX11_run_83 : decode cX11_run 83 = .ok (.iconst 0, 1) := by decide +kernel
theorem dX11_run_84 : decode cX11_run 84 = .ok (.invokestatic 44, 3) := by decide +kernel
theorem dX11_run_87 : decode cX11_run 87 = .ok (.aload_n 0, 1) := by decide +kernel
theorem dX11_run_88 : decode cX11_run 88 = .ok (.iload_n 2, 1) := by decide +kernel
theorem dX11_run_89 : decode cX11_run 89 = .ok (.putfield 29, 3) := by decide +kernel
theorem dX11_run_92 : decode cX11_run 92 = .ok (.aload_n 0, 1) := by decide +kernel
theorem dX11_run_93 : decode cX11_run 93 = .ok (.iconst 2, 1) := by decide +kernel
theorem dX11_run_94 : decode cX11_run 94 = .ok (.putfield 41, 3) := by decide +kernel
theorem dX11_run_97 : decode cX11_run 97 = .ok (.iconst 0, 1) := by decide +kernel
theorem dX11_run_98 : decode cX11_run 98 = .ok (.ireturn, 1) := by decide +kernel
theorem dX11_run_99 : decode cX11_run 99 = .ok (.iinc 2 1, 3) := by decide +kernel
theorem dX11_run_102 : decode cX11_run 102 = .ok (.goto (-59), 3) := by decide +kernel
theorem dX11_run_105 : decode cX11_run 105 = .ok (.aload_n 0, 1) := by decide +kernel
theorem dX11_run_106 : decode cX11_run 106 = .ok (.aload_n 0, 1) := by decide +kernel
theorem dX11_run_107 : decode cX11_run 107 = .ok (.getfield 253, 3) := by decide +kernel
theorem dX11_run_110 : decode cX11_run 110 = .ok (.invokevirtual 74, 3) := by decide +kernel
theorem dX11_run_113 : decode cX11_run 113 = .ok (.ireturn, 1) := by decide +kernel
theorem dX11_errorPosition_0 : decode cX11_errorPosition 0 = .ok (.aload_n 0, 1) := by decide +kernel
theorem dX11_errorPosition_1 : decode cX11_errorPosition 1 = .ok (.aload_n 0, 1) := by decide +kernel
theorem dX11_errorPosition_2 : decode cX11_errorPosition 2 = .ok (.getfield 25, 3) := by decide +kernel
theorem dX11_errorPosition_5 : decode cX11_errorPosition 5 = .ok (.ifCond .ge 7, 3) := by decide +kernel
theorem dX11_errorPosition_8 : decode cX11_errorPosition 8 = .ok (.iconst 1, 1) := by decide +kernel
theorem dX11_errorPosition_9 : decode cX11_errorPosition 9 = .ok (.goto 4, 3) := by decide +kernel
theorem dX11_errorPosition_12 : decode cX11_errorPosition 12 = .ok (.iconst 0, 1) := by decide +kernel
theorem dX11_errorPosition_13 : decode cX11_errorPosition 13 = .ok (.iconst 1, 1) := by decide +kernel
theorem dX11_errorPosition_14 : decode cX11_errorPosition 14 = .ok (.invokevirtual 63, 3) := by decide +kernel
theorem dX11_errorPosition_17 : decode cX11_errorPosition 17 = .ok (.ifCond .eq 7, 3) := by decide +kernel
theorem dX11_errorPosition_20 : decode cX11_errorPosition 20 = .ok (.iconst 0, 1) := by decide +kernel
theorem dX11_errorPosition_21 : decode cX11_errorPosition 21 = .ok (.goto 7, 3) := by decide +kernel
theorem dX11_errorPosition_24 : decode cX11_errorPosition 24 = .ok (.aload_n 0, 1) := by decide +kernel
theorem dX11_errorPosition_25 : decode cX11_errorPosition 25 = .ok (.getfield 25, 3) := by decide +kernel
theorem dX11_errorPosition_28 : decode cX11_errorPosition 28 = .ok (.ireturn, 1) := by decide +kernel
theorem dX11_failedCommand_0 : decode cX11_failedCommand 0 = .ok (.aload_n 0, 1) := by decide +kernel
theorem dX11_failedCommand_1 : decode cX11_failedCommand 1 = .ok (.aload_n 0, 1) := by decide +kernel
theorem dX11_failedCommand_2 : decode cX11_failedCommand 2 = .ok (.getfield 29, 3) := by decide +kernel
theorem dX11_failedCommand_5 : decode cX11_failedCommand 5 = .ok (.ifCond .ge 7, 3) := by decide +kernel
theorem dX11_failedCommand_8 : decode cX11_failedCommand 8 = .ok (.iconst 1, 1) := by decide +kernel
theorem dX11_failedCommand_9 : decode cX11_failedCommand 9 = .ok (.goto 4, 3) := by decide +kernel
theorem dX11_failedCommand_12 : decode cX11_failedCommand 12 = .ok (.iconst 0, 1) := by decide +kernel
theorem dX11_failedCommand_13 : decode cX11_failedCommand 13 = .ok (.iconst 1, 1) := by decide +kernel
theorem dX11_failedCommand_14 : decode cX11_failedCommand 14 = .ok (.invokevirtual 63, 3) := by decide +kernel
theorem dX11_failedCommand_17 : decode cX11_failedCommand 17 = .ok (.ifCond .eq 7, 3) := by decide +kernel
theorem dX11_failedCommand_20 : decode cX11_failedCommand 20 = .ok (.iconst 0, 1) := by decide +kernel
theorem dX11_failedCommand_21 : decode cX11_failedCommand 21 = .ok (.goto 7, 3) := by decide +kernel
theorem dX11_failedCommand_24 : decode cX11_failedCommand 24 = .ok (.aload_n 0, 1) := by decide +kernel
theorem dX11_failedCommand_25 : decode cX11_failedCommand 25 = .ok (.getfield 29, 3) := by decide +kernel
theorem dX11_failedCommand_28 : decode cX11_failedCommand 28 = .ok (.ireturn, 1) := by decide +kernel
theorem dX11_undo_0 : decode cX11_undo 0 = .ok (.aload_n 0, 1) := by decide +kernel
theorem dX11_undo_1 : decode cX11_undo 1 = .ok (.aload_n 0, 1) := by decide +kernel
theorem dX11_undo_2 : decode cX11_undo 2 = .ok (.getfield 48, 3) := by decide +kernel
theorem dX11_undo_5 : decode cX11_undo 5 = .ok (.ifCond .ne 7, 3) := by decide +kernel
theorem dX11_undo_8 : decode cX11_undo 8 = .ok (.iconst 1, 1) := by decide +kernel
theorem dX11_undo_9 : decode cX11_undo 9 = .ok (.goto 4, 3) := by decide +kernel
theorem dX11_undo_12 : decode cX11_undo 12 = .ok (.iconst 0, 1) := by decide +kernel
theorem dX11_undo_13 : decode cX11_undo 13 = .ok (.iconst 1, 1) := by decide +kernel
theorem dX11_undo_14 : decode cX11_undo 14 = .ok (.invokevirtual 63, 3) := by decide +kernel
theorem dX11_undo_17 : decode cX11_undo 17 = .ok (.ifCond .eq 5, 3) := by decide +kernel
theorem dX11_undo_20 : decode cX11_undo 20 = .ok (.iconst 0, 1) := by decide +kernel
theorem dX11_undo_21 : decode cX11_undo 21 = .ok (.ireturn, 1) := by decide +kernel
theorem dX11_undo_22 : decode cX11_undo 22 = .ok (.aload_n 0, 1) := by decide +kernel
theorem dX11_undo_23 : decode cX11_undo 23 = .ok (.dup, 1) := by decide +kernel
theorem dX11_undo_24 : decode cX11_undo 24 = .ok (.getfield 48, 3) := by decide +kernel
theorem dX11_undo_27 : decode cX11_undo 27 = .ok (.iconst 1, 1) := by decide +kernel
theorem dX11_undo_28 : decode cX11_undo 28 = .ok (.isub, 1) := by decide +kernel
theorem dX11_undo_29 : decode cX11_undo 29 = .ok (.putfield 48, 3) := by decide +kernel
theorem dX11_undo_32 : decode cX11_undo 32 = .ok (.aload_n 0, 1) := by decide +kernel
theorem dX11_undo_33 : decode cX11_undo 33 = .ok (.getfield 19, 3) := by decide +kernel
theorem dX11_undo_36 : decode cX11_undo 36 = .ok (.sipush 204, 3) := by decide +kernel
theorem dX11_undo_39 : decode cX11_undo 39 = .ok (.aload_n 0, 1) := by decide +kernel
theorem dX11_undo_40 : decode cX11_undo 40 = .ok (.getfield 48, 3) := by decide +kernel
theorem dX11_undo_43 : decode cX11_undo 43 = .ok (.imul, 1) := by decide +kernel
theorem dX11_undo_44 : decode cX11_undo 44 = .ok (.aload_n 0, 1) := by decide +kernel
theorem dX11_undo_45 : decode cX11_undo 45 = .ok (.getfield 9, 3) := by decide +kernel
theorem dX11_undo_48 : decode cX11_undo 48 = .ok (.iconst 0, 1) := by decide +kernel
theorem dX11_undo_49 : decode cX11_undo 49 = .ok (.invokestatic 44, 3) := by decide +kernel
theorem dX11_undo_52 : decode cX11_undo 52 = .ok (.aload_n 0, 1) := by decide +kernel
theorem dX11_undo_53 : decode cX11_undo 53 = .ok (.getfield 48, 3) := by decide +kernel
theorem dX11_undo_56 : decode cX11_undo 56 = .ok (.ireturn, 1) := by decide +kernel
theorem dX11_save_0 : decode cX11_save 0 = .ok (.aload_n 0, 1) := by decide +kernel
theorem dX11_save_1 : decode cX11_save 1 = .ok (.iconst 0, 1) := by decide +kernel
theorem dX11_save_2 : decode cX11_save 2 = .ok (.putfield 41, 3) := by decide +kernel
theorem dX11_save_5 : decode cX11_save 5 = .ok (.aload_n 0, 1) := by decide +kernel
theorem dX11_save_6 : decode cX11_save 6 = .ok (.getfield 9, 3) := by decide +kernel
theorem dX11_save_9 : decode cX11_save 9 = .ok (.iconst 0, 1) := by decide +kernel
theorem dX11_save_10 : decode cX11_save 10 = .ok (.aload_n 0, 1) := by decide +kernel
theorem dX11_save_11 : decode cX11_save 11 = .ok (.getfield 16, 3) := by decide +kernel
theorem dX11_save_14 : decode cX11_save 14 = .ok (.iconst 0, 1) := by decide +kernel
theorem dX11_save_15 : decode cX11_save 15 = .ok (.invokestatic 44, 3) := by decide +kernel
theorem dX11_save_18 : decode cX11_save 18 = .ok (.aload_n 0, 1) := by decide +kernel
theorem dX11_save_19 : decode cX11_save 19 = .ok (.iconst 1, 1) := by decide +kernel
theorem dX11_save_20 : decode cX11_save 20 = .ok (.putfield 274, 3) := by decide +kernel
theorem dX11_save_23 : decode cX11_save 23 = .ok (.aload_n 0, 1) := by decide +kernel
theorem dX11_save_24 : decode cX11_save 24 = .ok (.getfield 9, 3) := by decide +kernel
theorem dX11_save_27 : decode cX11_save 27 = .ok (.iconst 0, 1) := by decide +kernel
theorem dX11_save_28 : decode cX11_save 28 = .ok (.iaload, 1) := by decide +kernel
theorem dX11_save_29 : decode cX11_save 29 = .ok (.ireturn, 1) := by decide +kernel
theorem dX11_restore_0 : decode cX11_restore 0 = .ok (.aload_n 0, 1) := by decide +kernel
theorem dX11_restore_1 : decode cX11_restore 1 = .ok (.aload_n 0, 1) := by decide +kernel
theorem dX11_restore_2 : decode cX11_restore 2 = .ok (.getfield 274, 3) := by decide +kernel
theorem dX11_restore_5 : decode cX11_restore 5 = .ok (.ifCond .ne 7, 3) := by decide +kernel
theorem dX11_restore_8 : decode cX11_restore 8 = .ok (.iconst 1, 1) := by decide +kernel
theorem dX11_restore_9 : decode cX11_restore 9 = .ok (.goto 4, 3) := by decide +kernel
theorem dX11_restore_12 : decode cX11_restore 12 = .ok (.iconst 0, 1) := by decide +kernel
theorem dX11_restore_13 : decode cX11_restore 13 = .ok (.iconst 1, 1) := by decide +kernel
theorem dX11_restore_14 : decode cX11_restore 14 = .ok (.invokevirtual 63, 3) := by decide +kernel
theorem dX11_restore_17 : decode cX11_restore 17 = .ok (.ifCond .eq 5, 3) := by decide +kernel
theorem dX11_restore_20 : decode cX11_restore 20 = .ok (.iconst 0, 1) := by decide +kernel
theorem dX11_restore_21 : decode cX11_restore 21 = .ok (.ireturn, 1) := by decide +kernel
theorem dX11_restore_22 : decode cX11_restore 22 = .ok (.aload_n 0, 1) := by decide +kernel
theorem dX11_restore_23 : decode cX11_restore 23 = .ok (.getfield 16, 3) := by decide +kernel
theorem dX11_restore_26 : decode cX11_restore 26 = .ok (.iconst 0, 1) := by decide +kernel
theorem dX11_restore_27 : decode cX11_restore 27 = .ok (.aload_n 0, 1) := by decide +kernel
theorem dX11_restore_28 : decode cX11_restore 28 = .ok (.getfield 9, 3) := by decide +kernel
theorem dX11_restore_31 : decode cX11_restore 31 = .ok (.iconst 0, 1) := by decide +kernel
theorem dX11_restore_32 : decode cX11_restore 32 = .ok (.invokestatic 44, 3) := by decide +kernel
theorem dX11_restore_35 : decode cX11_restore 35 = .ok (.aload_n 0, 1) := by decide +kernel
theorem dX11_restore_36 : decode cX11_restore 36 = .ok (.iconst 0, 1) := by decide +kernel
theorem dX11_restore_37 : decode cX11_restore 37 = .ok (.putfield 48, 3) := by decide +kernel
theorem dX11_restore_40 : decode cX11_restore 40 = .ok (.aload_n 0, 1) := by decide +kernel
theorem dX11_restore_41 : decode cX11_restore 41 = .ok (.getfield 9, 3) := by decide +kernel
theorem dX11_restore_44 : decode cX11_restore 44 = .ok (.iconst 0, 1) := by decide +kernel
theorem dX11_restore_45 : decode cX11_restore 45 = .ok (.iaload, 1) := by decide +kernel
theorem dX11_restore_46 : decode cX11_restore 46 = .ok (.ireturn, 1) := by decide +kernel
theorem dJx00060_init_a7421_0 : decode cJx00060_init_a7421 0 = .ok (.aload_n 0, 1) := by decide +kernel
theorem dJx00060_init_a7421_1 : decode cJx00060_init_a7421 1 = .ok (.aload_n 1, 1) := by decide +kernel
theorem dJx00060_init_a7421_2 : decode cJx00060_init_a7421 2 = .ok (.invokespecial 7, 3) := by decide +kernel
theorem dJx00060_init_a7421_5 : decode cJx00060_init_a7421 5 = .ok (.return_, 1) := by decide +kernel
theorem dJ0_length_8abf5_0 : decode cJ0_length_8abf5 0 = .ok (.aload_n 0, 1) := by decide +kernel
theorem dJ0_length_8abf5_1 : decode cJ0_length_8abf5 1 = .ok (.getfield 9, 3) := by decide +kernel
theorem dJ0_length_8abf5_4 : decode cJ0_length_8abf5 4 = .ok (.arraylength, 1) := by decide +kernel
theorem dJ0_length_8abf5_5 : decode cJ0_length_8abf5 5 = .ok (.aload_n 0, 1) := by decide +kernel
theorem dJ0_length_8abf5_6 : decode cJ0_length_8abf5 6 = .ok (.invokevirtual 335, 3) := by decide +kernel
theorem dJ0_length_8abf5_9 : decode cJ0_length_8abf5 9 = .ok (.ishr, 1) := by decide +kernel
theorem dJ0_length_8abf5_10 : decode cJ0_length_8abf5 10 = .ok (.ireturn, 1) := by decide +kernel
theorem dJ0_charAt_5068e_0 : decode cJ0_charAt_5068e 0 = .ok (.aload_n 0, 1) := by decide +kernel
theorem dJ0_charAt_5068e_1 : decode cJ0_charAt_5068e 1 = .ok (.invokevirtual 492, 3) := by decide +kernel
theorem dJ0_charAt_5068e_4 : decode cJ0_charAt_5068e 4 = .ok (.ifCond .eq 12, 3) := by decide +kernel
theorem dJ0_charAt_5068e_7 : decode cJ0_charAt_5068e 7 = .ok (.aload_n 0, 1) := by decide +kernel
theorem dJ0_charAt_5068e_8 : decode cJ0_charAt_5068e 8 = .ok (.getfield 9, 3) := by decide +kernel
theorem dJ0_charAt_5068e_11 : decode cJ0_charAt_5068e 11 = .ok (.iload_n 1, 1) := by decide +kernel
theorem dJ0_charAt_5068e_12 : decode cJ0_charAt_5068e 12 = .ok (.invokestatic 495, 3) := by decide +kernel
theorem dJ0_charAt_5068e_15 : decode cJ0_charAt_5068e 15 = .ok (.ireturn, 1) := by decide +kernel
theorem dJ0_charAt_5068e_16 : decode cJ0_charAt_5068e 16 = .ok (.aload_n 0, 1) := by decide +kernel
theorem dJ0_charAt_5068e_17 : decode cJ0_charAt_5068e 17 = .ok (.getfield 9, 3) := by decide +kernel
theorem dJ0_charAt_5068e_20 : decode cJ0_charAt_5068e 20 = .ok (.iload_n 1, 1) := by decide +kernel
theorem dJ0_charAt_5068e_21 : decode cJ0_charAt_5068e 21 = .ok (.invokestatic 498, 3) := by decide +kernel
theorem dJ0_charAt_5068e_24 : decode cJ0_charAt_5068e 24 = .ok (.ireturn, 1) := by decide +kernel
theorem dJ0_coder_7d493_0 : decode cJ0_coder_7d493 0 = .ok (.getstatic 38, 3) := by decide +kernel
theorem dJ0_coder_7d493_3 : decode cJ0_coder_7d493 3 = .ok (.ifCond .eq 10, 3) := by decide +kernel
theorem dJ0_coder_7d493_6 : decode cJ0_coder_7d493 6 = .ok (.aload_n 0, 1) := by decide +kernel
theorem dJ0_coder_7d493_7 : decode cJ0_coder_7d493 7 = .ok (.getfield 15, 3) := by decide +kernel
theorem dJ0_coder_7d493_10 : decode cJ0_coder_7d493 10 = .ok (.goto 4, 3) := by decide +kernel
theorem dJ0_coder_7d493_13 : decode cJ0_coder_7d493 13 = .ok (.iconst 1, 1) := by decide +kernel
theorem dJ0_coder_7d493_14 : decode cJ0_coder_7d493 14 = .ok (.ireturn, 1) := by decide +kernel
theorem dJ0_isLatin1_aae02_0 : decode cJ0_isLatin1_aae02 0 = .ok (.getstatic 38, 3) := by decide +kernel
theorem dJ0_isLatin1_aae02_3 : decode cJ0_isLatin1_aae02 3 = .ok (.ifCond .eq 14, 3) := by decide +kernel
theorem dJ0_isLatin1_aae02_6 : decode cJ0_isLatin1_aae02 6 = .ok (.aload_n 0, 1) := by decide +kernel
theorem dJ0_isLatin1_aae02_7 : decode cJ0_isLatin1_aae02 7 = .ok (.getfield 15, 3) := by decide +kernel
theorem dJ0_isLatin1_aae02_10 : decode cJ0_isLatin1_aae02 10 = .ok (.ifCond .ne 7, 3) := by decide +kernel
theorem dJ0_isLatin1_aae02_13 : decode cJ0_isLatin1_aae02 13 = .ok (.iconst 1, 1) := by decide +kernel
theorem dJ0_isLatin1_aae02_14 : decode cJ0_isLatin1_aae02 14 = .ok (.goto 4, 3) := by decide +kernel
theorem dJ0_isLatin1_aae02_17 : decode cJ0_isLatin1_aae02 17 = .ok (.iconst 0, 1) := by decide +kernel
theorem dJ0_isLatin1_aae02_18 : decode cJ0_isLatin1_aae02 18 = .ok (.ireturn, 1) := by decide +kernel
theorem dJ0_checkIndex_df160_0 : decode cJ0_checkIndex_df160 0 = .ok (.iload_n 0, 1) := by decide +kernel
theorem dJ0_checkIndex_df160_1 : decode cJ0_checkIndex_df160 1 = .ok (.iload_n 1, 1) := by decide +kernel
theorem dJ0_checkIndex_df160_2 : decode cJ0_checkIndex_df160 2 = .ok (.getstatic 1053, 3) := by decide +kernel
theorem dJ0_checkIndex_df160_5 : decode cJ0_checkIndex_df160 5 = .ok (.invokestatic 1059, 3) := by decide +kernel
theorem dJ0_checkIndex_df160_8 : decode cJ0_checkIndex_df160 8 = .ok (.pop, 1) := by decide +kernel
theorem dJ0_checkIndex_df160_9 : decode cJ0_checkIndex_df160 9 = .ok (.return_, 1) := by decide +kernel
theorem dJ1_charAt_3b067_0 : decode cJ1_charAt_3b067 0 = .ok (.iload_n 1, 1) := by decide +kernel
theorem dJ1_charAt_3b067_1 : decode cJ1_charAt_3b067 1 = .ok (.aload_n 0, 1) := by decide +kernel
theorem dJ1_charAt_3b067_2 : decode cJ1_charAt_3b067 2 = .ok (.arraylength, 1) := by decide +kernel
theorem dJ1_charAt_3b067_3 : decode cJ1_charAt_3b067 3 = .ok (.invokestatic 9, 3) := by decide +kernel
theorem dJ1_charAt_3b067_6 : decode cJ1_charAt_3b067 6 = .ok (.aload_n 0, 1) := by decide +kernel
theorem dJ1_charAt_3b067_7 : decode cJ1_charAt_3b067 7 = .ok (.iload_n 1, 1) := by decide +kernel
theorem dJ1_charAt_3b067_8 : decode cJ1_charAt_3b067 8 = .ok (.baload, 1) := by decide +kernel
theorem dJ1_charAt_3b067_9 : decode cJ1_charAt_3b067 9 = .ok (.sipush 255, 3) := by decide +kernel
theorem dJ1_charAt_3b067_12 : decode cJ1_charAt_3b067 12 = .ok (.iand, 1) := by decide +kernel
theorem dJ1_charAt_3b067_13 : decode cJ1_charAt_3b067 13 = .ok (.i2c, 1) := by decide +kernel
theorem dJ1_charAt_3b067_14 : decode cJ1_charAt_3b067 14 = .ok (.ireturn, 1) := by decide +kernel
theorem dJ2_getChar_3b067_0 : decode cJ2_getChar_3b067 0 = .ok (.getstatic 44, 3) := by decide +kernel
theorem dJ2_getChar_3b067_3 : decode cJ2_getChar_3b067 3 = .ok (.ifCond .ne 25, 3) := by decide +kernel
theorem dJ2_getChar_3b067_6 : decode cJ2_getChar_3b067 6 = .ok (.iload_n 1, 1) := by decide +kernel
theorem dJ2_getChar_3b067_7 : decode cJ2_getChar_3b067 7 = .ok (.ifCond .lt 11, 3) := by decide +kernel
theorem dJ2_getChar_3b067_10 : decode cJ2_getChar_3b067 10 = .ok (.iload_n 1, 1) := by decide +kernel
theorem dJ2_getChar_3b067_11 : decode cJ2_getChar_3b067 11 = .ok (.aload_n 0, 1) := by decide +kernel
theorem dJ2_getChar_3b067_12 : decode cJ2_getChar_3b067 12 = .ok (.invokestatic 48, 3) := by decide +kernel
theorem dJ2_getChar_3b067_15 : decode cJ2_getChar_3b067 15 = .ok (.if_icmp .lt 13, 3) := by decide +kernel
theorem dJ2_getChar_3b067_18 : decode cJ2_getChar_3b067 18 = .ok (.new 52, 3) := by decide +kernel
theorem dJ2_getChar_3b067_21 : decode cJ2_getChar_3b067 21 = .ok (.dup, 1) := by decide +kernel
theorem dJ2_getChar_3b067_22 : decode cJ2_getChar_3b067 22 = .ok (.ldc 54, 2) := by decide +kernel
theorem dJ2_getChar_3b067_24 : decode cJ2_getChar_3b067 24 = .ok (.invokespecial 56, 3) := by decide +kernel
theorem dJ2_getChar_3b067_27 : decode cJ2_getChar_3b067 27 = .ok (.athrow, 1) := by decide +kernel
theorem dJ2_getChar_3b067_28 : decode cJ2_getChar_3b067 28 = .ok (.iload_n 1, 1) := by decide +kernel
theorem dJ2_getChar_3b067_29 : decode cJ2_getChar_3b067 29 = .ok (.iconst 1, 1) := by decide +kernel
theorem dJ2_getChar_3b067_30 : decode cJ2_getChar_3b067 30 = .ok (.ishl, 1) := by decide +kernel
theorem dJ2_getChar_3b067_31 : decode cJ2_getChar_3b067 31 = .ok (.istore_n 1, 1) := by decide +kernel
theorem dJ2_getChar_3b067_32 : decode cJ2_getChar_3b067 32 = .ok (.aload_n 0, 1) := by decide +kernel
theorem dJ2_getChar_3b067_33 : decode cJ2_getChar_3b067 33 = .ok (.iload_n 1, 1) := by decide +kernel
theorem dJ2_getChar_3b067_34 : decode cJ2_getChar_3b067 34 = .ok (.iinc 1 1, 3) := by decide +kernel
theorem dJ2_getChar_3b067_37 : decode cJ2_getChar_3b067 37 = .ok (.baload, 1) := by decide +kernel
theorem dJ2_getChar_3b067_38 : decode cJ2_getChar_3b067 38 = .ok (.sipush 255, 3) := by decide +kernel
theorem dJ2_getChar_3b067_41 : decode cJ2_getChar_3b067 41 = .ok (.iand, 1) := by decide +kernel
theorem dJ2_getChar_3b067_42 : decode cJ2_getChar_3b067 42 = .ok (.getstatic 59, 3) := by decide +kernel
theorem dJ2_getChar_3b067_45 : decode cJ2_getChar_3b067 45 = .ok (.ishl, 1) := by decide +kernel
theorem dJ2_getChar_3b067_46 : decode cJ2_getChar_3b067 46 = .ok (.aload_n 0, 1) := by decide +kernel
theorem dJ2_getChar_3b067_47 : decode cJ2_getChar_3b067 47 = .ok (.iload_n 1, 1) := by decide +kernel
theorem dJ2_getChar_3b067_48 : decode cJ2_getChar_3b067 48 = .ok (.baload, 1) := by decide +kernel
theorem dJ2_getChar_3b067_49 : decode cJ2_getChar_3b067 49 = .ok (.sipush 255, 3) := by decide +kernel
theorem dJ2_getChar_3b067_52 : decode cJ2_getChar_3b067 52 = .ok (.iand, 1) := by decide +kernel
theorem dJ2_getChar_3b067_53 : decode cJ2_getChar_3b067 53 = .ok (.getstatic 63, 3) := by decide +kernel
theorem dJ2_getChar_3b067_56 : decode cJ2_getChar_3b067 56 = .ok (.ishl, 1) := by decide +kernel
theorem dJ2_getChar_3b067_57 : decode cJ2_getChar_3b067 57 = .ok (.ior, 1) := by decide +kernel
theorem dJ2_getChar_3b067_58 : decode cJ2_getChar_3b067 58 = .ok (.i2c, 1) := by decide +kernel
theorem dJ2_getChar_3b067_59 : decode cJ2_getChar_3b067 59 = .ok (.ireturn, 1) := by decide +kernel
theorem dJ2_length_9d52b_0 : decode cJ2_length_9d52b 0 = .ok (.aload_n 0, 1) := by decide +kernel
theorem dJ2_length_9d52b_1 : decode cJ2_length_9d52b 1 = .ok (.arraylength, 1) := by decide +kernel
theorem dJ2_length_9d52b_2 : decode cJ2_length_9d52b 2 = .ok (.iconst 1, 1) := by decide +kernel
theorem dJ2_length_9d52b_3 : decode cJ2_length_9d52b 3 = .ok (.ishr, 1) := by decide +kernel
theorem dJ2_length_9d52b_4 : decode cJ2_length_9d52b 4 = .ok (.ireturn, 1) := by decide +kernel
theorem dJ2_charAt_3b067_0 : decode cJ2_charAt_3b067 0 = .ok (.iload_n 1, 1) := by decide +kernel
theorem dJ2_charAt_3b067_1 : decode cJ2_charAt_3b067 1 = .ok (.aload_n 0, 1) := by decide +kernel
theorem dJ2_charAt_3b067_2 : decode cJ2_charAt_3b067 2 = .ok (.invokestatic 67, 3) := by decide +kernel
theorem dJ2_charAt_3b067_5 : decode cJ2_charAt_3b067 5 = .ok (.aload_n 0, 1) := by decide +kernel
theorem dJ2_charAt_3b067_6 : decode cJ2_charAt_3b067 6 = .ok (.iload_n 1, 1) := by decide +kernel
theorem dJ2_charAt_3b067_7 : decode cJ2_charAt_3b067 7 = .ok (.invokestatic 71, 3) := by decide +kernel
theorem dJ2_charAt_3b067_10 : decode cJ2_charAt_3b067 10 = .ok (.ireturn, 1) := by decide +kernel
theorem dJ2_checkIndex_2214a_0 : decode cJ2_checkIndex_2214a 0 = .ok (.iload_n 0, 1) := by decide +kernel
theorem dJ2_checkIndex_2214a_1 : decode cJ2_checkIndex_2214a 1 = .ok (.aload_n 1, 1) := by decide +kernel
theorem dJ2_checkIndex_2214a_2 : decode cJ2_checkIndex_2214a 2 = .ok (.invokestatic 48, 3) := by decide +kernel
theorem dJ2_checkIndex_2214a_5 : decode cJ2_checkIndex_2214a 5 = .ok (.invokestatic 414, 3) := by decide +kernel
theorem dJ2_checkIndex_2214a_8 : decode cJ2_checkIndex_2214a 8 = .ok (.return_, 1) := by decide +kernel
theorem dJ3_checkIndex_8e157_0 : decode cJ3_checkIndex_8e157 0 = .ok (.iload_n 0, 1) := by decide +kernel
theorem dJ3_checkIndex_8e157_1 : decode cJ3_checkIndex_8e157 1 = .ok (.ifCond .lt 8, 3) := by decide +kernel
theorem dJ3_checkIndex_8e157_4 : decode cJ3_checkIndex_8e157 4 = .ok (.iload_n 0, 1) := by decide +kernel
theorem dJ3_checkIndex_8e157_5 : decode cJ3_checkIndex_8e157 5 = .ok (.iload_n 1, 1) := by decide +kernel
theorem dJ3_checkIndex_8e157_6 : decode cJ3_checkIndex_8e157 6 = .ok (.if_icmp .lt 10, 3) := by decide +kernel
theorem dJ3_checkIndex_8e157_9 : decode cJ3_checkIndex_8e157 9 = .ok (.aload_n 2, 1) := by decide +kernel
theorem dJ3_checkIndex_8e157_10 : decode cJ3_checkIndex_8e157 10 = .ok (.iload_n 0, 1) := by decide +kernel
theorem dJ3_checkIndex_8e157_11 : decode cJ3_checkIndex_8e157 11 = .ok (.iload_n 1, 1) := by decide +kernel
theorem dJ3_checkIndex_8e157_12 : decode cJ3_checkIndex_8e157 12 = .ok (.invokestatic 95, 3) := by decide +kernel
theorem dJ3_checkIndex_8e157_15 : decode cJ3_checkIndex_8e157 15 = .ok (.athrow, 1) := by decide +kernel
theorem dJ3_checkIndex_8e157_16 : decode cJ3_checkIndex_8e157 16 = .ok (.iload_n 0, 1) := by decide +kernel
theorem dJ3_checkIndex_8e157_17 : decode cJ3_checkIndex_8e157 17 = .ok (.ireturn, 1) := by decide +kernel
theorem dL_addWaypoint_0 : decode cL_addWaypoint 0 = .ok (.aload 4, 2) := by decide +kernel
theorem dL_addWaypoint_2 : decode cL_addWaypoint 2 = .ok (.iconst 0, 1) := by decide +kernel
theorem dL_addWaypoint_3 : decode cL_addWaypoint 3 = .ok (.aload_n 0, 1) := by decide +kernel
theorem dL_addWaypoint_4 : decode cL_addWaypoint 4 = .ok (.iload_n 1, 1) := by decide +kernel
theorem dL_addWaypoint_5 : decode cL_addWaypoint 5 = .ok (.iload_n 2, 1) := by decide +kernel
theorem dL_addWaypoint_6 : decode cL_addWaypoint 6 = .ok (.iload_n 3, 1) := by decide +kernel
theorem dL_addWaypoint_7 : decode cL_addWaypoint 7 = .ok (.invokevirtual 7, 3) := by decide +kernel
theorem dL_addWaypoint_10 : decode cL_addWaypoint 10 = .ok (.i2l, 1) := by decide +kernel
theorem dL_addWaypoint_11 : decode cL_addWaypoint 11 = .ok (.lastore, 1) := by decide +kernel
theorem dL_addWaypoint_12 : decode cL_addWaypoint 12 = .ok (.goto 11, 3) := by decide +kernel
theorem dL_addWaypoint_15 : decode cL_addWaypoint 15 = .ok (.astore 5, 2) := by decide +kernel
theorem dL_addWaypoint_17 : decode cL_addWaypoint 17 = .ok (.iconst 1, 1) := by decide +kernel
theorem dL_addWaypoint_18 : decode cL_addWaypoint 18 = .ok (.ireturn, 1) := by decide +kernel
theorem dL_addWaypoint_19 : decode cL_addWaypoint 19 = .ok (.astore 5, 2) := by decide +kernel
theorem dL_addWaypoint_21 : decode cL_addWaypoint 21 = .ok (.iconst 2, 1) := by decide +kernel
theorem dL_addWaypoint_22 : decode cL_addWaypoint 22 = .ok (.ireturn, 1) := by decide +kernel
theorem dL_addWaypoint_23 : decode cL_addWaypoint 23 = .ok (.iconst 0, 1) := by decide +kernel
theorem dL_addWaypoint_24 : decode cL_addWaypoint 24 = .ok (.ireturn, 1) := by decide +kernel
theorem dL_addTrail_0 : decode cL_addTrail 0 = .ok (.aload 4, 2) := by decide +kernel
theorem dL_addTrail_2 : decode cL_addTrail 2 = .ok (.iconst 0, 1) := by decide +kernel
theorem dL_addTrail_3 : decode cL_addTrail 3 = .ok (.aload_n 0, 1) := by decide +kernel
theorem dL_addTrail_4 : decode cL_addTrail 4 = .ok (.iload_n 1, 1) := by decide +kernel
theorem dL_addTrail_5 : decode cL_addTrail 5 = .ok (.iload_n 2, 1) := by decide +kernel
theorem dL_addTrail_6 : decode cL_addTrail 6 = .ok (.iload_n 3, 1) := by decide +kernel
theorem dL_addTrail_7 : decode cL_addTrail 7 = .ok (.invokevirtual 17, 3) := by decide +kernel
theorem dL_addTrail_10 : decode cL_addTrail 10 = .ok (.i2l, 1) := by decide +kernel
theorem dL_addTrail_11 : decode cL_addTrail 11 = .ok (.lastore, 1) := by decide +kernel
theorem dL_addTrail_12 : decode cL_addTrail 12 = .ok (.goto 15, 3) := by decide +kernel
theorem dL_addTrail_15 : decode cL_addTrail 15 = .ok (.astore 5, 2) := by decide +kernel
theorem dL_addTrail_17 : decode cL_addTrail 17 = .ok (.iconst 1, 1) := by decide +kernel
theorem dL_addTrail_18 : decode cL_addTrail 18 = .ok (.ireturn, 1) := by decide +kernel
theorem dL_addTrail_19 : decode cL_addTrail 19 = .ok (.astore 5, 2) := by decide +kernel
theorem dL_addTrail_21 : decode cL_addTrail 21 = .ok (.iconst 2, 1) := by decide +kernel
theorem dL_addTrail_22 : decode cL_addTrail 22 = .ok (.ireturn, 1) := by decide +kernel
theorem dL_addTrail_23 : decode cL_addTrail 23 = .ok (.astore 5, 2) := by decide +kernel
theorem dL_addTrail_25 : decode cL_addTrail 25 = .ok (.iconst 3, 1) := by decide +kernel
theorem dL_addTrail_26 : decode cL_addTrail 26 = .ok (.ireturn, 1) := by decide +kernel
theorem dL_addTrail_27 : decode cL_addTrail 27 = .ok (.iconst 0, 1) := by decide +kernel
theorem dL_addTrail_28 : decode cL_addTrail 28 = .ok (.ireturn, 1) := by decide +kernel
theorem dL_removeTrail_0 : decode cL_removeTrail 0 = .ok (.aload_n 3, 1) := by decide +kernel
theorem dL_removeTrail_1 : decode cL_removeTrail 1 = .ok (.iconst 0, 1) := by decide +kernel
theorem dL_removeTrail_2 : decode cL_removeTrail 2 = .ok (.aload_n 0, 1) := by decide +kernel
theorem dL_removeTrail_3 : decode cL_removeTrail 3 = .ok (.iload_n 1, 1) := by decide +kernel
theorem dL_removeTrail_4 : decode cL_removeTrail 4 = .ok (.iload_n 2, 1) := by decide +kernel
theorem dL_removeTrail_5 : decode cL_removeTrail 5 = .ok (.invokevirtual 22, 3) := by decide +kernel
theorem dL_removeTrail_8 : decode cL_removeTrail 8 = .ok (.i2l, 1) := by decide +kernel
theorem dL_removeTrail_9 : decode cL_removeTrail 9 = .ok (.lastore, 1) := by decide +kernel
theorem dL_removeTrail_10 : decode cL_removeTrail 10 = .ok (.goto 11, 3) := by decide +kernel
theorem dL_removeTrail_13 : decode cL_removeTrail 13 = .ok (.astore 4, 2) := by decide +kernel
theorem dL_removeTrail_15 : decode cL_removeTrail 15 = .ok (.iconst 1, 1) := by decide +kernel
theorem dL_removeTrail_16 : decode cL_removeTrail 16 = .ok (.ireturn, 1) := by decide +kernel
theorem dL_removeTrail_17 : decode cL_removeTrail 17 = .ok (.astore 4, 2) := by decide +kernel
theorem dL_removeTrail_19 : decode cL_removeTrail 19 = .ok (.iconst 2, 1) := by decide +kernel
theorem dL_removeTrail_20 : decode cL_removeTrail 20 = .ok (.ireturn, 1) := by decide +kernel
theorem dL_removeTrail_21 : decode cL_removeTrail 21 = .ok (.iconst 0, 1) := by decide +kernel
theorem dL_removeTrail_22 : decode cL_removeTrail 22 = .ok (.ireturn, 1) := by decide +kernel
theorem dL_startTour_0 : decode cL_startTour 0 = .ok (.aload_n 3, 1) := by decide +kernel
theorem dL_startTour_1 : decode cL_startTour 1 = .ok (.iconst 0, 1) := by decide +kernel
theorem dL_startTour_2 : decode cL_startTour 2 = .ok (.aload_n 0, 1) := by decide +kernel
theorem dL_startTour_3 : decode cL_startTour 3 = .ok (.iload_n 1, 1) := by decide +kernel
theorem dL_startTour_4 : decode cL_startTour 4 = .ok (.iload_n 2, 1) := by decide +kernel
theorem dL_startTour_5 : decode cL_startTour 5 = .ok (.invokevirtual 28, 3) := by decide +kernel
theorem dL_startTour_8 : decode cL_startTour 8 = .ok (.i2l, 1) := by decide +kernel
theorem dL_startTour_9 : decode cL_startTour 9 = .ok (.lastore, 1) := by decide +kernel
theorem dL_startTour_10 : decode cL_startTour 10 = .ok (.goto 19, 3) := by decide +kernel
theorem dL_startTour_13 : decode cL_startTour 13 = .ok (.astore 4, 2) := by decide +kernel
theorem dL_startTour_15 : decode cL_startTour 15 = .ok (.iconst 1, 1) := by decide +kernel
theorem dL_startTour_16 : decode cL_startTour 16 = .ok (.ireturn, 1) := by decide +kernel
theorem dL_startTour_17 : decode cL_startTour 17 = .ok (.astore 4, 2) := by decide +kernel
theorem dL_startTour_19 : decode cL_startTour 19 = .ok (.iconst 2, 1) := by decide +kernel
theorem dL_startTour_20 : decode cL_startTour 20 = .ok (.ireturn, 1) := by decide +kernel
theorem dL_startTour_21 : decode cL_startTour 21 = .ok (.astore 4, 2) := by decide +kernel
theorem dL_startTour_23 : decode cL_startTour 23 = .ok (.iconst 3, 1) := by decide +kernel
theorem dL_startTour_24 : decode cL_startTour 24 = .ok (.ireturn, 1) := by decide +kernel
theorem dL_startTour_25 : decode cL_startTour 25 = .ok (.astore 4, 2) := by decide +kernel
theorem dL_startTour_27 : decode cL_startTour 27 = .ok (.iconst 4, 1) := by decide +kernel
theorem dL_startTour_28 : decode cL_startTour 28 = .ok (.ireturn, 1) := by decide +kernel
theorem dL_startTour_29 : decode cL_startTour 29 = .ok (.iconst 0, 1) := by decide +kernel
theorem dL_startTour_30 : decode cL_startTour 30 = .ok (.ireturn, 1) := by decide +kernel
theorem dL_stopTour_0 : decode cL_stopTour 0 = .ok (.aload_n 1, 1) := by decide +kernel
theorem dL_stopTour_1 : decode cL_stopTour 1 = .ok (.iconst 0, 1) := by decide +kernel
theorem dL_stopTour_2 : decode cL_stopTour 2 = .ok (.aload_n 0, 1) := by decide +kernel
theorem dL_stopTour_3 : decode cL_stopTour 3 = .ok (.invokevirtual 31, 3) := by decide +kernel
theorem dL_stopTour_6 : decode cL_stopTour 6 = .ok (.i2l, 1) := by decide +kernel
theorem dL_stopTour_7 : decode cL_stopTour 7 = .ok (.lastore, 1) := by decide +kernel
theorem dL_stopTour_8 : decode cL_stopTour 8 = .ok (.goto 6, 3) := by decide +kernel
theorem dL_stopTour_11 : decode cL_stopTour 11 = .ok (.astore_n 2, 1) := by decide +kernel
theorem dL_stopTour_12 : decode cL_stopTour 12 = .ok (.iconst 1, 1) := by decide +kernel
theorem dL_stopTour_13 : decode cL_stopTour 13 = .ok (.ireturn, 1) := by decide +kernel
theorem dL_stopTour_14 : decode cL_stopTour 14 = .ok (.iconst 0, 1) := by decide +kernel
theorem dL_stopTour_15 : decode cL_stopTour 15 = .ok (.ireturn, 1) := by decide +kernel
theorem dL_update_0 : decode cL_update 0 = .ok (.aload_n 3, 1) := by decide +kernel
theorem dL_update_1 : decode cL_update 1 = .ok (.iconst 0, 1) := by decide +kernel
theorem dL_update_2 : decode cL_update 2 = .ok (.aload_n 0, 1) := by decide +kernel
theorem dL_update_3 : decode cL_update 3 = .ok (.iload_n 1, 1) := by decide +kernel
theorem dL_update_4 : decode cL_update 4 = .ok (.iload_n 2, 1) := by decide +kernel
theorem dL_update_5 : decode cL_update 5 = .ok (.invokevirtual 35, 3) := by decide +kernel
theorem dL_update_8 : decode cL_update 8 = .ok (.ifCond .eq 7, 3) := by decide +kernel
theorem dL_update_11 : decode cL_update 11 = .ok (.lconst 1, 1) := by decide +kernel
theorem dL_update_12 : decode cL_update 12 = .ok (.goto 4, 3) := by decide +kernel
theorem dL_update_15 : decode cL_update 15 = .ok (.lconst 0, 1) := by decide +kernel
theorem dL_update_16 : decode cL_update 16 = .ok (.lastore, 1) := by decide +kernel
theorem dL_update_17 : decode cL_update 17 = .ok (.goto 15, 3) := by decide +kernel
theorem dL_update_20 : decode cL_update 20 = .ok (.astore 4, 2) := by decide +kernel
theorem dL_update_22 : decode cL_update 22 = .ok (.iconst 1, 1) := by decide +kernel
theorem dL_update_23 : decode cL_update 23 = .ok (.ireturn, 1) := by decide +kernel
theorem dL_update_24 : decode cL_update 24 = .ok (.astore 4, 2) := by decide +kernel
theorem dL_update_26 : decode cL_update 26 = .ok (.iconst 2, 1) := by decide +kernel
theorem dL_update_27 : decode cL_update 27 = .ok (.ireturn, 1) := by decide +kernel
theorem dL_update_28 : decode cL_update 28 = .ok (.astore 4, 2) := by decide +kernel
theorem dL_update_30 : decode cL_update 30 = .ok (.iconst 3, 1) := by decide +kernel
theorem dL_update_31 : decode cL_update 31 = .ok (.ireturn, 1) := by decide +kernel
theorem dL_update_32 : decode cL_update 32 = .ok (.iconst 0, 1) := by decide +kernel
theorem dL_update_33 : decode cL_update 33 = .ok (.ireturn, 1) := by decide +kernel
theorem dL_setTolerance_0 : decode cL_setTolerance 0 = .ok (.aload_n 2, 1) := by decide +kernel
theorem dL_setTolerance_1 : decode cL_setTolerance 1 = .ok (.iconst 0, 1) := by decide +kernel
theorem dL_setTolerance_2 : decode cL_setTolerance 2 = .ok (.aload_n 0, 1) := by decide +kernel
theorem dL_setTolerance_3 : decode cL_setTolerance 3 = .ok (.iload_n 1, 1) := by decide +kernel
theorem dL_setTolerance_4 : decode cL_setTolerance 4 = .ok (.invokevirtual 41, 3) := by decide +kernel
theorem dL_setTolerance_7 : decode cL_setTolerance 7 = .ok (.i2l, 1) := by decide +kernel
theorem dL_setTolerance_8 : decode cL_setTolerance 8 = .ok (.lastore, 1) := by decide +kernel
theorem dL_setTolerance_9 : decode cL_setTolerance 9 = .ok (.goto 6, 3) := by decide +kernel
theorem dL_setTolerance_12 : decode cL_setTolerance 12 = .ok (.astore_n 3, 1) := by decide +kernel
theorem dL_setTolerance_13 : decode cL_setTolerance 13 = .ok (.iconst 1, 1) := by decide +kernel
theorem dL_setTolerance_14 : decode cL_setTolerance 14 = .ok (.ireturn, 1) := by decide +kernel
theorem dL_setTolerance_15 : decode cL_setTolerance 15 = .ok (.iconst 0, 1) := by decide +kernel
theorem dL_setTolerance_16 : decode cL_setTolerance 16 = .ok (.ireturn, 1) := by decide +kernel
theorem dL_setMode_0 : decode cL_setMode 0 = .ok (.aload_n 2, 1) := by decide +kernel
theorem dL_setMode_1 : decode cL_setMode 1 = .ok (.iconst 0, 1) := by decide +kernel
theorem dL_setMode_2 : decode cL_setMode 2 = .ok (.aload_n 0, 1) := by decide +kernel
theorem dL_setMode_3 : decode cL_setMode 3 = .ok (.iload_n 1, 1) := by decide +kernel
theorem dL_setMode_4 : decode cL_setMode 4 = .ok (.invokevirtual 45, 3) := by decide +kernel
theorem dL_setMode_7 : decode cL_setMode 7 = .ok (.i2l, 1) := by decide +kernel
theorem dL_setMode_8 : decode cL_setMode 8 = .ok (.lastore, 1) := by decide +kernel
theorem dL_setMode_9 : decode cL_setMode 9 = .ok (.goto 6, 3) := by decide +kernel
theorem dL_setMode_12 : decode cL_setMode 12 = .ok (.astore_n 3, 1) := by decide +kernel
theorem dL_setMode_13 : decode cL_setMode 13 = .ok (.iconst 1, 1) := by decide +kernel
theorem dL_setMode_14 : decode cL_setMode 14 = .ok (.ireturn, 1) := by decide +kernel
theorem dL_setMode_15 : decode cL_setMode 15 = .ok (.iconst 0, 1) := by decide +kernel
theorem dL_setMode_16 : decode cL_setMode 16 = .ok (.ireturn, 1) := by decide +kernel
theorem dL_charge_0 : decode cL_charge 0 = .ok (.aload_n 2, 1) := by decide +kernel
theorem dL_charge_1 : decode cL_charge 1 = .ok (.iconst 0, 1) := by decide +kernel
theorem dL_charge_2 : decode cL_charge 2 = .ok (.aload_n 0, 1) := by decide +kernel
theorem dL_charge_3 : decode cL_charge 3 = .ok (.iload_n 1, 1) := by decide +kernel
theorem dL_charge_4 : decode cL_charge 4 = .ok (.invokevirtual 48, 3) := by decide +kernel
theorem dL_charge_7 : decode cL_charge 7 = .ok (.i2l, 1) := by decide +kernel
theorem dL_charge_8 : decode cL_charge 8 = .ok (.lastore, 1) := by decide +kernel
theorem dL_charge_9 : decode cL_charge 9 = .ok (.goto 6, 3) := by decide +kernel
theorem dL_charge_12 : decode cL_charge 12 = .ok (.astore_n 3, 1) := by decide +kernel
theorem dL_charge_13 : decode cL_charge 13 = .ok (.iconst 1, 1) := by decide +kernel
theorem dL_charge_14 : decode cL_charge 14 = .ok (.ireturn, 1) := by decide +kernel
theorem dL_charge_15 : decode cL_charge 15 = .ok (.iconst 0, 1) := by decide +kernel
theorem dL_charge_16 : decode cL_charge 16 = .ok (.ireturn, 1) := by decide +kernel
theorem dL_waypointX_0 : decode cL_waypointX 0 = .ok (.aload_n 2, 1) := by decide +kernel
theorem dL_waypointX_1 : decode cL_waypointX 1 = .ok (.iconst 0, 1) := by decide +kernel
theorem dL_waypointX_2 : decode cL_waypointX 2 = .ok (.aload_n 0, 1) := by decide +kernel
theorem dL_waypointX_3 : decode cL_waypointX 3 = .ok (.iload_n 1, 1) := by decide +kernel
theorem dL_waypointX_4 : decode cL_waypointX 4 = .ok (.invokevirtual 51, 3) := by decide +kernel
theorem dL_waypointX_7 : decode cL_waypointX 7 = .ok (.i2l, 1) := by decide +kernel
theorem dL_waypointX_8 : decode cL_waypointX 8 = .ok (.lastore, 1) := by decide +kernel
theorem dL_waypointX_9 : decode cL_waypointX 9 = .ok (.goto 6, 3) := by decide +kernel
theorem dL_waypointX_12 : decode cL_waypointX 12 = .ok (.astore_n 3, 1) := by decide +kernel
theorem dL_waypointX_13 : decode cL_waypointX 13 = .ok (.iconst 1, 1) := by decide +kernel
theorem dL_waypointX_14 : decode cL_waypointX 14 = .ok (.ireturn, 1) := by decide +kernel
theorem dL_waypointX_15 : decode cL_waypointX 15 = .ok (.iconst 0, 1) := by decide +kernel
theorem dL_waypointX_16 : decode cL_waypointX 16 = .ok (.ireturn, 1) := by decide +kernel
theorem dL_waypointY_0 : decode cL_waypointY 0 = .ok (.aload_n 2, 1) := by decide +kernel
theorem dL_waypointY_1 : decode cL_waypointY 1 = .ok (.iconst 0, 1) := by decide +kernel
theorem dL_waypointY_2 : decode cL_waypointY 2 = .ok (.aload_n 0, 1) := by decide +kernel
theorem dL_waypointY_3 : decode cL_waypointY 3 = .ok (.iload_n 1, 1) := by decide +kernel
theorem dL_waypointY_4 : decode cL_waypointY 4 = .ok (.invokevirtual 54, 3) := by decide +kernel
theorem dL_waypointY_7 : decode cL_waypointY 7 = .ok (.i2l, 1) := by decide +kernel
theorem dL_waypointY_8 : decode cL_waypointY 8 = .ok (.lastore, 1) := by decide +kernel
theorem dL_waypointY_9 : decode cL_waypointY 9 = .ok (.goto 6, 3) := by decide +kernel
theorem dL_waypointY_12 : decode cL_waypointY 12 = .ok (.astore_n 3, 1) := by decide +kernel
theorem dL_waypointY_13 : decode cL_waypointY 13 = .ok (.iconst 1, 1) := by decide +kernel
theorem dL_waypointY_14 : decode cL_waypointY 14 = .ok (.ireturn, 1) := by decide +kernel
theorem dL_waypointY_15 : decode cL_waypointY 15 = .ok (.iconst 0, 1) := by decide +kernel
theorem dL_waypointY_16 : decode cL_waypointY 16 = .ok (.ireturn, 1) := by decide +kernel
theorem dL_radius_0 : decode cL_radius 0 = .ok (.aload_n 2, 1) := by decide +kernel
theorem dL_radius_1 : decode cL_radius 1 = .ok (.iconst 0, 1) := by decide +kernel
theorem dL_radius_2 : decode cL_radius 2 = .ok (.aload_n 0, 1) := by decide +kernel
theorem dL_radius_3 : decode cL_radius 3 = .ok (.iload_n 1, 1) := by decide +kernel
theorem dL_radius_4 : decode cL_radius 4 = .ok (.invokevirtual 57, 3) := by decide +kernel
theorem dL_radius_7 : decode cL_radius 7 = .ok (.i2l, 1) := by decide +kernel
theorem dL_radius_8 : decode cL_radius 8 = .ok (.lastore, 1) := by decide +kernel
theorem dL_radius_9 : decode cL_radius 9 = .ok (.goto 6, 3) := by decide +kernel
theorem dL_radius_12 : decode cL_radius 12 = .ok (.astore_n 3, 1) := by decide +kernel
theorem dL_radius_13 : decode cL_radius 13 = .ok (.iconst 1, 1) := by decide +kernel
theorem dL_radius_14 : decode cL_radius 14 = .ok (.ireturn, 1) := by decide +kernel
theorem dL_radius_15 : decode cL_radius 15 = .ok (.iconst 0, 1) := by decide +kernel
theorem dL_radius_16 : decode cL_radius 16 = .ok (.ireturn, 1) := by decide +kernel
theorem dL_hasTrail_0 : decode cL_hasTrail 0 = .ok (.aload_n 3, 1) := by decide +kernel
theorem dL_hasTrail_1 : decode cL_hasTrail 1 = .ok (.iconst 0, 1) := by decide +kernel
theorem dL_hasTrail_2 : decode cL_hasTrail 2 = .ok (.aload_n 0, 1) := by decide +kernel
theorem dL_hasTrail_3 : decode cL_hasTrail 3 = .ok (.iload_n 1, 1) := by decide +kernel
theorem dL_hasTrail_4 : decode cL_hasTrail 4 = .ok (.iload_n 2, 1) := by decide +kernel
theorem dL_hasTrail_5 : decode cL_hasTrail 5 = .ok (.invokevirtual 60, 3) := by decide +kernel
theorem dL_hasTrail_8 : decode cL_hasTrail 8 = .ok (.ifCond .eq 7, 3) := by decide +kernel
theorem dL_hasTrail_11 : decode cL_hasTrail 11 = .ok (.lconst 1, 1) := by decide +kernel
theorem dL_hasTrail_12 : decode cL_hasTrail 12 = .ok (.goto 4, 3) := by decide +kernel
theorem dL_hasTrail_15 : decode cL_hasTrail 15 = .ok (.lconst 0, 1) := by decide +kernel
theorem dL_hasTrail_16 : decode cL_hasTrail 16 = .ok (.lastore, 1) := by decide +kernel
theorem dL_hasTrail_17 : decode cL_hasTrail 17 = .ok (.goto 7, 3) := by decide +kernel
theorem dL_hasTrail_20 : decode cL_hasTrail 20 = .ok (.astore 4, 2) := by decide +kernel
theorem dL_hasTrail_22 : decode cL_hasTrail 22 = .ok (.iconst 1, 1) := by decide +kernel
theorem dL_hasTrail_23 : decode cL_hasTrail 23 = .ok (.ireturn, 1) := by decide +kernel
theorem dL_hasTrail_24 : decode cL_hasTrail 24 = .ok (.iconst 0, 1) := by decide +kernel
theorem dL_hasTrail_25 : decode cL_hasTrail 25 = .ok (.ireturn, 1) := by decide +kernel
theorem dL_trailLength_0 : decode cL_trailLength 0 = .ok (.aload_n 3, 1) := by decide +kernel
theorem dL_trailLength_1 : decode cL_trailLength 1 = .ok (.iconst 0, 1) := by decide +kernel
theorem dL_trailLength_2 : decode cL_trailLength 2 = .ok (.aload_n 0, 1) := by decide +kernel
theorem dL_trailLength_3 : decode cL_trailLength 3 = .ok (.iload_n 1, 1) := by decide +kernel
theorem dL_trailLength_4 : decode cL_trailLength 4 = .ok (.iload_n 2, 1) := by decide +kernel
theorem dL_trailLength_5 : decode cL_trailLength 5 = .ok (.invokevirtual 63, 3) := by decide +kernel
theorem dL_trailLength_8 : decode cL_trailLength 8 = .ok (.i2l, 1) := by decide +kernel
theorem dL_trailLength_9 : decode cL_trailLength 9 = .ok (.lastore, 1) := by decide +kernel
theorem dL_trailLength_10 : decode cL_trailLength 10 = .ok (.goto 11, 3) := by decide +kernel
theorem dL_trailLength_13 : decode cL_trailLength 13 = .ok (.astore 4, 2) := by decide +kernel
theorem dL_trailLength_15 : decode cL_trailLength 15 = .ok (.iconst 1, 1) := by decide +kernel
theorem dL_trailLength_16 : decode cL_trailLength 16 = .ok (.ireturn, 1) := by decide +kernel
theorem dL_trailLength_17 : decode cL_trailLength 17 = .ok (.astore 4, 2) := by decide +kernel
theorem dL_trailLength_19 : decode cL_trailLength 19 = .ok (.iconst 2, 1) := by decide +kernel
theorem dL_trailLength_20 : decode cL_trailLength 20 = .ok (.ireturn, 1) := by decide +kernel
theorem dL_trailLength_21 : decode cL_trailLength 21 = .ok (.iconst 0, 1) := by decide +kernel
theorem dL_trailLength_22 : decode cL_trailLength 22 = .ok (.ireturn, 1) := by decide +kernel
theorem dL_distance_0 : decode cL_distance 0 = .ok (.aload_n 3, 1) := by decide +kernel
theorem dL_distance_1 : decode cL_distance 1 = .ok (.iconst 0, 1) := by decide +kernel
theorem dL_distance_2 : decode cL_distance 2 = .ok (.aload_n 0, 1) := by decide +kernel
theorem dL_distance_3 : decode cL_distance 3 = .ok (.iload_n 1, 1) := by decide +kernel
theorem dL_distance_4 : decode cL_distance 4 = .ok (.iload_n 2, 1) := by decide +kernel
theorem dL_distance_5 : decode cL_distance 5 = .ok (.invokevirtual 66, 3) := by decide +kernel
theorem dL_distance_8 : decode cL_distance 8 = .ok (.i2l, 1) := by decide +kernel
theorem dL_distance_9 : decode cL_distance 9 = .ok (.lastore, 1) := by decide +kernel
theorem dL_distance_10 : decode cL_distance 10 = .ok (.goto 11, 3) := by decide +kernel
theorem dL_distance_13 : decode cL_distance 13 = .ok (.astore 4, 2) := by decide +kernel
theorem dL_distance_15 : decode cL_distance 15 = .ok (.iconst 1, 1) := by decide +kernel
theorem dL_distance_16 : decode cL_distance 16 = .ok (.ireturn, 1) := by decide +kernel
theorem dL_distance_17 : decode cL_distance 17 = .ok (.astore 4, 2) := by decide +kernel
theorem dL_distance_19 : decode cL_distance 19 = .ok (.iconst 2, 1) := by decide +kernel
theorem dL_distance_20 : decode cL_distance 20 = .ok (.ireturn, 1) := by decide +kernel
theorem dL_distance_21 : decode cL_distance 21 = .ok (.iconst 0, 1) := by decide +kernel
theorem dL_distance_22 : decode cL_distance 22 = .ok (.ireturn, 1) := by decide +kernel
theorem dL_distanceByRelaxation_0 : decode cL_distanceByRelaxation 0 = .ok (.aload_n 3, 1) := by decide +kernel
theorem dL_distanceByRelaxation_1 : decode cL_distanceByRelaxation 1 = .ok (.iconst 0, 1) := by decide +kernel
theorem dL_distanceByRelaxation_2 : decode cL_distanceByRelaxation 2 = .ok (.aload_n 0, 1) := by decide +kernel
theorem dL_distanceByRelaxation_3 : decode cL_distanceByRelaxation 3 = .ok (.iload_n 1, 1) := by decide +kernel
theorem dL_distanceByRelaxation_4 : decode cL_distanceByRelaxation 4 = .ok (.iload_n 2, 1) := by decide +kernel
theorem dL_distanceByRelaxation_5 : decode cL_distanceByRelaxation 5 = .ok (.invokevirtual 69, 3) := by decide +kernel
theorem dL_distanceByRelaxation_8 : decode cL_distanceByRelaxation 8 = .ok (.i2l, 1) := by decide +kernel
theorem dL_distanceByRelaxation_9 : decode cL_distanceByRelaxation 9 = .ok (.lastore, 1) := by decide +kernel
theorem dL_distanceByRelaxation_10 : decode cL_distanceByRelaxation 10 = .ok (.goto 11, 3) := by decide +kernel
theorem dL_distanceByRelaxation_13 : decode cL_distanceByRelaxation 13 = .ok (.astore 4, 2) := by decide +kernel
theorem dL_distanceByRelaxation_15 : decode cL_distanceByRelaxation 15 = .ok (.iconst 1, 1) := by decide +kernel
theorem dL_distanceByRelaxation_16 : decode cL_distanceByRelaxation 16 = .ok (.ireturn, 1) := by decide +kernel
theorem dL_distanceByRelaxation_17 : decode cL_distanceByRelaxation 17 = .ok (.astore 4, 2) := by decide +kernel
theorem dL_distanceByRelaxation_19 : decode cL_distanceByRelaxation 19 = .ok (.iconst 2, 1) := by decide +kernel
theorem dL_distanceByRelaxation_20 : decode cL_distanceByRelaxation 20 = .ok (.ireturn, 1) := by decide +kernel
theorem dL_distanceByRelaxation_21 : decode cL_distanceByRelaxation 21 = .ok (.iconst 0, 1) := by decide +kernel
theorem dL_distanceByRelaxation_22 : decode cL_distanceByRelaxation 22 = .ok (.ireturn, 1) := by decide +kernel
theorem dL_nearest_0 : decode cL_nearest 0 = .ok (.aload_n 3, 1) := by decide +kernel
theorem dL_nearest_1 : decode cL_nearest 1 = .ok (.iconst 0, 1) := by decide +kernel
theorem dL_nearest_2 : decode cL_nearest 2 = .ok (.aload_n 0, 1) := by decide +kernel
theorem dL_nearest_3 : decode cL_nearest 3 = .ok (.iload_n 1, 1) := by decide +kernel
theorem dL_nearest_4 : decode cL_nearest 4 = .ok (.iload_n 2, 1) := by decide +kernel
theorem dL_nearest_5 : decode cL_nearest 5 = .ok (.invokevirtual 72, 3) := by decide +kernel
theorem dL_nearest_8 : decode cL_nearest 8 = .ok (.i2l, 1) := by decide +kernel
theorem dL_nearest_9 : decode cL_nearest 9 = .ok (.lastore, 1) := by decide +kernel
theorem dL_nearest_10 : decode cL_nearest 10 = .ok (.goto 11, 3) := by decide +kernel
theorem dL_nearest_13 : decode cL_nearest 13 = .ok (.astore 4, 2) := by decide +kernel
theorem dL_nearest_15 : decode cL_nearest 15 = .ok (.iconst 1, 1) := by decide +kernel
theorem dL_nearest_16 : decode cL_nearest 16 = .ok (.ireturn, 1) := by decide +kernel
theorem dL_nearest_17 : decode cL_nearest 17 = .ok (.astore 4, 2) := by decide +kernel
theorem dL_nearest_19 : decode cL_nearest 19 = .ok (.iconst 2, 1) := by decide +kernel
theorem dL_nearest_20 : decode cL_nearest 20 = .ok (.ireturn, 1) := by decide +kernel
theorem dL_nearest_21 : decode cL_nearest 21 = .ok (.iconst 0, 1) := by decide +kernel
theorem dL_nearest_22 : decode cL_nearest 22 = .ok (.ireturn, 1) := by decide +kernel
theorem dL_routeLength_0 : decode cL_routeLength 0 = .ok (.aload_n 1, 1) := by decide +kernel
theorem dL_routeLength_1 : decode cL_routeLength 1 = .ok (.iconst 0, 1) := by decide +kernel
theorem dL_routeLength_2 : decode cL_routeLength 2 = .ok (.aload_n 0, 1) := by decide +kernel
theorem dL_routeLength_3 : decode cL_routeLength 3 = .ok (.invokevirtual 75, 3) := by decide +kernel
theorem dL_routeLength_6 : decode cL_routeLength 6 = .ok (.i2l, 1) := by decide +kernel
theorem dL_routeLength_7 : decode cL_routeLength 7 = .ok (.lastore, 1) := by decide +kernel
theorem dL_routeLength_8 : decode cL_routeLength 8 = .ok (.goto 6, 3) := by decide +kernel
theorem dL_routeLength_11 : decode cL_routeLength 11 = .ok (.astore_n 2, 1) := by decide +kernel
theorem dL_routeLength_12 : decode cL_routeLength 12 = .ok (.iconst 1, 1) := by decide +kernel
theorem dL_routeLength_13 : decode cL_routeLength 13 = .ok (.ireturn, 1) := by decide +kernel
theorem dL_routeLength_14 : decode cL_routeLength 14 = .ok (.iconst 0, 1) := by decide +kernel
theorem dL_routeLength_15 : decode cL_routeLength 15 = .ok (.ireturn, 1) := by decide +kernel
theorem dL_routeWaypoint_0 : decode cL_routeWaypoint 0 = .ok (.aload_n 2, 1) := by decide +kernel
theorem dL_routeWaypoint_1 : decode cL_routeWaypoint 1 = .ok (.iconst 0, 1) := by decide +kernel
theorem dL_routeWaypoint_2 : decode cL_routeWaypoint 2 = .ok (.aload_n 0, 1) := by decide +kernel
theorem dL_routeWaypoint_3 : decode cL_routeWaypoint 3 = .ok (.iload_n 1, 1) := by decide +kernel
theorem dL_routeWaypoint_4 : decode cL_routeWaypoint 4 = .ok (.invokevirtual 78, 3) := by decide +kernel
theorem dL_routeWaypoint_7 : decode cL_routeWaypoint 7 = .ok (.i2l, 1) := by decide +kernel
theorem dL_routeWaypoint_8 : decode cL_routeWaypoint 8 = .ok (.lastore, 1) := by decide +kernel
theorem dL_routeWaypoint_9 : decode cL_routeWaypoint 9 = .ok (.goto 9, 3) := by decide +kernel
theorem dL_routeWaypoint_12 : decode cL_routeWaypoint 12 = .ok (.astore_n 3, 1) := by decide +kernel
theorem dL_routeWaypoint_13 : decode cL_routeWaypoint 13 = .ok (.iconst 1, 1) := by decide +kernel
theorem dL_routeWaypoint_14 : decode cL_routeWaypoint 14 = .ok (.ireturn, 1) := by decide +kernel
theorem dL_routeWaypoint_15 : decode cL_routeWaypoint 15 = .ok (.astore_n 3, 1) := by decide +kernel
theorem dL_routeWaypoint_16 : decode cL_routeWaypoint 16 = .ok (.iconst 2, 1) := by decide +kernel
theorem dL_routeWaypoint_17 : decode cL_routeWaypoint 17 = .ok (.ireturn, 1) := by decide +kernel
theorem dL_routeWaypoint_18 : decode cL_routeWaypoint 18 = .ok (.iconst 0, 1) := by decide +kernel
theorem dL_routeWaypoint_19 : decode cL_routeWaypoint 19 = .ok (.ireturn, 1) := by decide +kernel
theorem dL_turn_0 : decode cL_turn 0 = .ok (.aload_n 2, 1) := by decide +kernel
theorem dL_turn_1 : decode cL_turn 1 = .ok (.iconst 0, 1) := by decide +kernel
theorem dL_turn_2 : decode cL_turn 2 = .ok (.aload_n 0, 1) := by decide +kernel
theorem dL_turn_3 : decode cL_turn 3 = .ok (.iload_n 1, 1) := by decide +kernel
theorem dL_turn_4 : decode cL_turn 4 = .ok (.invokevirtual 81, 3) := by decide +kernel
theorem dL_turn_7 : decode cL_turn 7 = .ok (.i2l, 1) := by decide +kernel
theorem dL_turn_8 : decode cL_turn 8 = .ok (.lastore, 1) := by decide +kernel
theorem dL_turn_9 : decode cL_turn 9 = .ok (.goto 12, 3) := by decide +kernel
theorem dL_turn_12 : decode cL_turn 12 = .ok (.astore_n 3, 1) := by decide +kernel
theorem dL_turn_13 : decode cL_turn 13 = .ok (.iconst 1, 1) := by decide +kernel
theorem dL_turn_14 : decode cL_turn 14 = .ok (.ireturn, 1) := by decide +kernel
theorem dL_turn_15 : decode cL_turn 15 = .ok (.astore_n 3, 1) := by decide +kernel
theorem dL_turn_16 : decode cL_turn 16 = .ok (.iconst 2, 1) := by decide +kernel
theorem dL_turn_17 : decode cL_turn 17 = .ok (.ireturn, 1) := by decide +kernel
theorem dL_turn_18 : decode cL_turn 18 = .ok (.astore_n 3, 1) := by decide +kernel
theorem dL_turn_19 : decode cL_turn 19 = .ok (.iconst 3, 1) := by decide +kernel
theorem dL_turn_20 : decode cL_turn 20 = .ok (.ireturn, 1) := by decide +kernel
theorem dL_turn_21 : decode cL_turn 21 = .ok (.iconst 0, 1) := by decide +kernel
theorem dL_turn_22 : decode cL_turn 22 = .ok (.ireturn, 1) := by decide +kernel
theorem dL_target_0 : decode cL_target 0 = .ok (.aload_n 1, 1) := by decide +kernel
theorem dL_target_1 : decode cL_target 1 = .ok (.iconst 0, 1) := by decide +kernel
theorem dL_target_2 : decode cL_target 2 = .ok (.aload_n 0, 1) := by decide +kernel
theorem dL_target_3 : decode cL_target 3 = .ok (.invokevirtual 85, 3) := by decide +kernel
theorem dL_target_6 : decode cL_target 6 = .ok (.i2l, 1) := by decide +kernel
theorem dL_target_7 : decode cL_target 7 = .ok (.lastore, 1) := by decide +kernel
theorem dL_target_8 : decode cL_target 8 = .ok (.goto 6, 3) := by decide +kernel
theorem dL_target_11 : decode cL_target 11 = .ok (.astore_n 2, 1) := by decide +kernel
theorem dL_target_12 : decode cL_target 12 = .ok (.iconst 1, 1) := by decide +kernel
theorem dL_target_13 : decode cL_target 13 = .ok (.ireturn, 1) := by decide +kernel
theorem dL_target_14 : decode cL_target 14 = .ok (.iconst 0, 1) := by decide +kernel
theorem dL_target_15 : decode cL_target 15 = .ok (.ireturn, 1) := by decide +kernel
theorem dL_hikerX_0 : decode cL_hikerX 0 = .ok (.aload_n 1, 1) := by decide +kernel
theorem dL_hikerX_1 : decode cL_hikerX 1 = .ok (.iconst 0, 1) := by decide +kernel
theorem dL_hikerX_2 : decode cL_hikerX 2 = .ok (.aload_n 0, 1) := by decide +kernel
theorem dL_hikerX_3 : decode cL_hikerX 3 = .ok (.invokevirtual 88, 3) := by decide +kernel
theorem dL_hikerX_6 : decode cL_hikerX 6 = .ok (.i2l, 1) := by decide +kernel
theorem dL_hikerX_7 : decode cL_hikerX 7 = .ok (.lastore, 1) := by decide +kernel
theorem dL_hikerX_8 : decode cL_hikerX 8 = .ok (.goto 6, 3) := by decide +kernel
theorem dL_hikerX_11 : decode cL_hikerX 11 = .ok (.astore_n 2, 1) := by decide +kernel
theorem dL_hikerX_12 : decode cL_hikerX 12 = .ok (.iconst 1, 1) := by decide +kernel
theorem dL_hikerX_13 : decode cL_hikerX 13 = .ok (.ireturn, 1) := by decide +kernel
theorem dL_hikerX_14 : decode cL_hikerX 14 = .ok (.iconst 0, 1) := by decide +kernel
theorem dL_hikerX_15 : decode cL_hikerX 15 = .ok (.ireturn, 1) := by decide +kernel
theorem dL_hikerY_0 : decode cL_hikerY 0 = .ok (.aload_n 1, 1) := by decide +kernel
theorem dL_hikerY_1 : decode cL_hikerY 1 = .ok (.iconst 0, 1) := by decide +kernel
theorem dL_hikerY_2 : decode cL_hikerY 2 = .ok (.aload_n 0, 1) := by decide +kernel
theorem dL_hikerY_3 : decode cL_hikerY 3 = .ok (.invokevirtual 91, 3) := by decide +kernel
theorem dL_hikerY_6 : decode cL_hikerY 6 = .ok (.i2l, 1) := by decide +kernel
theorem dL_hikerY_7 : decode cL_hikerY 7 = .ok (.lastore, 1) := by decide +kernel
theorem dL_hikerY_8 : decode cL_hikerY 8 = .ok (.goto 6, 3) := by decide +kernel
theorem dL_hikerY_11 : decode cL_hikerY 11 = .ok (.astore_n 2, 1) := by decide +kernel
theorem dL_hikerY_12 : decode cL_hikerY 12 = .ok (.iconst 1, 1) := by decide +kernel
theorem dL_hikerY_13 : decode cL_hikerY 13 = .ok (.ireturn, 1) := by decide +kernel
theorem dL_hikerY_14 : decode cL_hikerY 14 = .ok (.iconst 0, 1) := by decide +kernel
theorem dL_hikerY_15 : decode cL_hikerY 15 = .ok (.ireturn, 1) := by decide +kernel
theorem dL_drift_0 : decode cL_drift 0 = .ok (.aload_n 1, 1) := by decide +kernel
theorem dL_drift_1 : decode cL_drift 1 = .ok (.iconst 0, 1) := by decide +kernel
theorem dL_drift_2 : decode cL_drift 2 = .ok (.aload_n 0, 1) := by decide +kernel
theorem dL_drift_3 : decode cL_drift 3 = .ok (.invokevirtual 94, 3) := by decide +kernel
theorem dL_drift_6 : decode cL_drift 6 = .ok (.i2l, 1) := by decide +kernel
theorem dL_drift_7 : decode cL_drift 7 = .ok (.lastore, 1) := by decide +kernel
theorem dL_drift_8 : decode cL_drift 8 = .ok (.goto 6, 3) := by decide +kernel
theorem dL_drift_11 : decode cL_drift 11 = .ok (.astore_n 2, 1) := by decide +kernel
theorem dL_drift_12 : decode cL_drift 12 = .ok (.iconst 1, 1) := by decide +kernel
theorem dL_drift_13 : decode cL_drift 13 = .ok (.ireturn, 1) := by decide +kernel
theorem dL_drift_14 : decode cL_drift 14 = .ok (.iconst 0, 1) := by decide +kernel
theorem dL_drift_15 : decode cL_drift 15 = .ok (.ireturn, 1) := by decide +kernel
theorem dL_forecast_0 : decode cL_forecast 0 = .ok (.aload_n 3, 1) := by decide +kernel
theorem dL_forecast_1 : decode cL_forecast 1 = .ok (.iconst 0, 1) := by decide +kernel
theorem dL_forecast_2 : decode cL_forecast 2 = .ok (.aload_n 0, 1) := by decide +kernel
theorem dL_forecast_3 : decode cL_forecast 3 = .ok (.iload_n 1, 1) := by decide +kernel
theorem dL_forecast_4 : decode cL_forecast 4 = .ok (.iload_n 2, 1) := by decide +kernel
theorem dL_forecast_5 : decode cL_forecast 5 = .ok (.invokevirtual 97, 3) := by decide +kernel
theorem dL_forecast_8 : decode cL_forecast 8 = .ok (.i2l, 1) := by decide +kernel
theorem dL_forecast_9 : decode cL_forecast 9 = .ok (.lastore, 1) := by decide +kernel
theorem dL_forecast_10 : decode cL_forecast 10 = .ok (.goto 11, 3) := by decide +kernel
theorem dL_forecast_13 : decode cL_forecast 13 = .ok (.astore 4, 2) := by decide +kernel
theorem dL_forecast_15 : decode cL_forecast 15 = .ok (.iconst 1, 1) := by decide +kernel
theorem dL_forecast_16 : decode cL_forecast 16 = .ok (.ireturn, 1) := by decide +kernel
theorem dL_forecast_17 : decode cL_forecast 17 = .ok (.astore 4, 2) := by decide +kernel
theorem dL_forecast_19 : decode cL_forecast 19 = .ok (.iconst 2, 1) := by decide +kernel
theorem dL_forecast_20 : decode cL_forecast 20 = .ok (.ireturn, 1) := by decide +kernel
theorem dL_forecast_21 : decode cL_forecast 21 = .ok (.iconst 0, 1) := by decide +kernel
theorem dL_forecast_22 : decode cL_forecast 22 = .ok (.ireturn, 1) := by decide +kernel
theorem dL_alarmRate_0 : decode cL_alarmRate 0 = .ok (.aload_n 1, 1) := by decide +kernel
theorem dL_alarmRate_1 : decode cL_alarmRate 1 = .ok (.iconst 0, 1) := by decide +kernel
theorem dL_alarmRate_2 : decode cL_alarmRate 2 = .ok (.aload_n 0, 1) := by decide +kernel
theorem dL_alarmRate_3 : decode cL_alarmRate 3 = .ok (.invokevirtual 101, 3) := by decide +kernel
theorem dL_alarmRate_6 : decode cL_alarmRate 6 = .ok (.f2d, 1) := by decide +kernel
theorem dL_alarmRate_7 : decode cL_alarmRate 7 = .ok (.dastore, 1) := by decide +kernel
theorem dL_alarmRate_8 : decode cL_alarmRate 8 = .ok (.goto 6, 3) := by decide +kernel
theorem dL_alarmRate_11 : decode cL_alarmRate 11 = .ok (.astore_n 2, 1) := by decide +kernel
theorem dL_alarmRate_12 : decode cL_alarmRate 12 = .ok (.iconst 1, 1) := by decide +kernel
theorem dL_alarmRate_13 : decode cL_alarmRate 13 = .ok (.ireturn, 1) := by decide +kernel
theorem dL_alarmRate_14 : decode cL_alarmRate 14 = .ok (.iconst 0, 1) := by decide +kernel
theorem dL_alarmRate_15 : decode cL_alarmRate 15 = .ok (.ireturn, 1) := by decide +kernel
theorem dL_meanTrailLength_0 : decode cL_meanTrailLength 0 = .ok (.aload_n 1, 1) := by decide +kernel
theorem dL_meanTrailLength_1 : decode cL_meanTrailLength 1 = .ok (.iconst 0, 1) := by decide +kernel
theorem dL_meanTrailLength_2 : decode cL_meanTrailLength 2 = .ok (.aload_n 0, 1) := by decide +kernel
theorem dL_meanTrailLength_3 : decode cL_meanTrailLength 3 = .ok (.invokevirtual 107, 3) := by decide +kernel
theorem dL_meanTrailLength_6 : decode cL_meanTrailLength 6 = .ok (.dastore, 1) := by decide +kernel
theorem dL_meanTrailLength_7 : decode cL_meanTrailLength 7 = .ok (.goto 6, 3) := by decide +kernel
theorem dL_meanTrailLength_10 : decode cL_meanTrailLength 10 = .ok (.astore_n 2, 1) := by decide +kernel
theorem dL_meanTrailLength_11 : decode cL_meanTrailLength 11 = .ok (.iconst 1, 1) := by decide +kernel
theorem dL_meanTrailLength_12 : decode cL_meanTrailLength 12 = .ok (.ireturn, 1) := by decide +kernel
theorem dL_meanTrailLength_13 : decode cL_meanTrailLength 13 = .ok (.iconst 0, 1) := by decide +kernel
theorem dL_meanTrailLength_14 : decode cL_meanTrailLength 14 = .ok (.ireturn, 1) := by decide +kernel
theorem dL_writeTrails_0 : decode cL_writeTrails 0 = .ok (.aload_n 2, 1) := by decide +kernel
theorem dL_writeTrails_1 : decode cL_writeTrails 1 = .ok (.iconst 0, 1) := by decide +kernel
theorem dL_writeTrails_2 : decode cL_writeTrails 2 = .ok (.aload_n 0, 1) := by decide +kernel
theorem dL_writeTrails_3 : decode cL_writeTrails 3 = .ok (.iload_n 1, 1) := by decide +kernel
theorem dL_writeTrails_4 : decode cL_writeTrails 4 = .ok (.invokevirtual 111, 3) := by decide +kernel
theorem dL_writeTrails_7 : decode cL_writeTrails 7 = .ok (.i2l, 1) := by decide +kernel
theorem dL_writeTrails_8 : decode cL_writeTrails 8 = .ok (.lastore, 1) := by decide +kernel
theorem dL_writeTrails_9 : decode cL_writeTrails 9 = .ok (.goto 6, 3) := by decide +kernel
theorem dL_writeTrails_12 : decode cL_writeTrails 12 = .ok (.astore_n 3, 1) := by decide +kernel
theorem dL_writeTrails_13 : decode cL_writeTrails 13 = .ok (.iconst 1, 1) := by decide +kernel
theorem dL_writeTrails_14 : decode cL_writeTrails 14 = .ok (.ireturn, 1) := by decide +kernel
theorem dL_writeTrails_15 : decode cL_writeTrails 15 = .ok (.iconst 0, 1) := by decide +kernel
theorem dL_writeTrails_16 : decode cL_writeTrails 16 = .ok (.ireturn, 1) := by decide +kernel
theorem dL_charAt_0 : decode cL_charAt 0 = .ok (.aload_n 2, 1) := by decide +kernel
theorem dL_charAt_1 : decode cL_charAt 1 = .ok (.iconst 0, 1) := by decide +kernel
theorem dL_charAt_2 : decode cL_charAt 2 = .ok (.aload_n 0, 1) := by decide +kernel
theorem dL_charAt_3 : decode cL_charAt 3 = .ok (.iload_n 1, 1) := by decide +kernel
theorem dL_charAt_4 : decode cL_charAt 4 = .ok (.invokevirtual 114, 3) := by decide +kernel
theorem dL_charAt_7 : decode cL_charAt 7 = .ok (.i2l, 1) := by decide +kernel
theorem dL_charAt_8 : decode cL_charAt 8 = .ok (.lastore, 1) := by decide +kernel
theorem dL_charAt_9 : decode cL_charAt 9 = .ok (.goto 6, 3) := by decide +kernel
theorem dL_charAt_12 : decode cL_charAt 12 = .ok (.astore_n 3, 1) := by decide +kernel
theorem dL_charAt_13 : decode cL_charAt 13 = .ok (.iconst 1, 1) := by decide +kernel
theorem dL_charAt_14 : decode cL_charAt 14 = .ok (.ireturn, 1) := by decide +kernel
theorem dL_charAt_15 : decode cL_charAt 15 = .ok (.iconst 0, 1) := by decide +kernel
theorem dL_charAt_16 : decode cL_charAt 16 = .ok (.ireturn, 1) := by decide +kernel
theorem dL_type_0 : decode cL_type 0 = .ok (.aload_n 2, 1) := by decide +kernel
theorem dL_type_1 : decode cL_type 1 = .ok (.iconst 0, 1) := by decide +kernel
theorem dL_type_2 : decode cL_type 2 = .ok (.aload_n 0, 1) := by decide +kernel
theorem dL_type_3 : decode cL_type 3 = .ok (.iload_n 1, 1) := by decide +kernel
theorem dL_type_4 : decode cL_type 4 = .ok (.invokevirtual 117, 3) := by decide +kernel
theorem dL_type_7 : decode cL_type 7 = .ok (.i2l, 1) := by decide +kernel
theorem dL_type_8 : decode cL_type 8 = .ok (.lastore, 1) := by decide +kernel
theorem dL_type_9 : decode cL_type 9 = .ok (.goto 6, 3) := by decide +kernel
theorem dL_type_12 : decode cL_type 12 = .ok (.astore_n 3, 1) := by decide +kernel
theorem dL_type_13 : decode cL_type 13 = .ok (.iconst 1, 1) := by decide +kernel
theorem dL_type_14 : decode cL_type 14 = .ok (.ireturn, 1) := by decide +kernel
theorem dL_type_15 : decode cL_type 15 = .ok (.iconst 0, 1) := by decide +kernel
theorem dL_type_16 : decode cL_type 16 = .ok (.ireturn, 1) := by decide +kernel
theorem dL_run_0 : decode cL_run 0 = .ok (.aload_n 1, 1) := by decide +kernel
theorem dL_run_1 : decode cL_run 1 = .ok (.iconst 0, 1) := by decide +kernel
theorem dL_run_2 : decode cL_run 2 = .ok (.aload_n 0, 1) := by decide +kernel
theorem dL_run_3 : decode cL_run 3 = .ok (.invokevirtual 121, 3) := by decide +kernel
theorem dL_run_6 : decode cL_run 6 = .ok (.i2l, 1) := by decide +kernel
theorem dL_run_7 : decode cL_run 7 = .ok (.lastore, 1) := by decide +kernel
theorem dL_run_8 : decode cL_run 8 = .ok (.goto 9, 3) := by decide +kernel
theorem dL_run_11 : decode cL_run 11 = .ok (.astore_n 2, 1) := by decide +kernel
theorem dL_run_12 : decode cL_run 12 = .ok (.iconst 1, 1) := by decide +kernel
theorem dL_run_13 : decode cL_run 13 = .ok (.ireturn, 1) := by decide +kernel
theorem dL_run_14 : decode cL_run 14 = .ok (.astore_n 2, 1) := by decide +kernel
theorem dL_run_15 : decode cL_run 15 = .ok (.iconst 2, 1) := by decide +kernel
theorem dL_run_16 : decode cL_run 16 = .ok (.ireturn, 1) := by decide +kernel
theorem dL_run_17 : decode cL_run 17 = .ok (.iconst 0, 1) := by decide +kernel
theorem dL_run_18 : decode cL_run 18 = .ok (.ireturn, 1) := by decide +kernel
theorem dL_errorPosition_0 : decode cL_errorPosition 0 = .ok (.aload_n 1, 1) := by decide +kernel
theorem dL_errorPosition_1 : decode cL_errorPosition 1 = .ok (.iconst 0, 1) := by decide +kernel
theorem dL_errorPosition_2 : decode cL_errorPosition 2 = .ok (.aload_n 0, 1) := by decide +kernel
theorem dL_errorPosition_3 : decode cL_errorPosition 3 = .ok (.invokevirtual 124, 3) := by decide +kernel
theorem dL_errorPosition_6 : decode cL_errorPosition 6 = .ok (.i2l, 1) := by decide +kernel
theorem dL_errorPosition_7 : decode cL_errorPosition 7 = .ok (.lastore, 1) := by decide +kernel
theorem dL_errorPosition_8 : decode cL_errorPosition 8 = .ok (.goto 6, 3) := by decide +kernel
theorem dL_errorPosition_11 : decode cL_errorPosition 11 = .ok (.astore_n 2, 1) := by decide +kernel
theorem dL_errorPosition_12 : decode cL_errorPosition 12 = .ok (.iconst 1, 1) := by decide +kernel
theorem dL_errorPosition_13 : decode cL_errorPosition 13 = .ok (.ireturn, 1) := by decide +kernel
theorem dL_errorPosition_14 : decode cL_errorPosition 14 = .ok (.iconst 0, 1) := by decide +kernel
theorem dL_errorPosition_15 : decode cL_errorPosition 15 = .ok (.ireturn, 1) := by decide +kernel
theorem dL_failedCommand_0 : decode cL_failedCommand 0 = .ok (.aload_n 1, 1) := by decide +kernel
theorem dL_failedCommand_1 : decode cL_failedCommand 1 = .ok (.iconst 0, 1) := by decide +kernel
theorem dL_failedCommand_2 : decode cL_failedCommand 2 = .ok (.aload_n 0, 1) := by decide +kernel
theorem dL_failedCommand_3 : decode cL_failedCommand 3 = .ok (.invokevirtual 127, 3) := by decide +kernel
theorem dL_failedCommand_6 : decode cL_failedCommand 6 = .ok (.i2l, 1) := by decide +kernel
theorem dL_failedCommand_7 : decode cL_failedCommand 7 = .ok (.lastore, 1) := by decide +kernel
theorem dL_failedCommand_8 : decode cL_failedCommand 8 = .ok (.goto 6, 3) := by decide +kernel
theorem dL_failedCommand_11 : decode cL_failedCommand 11 = .ok (.astore_n 2, 1) := by decide +kernel
theorem dL_failedCommand_12 : decode cL_failedCommand 12 = .ok (.iconst 1, 1) := by decide +kernel
theorem dL_failedCommand_13 : decode cL_failedCommand 13 = .ok (.ireturn, 1) := by decide +kernel
theorem dL_failedCommand_14 : decode cL_failedCommand 14 = .ok (.iconst 0, 1) := by decide +kernel
theorem dL_failedCommand_15 : decode cL_failedCommand 15 = .ok (.ireturn, 1) := by decide +kernel
theorem dL_undo_0 : decode cL_undo 0 = .ok (.aload_n 1, 1) := by decide +kernel
theorem dL_undo_1 : decode cL_undo 1 = .ok (.iconst 0, 1) := by decide +kernel
theorem dL_undo_2 : decode cL_undo 2 = .ok (.aload_n 0, 1) := by decide +kernel
theorem dL_undo_3 : decode cL_undo 3 = .ok (.invokevirtual 130, 3) := by decide +kernel
theorem dL_undo_6 : decode cL_undo 6 = .ok (.i2l, 1) := by decide +kernel
theorem dL_undo_7 : decode cL_undo 7 = .ok (.lastore, 1) := by decide +kernel
theorem dL_undo_8 : decode cL_undo 8 = .ok (.goto 6, 3) := by decide +kernel
theorem dL_undo_11 : decode cL_undo 11 = .ok (.astore_n 2, 1) := by decide +kernel
theorem dL_undo_12 : decode cL_undo 12 = .ok (.iconst 1, 1) := by decide +kernel
theorem dL_undo_13 : decode cL_undo 13 = .ok (.ireturn, 1) := by decide +kernel
theorem dL_undo_14 : decode cL_undo 14 = .ok (.iconst 0, 1) := by decide +kernel
theorem dL_undo_15 : decode cL_undo 15 = .ok (.ireturn, 1) := by decide +kernel
theorem dL_restore_0 : decode cL_restore 0 = .ok (.aload_n 1, 1) := by decide +kernel
theorem dL_restore_1 : decode cL_restore 1 = .ok (.iconst 0, 1) := by decide +kernel
theorem dL_restore_2 : decode cL_restore 2 = .ok (.aload_n 0, 1) := by decide +kernel
theorem dL_restore_3 : decode cL_restore 3 = .ok (.invokevirtual 133, 3) := by decide +kernel
theorem dL_restore_6 : decode cL_restore 6 = .ok (.i2l, 1) := by decide +kernel
theorem dL_restore_7 : decode cL_restore 7 = .ok (.lastore, 1) := by decide +kernel
theorem dL_restore_8 : decode cL_restore 8 = .ok (.goto 6, 3) := by decide +kernel
theorem dL_restore_11 : decode cL_restore 11 = .ok (.astore_n 2, 1) := by decide +kernel
theorem dL_restore_12 : decode cL_restore 12 = .ok (.iconst 1, 1) := by decide +kernel
theorem dL_restore_13 : decode cL_restore 13 = .ok (.ireturn, 1) := by decide +kernel
theorem dL_restore_14 : decode cL_restore 14 = .ok (.iconst 0, 1) := by decide +kernel
theorem dL_restore_15 : decode cL_restore 15 = .ok (.ireturn, 1) := by decide +kernel
