theorem dX3_init_0 : decode cX3_init 0 = .ok (.aload_n 0, 1) := by decide +kernel
theorem dX3_init_1 : decode cX3_init 1 = .ok (.invokespecial 1, 3) := by decide +kernel
theorem dX3_init_4 : decode cX3_init 4 = .ok (.aload_n 0, 1) := by decide +kernel
theorem dX3_init_5 : decode cX3_init 5 = .ok (.sipush 256, 3) := by decide +kernel
theorem dX3_init_8 : decode cX3_init 8 = .ok (.newarray .int, 2) := by decide +kernel
theorem dX3_init_10 : decode cX3_init 10 = .ok (.putfield 7, 3) := by decide +kernel
theorem dX3_init_13 : decode cX3_init 13 = .ok (.aload_n 0, 1) := by decide +kernel
theorem dX3_init_14 : decode cX3_init 14 = .ok (.sipush 256, 3) := by decide +kernel
theorem dX3_init_17 : decode cX3_init 17 = .ok (.newarray .int, 2) := by decide +kernel
theorem dX3_init_19 : decode cX3_init 19 = .ok (.putfield 13, 3) := by decide +kernel
theorem dX3_init_22 : decode cX3_init 22 = .ok (.aload_n 0, 1) := by decide +kernel
theorem dX3_init_23 : decode cX3_init 23 = .ok (.bipush 44, 2) := by decide +kernel
theorem dX3_init_25 : decode cX3_init 25 = .ok (.newarray .int, 2) := by decide +kernel
theorem dX3_init_27 : decode cX3_init 27 = .ok (.putfield 16, 3) := by decide +kernel
theorem dX3_init_30 : decode cX3_init 30 = .ok (.aload_n 0, 1) := by decide +kernel
theorem dX3_init_31 : decode cX3_init 31 = .ok (.bipush 16, 2) := by decide +kernel
theorem dX3_init_33 : decode cX3_init 33 = .ok (.newarray .int, 2) := by decide +kernel
theorem dX3_init_35 : decode cX3_init 35 = .ok (.putfield 19, 3) := by decide +kernel
theorem dX3_init_38 : decode cX3_init 38 = .ok (.aload_n 0, 1) := by decide +kernel
theorem dX3_init_39 : decode cX3_init 39 = .ok (.bipush 16, 2) := by decide +kernel
theorem dX3_init_41 : decode cX3_init 41 = .ok (.newarray .int, 2) := by decide +kernel
theorem dX3_init_43 : decode cX3_init 43 = .ok (.putfield 22, 3) := by decide +kernel
theorem dX3_init_46 : decode cX3_init 46 = .ok (.aload_n 0, 1) := by decide +kernel
theorem dX3_init_47 : decode cX3_init 47 = .ok (.bipush 48, 2) := by decide +kernel
theorem dX3_init_49 : decode cX3_init 49 = .ok (.newarray .int, 2) := by decide +kernel
theorem dX3_init_51 : decode cX3_init 51 = .ok (.putfield 25, 3) := by decide +kernel
theorem dX3_init_54 : decode cX3_init 54 = .ok (.aload_n 0, 1) := by decide +kernel
theorem dX3_init_55 : decode cX3_init 55 = .ok (.bipush 96, 2) := by decide +kernel
theorem dX3_init_57 : decode cX3_init 57 = .ok (.newarray .int, 2) := by decide +kernel
theorem dX3_init_59 : decode cX3_init 59 = .ok (.putfield 28, 3) := by decide +kernel
theorem dX3_init_62 : decode cX3_init 62 = .ok (.iconst 1, 1) := by decide +kernel
theorem dX3_init_63 : decode cX3_init 63 = .ok (.istore_n 1, 1) := by decide +kernel
theorem dX3_init_64 : decode cX3_init 64 = .ok (.iconst 1, 1) := by decide +kernel
theorem dX3_init_65 : decode cX3_init 65 = .ok (.istore_n 2, 1) := by decide +kernel
theorem dX3_init_66 : decode cX3_init 66 = .ok (.iconst 0, 1) := by decide +kernel
theorem dX3_init_67 : decode cX3_init 67 = .ok (.istore_n 3, 1) := by decide +kernel
theorem dX3_init_68 : decode cX3_init 68 = .ok (.iload_n 3, 1) := by decide +kernel
theorem dX3_init_69 : decode cX3_init 69 = .ok (.sipush 255, 3) := by decide +kernel
theorem dX3_init_72 : decode cX3_init 72 = .ok (.if_icmp .ge 33, 3) := by decide +kernel
theorem dX3_init_75 : decode cX3_init 75 = .ok (.aload_n 0, 1) := by decide +kernel
theorem dX3_init_76 : decode cX3_init 76 = .ok (.getfield 7, 3) := by decide +kernel
theorem dX3_init_79 : decode cX3_init 79 = .ok (.iload_n 1, 1) := by decide +kernel
theorem dX3_init_80 : decode cX3_init 80 = .ok (.iload_n 2, 1) := by decide +kernel
theorem dX3_init_81 : decode cX3_init 81 = .ok (.invokestatic 31, 3) := by decide +kernel
theorem dX3_init_84 : decode cX3_init 84 = .ok (.iastore, 1) := by decide +kernel
theorem dX3_init_85 : decode cX3_init 85 = .ok (.iload_n 1, 1) := by decide +kernel
theorem dX3_init_86 : decode cX3_init 86 = .ok (.iconst 3, 1) := by decide +kernel
theorem dX3_init_87 : decode cX3_init 87 = .ok (.invokestatic 35, 3) := by decide +kernel
theorem dX3_init_90 : decode cX3_init 90 = .ok (.istore_n 1, 1) := by decide +kernel
theorem dX3_init_91 : decode cX3_init 91 = .ok (.iload_n 2, 1) := by decide +kernel
theorem dX3_init_92 : decode cX3_init 92 = .ok (.sipush 246, 3) := by decide +kernel
theorem dX3_init_95 : decode cX3_init 95 = .ok (.invokestatic 35, 3) := by decide +kernel
theorem dX3_init_98 : decode cX3_init 98 = .ok (.istore_n 2, 1) := by decide +kernel
theorem dX3_init_99 : decode cX3_init 99 = .ok (.iinc 3 1, 3) := by decide +kernel
theorem dX3_init_102 : decode cX3_init 102 = .ok (.goto (-34), 3) := by decide +kernel
theorem dX3_init_105 : decode cX3_init 105 = .ok (.aload_n 0, 1) := by decide +kernel
theorem dX3_init_106 : decode cX3_init 106 = .ok (.getfield 7, 3) := by decide +kernel
theorem dX3_init_109 : decode cX3_init 109 = .ok (.iconst 0, 1) := by decide +kernel
theorem dX3_init_110 : decode cX3_init 110 = .ok (.iconst 0, 1) := by decide +kernel
theorem dX3_init_111 : decode cX3_init 111 = .ok (.invokestatic 31, 3) := by decide +kernel
theorem dX3_init_114 : decode cX3_init 114 = .ok (.iastore, 1) := by decide +kernel
theorem dX3_init_115 : decode cX3_init 115 = .ok (.iconst 0, 1) := by decide +kernel
theorem dX3_init_116 : decode cX3_init 116 = .ok (.istore_n 3, 1) := by decide +kernel
theorem dX3_init_117 : decode cX3_init 117 = .ok (.iload_n 3, 1) := by decide +kernel
theorem dX3_init_118 : decode cX3_init 118 = .ok (.sipush 256, 3) := by decide +kernel
theorem dX3_init_121 : decode cX3_init 121 = .ok (.if_icmp .ge 21, 3) := by decide +kernel
theorem dX3_init_124 : decode cX3_init 124 = .ok (.aload_n 0, 1) := by decide +kernel
theorem dX3_init_125 : decode cX3_init 125 = .ok (.getfield 13, 3) := by decide +kernel
theorem dX3_init_128 : decode cX3_init 128 = .ok (.aload_n 0, 1) := by decide +kernel
theorem dX3_init_129 : decode cX3_init 129 = .ok (.getfield 7, 3) := by decide +kernel
theorem dX3_init_132 : decode cX3_init 132 = .ok (.iload_n 3, 1) := by decide +kernel
theorem dX3_init_133 : decode cX3_init 133 = .ok (.iaload, 1) := by decide +kernel
theorem dX3_init_134 : decode cX3_init 134 = .ok (.iload_n 3, 1) := by decide +kernel
theorem dX3_init_135 : decode cX3_init 135 = .ok (.iastore, 1) := by decide +kernel
theorem dX3_init_136 : decode cX3_init 136 = .ok (.iinc 3 1, 3) := by decide +kernel
theorem dX3_init_139 : decode cX3_init 139 = .ok (.goto (-22), 3) := by decide +kernel
theorem dX3_init_142 : decode cX3_init 142 = .ok (.aload_n 0, 1) := by decide +kernel
theorem dX3_init_143 : decode cX3_init 143 = .ok (.lconst 0, 1) := by decide +kernel
theorem dX3_init_144 : decode cX3_init 144 = .ok (.lconst 0, 1) := by decide +kernel
theorem dX3_init_145 : decode cX3_init 145 = .ok (.invokevirtual 39, 3) := by decide +kernel
theorem dX3_init_148 : decode cX3_init 148 = .ok (.return_, 1) := by decide +kernel
theorem dX3_refuses_0 : decode cX3_refuses 0 = .ok (.aload_n 0, 1) := by decide +kernel
theorem dX3_refuses_1 : decode cX3_refuses 1 = .ok (.iload_n 1, 1) := by decide +kernel
theorem dX3_refuses_2 : decode cX3_refuses 2 = .ok (.ifCond .eq 7, 3) := by decide +kernel
theorem dX3_refuses_5 : decode cX3_refuses 5 = .ok (.iconst 1, 1) := by decide +kernel
theorem dX3_refuses_6 : decode cX3_refuses 6 = .ok (.goto 20, 3) := by decide +kernel
theorem dX3_refuses_9 : decode cX3_refuses 9 = .ok (.iload_n 2, 1) := by decide +kernel
theorem dX3_refuses_10 : decode cX3_refuses 10 = .ok (.ifCond .eq 7, 3) := by decide +kernel
theorem dX3_refuses_13 : decode cX3_refuses 13 = .ok (.iconst 2, 1) := by decide +kernel
theorem dX3_refuses_14 : decode cX3_refuses 14 = .ok (.goto 12, 3) := by decide +kernel
theorem dX3_refuses_17 : decode cX3_refuses 17 = .ok (.iload_n 3, 1) := by decide +kernel
theorem dX3_refuses_18 : decode cX3_refuses 18 = .ok (.ifCond .eq 7, 3) := by decide +kernel
theorem dX3_refuses_21 : decode cX3_refuses 21 = .ok (.iconst 3, 1) := by decide +kernel
theorem dX3_refuses_22 : decode cX3_refuses 22 = .ok (.goto 4, 3) := by decide +kernel
theorem dX3_refuses_25 : decode cX3_refuses 25 = .ok (.iconst 0, 1) := by decide +kernel
theorem dX3_refuses_26 : decode cX3_refuses 26 = .ok (.putfield 43, 3) := by decide +kernel
theorem dX3_refuses_29 : decode cX3_refuses 29 = .ok (.aload_n 0, 1) := by decide +kernel
theorem dX3_refuses_30 : decode cX3_refuses 30 = .ok (.getfield 43, 3) := by decide +kernel
theorem dX3_refuses_33 : decode cX3_refuses 33 = .ok (.ifCond .le 7, 3) := by decide +kernel
theorem dX3_refuses_36 : decode cX3_refuses 36 = .ok (.iconst 1, 1) := by decide +kernel
theorem dX3_refuses_37 : decode cX3_refuses 37 = .ok (.goto 4, 3) := by decide +kernel
theorem dX3_refuses_40 : decode cX3_refuses 40 = .ok (.iconst 0, 1) := by decide +kernel
theorem dX3_refuses_41 : decode cX3_refuses 41 = .ok (.ireturn, 1) := by decide +kernel
theorem dX3_thrown_0 : decode cX3_thrown 0 = .ok (.aload_n 0, 1) := by decide +kernel
theorem dX3_thrown_1 : decode cX3_thrown 1 = .ok (.getfield 43, 3) := by decide +kernel
theorem dX3_thrown_4 : decode cX3_thrown 4 = .ok (.ireturn, 1) := by decide +kernel
theorem dX3_times_0 : decode cX3_times 0 = .ok (.iconst 0, 1) := by decide +kernel
theorem dX3_times_1 : decode cX3_times 1 = .ok (.istore_n 2, 1) := by decide +kernel
theorem dX3_times_2 : decode cX3_times 2 = .ok (.iconst 0, 1) := by decide +kernel
theorem dX3_times_3 : decode cX3_times 3 = .ok (.istore_n 3, 1) := by decide +kernel
theorem dX3_times_4 : decode cX3_times 4 = .ok (.iload_n 3, 1) := by decide +kernel
theorem dX3_times_5 : decode cX3_times 5 = .ok (.bipush 8, 2) := by decide +kernel
theorem dX3_times_7 : decode cX3_times 7 = .ok (.if_icmp .ge 28, 3) := by decide +kernel
theorem dX3_times_10 : decode cX3_times 10 = .ok (.iload_n 1, 1) := by decide +kernel
theorem dX3_times_11 : decode cX3_times 11 = .ok (.iload_n 3, 1) := by decide +kernel
theorem dX3_times_12 : decode cX3_times 12 = .ok (.ishr, 1) := by decide +kernel
theorem dX3_times_13 : decode cX3_times 13 = .ok (.iconst 1, 1) := by decide +kernel
theorem dX3_times_14 : decode cX3_times 14 = .ok (.iand, 1) := by decide +kernel
theorem dX3_times_15 : decode cX3_times 15 = .ok (.iconst 1, 1) := by decide +kernel
theorem dX3_times_16 : decode cX3_times 16 = .ok (.if_icmp .ne 11, 3) := by decide +kernel
theorem dX3_times_19 : decode cX3_times 19 = .ok (.iload_n 2, 1) := by decide +kernel
theorem dX3_times_20 : decode cX3_times 20 = .ok (.iload_n 0, 1) := by decide +kernel
theorem dX3_times_21 : decode cX3_times 21 = .ok (.iload_n 3, 1) := by decide +kernel
theorem dX3_times_22 : decode cX3_times 22 = .ok (.ishl, 1) := by decide +kernel
theorem dX3_times_23 : decode cX3_times 23 = .ok (.ixor, 1) := by decide +kernel
theorem dX3_times_24 : decode cX3_times 24 = .ok (.goto 4, 3) := by decide +kernel
theorem dX3_times_27 : decode cX3_times 27 = .ok (.iload_n 2, 1) := by decide +kernel
theorem dX3_times_28 : decode cX3_times 28 = .ok (.istore_n 2, 1) := by decide +kernel
theorem dX3_times_29 : decode cX3_times 29 = .ok (.iinc 3 1, 3) := by decide +kernel
theorem dX3_times_32 : decode cX3_times 32 = .ok (.goto (-28), 3) := by decide +kernel
theorem dX3_times_35 : decode cX3_times 35 = .ok (.bipush 14, 2) := by decide +kernel
theorem dX3_times_37 : decode cX3_times 37 = .ok (.istore_n 3, 1) := by decide +kernel
theorem dX3_times_38 : decode cX3_times 38 = .ok (.iload_n 3, 1) := by decide +kernel
theorem dX3_times_39 : decode cX3_times 39 = .ok (.bipush 7, 2) := by decide +kernel
theorem dX3_times_41 : decode cX3_times 41 = .ok (.if_icmp .le 33, 3) := by decide +kernel
theorem dX3_times_44 : decode cX3_times 44 = .ok (.iload_n 2, 1) := by decide +kernel
theorem dX3_times_45 : decode cX3_times 45 = .ok (.iload_n 3, 1) := by decide +kernel
theorem dX3_times_46 : decode cX3_times 46 = .ok (.ishr, 1) := by decide +kernel
theorem dX3_times_47 : decode cX3_times 47 = .ok (.iconst 1, 1) := by decide +kernel
theorem dX3_times_48 : decode cX3_times 48 = .ok (.iand, 1) := by decide +kernel
theorem dX3_times_49 : decode cX3_times 49 = .ok (.iconst 1, 1) := by decide +kernel
theorem dX3_times_50 : decode cX3_times 50 = .ok (.if_icmp .ne 16, 3) := by decide +kernel
theorem dX3_times_53 : decode cX3_times 53 = .ok (.iload_n 2, 1) := by decide +kernel
theorem dX3_times_54 : decode cX3_times 54 = .ok (.sipush 283, 3) := by decide +kernel
theorem dX3_times_57 : decode cX3_times 57 = .ok (.iload_n 3, 1) := by decide +kernel
theorem dX3_times_58 : decode cX3_times 58 = .ok (.bipush 8, 2) := by decide +kernel
theorem dX3_times_60 : decode cX3_times 60 = .ok (.isub, 1) := by decide +kernel
theorem dX3_times_61 : decode cX3_times 61 = .ok (.ishl, 1) := by decide +kernel
theorem dX3_times_62 : decode cX3_times 62 = .ok (.ixor, 1) := by decide +kernel
theorem dX3_times_63 : decode cX3_times 63 = .ok (.goto 4, 3) := by decide +kernel
theorem dX3_times_66 : decode cX3_times 66 = .ok (.iload_n 2, 1) := by decide +kernel
theorem dX3_times_67 : decode cX3_times 67 = .ok (.istore_n 2, 1) := by decide +kernel
theorem dX3_times_68 : decode cX3_times 68 = .ok (.iinc 3 (-1), 3) := by decide +kernel
theorem dX3_times_71 : decode cX3_times 71 = .ok (.goto (-33), 3) := by decide +kernel
theorem dX3_times_74 : decode cX3_times 74 = .ok (.iload_n 2, 1) := by decide +kernel
theorem dX3_times_75 : decode cX3_times 75 = .ok (.ireturn, 1) := by decide +kernel
theorem dX3_affine_0 : decode cX3_affine 0 = .ok (.iconst 0, 1) := by decide +kernel
theorem dX3_affine_1 : decode cX3_affine 1 = .ok (.istore_n 1, 1) := by decide +kernel
theorem dX3_affine_2 : decode cX3_affine 2 = .ok (.iconst 0, 1) := by decide +kernel
theorem dX3_affine_3 : decode cX3_affine 3 = .ok (.istore_n 2, 1) := by decide +kernel
theorem dX3_affine_4 : decode cX3_affine 4 = .ok (.iload_n 2, 1) := by decide +kernel
theorem dX3_affine_5 : decode cX3_affine 5 = .ok (.bipush 8, 2) := by decide +kernel
theorem dX3_affine_7 : decode cX3_affine 7 = .ok (.if_icmp .ge 64, 3) := by decide +kernel
theorem dX3_affine_10 : decode cX3_affine 10 = .ok (.bipush 99, 2) := by decide +kernel
theorem dX3_affine_12 : decode cX3_affine 12 = .ok (.iload_n 2, 1) := by decide +kernel
theorem dX3_affine_13 : decode cX3_affine 13 = .ok (.ishr, 1) := by decide +kernel
theorem dX3_affine_14 : decode cX3_affine 14 = .ok (.iload_n 0, 1) := by decide +kernel
theorem dX3_affine_15 : decode cX3_affine 15 = .ok (.iload_n 2, 1) := by decide +kernel
theorem dX3_affine_16 : decode cX3_affine 16 = .ok (.ishr, 1) := by decide +kernel
theorem dX3_affine_17 : decode cX3_affine 17 = .ok (.ixor, 1) := by decide +kernel
theorem dX3_affine_18 : decode cX3_affine 18 = .ok (.iload_n 0, 1) := by decide +kernel
theorem dX3_affine_19 : decode cX3_affine 19 = .ok (.iload_n 2, 1) := by decide +kernel
theorem dX3_affine_20 : decode cX3_affine 20 = .ok (.iconst 4, 1) := by decide +kernel
theorem dX3_affine_21 : decode cX3_affine 21 = .ok (.iadd, 1) := by decide +kernel
theorem dX3_affine_22 : decode cX3_affine 22 = .ok (.bipush 8, 2) := by decide +kernel
theorem dX3_affine_24 : decode cX3_affine 24 = .ok (.irem, 1) := by decide +kernel
theorem dX3_affine_25 : decode cX3_affine 25 = .ok (.ishr, 1) := by decide +kernel
theorem dX3_affine_26 : decode cX3_affine 26 = .ok (.ixor, 1) := by decide +kernel
theorem dX3_affine_27 : decode cX3_affine 27 = .ok (.iload_n 0, 1) := by decide +kernel
theorem dX3_affine_28 : decode cX3_affine 28 = .ok (.iload_n 2, 1) := by decide +kernel
theorem dX3_affine_29 : decode cX3_affine 29 = .ok (.iconst 5, 1) := by decide +kernel
theorem dX3_affine_30 : decode cX3_affine 30 = .ok (.iadd, 1) := by decide +kernel
theorem dX3_affine_31 : decode cX3_affine 31 = .ok (.bipush 8, 2) := by decide +kernel
theorem dX3_affine_33 : decode cX3_affine 33 = .ok (.irem, 1) := by decide +kernel
theorem dX3_affine_34 : decode cX3_affine 34 = .ok (.ishr, 1) := by decide +kernel
theorem dX3_affine_35 : decode cX3_affine 35 = .ok (.ixor, 1) := by decide +kernel
theorem dX3_affine_36 : decode cX3_affine 36 = .ok (.iload_n 0, 1) := by decide +kernel
theorem dX3_affine_37 : decode cX3_affine 37 = .ok (.iload_n 2, 1) := by decide +kernel
theorem dX3_affine_38 : decode cX3_affine 38 = .ok (.bipush 6, 2) := by decide +kernel
theorem dX3_affine_40 : decode cX3_affine 40 = .ok (.iadd, 1) := by decide +kernel
theorem dX3_affine_41 : decode cX3_affine 41 = .ok (.bipush 8, 2) := by decide +kernel
theorem dX3_affine_43 : decode cX3_affine 43 = .ok (.irem, 1) := by decide +kernel
theorem dX3_affine_44 : decode cX3_affine 44 = .ok (.ishr, 1) := by decide +kernel
theorem dX3_affine_45 : decode cX3_affine 45 = .ok (.ixor, 1) := by decide +kernel
theorem dX3_affine_46 : decode cX3_affine 46 = .ok (.iload_n 0, 1) := by decide +kernel
theorem dX3_affine_47 : decode cX3_affine 47 = .ok (.iload_n 2, 1) := by decide +kernel
theorem dX3_affine_48 : decode cX3_affine 48 = .ok (.bipush 7, 2) := by decide +kernel
theorem dX3_affine_50 : decode cX3_affine 50 = .ok (.iadd, 1) := by decide +kernel
theorem dX3_affine_51 : decode cX3_affine 51 = .ok (.bipush 8, 2) := by decide +kernel
theorem dX3_affine_53 : decode cX3_affine 53 = .ok (.irem, 1) := by decide +kernel
theorem dX3_affine_54 : decode cX3_affine 54 = .ok (.ishr, 1) := by decide +kernel
theorem dX3_affine_55 : decode cX3_affine 55 = .ok (.ixor, 1) := by decide +kernel
theorem dX3_affine_56 : decode cX3_affine 56 = .ok (.istore_n 3, 1) := by decide +kernel
theorem dX3_affine_57 : decode cX3_affine 57 = .ok (.iload_n 1, 1) := by decide +kernel
theorem dX3_affine_58 : decode cX3_affine 58 = .ok (.iload_n 3, 1) := by decide +kernel
theorem dX3_affine_59 : decode cX3_affine 59 = .ok (.iconst 1, 1) := by decide +kernel
theorem dX3_affine_60 : decode cX3_affine 60 = .ok (.iand, 1) := by decide +kernel
theorem dX3_affine_61 : decode cX3_affine 61 = .ok (.iload_n 2, 1) := by decide +kernel
theorem dX3_affine_62 : decode cX3_affine 62 = .ok (.ishl, 1) := by decide +kernel
theorem dX3_affine_63 : decode cX3_affine 63 = .ok (.ior, 1) := by decide +kernel
theorem dX3_affine_64 : decode cX3_affine 64 = .ok (.istore_n 1, 1) := by decide +kernel
theorem dX3_affine_65 : decode cX3_affine 65 = .ok (.iinc 2 1, 3) := by decide +kernel
theorem dX3_affine_68 : decode cX3_affine 68 = .ok (.goto (-64), 3) := by decide +kernel
theorem dX3_affine_71 : decode cX3_affine 71 = .ok (.iload_n 1, 1) := by decide +kernel
theorem dX3_affine_72 : decode cX3_affine 72 = .ok (.ireturn, 1) := by decide +kernel
theorem dX3_byteOf_0 : decode cX3_byteOf 0 = .ok (.iload_n 0, 1) := by decide +kernel
theorem dX3_byteOf_1 : decode cX3_byteOf 1 = .ok (.bipush 24, 2) := by decide +kernel
theorem dX3_byteOf_3 : decode cX3_byteOf 3 = .ok (.bipush 8, 2) := by decide +kernel
theorem dX3_byteOf_5 : decode cX3_byteOf 5 = .ok (.iload_n 1, 1) := by decide +kernel
theorem dX3_byteOf_6 : decode cX3_byteOf 6 = .ok (.imul, 1) := by decide +kernel
theorem dX3_byteOf_7 : decode cX3_byteOf 7 = .ok (.isub, 1) := by decide +kernel
theorem dX3_byteOf_8 : decode cX3_byteOf 8 = .ok (.ishr, 1) := by decide +kernel
theorem dX3_byteOf_9 : decode cX3_byteOf 9 = .ok (.sipush 255, 3) := by decide +kernel
theorem dX3_byteOf_12 : decode cX3_byteOf 12 = .ok (.iand, 1) := by decide +kernel
theorem dX3_byteOf_13 : decode cX3_byteOf 13 = .ok (.ireturn, 1) := by decide +kernel
theorem dX3_changed_0 : decode cX3_changed 0 = .ok (.iconst 0, 1) := by decide +kernel
theorem dX3_changed_1 : decode cX3_changed 1 = .ok (.istore_n 2, 1) := by decide +kernel
theorem dX3_changed_2 : decode cX3_changed 2 = .ok (.iconst 0, 1) := by decide +kernel
theorem dX3_changed_3 : decode cX3_changed 3 = .ok (.istore_n 3, 1) := by decide +kernel
theorem dX3_changed_4 : decode cX3_changed 4 = .ok (.iload_n 3, 1) := by decide +kernel
theorem dX3_changed_5 : decode cX3_changed 5 = .ok (.iconst 4, 1) := by decide +kernel
theorem dX3_changed_6 : decode cX3_changed 6 = .ok (.if_icmp .ge 29, 3) := by decide +kernel
theorem dX3_changed_9 : decode cX3_changed 9 = .ok (.iload_n 2, 1) := by decide +kernel
theorem dX3_changed_10 : decode cX3_changed 10 = .ok (.bipush 8, 2) := by decide +kernel
theorem dX3_changed_12 : decode cX3_changed 12 = .ok (.ishl, 1) := by decide +kernel
theorem dX3_changed_13 : decode cX3_changed 13 = .ok (.aload_n 0, 1) := by decide +kernel
theorem dX3_changed_14 : decode cX3_changed 14 = .ok (.getfield 7, 3) := by decide +kernel
theorem dX3_changed_17 : decode cX3_changed 17 = .ok (.iload_n 1, 1) := by decide +kernel
theorem dX3_changed_18 : decode cX3_changed 18 = .ok (.iload_n 3, 1) := by decide +kernel
theorem dX3_changed_19 : decode cX3_changed 19 = .ok (.iconst 1, 1) := by decide +kernel
theorem dX3_changed_20 : decode cX3_changed 20 = .ok (.iadd, 1) := by decide +kernel
theorem dX3_changed_21 : decode cX3_changed 21 = .ok (.iconst 4, 1) := by decide +kernel
theorem dX3_changed_22 : decode cX3_changed 22 = .ok (.irem, 1) := by decide +kernel
theorem dX3_changed_23 : decode cX3_changed 23 = .ok (.invokestatic 47, 3) := by decide +kernel
theorem dX3_changed_26 : decode cX3_changed 26 = .ok (.iaload, 1) := by decide +kernel
theorem dX3_changed_27 : decode cX3_changed 27 = .ok (.ior, 1) := by decide +kernel
theorem dX3_changed_28 : decode cX3_changed 28 = .ok (.istore_n 2, 1) := by decide +kernel
theorem dX3_changed_29 : decode cX3_changed 29 = .ok (.iinc 3 1, 3) := by decide +kernel
theorem dX3_changed_32 : decode cX3_changed 32 = .ok (.goto (-28), 3) := by decide +kernel
theorem dX3_changed_35 : decode cX3_changed 35 = .ok (.iload_n 2, 1) := by decide +kernel
theorem dX3_changed_36 : decode cX3_changed 36 = .ok (.ireturn, 1) := by decide +kernel
theorem dX3_expand_0 : decode cX3_expand 0 = .ok (.aload_n 0, 1) := by decide +kernel
theorem dX3_expand_1 : decode cX3_expand 1 = .ok (.getfield 16, 3) := by decide +kernel
theorem dX3_expand_4 : decode cX3_expand 4 = .ok (.iconst 0, 1) := by decide +kernel
theorem dX3_expand_5 : decode cX3_expand 5 = .ok (.lload_n 1, 1) := by decide +kernel
theorem dX3_expand_6 : decode cX3_expand 6 = .ok (.bipush 32, 2) := by decide +kernel
theorem dX3_expand_8 : decode cX3_expand 8 = .ok (.lshr, 1) := by decide +kernel
theorem dX3_expand_9 : decode cX3_expand 9 = .ok (.l2i, 1) := by decide +kernel
theorem dX3_expand_10 : decode cX3_expand 10 = .ok (.iastore, 1) := by decide +kernel
theorem dX3_expand_11 : decode cX3_expand 11 = .ok (.aload_n 0, 1) := by decide +kernel
theorem dX3_expand_12 : decode cX3_expand 12 = .ok (.getfield 16, 3) := by decide +kernel
theorem dX3_expand_15 : decode cX3_expand 15 = .ok (.iconst 1, 1) := by decide +kernel
theorem dX3_expand_16 : decode cX3_expand 16 = .ok (.lload_n 1, 1) := by decide +kernel
theorem dX3_expand_17 : decode cX3_expand 17 = .ok (.l2i, 1) := by decide +kernel
theorem dX3_expand_18 : decode cX3_expand 18 = .ok (.iastore, 1) := by decide +kernel
theorem dX3_expand_19 : decode cX3_expand 19 = .ok (.aload_n 0, 1) := by decide +kernel
theorem dX3_expand_20 : decode cX3_expand 20 = .ok (.getfield 16, 3) := by decide +kernel
theorem dX3_expand_23 : decode cX3_expand 23 = .ok (.iconst 2, 1) := by decide +kernel
theorem dX3_expand_24 : decode cX3_expand 24 = .ok (.lload_n 3, 1) := by decide +kernel
theorem dX3_expand_25 : decode cX3_expand 25 = .ok (.bipush 32, 2) := by decide +kernel
theorem dX3_expand_27 : decode cX3_expand 27 = .ok (.lshr, 1) := by decide +kernel
theorem dX3_expand_28 : decode cX3_expand 28 = .ok (.l2i, 1) := by decide +kernel
theorem dX3_expand_29 : decode cX3_expand 29 = .ok (.iastore, 1) := by decide +kernel
theorem dX3_expand_30 : decode cX3_expand 30 = .ok (.aload_n 0, 1) := by decide +kernel
theorem dX3_expand_31 : decode cX3_expand 31 = .ok (.getfield 16, 3) := by decide +kernel
theorem dX3_expand_34 : decode cX3_expand 34 = .ok (.iconst 3, 1) := by decide +kernel
theorem dX3_expand_35 : decode cX3_expand 35 = .ok (.lload_n 3, 1) := by decide +kernel
theorem dX3_expand_36 : decode cX3_expand 36 = .ok (.l2i, 1) := by decide +kernel
theorem dX3_expand_37 : decode cX3_expand 37 = .ok (.iastore, 1) := by decide +kernel
theorem dX3_expand_38 : decode cX3_expand 38 = .ok (.iconst 1, 1) := by decide +kernel
theorem dX3_expand_39 : decode cX3_expand 39 = .ok (.istore 5, 2) := by decide +kernel
theorem dX3_expand_41 : decode cX3_expand 41 = .ok (.iconst 4, 1) := by decide +kernel
theorem dX3_expand_42 : decode cX3_expand 42 = .ok (.istore 6, 2) := by decide +kernel
theorem dX3_expand_44 : decode cX3_expand 44 = .ok (.iload 6, 2) := by decide +kernel
theorem dX3_expand_46 : decode cX3_expand 46 = .ok (.bipush 44, 2) := by decide +kernel
theorem dX3_expand_48 : decode cX3_expand 48 = .ok (.if_icmp .ge 68, 3) := by decide +kernel
theorem dX3_expand_51 : decode cX3_expand 51 = .ok (.aload_n 0, 1) := by decide +kernel
theorem dX3_expand_52 : decode cX3_expand 52 = .ok (.getfield 16, 3) := by decide +kernel
theorem dX3_expand_55 : decode cX3_expand 55 = .ok (.iload 6, 2) := by decide +kernel
theorem dX3_expand_57 : decode cX3_expand 57 = .ok (.iconst 1, 1) := by decide +kernel
theorem dX3_expand_58 : decode cX3_expand 58 = .ok (.isub, 1) := by decide +kernel
theorem dX3_expand_59 : decode cX3_expand 59 = .ok (.iaload, 1) := by decide +kernel
theorem dX3_expand_60 : decode cX3_expand 60 = .ok (.istore 7, 2) := by decide +kernel
theorem dX3_expand_62 : decode cX3_expand 62 = .ok (.iload 6, 2) := by decide +kernel
theorem dX3_expand_64 : decode cX3_expand 64 = .ok (.iconst 4, 1) := by decide +kernel
theorem dX3_expand_65 : decode cX3_expand 65 = .ok (.irem, 1) := by decide +kernel
theorem dX3_expand_66 : decode cX3_expand 66 = .ok (.ifCond .ne 25, 3) := by decide +kernel
theorem dX3_expand_69 : decode cX3_expand 69 = .ok (.aload_n 0, 1) := by decide +kernel
theorem dX3_expand_70 : decode cX3_expand 70 = .ok (.iload 7, 2) := by decide +kernel
theorem dX3_expand_72 : decode cX3_expand 72 = .ok (.invokevirtual 50, 3) := by decide +kernel
theorem dX3_expand_75 : decode cX3_expand 75 = .ok (.iload 5, 2) := by decide +kernel
theorem dX3_expand_77 : decode cX3_expand 77 = .ok (.bipush 24, 2) := by decide +kernel
theorem dX3_expand_79 : decode cX3_expand 79 = .ok (.ishl, 1) := by decide +kernel
theorem dX3_expand_80 : decode cX3_expand 80 = .ok (.ixor, 1) := by decide +kernel
theorem dX3_expand_81 : decode cX3_expand 81 = .ok (.istore 7, 2) := by decide +kernel
theorem dX3_expand_83 : decode cX3_expand 83 = .ok (.iconst 2, 1) := by decide +kernel
theorem dX3_expand_84 : decode cX3_expand 84 = .ok (.iload 5, 2) := by decide +kernel
theorem dX3_expand_86 : decode cX3_expand 86 = .ok (.invokestatic 35, 3) := by decide +kernel
theorem dX3_expand_89 : decode cX3_expand 89 = .ok (.istore 5, 2) := by decide +kernel
theorem dX3_expand_91 : decode cX3_expand 91 = .ok (.aload_n 0, 1) := by decide +kernel
theorem dX3_expand_92 : decode cX3_expand 92 = .ok (.getfield 16, 3) := by decide +kernel
theorem dX3_expand_95 : decode cX3_expand 95 = .ok (.iload 6, 2) := by decide +kernel
theorem dX3_expand_97 : decode cX3_expand 97 = .ok (.aload_n 0, 1) := by decide +kernel
theorem dX3_expand_98 : decode cX3_expand 98 = .ok (.getfield 16, 3) := by decide +kernel
theorem dX3_expand_101 : decode cX3_expand 101 = .ok (.iload 6, 2) := by decide +kernel
theorem dX3_expand_103 : decode cX3_expand 103 = .ok (.iconst 4, 1) := by decide +kernel
theorem dX3_expand_104 : decode cX3_expand 104 = .ok (.isub, 1) := by decide +kernel
theorem dX3_expand_105 : decode cX3_expand 105 = .ok (.iaload, 1) := by decide +kernel
theorem dX3_expand_106 : decode cX3_expand 106 = .ok (.iload 7, 2) := by decide +kernel
theorem dX3_expand_108 : decode cX3_expand 108 = .ok (.ixor, 1) := by decide +kernel
theorem dX3_expand_109 : decode cX3_expand 109 = .ok (.iastore, 1) := by decide +kernel
theorem dX3_expand_110 : decode cX3_expand 110 = .ok (.iinc 6 1, 3) := by decide +kernel
theorem dX3_expand_113 : decode cX3_expand 113 = .ok (.goto (-69), 3) := by decide +kernel
theorem dX3_expand_116 : decode cX3_expand 116 = .ok (.return_, 1) := by decide +kernel
theorem dX3_key_0 : decode cX3_key 0 = .ok (.aload_n 0, 1) := by decide +kernel
theorem dX3_key_1 : decode cX3_key 1 = .ok (.iconst 0, 1) := by decide +kernel
theorem dX3_key_2 : decode cX3_key 2 = .ok (.putfield 43, 3) := by decide +kernel
theorem dX3_key_5 : decode cX3_key 5 = .ok (.aload_n 0, 1) := by decide +kernel
theorem dX3_key_6 : decode cX3_key 6 = .ok (.lload_n 1, 1) := by decide +kernel
theorem dX3_key_7 : decode cX3_key 7 = .ok (.lload_n 3, 1) := by decide +kernel
theorem dX3_key_8 : decode cX3_key 8 = .ok (.invokevirtual 39, 3) := by decide +kernel
theorem dX3_key_11 : decode cX3_key 11 = .ok (.aload_n 0, 1) := by decide +kernel
theorem dX3_key_12 : decode cX3_key 12 = .ok (.iconst 0, 1) := by decide +kernel
theorem dX3_key_13 : decode cX3_key 13 = .ok (.putfield 53, 3) := by decide +kernel
theorem dX3_key_16 : decode cX3_key 16 = .ok (.aload_n 0, 1) := by decide +kernel
theorem dX3_key_17 : decode cX3_key 17 = .ok (.iconst 0, 1) := by decide +kernel
theorem dX3_key_18 : decode cX3_key 18 = .ok (.putfield 56, 3) := by decide +kernel
theorem dX3_key_21 : decode cX3_key 21 = .ok (.aload_n 0, 1) := by decide +kernel
theorem dX3_key_22 : decode cX3_key 22 = .ok (.iconst 0, 1) := by decide +kernel
theorem dX3_key_23 : decode cX3_key 23 = .ok (.putfield 59, 3) := by decide +kernel
theorem dX3_key_26 : decode cX3_key 26 = .ok (.return_, 1) := by decide +kernel
theorem dX3_word_0 : decode cX3_word 0 = .ok (.aload_n 0, 1) := by decide +kernel
theorem dX3_word_1 : decode cX3_word 1 = .ok (.iload_n 1, 1) := by decide +kernel
theorem dX3_word_2 : decode cX3_word 2 = .ok (.ifCond .lt 9, 3) := by decide +kernel
theorem dX3_word_5 : decode cX3_word 5 = .ok (.iload_n 1, 1) := by decide +kernel
theorem dX3_word_6 : decode cX3_word 6 = .ok (.bipush 43, 2) := by decide +kernel
theorem dX3_word_8 : decode cX3_word 8 = .ok (.if_icmp .le 7, 3) := by decide +kernel
theorem dX3_word_11 : decode cX3_word 11 = .ok (.iconst 1, 1) := by decide +kernel
theorem dX3_word_12 : decode cX3_word 12 = .ok (.goto 4, 3) := by decide +kernel
theorem dX3_word_15 : decode cX3_word 15 = .ok (.iconst 0, 1) := by decide +kernel
theorem dX3_word_16 : decode cX3_word 16 = .ok (.iconst 0, 1) := by decide +kernel
theorem dX3_word_17 : decode cX3_word 17 = .ok (.iconst 0, 1) := by decide +kernel
theorem dX3_word_18 : decode cX3_word 18 = .ok (.invokevirtual 62, 3) := by decide +kernel
theorem dX3_word_21 : decode cX3_word 21 = .ok (.ifCond .eq 7, 3) := by decide +kernel
theorem dX3_word_24 : decode cX3_word 24 = .ok (.iconst 0, 1) := by decide +kernel
theorem dX3_word_25 : decode cX3_word 25 = .ok (.goto 9, 3) := by decide +kernel
theorem dX3_word_28 : decode cX3_word 28 = .ok (.aload_n 0, 1) := by decide +kernel
theorem dX3_word_29 : decode cX3_word 29 = .ok (.getfield 16, 3) := by decide +kernel
theorem dX3_word_32 : decode cX3_word 32 = .ok (.iload_n 1, 1) := by decide +kernel
theorem dX3_word_33 : decode cX3_word 33 = .ok (.iaload, 1) := by decide +kernel
theorem dX3_word_34 : decode cX3_word 34 = .ok (.ireturn, 1) := by decide +kernel
theorem dX3_lay_0 : decode cX3_lay 0 = .ok (.iconst 0, 1) := by decide +kernel
theorem dX3_lay_1 : decode cX3_lay 1 = .ok (.istore 5, 2) := by decide +kernel
theorem dX3_lay_3 : decode cX3_lay 3 = .ok (.iload 5, 2) := by decide +kernel
theorem dX3_lay_5 : decode cX3_lay 5 = .ok (.bipush 8, 2) := by decide +kernel
theorem dX3_lay_7 : decode cX3_lay 7 = .ok (.if_icmp .ge 56, 3) := by decide +kernel
theorem dX3_lay_10 : decode cX3_lay 10 = .ok (.aload_n 0, 1) := by decide +kernel
theorem dX3_lay_11 : decode cX3_lay 11 = .ok (.getfield 19, 3) := by decide +kernel
theorem dX3_lay_14 : decode cX3_lay 14 = .ok (.iload 5, 2) := by decide +kernel
theorem dX3_lay_16 : decode cX3_lay 16 = .ok (.lload_n 1, 1) := by decide +kernel
theorem dX3_lay_17 : decode cX3_lay 17 = .ok (.bipush 56, 2) := by decide +kernel
theorem dX3_lay_19 : decode cX3_lay 19 = .ok (.bipush 8, 2) := by decide +kernel
theorem dX3_lay_21 : decode cX3_lay 21 = .ok (.iload 5, 2) := by decide +kernel
theorem dX3_lay_23 : decode cX3_lay 23 = .ok (.imul, 1) := by decide +kernel
theorem dX3_lay_24 : decode cX3_lay 24 = .ok (.isub, 1) := by decide +kernel
theorem dX3_lay_25 : decode cX3_lay 25 = .ok (.lshr, 1) := by decide +kernel
theorem dX3_lay_26 : decode cX3_lay 26 = .ok (.ldc2_w 66, 3) := by decide +kernel
theorem dX3_lay_29 : decode cX3_lay 29 = .ok (.land, 1) := by decide +kernel
theorem dX3_lay_30 : decode cX3_lay 30 = .ok (.l2i, 1) := by decide +kernel
theorem dX3_lay_31 : decode cX3_lay 31 = .ok (.iastore, 1) := by decide +kernel
theorem dX3_lay_32 : decode cX3_lay 32 = .ok (.aload_n 0, 1) := by decide +kernel
theorem dX3_lay_33 : decode cX3_lay 33 = .ok (.getfield 19, 3) := by decide +kernel
theorem dX3_lay_36 : decode cX3_lay 36 = .ok (.bipush 8, 2) := by decide +kernel
theorem dX3_lay_38 : decode cX3_lay 38 = .ok (.iload 5, 2) := by decide +kernel
theorem dX3_lay_40 : decode cX3_lay 40 = .ok (.iadd, 1) := by decide +kernel
theorem dX3_lay_41 : decode cX3_lay 41 = .ok (.lload_n 3, 1) := by decide +kernel
theorem dX3_lay_42 : decode cX3_lay 42 = .ok (.bipush 56, 2) := by decide +kernel
theorem dX3_lay_44 : decode cX3_lay 44 = .ok (.bipush 8, 2) := by decide +kernel
theorem dX3_lay_46 : decode cX3_lay 46 = .ok (.iload 5, 2) := by decide +kernel
theorem dX3_lay_48 : decode cX3_lay 48 = .ok (.imul, 1) := by decide +kernel
theorem dX3_lay_49 : decode cX3_lay 49 = .ok (.isub, 1) := by decide +kernel
theorem dX3_lay_50 : decode cX3_lay 50 = .ok (.lshr, 1) := by decide +kernel
theorem dX3_lay_51 : decode cX3_lay 51 = .ok (.ldc2_w 66, 3) := by decide +kernel
theorem dX3_lay_54 : decode cX3_lay 54 = .ok (.land, 1) := by decide +kernel
theorem dX3_lay_55 : decode cX3_lay 55 = .ok (.l2i, 1) := by decide +kernel
theorem dX3_lay_56 : decode cX3_lay 56 = .ok (.iastore, 1) := by decide +kernel
theorem dX3_lay_57 : decode cX3_lay 57 = .ok (.iinc 5 1, 3) := by decide +kernel
theorem dX3_lay_60 : decode cX3_lay 60 = .ok (.goto (-57), 3) := by decide +kernel
theorem dX3_lay_63 : decode cX3_lay 63 = .ok (.return_, 1) := by decide +kernel
theorem dX3_tell_0 : decode cX3_tell 0 = .ok (.aload_n 0, 1) := by decide +kernel
theorem dX3_tell_1 : decode cX3_tell 1 = .ok (.lconst 0, 1) := by decide +kernel
theorem dX3_tell_2 : decode cX3_tell 2 = .ok (.putfield 68, 3) := by decide +kernel
theorem dX3_tell_5 : decode cX3_tell 5 = .ok (.aload_n 0, 1) := by decide +kernel
theorem dX3_tell_6 : decode cX3_tell 6 = .ok (.lconst 0, 1) := by decide +kernel
theorem dX3_tell_7 : decode cX3_tell 7 = .ok (.putfield 72, 3) := by decide +kernel
theorem dX3_tell_10 : decode cX3_tell 10 = .ok (.iconst 0, 1) := by decide +kernel
theorem dX3_tell_11 : decode cX3_tell 11 = .ok (.istore_n 1, 1) := by decide +kernel
theorem dX3_tell_12 : decode cX3_tell 12 = .ok (.iload_n 1, 1) := by decide +kernel
theorem dX3_tell_13 : decode cX3_tell 13 = .ok (.bipush 8, 2) := by decide +kernel
theorem dX3_tell_15 : decode cX3_tell 15 = .ok (.if_icmp .ge 50, 3) := by decide +kernel
theorem dX3_tell_18 : decode cX3_tell 18 = .ok (.aload_n 0, 1) := by decide +kernel
theorem dX3_tell_19 : decode cX3_tell 19 = .ok (.aload_n 0, 1) := by decide +kernel
theorem dX3_tell_20 : decode cX3_tell 20 = .ok (.getfield 68, 3) := by decide +kernel
theorem dX3_tell_23 : decode cX3_tell 23 = .ok (.bipush 8, 2) := by decide +kernel
theorem dX3_tell_25 : decode cX3_tell 25 = .ok (.lshl, 1) := by decide +kernel
theorem dX3_tell_26 : decode cX3_tell 26 = .ok (.aload_n 0, 1) := by decide +kernel
theorem dX3_tell_27 : decode cX3_tell 27 = .ok (.getfield 19, 3) := by decide +kernel
theorem dX3_tell_30 : decode cX3_tell 30 = .ok (.iload_n 1, 1) := by decide +kernel
theorem dX3_tell_31 : decode cX3_tell 31 = .ok (.iaload, 1) := by decide +kernel
theorem dX3_tell_32 : decode cX3_tell 32 = .ok (.i2l, 1) := by decide +kernel
theorem dX3_tell_33 : decode cX3_tell 33 = .ok (.lor, 1) := by decide +kernel
theorem dX3_tell_34 : decode cX3_tell 34 = .ok (.putfield 68, 3) := by decide +kernel
theorem dX3_tell_37 : decode cX3_tell 37 = .ok (.aload_n 0, 1) := by decide +kernel
theorem dX3_tell_38 : decode cX3_tell 38 = .ok (.aload_n 0, 1) := by decide +kernel
theorem dX3_tell_39 : decode cX3_tell 39 = .ok (.getfield 72, 3) := by decide +kernel
theorem dX3_tell_42 : decode cX3_tell 42 = .ok (.bipush 8, 2) := by decide +kernel
theorem dX3_tell_44 : decode cX3_tell 44 = .ok (.lshl, 1) := by decide +kernel
theorem dX3_tell_45 : decode cX3_tell 45 = .ok (.aload_n 0, 1) := by decide +kernel
theorem dX3_tell_46 : decode cX3_tell 46 = .ok (.getfield 19, 3) := by decide +kernel
theorem dX3_tell_49 : decode cX3_tell 49 = .ok (.bipush 8, 2) := by decide +kernel
theorem dX3_tell_51 : decode cX3_tell 51 = .ok (.iload_n 1, 1) := by decide +kernel
theorem dX3_tell_52 : decode cX3_tell 52 = .ok (.iadd, 1) := by decide +kernel
theorem dX3_tell_53 : decode cX3_tell 53 = .ok (.iaload, 1) := by decide +kernel
theorem dX3_tell_54 : decode cX3_tell 54 = .ok (.i2l, 1) := by decide +kernel
theorem dX3_tell_55 : decode cX3_tell 55 = .ok (.lor, 1) := by decide +kernel
theorem dX3_tell_56 : decode cX3_tell 56 = .ok (.putfield 72, 3) := by decide +kernel
theorem dX3_tell_59 : decode cX3_tell 59 = .ok (.iinc 1 1, 3) := by decide +kernel
theorem dX3_tell_62 : decode cX3_tell 62 = .ok (.goto (-50), 3) := by decide +kernel
theorem dX3_tell_65 : decode cX3_tell 65 = .ok (.return_, 1) := by decide +kernel
theorem dX3_addWords_0 : decode cX3_addWords 0 = .ok (.iconst 0, 1) := by decide +kernel
theorem dX3_addWords_1 : decode cX3_addWords 1 = .ok (.istore_n 2, 1) := by decide +kernel
theorem dX3_addWords_2 : decode cX3_addWords 2 = .ok (.iload_n 2, 1) := by decide +kernel
theorem dX3_addWords_3 : decode cX3_addWords 3 = .ok (.bipush 16, 2) := by decide +kernel
theorem dX3_addWords_5 : decode cX3_addWords 5 = .ok (.if_icmp .ge 40, 3) := by decide +kernel
theorem dX3_addWords_8 : decode cX3_addWords 8 = .ok (.aload_n 0, 1) := by decide +kernel
theorem dX3_addWords_9 : decode cX3_addWords 9 = .ok (.getfield 19, 3) := by decide +kernel
theorem dX3_addWords_12 : decode cX3_addWords 12 = .ok (.iload_n 2, 1) := by decide +kernel
theorem dX3_addWords_13 : decode cX3_addWords 13 = .ok (.aload_n 0, 1) := by decide +kernel
theorem dX3_addWords_14 : decode cX3_addWords 14 = .ok (.getfield 19, 3) := by decide +kernel
theorem dX3_addWords_17 : decode cX3_addWords 17 = .ok (.iload_n 2, 1) := by decide +kernel
theorem dX3_addWords_18 : decode cX3_addWords 18 = .ok (.iaload, 1) := by decide +kernel
theorem dX3_addWords_19 : decode cX3_addWords 19 = .ok (.aload_n 0, 1) := by decide +kernel
theorem dX3_addWords_20 : decode cX3_addWords 20 = .ok (.getfield 16, 3) := by decide +kernel
theorem dX3_addWords_23 : decode cX3_addWords 23 = .ok (.iconst 4, 1) := by decide +kernel
theorem dX3_addWords_24 : decode cX3_addWords 24 = .ok (.iload_n 1, 1) := by decide +kernel
theorem dX3_addWords_25 : decode cX3_addWords 25 = .ok (.imul, 1) := by decide +kernel
theorem dX3_addWords_26 : decode cX3_addWords 26 = .ok (.iload_n 2, 1) := by decide +kernel
theorem dX3_addWords_27 : decode cX3_addWords 27 = .ok (.iconst 4, 1) := by decide +kernel
theorem dX3_addWords_28 : decode cX3_addWords 28 = .ok (.idiv, 1) := by decide +kernel
theorem dX3_addWords_29 : decode cX3_addWords 29 = .ok (.iadd, 1) := by decide +kernel
theorem dX3_addWords_30 : decode cX3_addWords 30 = .ok (.iaload, 1) := by decide +kernel
theorem dX3_addWords_31 : decode cX3_addWords 31 = .ok (.iload_n 2, 1) := by decide +kernel
theorem dX3_addWords_32 : decode cX3_addWords 32 = .ok (.iconst 4, 1) := by decide +kernel
theorem dX3_addWords_33 : decode cX3_addWords 33 = .ok (.irem, 1) := by decide +kernel
theorem dX3_addWords_34 : decode cX3_addWords 34 = .ok (.invokestatic 47, 3) := by decide +kernel
theorem dX3_addWords_37 : decode cX3_addWords 37 = .ok (.ixor, 1) := by decide +kernel
theorem dX3_addWords_38 : decode cX3_addWords 38 = .ok (.iastore, 1) := by decide +kernel
theorem dX3_addWords_39 : decode cX3_addWords 39 = .ok (.iinc 2 1, 3) := by decide +kernel
theorem dX3_addWords_42 : decode cX3_addWords 42 = .ok (.goto (-40), 3) := by decide +kernel
theorem dX3_addWords_45 : decode cX3_addWords 45 = .ok (.return_, 1) := by decide +kernel
theorem dX3_mix_0 : decode cX3_mix 0 = .ok (.iconst 0, 1) := by decide +kernel
theorem dX3_mix_1 : decode cX3_mix 1 = .ok (.istore 5, 2) := by decide +kernel
theorem dX3_mix_3 : decode cX3_mix 3 = .ok (.iload 5, 2) := by decide +kernel
theorem dX3_mix_5 : decode cX3_mix 5 = .ok (.bipush 16, 2) := by decide +kernel
theorem dX3_mix_7 : decode cX3_mix 7 = .ok (.if_icmp .ge 100, 3) := by decide +kernel
theorem dX3_mix_10 : decode cX3_mix 10 = .ok (.iload 5, 2) := by decide +kernel
theorem dX3_mix_12 : decode cX3_mix 12 = .ok (.iload 5, 2) := by decide +kernel
theorem dX3_mix_14 : decode cX3_mix 14 = .ok (.iconst 4, 1) := by decide +kernel
theorem dX3_mix_15 : decode cX3_mix 15 = .ok (.irem, 1) := by decide +kernel
theorem dX3_mix_16 : decode cX3_mix 16 = .ok (.isub, 1) := by decide +kernel
theorem dX3_mix_17 : decode cX3_mix 17 = .ok (.istore 6, 2) := by decide +kernel
theorem dX3_mix_19 : decode cX3_mix 19 = .ok (.iload 5, 2) := by decide +kernel
theorem dX3_mix_21 : decode cX3_mix 21 = .ok (.iconst 4, 1) := by decide +kernel
theorem dX3_mix_22 : decode cX3_mix 22 = .ok (.irem, 1) := by decide +kernel
theorem dX3_mix_23 : decode cX3_mix 23 = .ok (.istore 7, 2) := by decide +kernel
theorem dX3_mix_25 : decode cX3_mix 25 = .ok (.aload_n 0, 1) := by decide +kernel
theorem dX3_mix_26 : decode cX3_mix 26 = .ok (.getfield 22, 3) := by decide +kernel
theorem dX3_mix_29 : decode cX3_mix 29 = .ok (.iload 5, 2) := by decide +kernel
theorem dX3_mix_31 : decode cX3_mix 31 = .ok (.iload_n 1, 1) := by decide +kernel
theorem dX3_mix_32 : decode cX3_mix 32 = .ok (.aload_n 0, 1) := by decide +kernel
theorem dX3_mix_33 : decode cX3_mix 33 = .ok (.getfield 19, 3) := by decide +kernel
theorem dX3_mix_36 : decode cX3_mix 36 = .ok (.iload 5, 2) := by decide +kernel
theorem dX3_mix_38 : decode cX3_mix 38 = .ok (.iaload, 1) := by decide +kernel
theorem dX3_mix_39 : decode cX3_mix 39 = .ok (.invokestatic 35, 3) := by decide +kernel
theorem dX3_mix_42 : decode cX3_mix 42 = .ok (.iload_n 2, 1) := by decide +kernel
theorem dX3_mix_43 : decode cX3_mix 43 = .ok (.aload_n 0, 1) := by decide +kernel
theorem dX3_mix_44 : decode cX3_mix 44 = .ok (.getfield 19, 3) := by decide +kernel
theorem dX3_mix_47 : decode cX3_mix 47 = .ok (.iload 6, 2) := by decide +kernel
theorem dX3_mix_49 : decode cX3_mix 49 = .ok (.iload 7, 2) := by decide +kernel
theorem dX3_mix_51 : decode cX3_mix 51 = .ok (.iconst 1, 1) := by decide +kernel
theorem dX3_mix_52 : decode cX3_mix 52 = .ok (.iadd, 1) := by decide +kernel
theorem dX3_mix_53 : decode cX3_mix 53 = .ok (.iconst 4, 1) := by decide +kernel
theorem dX3_mix_54 : decode cX3_mix 54 = .ok (.irem, 1) := by decide +kernel
theorem dX3_mix_55 : decode cX3_mix 55 = .ok (.iadd, 1) := by decide +kernel
theorem dX3_mix_56 : decode cX3_mix 56 = .ok (.iaload, 1) := by decide +kernel
theorem dX3_mix_57 : decode cX3_mix 57 = .ok (.invokestatic 35, 3) := by decide +kernel
theorem dX3_mix_60 : decode cX3_mix 60 = .ok (.ixor, 1) := by decide +kernel
theorem dX3_mix_61 : decode cX3_mix 61 = .ok (.iload_n 3, 1) := by decide +kernel
theorem dX3_mix_62 : decode cX3_mix 62 = .ok (.aload_n 0, 1) := by decide +kernel
theorem dX3_mix_63 : decode cX3_mix 63 = .ok (.getfield 19, 3) := by decide +kernel
theorem dX3_mix_66 : decode cX3_mix 66 = .ok (.iload 6, 2) := by decide +kernel
theorem dX3_mix_68 : decode cX3_mix 68 = .ok (.iload 7, 2) := by decide +kernel
theorem dX3_mix_70 : decode cX3_mix 70 = .ok (.iconst 2, 1) := by decide +kernel
theorem dX3_mix_71 : decode cX3_mix 71 = .ok (.iadd, 1) := by decide +kernel
theorem dX3_mix_72 : decode cX3_mix 72 = .ok (.iconst 4, 1) := by decide +kernel
theorem dX3_mix_73 : decode cX3_mix 73 = .ok (.irem, 1) := by decide +kernel
theorem dX3_mix_74 : decode cX3_mix 74 = .ok (.iadd, 1) := by decide +kernel
theorem dX3_mix_75 : decode cX3_mix 75 = .ok (.iaload, 1) := by decide +kernel
theorem dX3_mix_76 : decode cX3_mix 76 = .ok (.invokestatic 35, 3) := by decide +kernel
theorem dX3_mix_79 : decode cX3_mix 79 = .ok (.ixor, 1) := by decide +kernel
theorem dX3_mix_80 : decode cX3_mix 80 = .ok (.iload 4, 2) := by decide +kernel
theorem dX3_mix_82 : decode cX3_mix 82 = .ok (.aload_n 0, 1) := by decide +kernel
theorem dX3_mix_83 : decode cX3_mix 83 = .ok (.getfield 19, 3) := by decide +kernel
theorem dX3_mix_86 : decode cX3_mix 86 = .ok (.iload 6, 2) := by decide +kernel
theorem dX3_mix_88 : decode cX3_mix 88 = .ok (.iload 7, 2) := by decide +kernel
theorem dX3_mix_90 : decode cX3_mix 90 = .ok (.iconst 3, 1) := by decide +kernel
theorem dX3_mix_91 : decode cX3_mix 91 = .ok (.iadd, 1) := by decide +kernel
theorem dX3_mix_92 : decode cX3_mix 92 = .ok (.iconst 4, 1) := by decide +kernel
theorem dX3_mix_93 : decode cX3_mix 93 = .ok (.irem, 1) := by decide +kernel
theorem dX3_mix_94 : decode cX3_mix 94 = .ok (.iadd, 1) := by decide +kernel
theorem dX3_mix_95 : decode cX3_mix 95 = .ok (.iaload, 1) := by decide +kernel
theorem dX3_mix_96 : decode cX3_mix 96 = .ok (.invokestatic 35, 3) := by decide +kernel
theorem dX3_mix_99 : decode cX3_mix 99 = .ok (.ixor, 1) := by decide +kernel
theorem dX3_mix_100 : decode cX3_mix 100 = .ok (.iastore, 1) := by decide +kernel
theorem dX3_mix_101 : decode cX3_mix 101 = .ok (.iinc 5 1, 3) := by decide +kernel
theorem dX3_mix_104 : decode cX3_mix 104 = .ok (.goto (-101), 3) := by decide +kernel
theorem dX3_mix_107 : decode cX3_mix 107 = .ok (.iconst 0, 1) := by decide +kernel
theorem dX3_mix_108 : decode cX3_mix 108 = .ok (.istore 5, 2) := by decide +kernel
theorem dX3_mix_110 : decode cX3_mix 110 = .ok (.iload 5, 2) := by decide +kernel
theorem dX3_mix_112 : decode cX3_mix 112 = .ok (.bipush 16, 2) := by decide +kernel
theorem dX3_mix_114 : decode cX3_mix 114 = .ok (.if_icmp .ge 23, 3) := by decide +kernel
theorem dX3_mix_117 : decode cX3_mix 117 = .ok (.aload_n 0, 1) := by decide +kernel
theorem dX3_mix_118 : decode cX3_mix 118 = .ok (.getfield 19, 3) := by decide +kernel
theorem dX3_mix_121 : decode cX3_mix 121 = .ok (.iload 5, 2) := by decide +kernel
theorem dX3_mix_123 : decode cX3_mix 123 = .ok (.aload_n 0, 1) := by decide +kernel
theorem dX3_mix_124 : decode cX3_mix 124 = .ok (.getfield 22, 3) := by decide +kernel
theorem dX3_mix_127 : decode cX3_mix 127 = .ok (.iload 5, 2) := by decide +kernel
theorem dX3_mix_129 : decode cX3_mix 129 = .ok (.iaload, 1) := by decide +kernel
theorem dX3_mix_130 : decode cX3_mix 130 = .ok (.iastore, 1) := by decide +kernel
theorem dX3_mix_131 : decode cX3_mix 131 = .ok (.iinc 5 1, 3) := by decide +kernel
theorem dX3_mix_134 : decode cX3_mix 134 = .ok (.goto (-24), 3) := by decide +kernel
theorem dX3_mix_137 : decode cX3_mix 137 = .ok (.return_, 1) := by decide +kernel
theorem dX3_encryptBlock_0 : decode cX3_encryptBlock 0 = .ok (.aload_n 0, 1) := by decide +kernel
theorem dX3_encryptBlock_1 : decode cX3_encryptBlock 1 = .ok (.iconst 0, 1) := by decide +kernel
theorem dX3_encryptBlock_2 : decode cX3_encryptBlock 2 = .ok (.invokevirtual 75, 3) := by decide +kernel
theorem dX3_encryptBlock_5 : decode cX3_encryptBlock 5 = .ok (.iconst 1, 1) := by decide +kernel
theorem dX3_encryptBlock_6 : decode cX3_encryptBlock 6 = .ok (.istore_n 1, 1) := by decide +kernel
theorem dX3_encryptBlock_7 : decode cX3_encryptBlock 7 = .ok (.iload_n 1, 1) := by decide +kernel
theorem dX3_encryptBlock_8 : decode cX3_encryptBlock 8 = .ok (.bipush 10, 2) := by decide +kernel
theorem dX3_encryptBlock_10 : decode cX3_encryptBlock 10 = .ok (.if_icmp .gt 99, 3) := by decide +kernel
theorem dX3_encryptBlock_13 : decode cX3_encryptBlock 13 = .ok (.iconst 0, 1) := by decide +kernel
theorem dX3_encryptBlock_14 : decode cX3_encryptBlock 14 = .ok (.istore_n 2, 1) := by decide +kernel
theorem dX3_encryptBlock_15 : decode cX3_encryptBlock 15 = .ok (.iload_n 2, 1) := by decide +kernel
theorem dX3_encryptBlock_16 : decode cX3_encryptBlock 16 = .ok (.bipush 16, 2) := by decide +kernel
theorem dX3_encryptBlock_18 : decode cX3_encryptBlock 18 = .ok (.if_icmp .ge 40, 3) := by decide +kernel
theorem dX3_encryptBlock_21 : decode cX3_encryptBlock 21 = .ok (.aload_n 0, 1) := by decide +kernel
theorem dX3_encryptBlock_22 : decode cX3_encryptBlock 22 = .ok (.getfield 22, 3) := by decide +kernel
theorem dX3_encryptBlock_25 : decode cX3_encryptBlock 25 = .ok (.iload_n 2, 1) := by decide +kernel
theorem dX3_encryptBlock_26 : decode cX3_encryptBlock 26 = .ok (.aload_n 0, 1) := by decide +kernel
theorem dX3_encryptBlock_27 : decode cX3_encryptBlock 27 = .ok (.getfield 7, 3) := by decide +kernel
theorem dX3_encryptBlock_30 : decode cX3_encryptBlock 30 = .ok (.aload_n 0, 1) := by decide +kernel
theorem dX3_encryptBlock_31 : decode cX3_encryptBlock 31 = .ok (.getfield 19, 3) := by decide +kernel
theorem dX3_encryptBlock_34 : decode cX3_encryptBlock 34 = .ok (.iconst 4, 1) := by decide +kernel
theorem dX3_encryptBlock_35 : decode cX3_encryptBlock 35 = .ok (.iload_n 2, 1) := by decide +kernel
theorem dX3_encryptBlock_36 : decode cX3_encryptBlock 36 = .ok (.iconst 4, 1) := by decide +kernel
theorem dX3_encryptBlock_37 : decode cX3_encryptBlock 37 = .ok (.idiv, 1) := by decide +kernel
theorem dX3_encryptBlock_38 : decode cX3_encryptBlock 38 = .ok (.iload_n 2, 1) := by decide +kernel
theorem dX3_encryptBlock_39 : decode cX3_encryptBlock 39 = .ok (.iconst 4, 1) := by decide +kernel
theorem dX3_encryptBlock_40 : decode cX3_encryptBlock 40 = .ok (.irem, 1) := by decide +kernel
theorem dX3_encryptBlock_41 : decode cX3_encryptBlock 41 = .ok (.iadd, 1) := by decide +kernel
theorem dX3_encryptBlock_42 : decode cX3_encryptBlock 42 = .ok (.iconst 4, 1) := by decide +kernel
theorem dX3_encryptBlock_43 : decode cX3_encryptBlock 43 = .ok (.irem, 1) := by decide +kernel
theorem dX3_encryptBlock_44 : decode cX3_encryptBlock 44 = .ok (.imul, 1) := by decide +kernel
theorem dX3_encryptBlock_45 : decode cX3_encryptBlock 45 = .ok (.iload_n 2, 1) := by decide +kernel
theorem dX3_encryptBlock_46 : decode cX3_encryptBlock 46 = .ok (.iconst 4, 1) := by decide +kernel
theorem dX3_encryptBlock_47 : decode cX3_encryptBlock 47 = .ok (.irem, 1) := by decide +kernel
theorem dX3_encryptBlock_48 : decode cX3_encryptBlock 48 = .ok (.iadd, 1) := by decide +kernel
theorem dX3_encryptBlock_49 : decode cX3_encryptBlock 49 = .ok (.iaload, 1) := by decide +kernel
theorem dX3_encryptBlock_50 : decode cX3_encryptBlock 50 = .ok (.iaload, 1) := by decide +kernel
theorem dX3_encryptBlock_51 : decode cX3_encryptBlock 51 = .ok (.iastore, 1) := by decide +kernel
theorem dX3_encryptBlock_52 : decode cX3_encryptBlock 52 = .ok (.iinc 2 1, 3) := by decide +kernel
theorem dX3_encryptBlock_55 : decode cX3_encryptBlock 55 = .ok (.goto (-40), 3) := by decide +kernel
theorem dX3_encryptBlock_58 : decode cX3_encryptBlock 58 = .ok (.iconst 0, 1) := by decide +kernel
theorem dX3_encryptBlock_59 : decode cX3_encryptBlock 59 = .ok (.istore_n 2, 1) := by decide +kernel
theorem dX3_encryptBlock_60 : decode cX3_encryptBlock 60 = .ok (.iload_n 2, 1) := by decide +kernel
theorem dX3_encryptBlock_61 : decode cX3_encryptBlock 61 = .ok (.bipush 16, 2) := by decide +kernel
theorem dX3_encryptBlock_63 : decode cX3_encryptBlock 63 = .ok (.if_icmp .ge 21, 3) := by decide +kernel
theorem dX3_encryptBlock_66 : decode cX3_encryptBlock 66 = .ok (.aload_n 0, 1) := by decide +kernel
theorem dX3_encryptBlock_67 : decode cX3_encryptBlock 67 = .ok (.getfield 19, 3) := by decide +kernel
theorem dX3_encryptBlock_70 : decode cX3_encryptBlock 70 = .ok (.iload_n 2, 1) := by decide +kernel
theorem dX3_encryptBlock_71 : decode cX3_encryptBlock 71 = .ok (.aload_n 0, 1) := by decide +kernel
theorem dX3_encryptBlock_72 : decode cX3_encryptBlock 72 = .ok (.getfield 22, 3) := by decide +kernel
theorem dX3_encryptBlock_75 : decode cX3_encryptBlock 75 = .ok (.iload_n 2, 1) := by decide +kernel
theorem dX3_encryptBlock_76 : decode cX3_encryptBlock 76 = .ok (.iaload, 1) := by decide +kernel
theorem dX3_encryptBlock_77 : decode cX3_encryptBlock 77 = .ok (.iastore, 1) := by decide +kernel
theorem dX3_encryptBlock_78 : decode cX3_encryptBlock 78 = .ok (.iinc 2 1, 3) := by decide +kernel
theorem dX3_encryptBlock_81 : decode cX3_encryptBlock 81 = .ok (.goto (-21), 3) := by decide +kernel
theorem dX3_encryptBlock_84 : decode cX3_encryptBlock 84 = .ok (.iload_n 1, 1) := by decide +kernel
theorem dX3_encryptBlock_85 : decode cX3_encryptBlock 85 = .ok (.bipush 10, 2) := by decide +kernel
theorem dX3_encryptBlock_87 : decode cX3_encryptBlock 87 = .ok (.if_icmp .ge 11, 3) := by decide +kernel
theorem dX3_encryptBlock_90 : decode cX3_encryptBlock 90 = .ok (.aload_n 0, 1) := by decide +kernel
theorem dX3_encryptBlock_91 : decode cX3_encryptBlock 91 = .ok (.iconst 2, 1) := by decide +kernel
theorem dX3_encryptBlock_92 : decode cX3_encryptBlock 92 = .ok (.iconst 3, 1) := by decide +kernel
theorem dX3_encryptBlock_93 : decode cX3_encryptBlock 93 = .ok (.iconst 1, 1) := by decide +kernel
theorem dX3_encryptBlock_94 : decode cX3_encryptBlock 94 = .ok (.iconst 1, 1) := by decide +kernel
theorem dX3_encryptBlock_95 : decode cX3_encryptBlock 95 = .ok (.invokevirtual 79, 3) := by decide +kernel
theorem dX3_encryptBlock_98 : decode cX3_encryptBlock 98 = .ok (.aload_n 0, 1) := by decide +kernel
theorem dX3_encryptBlock_99 : decode cX3_encryptBlock 99 = .ok (.iload_n 1, 1) := by decide +kernel
theorem dX3_encryptBlock_100 : decode cX3_encryptBlock 100 = .ok (.invokevirtual 75, 3) := by decide +kernel
theorem dX3_encryptBlock_103 : decode cX3_encryptBlock 103 = .ok (.iinc 1 1, 3) := by decide +kernel
theorem dX3_encryptBlock_106 : decode cX3_encryptBlock 106 = .ok (.goto (-99), 3) := by decide +kernel
theorem dX3_encryptBlock_109 : decode cX3_encryptBlock 109 = .ok (.return_, 1) := by decide +kernel
theorem dX3_decryptBlock_0 : decode cX3_decryptBlock 0 = .ok (.bipush 10, 2) := by decide +kernel
theorem dX3_decryptBlock_2 : decode cX3_decryptBlock 2 = .ok (.istore_n 1, 1) := by decide +kernel
theorem dX3_decryptBlock_3 : decode cX3_decryptBlock 3 = .ok (.iload_n 1, 1) := by decide +kernel
theorem dX3_decryptBlock_4 : decode cX3_decryptBlock 4 = .ok (.ifCond .le 103, 3) := by decide +kernel
theorem dX3_decryptBlock_7 : decode cX3_decryptBlock 7 = .ok (.aload_n 0, 1) := by decide +kernel
theorem dX3_decryptBlock_8 : decode cX3_decryptBlock 8 = .ok (.iload_n 1, 1) := by decide +kernel
theorem dX3_decryptBlock_9 : decode cX3_decryptBlock 9 = .ok (.invokevirtual 75, 3) := by decide +kernel
theorem dX3_decryptBlock_12 : decode cX3_decryptBlock 12 = .ok (.iload_n 1, 1) := by decide +kernel
theorem dX3_decryptBlock_13 : decode cX3_decryptBlock 13 = .ok (.bipush 10, 2) := by decide +kernel
theorem dX3_decryptBlock_15 : decode cX3_decryptBlock 15 = .ok (.if_icmp .ge 15, 3) := by decide +kernel
theorem dX3_decryptBlock_18 : decode cX3_decryptBlock 18 = .ok (.aload_n 0, 1) := by decide +kernel
theorem dX3_decryptBlock_19 : decode cX3_decryptBlock 19 = .ok (.bipush 14, 2) := by decide +kernel
theorem dX3_decryptBlock_21 : decode cX3_decryptBlock 21 = .ok (.bipush 11, 2) := by decide +kernel
theorem dX3_decryptBlock_23 : decode cX3_decryptBlock 23 = .ok (.bipush 13, 2) := by decide +kernel
theorem dX3_decryptBlock_25 : decode cX3_decryptBlock 25 = .ok (.bipush 9, 2) := by decide +kernel
theorem dX3_decryptBlock_27 : decode cX3_decryptBlock 27 = .ok (.invokevirtual 79, 3) := by decide +kernel
theorem dX3_decryptBlock_30 : decode cX3_decryptBlock 30 = .ok (.iconst 0, 1) := by decide +kernel
theorem dX3_decryptBlock_31 : decode cX3_decryptBlock 31 = .ok (.istore_n 2, 1) := by decide +kernel
theorem dX3_decryptBlock_32 : decode cX3_decryptBlock 32 = .ok (.iload_n 2, 1) := by decide +kernel
theorem dX3_decryptBlock_33 : decode cX3_decryptBlock 33 = .ok (.bipush 16, 2) := by decide +kernel
theorem dX3_decryptBlock_35 : decode cX3_decryptBlock 35 = .ok (.if_icmp .ge 40, 3) := by decide +kernel
theorem dX3_decryptBlock_38 : decode cX3_decryptBlock 38 = .ok (.aload_n 0, 1) := by decide +kernel
theorem dX3_decryptBlock_39 : decode cX3_decryptBlock 39 = .ok (.getfield 22, 3) := by decide +kernel
theorem dX3_decryptBlock_42 : decode cX3_decryptBlock 42 = .ok (.iconst 4, 1) := by decide +kernel
theorem dX3_decryptBlock_43 : decode cX3_decryptBlock 43 = .ok (.iload_n 2, 1) := by decide +kernel
theorem dX3_decryptBlock_44 : decode cX3_decryptBlock 44 = .ok (.iconst 4, 1) := by decide +kernel
theorem dX3_decryptBlock_45 : decode cX3_decryptBlock 45 = .ok (.idiv, 1) := by decide +kernel
theorem dX3_decryptBlock_46 : decode cX3_decryptBlock 46 = .ok (.iload_n 2, 1) := by decide +kernel
theorem dX3_decryptBlock_47 : decode cX3_decryptBlock 47 = .ok (.iconst 4, 1) := by decide +kernel
theorem dX3_decryptBlock_48 : decode cX3_decryptBlock 48 = .ok (.irem, 1) := by decide +kernel
theorem dX3_decryptBlock_49 : decode cX3_decryptBlock 49 = .ok (.iadd, 1) := by decide +kernel
theorem dX3_decryptBlock_50 : decode cX3_decryptBlock 50 = .ok (.iconst 4, 1) := by decide +kernel
theorem dX3_decryptBlock_51 : decode cX3_decryptBlock 51 = .ok (.irem, 1) := by decide +kernel
theorem dX3_decryptBlock_52 : decode cX3_decryptBlock 52 = .ok (.imul, 1) := by decide +kernel
theorem dX3_decryptBlock_53 : decode cX3_decryptBlock 53 = .ok (.iload_n 2, 1) := by decide +kernel
theorem dX3_decryptBlock_54 : decode cX3_decryptBlock 54 = .ok (.iconst 4, 1) := by decide +kernel
theorem dX3_decryptBlock_55 : decode cX3_decryptBlock 55 = .ok (.irem, 1) := by decide +kernel
theorem dX3_decryptBlock_56 : decode cX3_decryptBlock 56 = .ok (.iadd, 1) := by decide +kernel
theorem dX3_decryptBlock_57 : decode cX3_decryptBlock 57 = .ok (.aload_n 0, 1) := by decide +kernel
theorem dX3_decryptBlock_58 : decode cX3_decryptBlock 58 = .ok (.getfield 13, 3) := by decide +kernel
theorem dX3_decryptBlock_61 : decode cX3_decryptBlock 61 = .ok (.aload_n 0, 1) := by decide +kernel
theorem dX3_decryptBlock_62 : decode cX3_decryptBlock 62 = .ok (.getfield 19, 3) := by decide +kernel
theorem dX3_decryptBlock_65 : decode cX3_decryptBlock 65 = .ok (.iload_n 2, 1) := by decide +kernel
theorem dX3_decryptBlock_66 : decode cX3_decryptBlock 66 = .ok (.iaload, 1) := by decide +kernel
theorem dX3_decryptBlock_67 : decode cX3_decryptBlock 67 = .ok (.iaload, 1) := by decide +kernel
theorem dX3_decryptBlock_68 : decode cX3_decryptBlock 68 = .ok (.iastore, 1) := by decide +kernel
theorem dX3_decryptBlock_69 : decode cX3_decryptBlock 69 = .ok (.iinc 2 1, 3) := by decide +kernel
theorem dX3_decryptBlock_72 : decode cX3_decryptBlock 72 = .ok (.goto (-40), 3) := by decide +kernel
theorem dX3_decryptBlock_75 : decode cX3_decryptBlock 75 = .ok (.iconst 0, 1) := by decide +kernel
theorem dX3_decryptBlock_76 : decode cX3_decryptBlock 76 = .ok (.istore_n 2, 1) := by decide +kernel
theorem dX3_decryptBlock_77 : decode cX3_decryptBlock 77 = .ok (.iload_n 2, 1) := by decide +kernel
theorem dX3_decryptBlock_78 : decode cX3_decryptBlock 78 = .ok (.bipush 16, 2) := by decide +kernel
theorem dX3_decryptBlock_80 : decode cX3_decryptBlock 80 = .ok (.if_icmp .ge 21, 3) := by decide +kernel
theorem dX3_decryptBlock_83 : decode cX3_decryptBlock 83 = .ok (.aload_n 0, 1) := by decide +kernel
theorem dX3_decryptBlock_84 : decode cX3_decryptBlock 84 = .ok (.getfield 19, 3) := by decide +kernel
theorem dX3_decryptBlock_87 : decode cX3_decryptBlock 87 = .ok (.iload_n 2, 1) := by decide +kernel
theorem dX3_decryptBlock_88 : decode cX3_decryptBlock 88 = .ok (.aload_n 0, 1) := by decide +kernel
theorem dX3_decryptBlock_89 : decode cX3_decryptBlock 89 = .ok (.getfield 22, 3) := by decide +kernel
theorem dX3_decryptBlock_92 : decode cX3_decryptBlock 92 = .ok (.iload_n 2, 1) := by decide +kernel
theorem dX3_decryptBlock_93 : decode cX3_decryptBlock 93 = .ok (.iaload, 1) := by decide +kernel
theorem dX3_decryptBlock_94 : decode cX3_decryptBlock 94 = .ok (.iastore, 1) := by decide +kernel
theorem dX3_decryptBlock_95 : decode cX3_decryptBlock 95 = .ok (.iinc 2 1, 3) := by decide +kernel
theorem dX3_decryptBlock_98 : decode cX3_decryptBlock 98 = .ok (.goto (-21), 3) := by decide +kernel
theorem dX3_decryptBlock_101 : decode cX3_decryptBlock 101 = .ok (.iinc 1 (-1), 3) := by decide +kernel
theorem dX3_decryptBlock_104 : decode cX3_decryptBlock 104 = .ok (.goto (-101), 3) := by decide +kernel
theorem dX3_decryptBlock_107 : decode cX3_decryptBlock 107 = .ok (.aload_n 0, 1) := by decide +kernel
theorem dX3_decryptBlock_108 : decode cX3_decryptBlock 108 = .ok (.iconst 0, 1) := by decide +kernel
theorem dX3_decryptBlock_109 : decode cX3_decryptBlock 109 = .ok (.invokevirtual 75, 3) := by decide +kernel
theorem dX3_decryptBlock_112 : decode cX3_decryptBlock 112 = .ok (.return_, 1) := by decide +kernel
theorem dX3_encrypt_0 : decode cX3_encrypt 0 = .ok (.aload_n 0, 1) := by decide +kernel
theorem dX3_encrypt_1 : decode cX3_encrypt 1 = .ok (.iconst 0, 1) := by decide +kernel
theorem dX3_encrypt_2 : decode cX3_encrypt 2 = .ok (.putfield 43, 3) := by decide +kernel
theorem dX3_encrypt_5 : decode cX3_encrypt 5 = .ok (.aload_n 0, 1) := by decide +kernel
theorem dX3_encrypt_6 : decode cX3_encrypt 6 = .ok (.lload_n 1, 1) := by decide +kernel
theorem dX3_encrypt_7 : decode cX3_encrypt 7 = .ok (.lload_n 3, 1) := by decide +kernel
theorem dX3_encrypt_8 : decode cX3_encrypt 8 = .ok (.invokevirtual 83, 3) := by decide +kernel
theorem dX3_encrypt_11 : decode cX3_encrypt 11 = .ok (.aload_n 0, 1) := by decide +kernel
theorem dX3_encrypt_12 : decode cX3_encrypt 12 = .ok (.invokevirtual 86, 3) := by decide +kernel
