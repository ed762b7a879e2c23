theorem dX2_joinBytes_0 : decode cX2_joinBytes 0 = .ok (.lconst 0, 1) := by decide +kernel
theorem dX2_joinBytes_1 : decode cX2_joinBytes 1 = .ok (.lstore_n 3, 1) := by decide +kernel
theorem dX2_joinBytes_2 : decode cX2_joinBytes 2 = .ok (.iload_n 1, 1) := by decide +kernel
theorem dX2_joinBytes_3 : decode cX2_joinBytes 3 = .ok (.istore 5, 2) := by decide +kernel
theorem dX2_joinBytes_5 : decode cX2_joinBytes 5 = .ok (.iload 5, 2) := by decide +kernel
theorem dX2_joinBytes_7 : decode cX2_joinBytes 7 = .ok (.iload_n 1, 1) := by decide +kernel
theorem dX2_joinBytes_8 : decode cX2_joinBytes 8 = .ok (.bipush 8, 2) := by decide +kernel
theorem dX2_joinBytes_10 : decode cX2_joinBytes 10 = .ok (.iadd, 1) := by decide +kernel
theorem dX2_joinBytes_11 : decode cX2_joinBytes 11 = .ok (.if_icmp .ge 30, 3) := by decide +kernel
theorem dX2_joinBytes_14 : decode cX2_joinBytes 14 = .ok (.lload_n 3, 1) := by decide +kernel
theorem dX2_joinBytes_15 : decode cX2_joinBytes 15 = .ok (.bipush 8, 2) := by decide +kernel
theorem dX2_joinBytes_17 : decode cX2_joinBytes 17 = .ok (.lshl, 1) := by decide +kernel
theorem dX2_joinBytes_18 : decode cX2_joinBytes 18 = .ok (.iload 5, 2) := by decide +kernel
theorem dX2_joinBytes_20 : decode cX2_joinBytes 20 = .ok (.iload_n 2, 1) := by decide +kernel
theorem dX2_joinBytes_21 : decode cX2_joinBytes 21 = .ok (.if_icmp .ge 10, 3) := by decide +kernel
theorem dX2_joinBytes_24 : decode cX2_joinBytes 24 = .ok (.aload_n 0, 1) := by decide +kernel
theorem dX2_joinBytes_25 : decode cX2_joinBytes 25 = .ok (.iload 5, 2) := by decide +kernel
theorem dX2_joinBytes_27 : decode cX2_joinBytes 27 = .ok (.iaload, 1) := by decide +kernel
theorem dX2_joinBytes_28 : decode cX2_joinBytes 28 = .ok (.goto 4, 3) := by decide +kernel
theorem dX2_joinBytes_31 : decode cX2_joinBytes 31 = .ok (.iconst 0, 1) := by decide +kernel
theorem dX2_joinBytes_32 : decode cX2_joinBytes 32 = .ok (.i2l, 1) := by decide +kernel
theorem dX2_joinBytes_33 : decode cX2_joinBytes 33 = .ok (.lor, 1) := by decide +kernel
theorem dX2_joinBytes_34 : decode cX2_joinBytes 34 = .ok (.lstore_n 3, 1) := by decide +kernel
theorem dX2_joinBytes_35 : decode cX2_joinBytes 35 = .ok (.iinc 5 1, 3) := by decide +kernel
theorem dX2_joinBytes_38 : decode cX2_joinBytes 38 = .ok (.goto (-33), 3) := by decide +kernel
theorem dX2_joinBytes_41 : decode cX2_joinBytes 41 = .ok (.lload_n 3, 1) := by decide +kernel
theorem dX2_joinBytes_42 : decode cX2_joinBytes 42 = .ok (.lreturn, 1) := by decide +kernel
theorem dX0_init_0 : decode cX0_init 0 = .ok (.aload_n 0, 1) := by decide +kernel
theorem dX0_init_1 : decode cX0_init 1 = .ok (.invokespecial 3, 3) := by decide +kernel
theorem dX0_init_4 : decode cX0_init 4 = .ok (.aload_n 0, 1) := by decide +kernel
theorem dX0_init_5 : decode cX0_init 5 = .ok (.sipush 256, 3) := by decide +kernel
theorem dX0_init_8 : decode cX0_init 8 = .ok (.newarray .int, 2) := by decide +kernel
theorem dX0_init_10 : decode cX0_init 10 = .ok (.putfield 9, 3) := by decide +kernel
theorem dX0_init_13 : decode cX0_init 13 = .ok (.aload_n 0, 1) := by decide +kernel
theorem dX0_init_14 : decode cX0_init 14 = .ok (.sipush 256, 3) := by decide +kernel
theorem dX0_init_17 : decode cX0_init 17 = .ok (.newarray .int, 2) := by decide +kernel
theorem dX0_init_19 : decode cX0_init 19 = .ok (.putfield 15, 3) := by decide +kernel
theorem dX0_init_22 : decode cX0_init 22 = .ok (.aload_n 0, 1) := by decide +kernel
theorem dX0_init_23 : decode cX0_init 23 = .ok (.bipush 44, 2) := by decide +kernel
theorem dX0_init_25 : decode cX0_init 25 = .ok (.newarray .int, 2) := by decide +kernel
theorem dX0_init_27 : decode cX0_init 27 = .ok (.putfield 18, 3) := by decide +kernel
theorem dX0_init_30 : decode cX0_init 30 = .ok (.aload_n 0, 1) := by decide +kernel
theorem dX0_init_31 : decode cX0_init 31 = .ok (.bipush 16, 2) := by decide +kernel
theorem dX0_init_33 : decode cX0_init 33 = .ok (.newarray .int, 2) := by decide +kernel
theorem dX0_init_35 : decode cX0_init 35 = .ok (.putfield 21, 3) := by decide +kernel
theorem dX0_init_38 : decode cX0_init 38 = .ok (.aload_n 0, 1) := by decide +kernel
theorem dX0_init_39 : decode cX0_init 39 = .ok (.bipush 16, 2) := by decide +kernel
theorem dX0_init_41 : decode cX0_init 41 = .ok (.newarray .int, 2) := by decide +kernel
theorem dX0_init_43 : decode cX0_init 43 = .ok (.putfield 24, 3) := by decide +kernel
theorem dX0_init_46 : decode cX0_init 46 = .ok (.aload_n 0, 1) := by decide +kernel
theorem dX0_init_47 : decode cX0_init 47 = .ok (.invokevirtual 27, 3) := by decide +kernel
theorem dX0_init_50 : decode cX0_init 50 = .ok (.aload_n 0, 1) := by decide +kernel
theorem dX0_init_51 : decode cX0_init 51 = .ok (.lconst 0, 1) := by decide +kernel
theorem dX0_init_52 : decode cX0_init 52 = .ok (.lconst 0, 1) := by decide +kernel
theorem dX0_init_53 : decode cX0_init 53 = .ok (.invokevirtual 30, 3) := by decide +kernel
theorem dX0_init_56 : decode cX0_init 56 = .ok (.return_, 1) := by decide +kernel
theorem dX0_fillSubst_0 : decode cX0_fillSubst 0 = .ok (.sipush 255, 3) := by decide +kernel
theorem dX0_fillSubst_3 : decode cX0_fillSubst 3 = .ok (.newarray .int, 2) := by decide +kernel
theorem dX0_fillSubst_5 : decode cX0_fillSubst 5 = .ok (.astore_n 1, 1) := by decide +kernel
theorem dX0_fillSubst_6 : decode cX0_fillSubst 6 = .ok (.iconst 1, 1) := by decide +kernel
theorem dX0_fillSubst_7 : decode cX0_fillSubst 7 = .ok (.istore_n 2, 1) := by decide +kernel
theorem dX0_fillSubst_8 : decode cX0_fillSubst 8 = .ok (.iconst 0, 1) := by decide +kernel
theorem dX0_fillSubst_9 : decode cX0_fillSubst 9 = .ok (.istore_n 3, 1) := by decide +kernel
theorem dX0_fillSubst_10 : decode cX0_fillSubst 10 = .ok (.iload_n 3, 1) := by decide +kernel
theorem dX0_fillSubst_11 : decode cX0_fillSubst 11 = .ok (.sipush 255, 3) := by decide +kernel
theorem dX0_fillSubst_14 : decode cX0_fillSubst 14 = .ok (.if_icmp .ge 20, 3) := by decide +kernel
theorem dX0_fillSubst_17 : decode cX0_fillSubst 17 = .ok (.aload_n 1, 1) := by decide +kernel
theorem dX0_fillSubst_18 : decode cX0_fillSubst 18 = .ok (.iload_n 3, 1) := by decide +kernel
theorem dX0_fillSubst_19 : decode cX0_fillSubst 19 = .ok (.iload_n 2, 1) := by decide +kernel
theorem dX0_fillSubst_20 : decode cX0_fillSubst 20 = .ok (.iastore, 1) := by decide +kernel
theorem dX0_fillSubst_21 : decode cX0_fillSubst 21 = .ok (.iload_n 2, 1) := by decide +kernel
theorem dX0_fillSubst_22 : decode cX0_fillSubst 22 = .ok (.iload_n 2, 1) := by decide +kernel
theorem dX0_fillSubst_23 : decode cX0_fillSubst 23 = .ok (.invokestatic 34, 3) := by decide +kernel
theorem dX0_fillSubst_26 : decode cX0_fillSubst 26 = .ok (.ixor, 1) := by decide +kernel
theorem dX0_fillSubst_27 : decode cX0_fillSubst 27 = .ok (.istore_n 2, 1) := by decide +kernel
theorem dX0_fillSubst_28 : decode cX0_fillSubst 28 = .ok (.iinc 3 1, 3) := by decide +kernel
theorem dX0_fillSubst_31 : decode cX0_fillSubst 31 = .ok (.goto (-21), 3) := by decide +kernel
theorem dX0_fillSubst_34 : decode cX0_fillSubst 34 = .ok (.aload_n 0, 1) := by decide +kernel
theorem dX0_fillSubst_35 : decode cX0_fillSubst 35 = .ok (.iconst 0, 1) := by decide +kernel
theorem dX0_fillSubst_36 : decode cX0_fillSubst 36 = .ok (.iconst 0, 1) := by decide +kernel
theorem dX0_fillSubst_37 : decode cX0_fillSubst 37 = .ok (.invokevirtual 38, 3) := by decide +kernel
theorem dX0_fillSubst_40 : decode cX0_fillSubst 40 = .ok (.iconst 0, 1) := by decide +kernel
theorem dX0_fillSubst_41 : decode cX0_fillSubst 41 = .ok (.istore_n 3, 1) := by decide +kernel
theorem dX0_fillSubst_42 : decode cX0_fillSubst 42 = .ok (.iload_n 3, 1) := by decide +kernel
theorem dX0_fillSubst_43 : decode cX0_fillSubst 43 = .ok (.sipush 255, 3) := by decide +kernel
theorem dX0_fillSubst_46 : decode cX0_fillSubst 46 = .ok (.if_icmp .ge 27, 3) := by decide +kernel
theorem dX0_fillSubst_49 : decode cX0_fillSubst 49 = .ok (.aload_n 0, 1) := by decide +kernel
theorem dX0_fillSubst_50 : decode cX0_fillSubst 50 = .ok (.aload_n 1, 1) := by decide +kernel
theorem dX0_fillSubst_51 : decode cX0_fillSubst 51 = .ok (.iload_n 3, 1) := by decide +kernel
theorem dX0_fillSubst_52 : decode cX0_fillSubst 52 = .ok (.iaload, 1) := by decide +kernel
theorem dX0_fillSubst_53 : decode cX0_fillSubst 53 = .ok (.aload_n 1, 1) := by decide +kernel
theorem dX0_fillSubst_54 : decode cX0_fillSubst 54 = .ok (.sipush 255, 3) := by decide +kernel
theorem dX0_fillSubst_57 : decode cX0_fillSubst 57 = .ok (.iload_n 3, 1) := by decide +kernel
theorem dX0_fillSubst_58 : decode cX0_fillSubst 58 = .ok (.isub, 1) := by decide +kernel
theorem dX0_fillSubst_59 : decode cX0_fillSubst 59 = .ok (.sipush 255, 3) := by decide +kernel
theorem dX0_fillSubst_62 : decode cX0_fillSubst 62 = .ok (.irem, 1) := by decide +kernel
theorem dX0_fillSubst_63 : decode cX0_fillSubst 63 = .ok (.iaload, 1) := by decide +kernel
theorem dX0_fillSubst_64 : decode cX0_fillSubst 64 = .ok (.invokevirtual 38, 3) := by decide +kernel
theorem dX0_fillSubst_67 : decode cX0_fillSubst 67 = .ok (.iinc 3 1, 3) := by decide +kernel
theorem dX0_fillSubst_70 : decode cX0_fillSubst 70 = .ok (.goto (-28), 3) := by decide +kernel
theorem dX0_fillSubst_73 : decode cX0_fillSubst 73 = .ok (.return_, 1) := by decide +kernel
theorem dX0_enterSubst_0 : decode cX0_enterSubst 0 = .ok (.iload_n 2, 1) := by decide +kernel
theorem dX0_enterSubst_1 : decode cX0_enterSubst 1 = .ok (.iload_n 2, 1) := by decide +kernel
theorem dX0_enterSubst_2 : decode cX0_enterSubst 2 = .ok (.bipush 8, 2) := by decide +kernel
theorem dX0_enterSubst_4 : decode cX0_enterSubst 4 = .ok (.ishl, 1) := by decide +kernel
theorem dX0_enterSubst_5 : decode cX0_enterSubst 5 = .ok (.ior, 1) := by decide +kernel
theorem dX0_enterSubst_6 : decode cX0_enterSubst 6 = .ok (.istore_n 3, 1) := by decide +kernel
theorem dX0_enterSubst_7 : decode cX0_enterSubst 7 = .ok (.iload_n 3, 1) := by decide +kernel
theorem dX0_enterSubst_8 : decode cX0_enterSubst 8 = .ok (.iload_n 3, 1) := by decide +kernel
theorem dX0_enterSubst_9 : decode cX0_enterSubst 9 = .ok (.iconst 4, 1) := by decide +kernel
theorem dX0_enterSubst_10 : decode cX0_enterSubst 10 = .ok (.iushr, 1) := by decide +kernel
theorem dX0_enterSubst_11 : decode cX0_enterSubst 11 = .ok (.ixor, 1) := by decide +kernel
theorem dX0_enterSubst_12 : decode cX0_enterSubst 12 = .ok (.iload_n 3, 1) := by decide +kernel
theorem dX0_enterSubst_13 : decode cX0_enterSubst 13 = .ok (.iconst 5, 1) := by decide +kernel
theorem dX0_enterSubst_14 : decode cX0_enterSubst 14 = .ok (.iushr, 1) := by decide +kernel
theorem dX0_enterSubst_15 : decode cX0_enterSubst 15 = .ok (.ixor, 1) := by decide +kernel
theorem dX0_enterSubst_16 : decode cX0_enterSubst 16 = .ok (.iload_n 3, 1) := by decide +kernel
theorem dX0_enterSubst_17 : decode cX0_enterSubst 17 = .ok (.bipush 6, 2) := by decide +kernel
theorem dX0_enterSubst_19 : decode cX0_enterSubst 19 = .ok (.iushr, 1) := by decide +kernel
theorem dX0_enterSubst_20 : decode cX0_enterSubst 20 = .ok (.ixor, 1) := by decide +kernel
theorem dX0_enterSubst_21 : decode cX0_enterSubst 21 = .ok (.iload_n 3, 1) := by decide +kernel
theorem dX0_enterSubst_22 : decode cX0_enterSubst 22 = .ok (.bipush 7, 2) := by decide +kernel
theorem dX0_enterSubst_24 : decode cX0_enterSubst 24 = .ok (.iushr, 1) := by decide +kernel
theorem dX0_enterSubst_25 : decode cX0_enterSubst 25 = .ok (.ixor, 1) := by decide +kernel
theorem dX0_enterSubst_26 : decode cX0_enterSubst 26 = .ok (.bipush 99, 2) := by decide +kernel
theorem dX0_enterSubst_28 : decode cX0_enterSubst 28 = .ok (.ixor, 1) := by decide +kernel
theorem dX0_enterSubst_29 : decode cX0_enterSubst 29 = .ok (.sipush 255, 3) := by decide +kernel
theorem dX0_enterSubst_32 : decode cX0_enterSubst 32 = .ok (.iand, 1) := by decide +kernel
theorem dX0_enterSubst_33 : decode cX0_enterSubst 33 = .ok (.istore 4, 2) := by decide +kernel
theorem dX0_enterSubst_35 : decode cX0_enterSubst 35 = .ok (.aload_n 0, 1) := by decide +kernel
theorem dX0_enterSubst_36 : decode cX0_enterSubst 36 = .ok (.getfield 9, 3) := by decide +kernel
theorem dX0_enterSubst_39 : decode cX0_enterSubst 39 = .ok (.iload_n 1, 1) := by decide +kernel
theorem dX0_enterSubst_40 : decode cX0_enterSubst 40 = .ok (.iload 4, 2) := by decide +kernel
theorem dX0_enterSubst_42 : decode cX0_enterSubst 42 = .ok (.iastore, 1) := by decide +kernel
theorem dX0_enterSubst_43 : decode cX0_enterSubst 43 = .ok (.aload_n 0, 1) := by decide +kernel
theorem dX0_enterSubst_44 : decode cX0_enterSubst 44 = .ok (.getfield 15, 3) := by decide +kernel
theorem dX0_enterSubst_47 : decode cX0_enterSubst 47 = .ok (.iload 4, 2) := by decide +kernel
theorem dX0_enterSubst_49 : decode cX0_enterSubst 49 = .ok (.iload_n 1, 1) := by decide +kernel
theorem dX0_enterSubst_50 : decode cX0_enterSubst 50 = .ok (.iastore, 1) := by decide +kernel
theorem dX0_enterSubst_51 : decode cX0_enterSubst 51 = .ok (.return_, 1) := by decide +kernel
theorem dX0_twice_0 : decode cX0_twice 0 = .ok (.iload_n 0, 1) := by decide +kernel
theorem dX0_twice_1 : decode cX0_twice 1 = .ok (.iconst 1, 1) := by decide +kernel
theorem dX0_twice_2 : decode cX0_twice 2 = .ok (.ishl, 1) := by decide +kernel
theorem dX0_twice_3 : decode cX0_twice 3 = .ok (.iload_n 0, 1) := by decide +kernel
theorem dX0_twice_4 : decode cX0_twice 4 = .ok (.bipush 7, 2) := by decide +kernel
theorem dX0_twice_6 : decode cX0_twice 6 = .ok (.iushr, 1) := by decide +kernel
theorem dX0_twice_7 : decode cX0_twice 7 = .ok (.sipush 283, 3) := by decide +kernel
theorem dX0_twice_10 : decode cX0_twice 10 = .ok (.imul, 1) := by decide +kernel
theorem dX0_twice_11 : decode cX0_twice 11 = .ok (.ixor, 1) := by decide +kernel
theorem dX0_twice_12 : decode cX0_twice 12 = .ok (.ireturn, 1) := by decide +kernel
theorem dX0_expand_0 : decode cX0_expand 0 = .ok (.aload_n 0, 1) := by decide +kernel
theorem dX0_expand_1 : decode cX0_expand 1 = .ok (.getfield 18, 3) := by decide +kernel
theorem dX0_expand_4 : decode cX0_expand 4 = .ok (.iconst 0, 1) := by decide +kernel
theorem dX0_expand_5 : decode cX0_expand 5 = .ok (.lload_n 1, 1) := by decide +kernel
theorem dX0_expand_6 : decode cX0_expand 6 = .ok (.bipush 32, 2) := by decide +kernel
theorem dX0_expand_8 : decode cX0_expand 8 = .ok (.lushr, 1) := by decide +kernel
theorem dX0_expand_9 : decode cX0_expand 9 = .ok (.l2i, 1) := by decide +kernel
theorem dX0_expand_10 : decode cX0_expand 10 = .ok (.iastore, 1) := by decide +kernel
theorem dX0_expand_11 : decode cX0_expand 11 = .ok (.aload_n 0, 1) := by decide +kernel
theorem dX0_expand_12 : decode cX0_expand 12 = .ok (.getfield 18, 3) := by decide +kernel
theorem dX0_expand_15 : decode cX0_expand 15 = .ok (.iconst 1, 1) := by decide +kernel
theorem dX0_expand_16 : decode cX0_expand 16 = .ok (.lload_n 1, 1) := by decide +kernel
theorem dX0_expand_17 : decode cX0_expand 17 = .ok (.l2i, 1) := by decide +kernel
theorem dX0_expand_18 : decode cX0_expand 18 = .ok (.iastore, 1) := by decide +kernel
theorem dX0_expand_19 : decode cX0_expand 19 = .ok (.aload_n 0, 1) := by decide +kernel
theorem dX0_expand_20 : decode cX0_expand 20 = .ok (.getfield 18, 3) := by decide +kernel
theorem dX0_expand_23 : decode cX0_expand 23 = .ok (.iconst 2, 1) := by decide +kernel
theorem dX0_expand_24 : decode cX0_expand 24 = .ok (.lload_n 3, 1) := by decide +kernel
theorem dX0_expand_25 : decode cX0_expand 25 = .ok (.bipush 32, 2) := by decide +kernel
theorem dX0_expand_27 : decode cX0_expand 27 = .ok (.lushr, 1) := by decide +kernel
theorem dX0_expand_28 : decode cX0_expand 28 = .ok (.l2i, 1) := by decide +kernel
theorem dX0_expand_29 : decode cX0_expand 29 = .ok (.iastore, 1) := by decide +kernel
theorem dX0_expand_30 : decode cX0_expand 30 = .ok (.aload_n 0, 1) := by decide +kernel
theorem dX0_expand_31 : decode cX0_expand 31 = .ok (.getfield 18, 3) := by decide +kernel
theorem dX0_expand_34 : decode cX0_expand 34 = .ok (.iconst 3, 1) := by decide +kernel
theorem dX0_expand_35 : decode cX0_expand 35 = .ok (.lload_n 3, 1) := by decide +kernel
theorem dX0_expand_36 : decode cX0_expand 36 = .ok (.l2i, 1) := by decide +kernel
theorem dX0_expand_37 : decode cX0_expand 37 = .ok (.iastore, 1) := by decide +kernel
theorem dX0_expand_38 : decode cX0_expand 38 = .ok (.iconst 1, 1) := by decide +kernel
theorem dX0_expand_39 : decode cX0_expand 39 = .ok (.istore 5, 2) := by decide +kernel
theorem dX0_expand_41 : decode cX0_expand 41 = .ok (.iconst 4, 1) := by decide +kernel
theorem dX0_expand_42 : decode cX0_expand 42 = .ok (.istore 6, 2) := by decide +kernel
theorem dX0_expand_44 : decode cX0_expand 44 = .ok (.iload 6, 2) := by decide +kernel
theorem dX0_expand_46 : decode cX0_expand 46 = .ok (.bipush 44, 2) := by decide +kernel
theorem dX0_expand_48 : decode cX0_expand 48 = .ok (.if_icmp .ge 72, 3) := by decide +kernel
theorem dX0_expand_51 : decode cX0_expand 51 = .ok (.aload_n 0, 1) := by decide +kernel
theorem dX0_expand_52 : decode cX0_expand 52 = .ok (.getfield 18, 3) := by decide +kernel
theorem dX0_expand_55 : decode cX0_expand 55 = .ok (.iload 6, 2) := by decide +kernel
theorem dX0_expand_57 : decode cX0_expand 57 = .ok (.iconst 1, 1) := by decide +kernel
theorem dX0_expand_58 : decode cX0_expand 58 = .ok (.isub, 1) := by decide +kernel
theorem dX0_expand_59 : decode cX0_expand 59 = .ok (.iaload, 1) := by decide +kernel
theorem dX0_expand_60 : decode cX0_expand 60 = .ok (.istore 7, 2) := by decide +kernel
theorem dX0_expand_62 : decode cX0_expand 62 = .ok (.iload 6, 2) := by decide +kernel
theorem dX0_expand_64 : decode cX0_expand 64 = .ok (.iconst 4, 1) := by decide +kernel
theorem dX0_expand_65 : decode cX0_expand 65 = .ok (.irem, 1) := by decide +kernel
theorem dX0_expand_66 : decode cX0_expand 66 = .ok (.ifCond .ne 29, 3) := by decide +kernel
theorem dX0_expand_69 : decode cX0_expand 69 = .ok (.aload_n 0, 1) := by decide +kernel
theorem dX0_expand_70 : decode cX0_expand 70 = .ok (.iload 7, 2) := by decide +kernel
theorem dX0_expand_72 : decode cX0_expand 72 = .ok (.bipush 8, 2) := by decide +kernel
theorem dX0_expand_74 : decode cX0_expand 74 = .ok (.invokestatic 42, 3) := by decide +kernel
theorem dX0_expand_77 : decode cX0_expand 77 = .ok (.invokevirtual 48, 3) := by decide +kernel
theorem dX0_expand_80 : decode cX0_expand 80 = .ok (.iload 5, 2) := by decide +kernel
theorem dX0_expand_82 : decode cX0_expand 82 = .ok (.bipush 24, 2) := by decide +kernel
theorem dX0_expand_84 : decode cX0_expand 84 = .ok (.ishl, 1) := by decide +kernel
theorem dX0_expand_85 : decode cX0_expand 85 = .ok (.ixor, 1) := by decide +kernel
theorem dX0_expand_86 : decode cX0_expand 86 = .ok (.istore 7, 2) := by decide +kernel
theorem dX0_expand_88 : decode cX0_expand 88 = .ok (.iload 5, 2) := by decide +kernel
theorem dX0_expand_90 : decode cX0_expand 90 = .ok (.invokestatic 34, 3) := by decide +kernel
theorem dX0_expand_93 : decode cX0_expand 93 = .ok (.istore 5, 2) := by decide +kernel
theorem dX0_expand_95 : decode cX0_expand 95 = .ok (.aload_n 0, 1) := by decide +kernel
theorem dX0_expand_96 : decode cX0_expand 96 = .ok (.getfield 18, 3) := by decide +kernel
theorem dX0_expand_99 : decode cX0_expand 99 = .ok (.iload 6, 2) := by decide +kernel
theorem dX0_expand_101 : decode cX0_expand 101 = .ok (.aload_n 0, 1) := by decide +kernel
theorem dX0_expand_102 : decode cX0_expand 102 = .ok (.getfield 18, 3) := by decide +kernel
theorem dX0_expand_105 : decode cX0_expand 105 = .ok (.iload 6, 2) := by decide +kernel
theorem dX0_expand_107 : decode cX0_expand 107 = .ok (.iconst 4, 1) := by decide +kernel
theorem dX0_expand_108 : decode cX0_expand 108 = .ok (.isub, 1) := by decide +kernel
theorem dX0_expand_109 : decode cX0_expand 109 = .ok (.iaload, 1) := by decide +kernel
theorem dX0_expand_110 : decode cX0_expand 110 = .ok (.iload 7, 2) := by decide +kernel
theorem dX0_expand_112 : decode cX0_expand 112 = .ok (.ixor, 1) := by decide +kernel
theorem dX0_expand_113 : decode cX0_expand 113 = .ok (.iastore, 1) := by decide +kernel
theorem dX0_expand_114 : decode cX0_expand 114 = .ok (.iinc 6 1, 3) := by decide +kernel
theorem dX0_expand_117 : decode cX0_expand 117 = .ok (.goto (-73), 3) := by decide +kernel
theorem dX0_expand_120 : decode cX0_expand 120 = .ok (.return_, 1) := by decide +kernel
theorem dX0_substWord_0 : decode cX0_substWord 0 = .ok (.aload_n 0, 1) := by decide +kernel
theorem dX0_substWord_1 : decode cX0_substWord 1 = .ok (.getfield 9, 3) := by decide +kernel
theorem dX0_substWord_4 : decode cX0_substWord 4 = .ok (.iload_n 1, 1) := by decide +kernel
theorem dX0_substWord_5 : decode cX0_substWord 5 = .ok (.bipush 24, 2) := by decide +kernel
theorem dX0_substWord_7 : decode cX0_substWord 7 = .ok (.iushr, 1) := by decide +kernel
theorem dX0_substWord_8 : decode cX0_substWord 8 = .ok (.iaload, 1) := by decide +kernel
theorem dX0_substWord_9 : decode cX0_substWord 9 = .ok (.bipush 24, 2) := by decide +kernel
theorem dX0_substWord_11 : decode cX0_substWord 11 = .ok (.ishl, 1) := by decide +kernel
theorem dX0_substWord_12 : decode cX0_substWord 12 = .ok (.aload_n 0, 1) := by decide +kernel
theorem dX0_substWord_13 : decode cX0_substWord 13 = .ok (.getfield 9, 3) := by decide +kernel
theorem dX0_substWord_16 : decode cX0_substWord 16 = .ok (.iload_n 1, 1) := by decide +kernel
theorem dX0_substWord_17 : decode cX0_substWord 17 = .ok (.bipush 16, 2) := by decide +kernel
theorem dX0_substWord_19 : decode cX0_substWord 19 = .ok (.iushr, 1) := by decide +kernel
theorem dX0_substWord_20 : decode cX0_substWord 20 = .ok (.sipush 255, 3) := by decide +kernel
theorem dX0_substWord_23 : decode cX0_substWord 23 = .ok (.iand, 1) := by decide +kernel
theorem dX0_substWord_24 : decode cX0_substWord 24 = .ok (.iaload, 1) := by decide +kernel
theorem dX0_substWord_25 : decode cX0_substWord 25 = .ok (.bipush 16, 2) := by decide +kernel
theorem dX0_substWord_27 : decode cX0_substWord 27 = .ok (.ishl, 1) := by decide +kernel
theorem dX0_substWord_28 : decode cX0_substWord 28 = .ok (.ior, 1) := by decide +kernel
theorem dX0_substWord_29 : decode cX0_substWord 29 = .ok (.aload_n 0, 1) := by decide +kernel
theorem dX0_substWord_30 : decode cX0_substWord 30 = .ok (.getfield 9, 3) := by decide +kernel
theorem dX0_substWord_33 : decode cX0_substWord 33 = .ok (.iload_n 1, 1) := by decide +kernel
theorem dX0_substWord_34 : decode cX0_substWord 34 = .ok (.bipush 8, 2) := by decide +kernel
theorem dX0_substWord_36 : decode cX0_substWord 36 = .ok (.iushr, 1) := by decide +kernel
theorem dX0_substWord_37 : decode cX0_substWord 37 = .ok (.sipush 255, 3) := by decide +kernel
theorem dX0_substWord_40 : decode cX0_substWord 40 = .ok (.iand, 1) := by decide +kernel
theorem dX0_substWord_41 : decode cX0_substWord 41 = .ok (.iaload, 1) := by decide +kernel
theorem dX0_substWord_42 : decode cX0_substWord 42 = .ok (.bipush 8, 2) := by decide +kernel
theorem dX0_substWord_44 : decode cX0_substWord 44 = .ok (.ishl, 1) := by decide +kernel
theorem dX0_substWord_45 : decode cX0_substWord 45 = .ok (.ior, 1) := by decide +kernel
theorem dX0_substWord_46 : decode cX0_substWord 46 = .ok (.aload_n 0, 1) := by decide +kernel
theorem dX0_substWord_47 : decode cX0_substWord 47 = .ok (.getfield 9, 3) := by decide +kernel
theorem dX0_substWord_50 : decode cX0_substWord 50 = .ok (.iload_n 1, 1) := by decide +kernel
theorem dX0_substWord_51 : decode cX0_substWord 51 = .ok (.sipush 255, 3) := by decide +kernel
theorem dX0_substWord_54 : decode cX0_substWord 54 = .ok (.iand, 1) := by decide +kernel
theorem dX0_substWord_55 : decode cX0_substWord 55 = .ok (.iaload, 1) := by decide +kernel
theorem dX0_substWord_56 : decode cX0_substWord 56 = .ok (.ior, 1) := by decide +kernel
theorem dX0_substWord_57 : decode cX0_substWord 57 = .ok (.ireturn, 1) := by decide +kernel
theorem dX0_wordAt_0 : decode cX0_wordAt 0 = .ok (.aload_n 0, 1) := by decide +kernel
theorem dX0_wordAt_1 : decode cX0_wordAt 1 = .ok (.getfield 18, 3) := by decide +kernel
theorem dX0_wordAt_4 : decode cX0_wordAt 4 = .ok (.iload_n 1, 1) := by decide +kernel
theorem dX0_wordAt_5 : decode cX0_wordAt 5 = .ok (.iaload, 1) := by decide +kernel
theorem dX0_wordAt_6 : decode cX0_wordAt 6 = .ok (.ireturn, 1) := by decide +kernel
theorem dX0_encipher_0 : decode cX0_encipher 0 = .ok (.aload_n 0, 1) := by decide +kernel
theorem dX0_encipher_1 : decode cX0_encipher 1 = .ok (.lload_n 1, 1) := by decide +kernel
theorem dX0_encipher_2 : decode cX0_encipher 2 = .ok (.lload_n 3, 1) := by decide +kernel
theorem dX0_encipher_3 : decode cX0_encipher 3 = .ok (.invokevirtual 51, 3) := by decide +kernel
theorem dX0_encipher_6 : decode cX0_encipher 6 = .ok (.aload_n 0, 1) := by decide +kernel
theorem dX0_encipher_7 : decode cX0_encipher 7 = .ok (.iconst 0, 1) := by decide +kernel
theorem dX0_encipher_8 : decode cX0_encipher 8 = .ok (.invokevirtual 54, 3) := by decide +kernel
theorem dX0_encipher_11 : decode cX0_encipher 11 = .ok (.iconst 1, 1) := by decide +kernel
theorem dX0_encipher_12 : decode cX0_encipher 12 = .ok (.istore 5, 2) := by decide +kernel
theorem dX0_encipher_14 : decode cX0_encipher 14 = .ok (.iload 5, 2) := by decide +kernel
theorem dX0_encipher_16 : decode cX0_encipher 16 = .ok (.bipush 10, 2) := by decide +kernel
theorem dX0_encipher_18 : decode cX0_encipher 18 = .ok (.if_icmp .gt 30, 3) := by decide +kernel
theorem dX0_encipher_21 : decode cX0_encipher 21 = .ok (.aload_n 0, 1) := by decide +kernel
theorem dX0_encipher_22 : decode cX0_encipher 22 = .ok (.invokevirtual 58, 3) := by decide +kernel
theorem dX0_encipher_25 : decode cX0_encipher 25 = .ok (.iload 5, 2) := by decide +kernel
theorem dX0_encipher_27 : decode cX0_encipher 27 = .ok (.bipush 10, 2) := by decide +kernel
theorem dX0_encipher_29 : decode cX0_encipher 29 = .ok (.if_icmp .ge 7, 3) := by decide +kernel
theorem dX0_encipher_32 : decode cX0_encipher 32 = .ok (.aload_n 0, 1) := by decide +kernel
theorem dX0_encipher_33 : decode cX0_encipher 33 = .ok (.invokevirtual 61, 3) := by decide +kernel
theorem dX0_encipher_36 : decode cX0_encipher 36 = .ok (.aload_n 0, 1) := by decide +kernel
theorem dX0_encipher_37 : decode cX0_encipher 37 = .ok (.iload 5, 2) := by decide +kernel
theorem dX0_encipher_39 : decode cX0_encipher 39 = .ok (.invokevirtual 54, 3) := by decide +kernel
theorem dX0_encipher_42 : decode cX0_encipher 42 = .ok (.iinc 5 1, 3) := by decide +kernel
theorem dX0_encipher_45 : decode cX0_encipher 45 = .ok (.goto (-31), 3) := by decide +kernel
theorem dX0_encipher_48 : decode cX0_encipher 48 = .ok (.return_, 1) := by decide +kernel
theorem dX0_decipher_0 : decode cX0_decipher 0 = .ok (.aload_n 0, 1) := by decide +kernel
theorem dX0_decipher_1 : decode cX0_decipher 1 = .ok (.lload_n 1, 1) := by decide +kernel
theorem dX0_decipher_2 : decode cX0_decipher 2 = .ok (.lload_n 3, 1) := by decide +kernel
theorem dX0_decipher_3 : decode cX0_decipher 3 = .ok (.invokevirtual 51, 3) := by decide +kernel
theorem dX0_decipher_6 : decode cX0_decipher 6 = .ok (.bipush 10, 2) := by decide +kernel
theorem dX0_decipher_8 : decode cX0_decipher 8 = .ok (.istore 5, 2) := by decide +kernel
theorem dX0_decipher_10 : decode cX0_decipher 10 = .ok (.iload 5, 2) := by decide +kernel
theorem dX0_decipher_12 : decode cX0_decipher 12 = .ok (.iconst 1, 1) := by decide +kernel
theorem dX0_decipher_13 : decode cX0_decipher 13 = .ok (.if_icmp .lt 30, 3) := by decide +kernel
theorem dX0_decipher_16 : decode cX0_decipher 16 = .ok (.aload_n 0, 1) := by decide +kernel
theorem dX0_decipher_17 : decode cX0_decipher 17 = .ok (.iload 5, 2) := by decide +kernel
theorem dX0_decipher_19 : decode cX0_decipher 19 = .ok (.invokevirtual 54, 3) := by decide +kernel
theorem dX0_decipher_22 : decode cX0_decipher 22 = .ok (.iload 5, 2) := by decide +kernel
theorem dX0_decipher_24 : decode cX0_decipher 24 = .ok (.bipush 10, 2) := by decide +kernel
theorem dX0_decipher_26 : decode cX0_decipher 26 = .ok (.if_icmp .ge 7, 3) := by decide +kernel
theorem dX0_decipher_29 : decode cX0_decipher 29 = .ok (.aload_n 0, 1) := by decide +kernel
theorem dX0_decipher_30 : decode cX0_decipher 30 = .ok (.invokevirtual 64, 3) := by decide +kernel
theorem dX0_decipher_33 : decode cX0_decipher 33 = .ok (.aload_n 0, 1) := by decide +kernel
theorem dX0_decipher_34 : decode cX0_decipher 34 = .ok (.invokevirtual 67, 3) := by decide +kernel
theorem dX0_decipher_37 : decode cX0_decipher 37 = .ok (.iinc 5 (-1), 3) := by decide +kernel
theorem dX0_decipher_40 : decode cX0_decipher 40 = .ok (.goto (-30), 3) := by decide +kernel
theorem dX0_decipher_43 : decode cX0_decipher 43 = .ok (.aload_n 0, 1) := by decide +kernel
theorem dX0_decipher_44 : decode cX0_decipher 44 = .ok (.iconst 0, 1) := by decide +kernel
theorem dX0_decipher_45 : decode cX0_decipher 45 = .ok (.invokevirtual 54, 3) := by decide +kernel
theorem dX0_decipher_48 : decode cX0_decipher 48 = .ok (.return_, 1) := by decide +kernel
theorem dX0_load_0 : decode cX0_load 0 = .ok (.iconst 0, 1) := by decide +kernel
theorem dX0_load_1 : decode cX0_load 1 = .ok (.istore 5, 2) := by decide +kernel
theorem dX0_load_3 : decode cX0_load 3 = .ok (.iload 5, 2) := by decide +kernel
theorem dX0_load_5 : decode cX0_load 5 = .ok (.bipush 8, 2) := by decide +kernel
theorem dX0_load_7 : decode cX0_load 7 = .ok (.if_icmp .ge 56, 3) := by decide +kernel
theorem dX0_load_10 : decode cX0_load 10 = .ok (.aload_n 0, 1) := by decide +kernel
theorem dX0_load_11 : decode cX0_load 11 = .ok (.getfield 21, 3) := by decide +kernel
theorem dX0_load_14 : decode cX0_load 14 = .ok (.iload 5, 2) := by decide +kernel
theorem dX0_load_16 : decode cX0_load 16 = .ok (.lload_n 1, 1) := by decide +kernel
theorem dX0_load_17 : decode cX0_load 17 = .ok (.bipush 56, 2) := by decide +kernel
theorem dX0_load_19 : decode cX0_load 19 = .ok (.bipush 8, 2) := by decide +kernel
theorem dX0_load_21 : decode cX0_load 21 = .ok (.iload 5, 2) := by decide +kernel
theorem dX0_load_23 : decode cX0_load 23 = .ok (.imul, 1) := by decide +kernel
theorem dX0_load_24 : decode cX0_load 24 = .ok (.isub, 1) := by decide +kernel
theorem dX0_load_25 : decode cX0_load 25 = .ok (.lushr, 1) := by decide +kernel
theorem dX0_load_26 : decode cX0_load 26 = .ok (.l2i, 1) := by decide +kernel
theorem dX0_load_27 : decode cX0_load 27 = .ok (.sipush 255, 3) := by decide +kernel
theorem dX0_load_30 : decode cX0_load 30 = .ok (.iand, 1) := by decide +kernel
theorem dX0_load_31 : decode cX0_load 31 = .ok (.iastore, 1) := by decide +kernel
theorem dX0_load_32 : decode cX0_load 32 = .ok (.aload_n 0, 1) := by decide +kernel
theorem dX0_load_33 : decode cX0_load 33 = .ok (.getfield 21, 3) := by decide +kernel
theorem dX0_load_36 : decode cX0_load 36 = .ok (.bipush 8, 2) := by decide +kernel
theorem dX0_load_38 : decode cX0_load 38 = .ok (.iload 5, 2) := by decide +kernel
theorem dX0_load_40 : decode cX0_load 40 = .ok (.iadd, 1) := by decide +kernel
theorem dX0_load_41 : decode cX0_load 41 = .ok (.lload_n 3, 1) := by decide +kernel
theorem dX0_load_42 : decode cX0_load 42 = .ok (.bipush 56, 2) := by decide +kernel
theorem dX0_load_44 : decode cX0_load 44 = .ok (.bipush 8, 2) := by decide +kernel
theorem dX0_load_46 : decode cX0_load 46 = .ok (.iload 5, 2) := by decide +kernel
theorem dX0_load_48 : decode cX0_load 48 = .ok (.imul, 1) := by decide +kernel
theorem dX0_load_49 : decode cX0_load 49 = .ok (.isub, 1) := by decide +kernel
theorem dX0_load_50 : decode cX0_load 50 = .ok (.lushr, 1) := by decide +kernel
theorem dX0_load_51 : decode cX0_load 51 = .ok (.l2i, 1) := by decide +kernel
theorem dX0_load_52 : decode cX0_load 52 = .ok (.sipush 255, 3) := by decide +kernel
theorem dX0_load_55 : decode cX0_load 55 = .ok (.iand, 1) := by decide +kernel
theorem dX0_load_56 : decode cX0_load 56 = .ok (.iastore, 1) := by decide +kernel
theorem dX0_load_57 : decode cX0_load 57 = .ok (.iinc 5 1, 3) := by decide +kernel
theorem dX0_load_60 : decode cX0_load 60 = .ok (.goto (-57), 3) := by decide +kernel
theorem dX0_load_63 : decode cX0_load 63 = .ok (.return_, 1) := by decide +kernel
theorem dX0_addWords_0 : decode cX0_addWords 0 = .ok (.iconst 0, 1) := by decide +kernel
theorem dX0_addWords_1 : decode cX0_addWords 1 = .ok (.istore_n 2, 1) := by decide +kernel
theorem dX0_addWords_2 : decode cX0_addWords 2 = .ok (.iload_n 2, 1) := by decide +kernel
theorem dX0_addWords_3 : decode cX0_addWords 3 = .ok (.iconst 4, 1) := by decide +kernel
theorem dX0_addWords_4 : decode cX0_addWords 4 = .ok (.if_icmp .ge 95, 3) := by decide +kernel
theorem dX0_addWords_7 : decode cX0_addWords 7 = .ok (.aload_n 0, 1) := by decide +kernel
theorem dX0_addWords_8 : decode cX0_addWords 8 = .ok (.getfield 18, 3) := by decide +kernel
theorem dX0_addWords_11 : decode cX0_addWords 11 = .ok (.iconst 4, 1) := by decide +kernel
theorem dX0_addWords_12 : decode cX0_addWords 12 = .ok (.iload_n 1, 1) := by decide +kernel
theorem dX0_addWords_13 : decode cX0_addWords 13 = .ok (.imul, 1) := by decide +kernel
theorem dX0_addWords_14 : decode cX0_addWords 14 = .ok (.iload_n 2, 1) := by decide +kernel
theorem dX0_addWords_15 : decode cX0_addWords 15 = .ok (.iadd, 1) := by decide +kernel
theorem dX0_addWords_16 : decode cX0_addWords 16 = .ok (.iaload, 1) := by decide +kernel
theorem dX0_addWords_17 : decode cX0_addWords 17 = .ok (.istore_n 3, 1) := by decide +kernel
theorem dX0_addWords_18 : decode cX0_addWords 18 = .ok (.aload_n 0, 1) := by decide +kernel
theorem dX0_addWords_19 : decode cX0_addWords 19 = .ok (.getfield 21, 3) := by decide +kernel
theorem dX0_addWords_22 : decode cX0_addWords 22 = .ok (.iconst 4, 1) := by decide +kernel
theorem dX0_addWords_23 : decode cX0_addWords 23 = .ok (.iload_n 2, 1) := by decide +kernel
theorem dX0_addWords_24 : decode cX0_addWords 24 = .ok (.imul, 1) := by decide +kernel
theorem dX0_addWords_25 : decode cX0_addWords 25 = .ok (.dup2, 1) := by decide +kernel
theorem dX0_addWords_26 : decode cX0_addWords 26 = .ok (.iaload, 1) := by decide +kernel
theorem dX0_addWords_27 : decode cX0_addWords 27 = .ok (.iload_n 3, 1) := by decide +kernel
theorem dX0_addWords_28 : decode cX0_addWords 28 = .ok (.bipush 24, 2) := by decide +kernel
theorem dX0_addWords_30 : decode cX0_addWords 30 = .ok (.iushr, 1) := by decide +kernel
theorem dX0_addWords_31 : decode cX0_addWords 31 = .ok (.ixor, 1) := by decide +kernel
theorem dX0_addWords_32 : decode cX0_addWords 32 = .ok (.iastore, 1) := by decide +kernel
theorem dX0_addWords_33 : decode cX0_addWords 33 = .ok (.aload_n 0, 1) := by decide +kernel
theorem dX0_addWords_34 : decode cX0_addWords 34 = .ok (.getfield 21, 3) := by decide +kernel
theorem dX0_addWords_37 : decode cX0_addWords 37 = .ok (.iconst 4, 1) := by decide +kernel
theorem dX0_addWords_38 : decode cX0_addWords 38 = .ok (.iload_n 2, 1) := by decide +kernel
theorem dX0_addWords_39 : decode cX0_addWords 39 = .ok (.imul, 1) := by decide +kernel
theorem dX0_addWords_40 : decode cX0_addWords 40 = .ok (.iconst 1, 1) := by decide +kernel
theorem dX0_addWords_41 : decode cX0_addWords 41 = .ok (.iadd, 1) := by decide +kernel
theorem dX0_addWords_42 : decode cX0_addWords 42 = .ok (.dup2, 1) := by decide +kernel
theorem dX0_addWords_43 : decode cX0_addWords 43 = .ok (.iaload, 1) := by decide +kernel
theorem dX0_addWords_44 : decode cX0_addWords 44 = .ok (.iload_n 3, 1) := by decide +kernel
theorem dX0_addWords_45 : decode cX0_addWords 45 = .ok (.bipush 16, 2) := by decide +kernel
theorem dX0_addWords_47 : decode cX0_addWords 47 = .ok (.iushr, 1) := by decide +kernel
theorem dX0_addWords_48 : decode cX0_addWords 48 = .ok (.sipush 255, 3) := by decide +kernel
theorem dX0_addWords_51 : decode cX0_addWords 51 = .ok (.iand, 1) := by decide +kernel
theorem dX0_addWords_52 : decode cX0_addWords 52 = .ok (.ixor, 1) := by decide +kernel
theorem dX0_addWords_53 : decode cX0_addWords 53 = .ok (.iastore, 1) := by decide +kernel
theorem dX0_addWords_54 : decode cX0_addWords 54 = .ok (.aload_n 0, 1) := by decide +kernel
theorem dX0_addWords_55 : decode cX0_addWords 55 = .ok (.getfield 21, 3) := by decide +kernel
theorem dX0_addWords_58 : decode cX0_addWords 58 = .ok (.iconst 4, 1) := by decide +kernel
theorem dX0_addWords_59 : decode cX0_addWords 59 = .ok (.iload_n 2, 1) := by decide +kernel
theorem dX0_addWords_60 : decode cX0_addWords 60 = .ok (.imul, 1) := by decide +kernel
theorem dX0_addWords_61 : decode cX0_addWords 61 = .ok (.iconst 2, 1) := by decide +kernel
theorem dX0_addWords_62 : decode cX0_addWords 62 = .ok (.iadd, 1) := by decide +kernel
theorem dX0_addWords_63 : decode cX0_addWords 63 = .ok (.dup2, 1) := by decide +kernel
theorem dX0_addWords_64 : decode cX0_addWords 64 = .ok (.iaload, 1) := by decide +kernel
theorem dX0_addWords_65 : decode cX0_addWords 65 = .ok (.iload_n 3, 1) := by decide +kernel
theorem dX0_addWords_66 : decode cX0_addWords 66 = .ok (.bipush 8, 2) := by decide +kernel
theorem dX0_addWords_68 : decode cX0_addWords 68 = .ok (.iushr, 1) := by decide +kernel
theorem dX0_addWords_69 : decode cX0_addWords 69 = .ok (.sipush 255, 3) := by decide +kernel
theorem dX0_addWords_72 : decode cX0_addWords 72 = .ok (.iand, 1) := by decide +kernel
theorem dX0_addWords_73 : decode cX0_addWords 73 = .ok (.ixor, 1) := by decide +kernel
theorem dX0_addWords_74 : decode cX0_addWords 74 = .ok (.iastore, 1) := by decide +kernel
theorem dX0_addWords_75 : decode cX0_addWords 75 = .ok (.aload_n 0, 1) := by decide +kernel
theorem dX0_addWords_76 : decode cX0_addWords 76 = .ok (.getfield 21, 3) := by decide +kernel
theorem dX0_addWords_79 : decode cX0_addWords 79 = .ok (.iconst 4, 1) := by decide +kernel
theorem dX0_addWords_80 : decode cX0_addWords 80 = .ok (.iload_n 2, 1) := by decide +kernel
theorem dX0_addWords_81 : decode cX0_addWords 81 = .ok (.imul, 1) := by decide +kernel
theorem dX0_addWords_82 : decode cX0_addWords 82 = .ok (.iconst 3, 1) := by decide +kernel
theorem dX0_addWords_83 : decode cX0_addWords 83 = .ok (.iadd, 1) := by decide +kernel
theorem dX0_addWords_84 : decode cX0_addWords 84 = .ok (.dup2, 1) := by decide +kernel
theorem dX0_addWords_85 : decode cX0_addWords 85 = .ok (.iaload, 1) := by decide +kernel
theorem dX0_addWords_86 : decode cX0_addWords 86 = .ok (.iload_n 3, 1) := by decide +kernel
theorem dX0_addWords_87 : decode cX0_addWords 87 = .ok (.sipush 255, 3) := by decide +kernel
theorem dX0_addWords_90 : decode cX0_addWords 90 = .ok (.iand, 1) := by decide +kernel
theorem dX0_addWords_91 : decode cX0_addWords 91 = .ok (.ixor, 1) := by decide +kernel
theorem dX0_addWords_92 : decode cX0_addWords 92 = .ok (.iastore, 1) := by decide +kernel
theorem dX0_addWords_93 : decode cX0_addWords 93 = .ok (.iinc 2 1, 3) := by decide +kernel
theorem dX0_addWords_96 : decode cX0_addWords 96 = .ok (.goto (-94), 3) := by decide +kernel
theorem dX0_addWords_99 : decode cX0_addWords 99 = .ok (.return_, 1) := by decide +kernel
theorem dX0_shiftedFrom_0 : decode cX0_shiftedFrom 0 = .ok (.iload_n 0, 1) := by decide +kernel
theorem dX0_shiftedFrom_1 : decode cX0_shiftedFrom 1 = .ok (.iconst 4, 1) := by decide +kernel
theorem dX0_shiftedFrom_2 : decode cX0_shiftedFrom 2 = .ok (.iload_n 0, 1) := by decide +kernel
theorem dX0_shiftedFrom_3 : decode cX0_shiftedFrom 3 = .ok (.iconst 4, 1) := by decide +kernel
theorem dX0_shiftedFrom_4 : decode cX0_shiftedFrom 4 = .ok (.irem, 1) := by decide +kernel
theorem dX0_shiftedFrom_5 : decode cX0_shiftedFrom 5 = .ok (.imul, 1) := by decide +kernel
theorem dX0_shiftedFrom_6 : decode cX0_shiftedFrom 6 = .ok (.iadd, 1) := by decide +kernel
theorem dX0_shiftedFrom_7 : decode cX0_shiftedFrom 7 = .ok (.bipush 16, 2) := by decide +kernel
theorem dX0_shiftedFrom_9 : decode cX0_shiftedFrom 9 = .ok (.irem, 1) := by decide +kernel
theorem dX0_shiftedFrom_10 : decode cX0_shiftedFrom 10 = .ok (.ireturn, 1) := by decide +kernel
theorem dX0_substAndShift_0 : decode cX0_substAndShift 0 = .ok (.aload_n 0, 1) := by decide +kernel
theorem dX0_substAndShift_1 : decode cX0_substAndShift 1 = .ok (.aload_n 0, 1) := by decide +kernel
theorem dX0_substAndShift_2 : decode cX0_substAndShift 2 = .ok (.getfield 24, 3) := by decide +kernel
theorem dX0_substAndShift_5 : decode cX0_substAndShift 5 = .ok (.invokevirtual 70, 3) := by decide +kernel
theorem dX0_substAndShift_8 : decode cX0_substAndShift 8 = .ok (.iconst 0, 1) := by decide +kernel
theorem dX0_substAndShift_9 : decode cX0_substAndShift 9 = .ok (.istore_n 1, 1) := by decide +kernel
theorem dX0_substAndShift_10 : decode cX0_substAndShift 10 = .ok (.iload_n 1, 1) := by decide +kernel
theorem dX0_substAndShift_11 : decode cX0_substAndShift 11 = .ok (.bipush 16, 2) := by decide +kernel
theorem dX0_substAndShift_13 : decode cX0_substAndShift 13 = .ok (.if_icmp .ge 29, 3) := by decide +kernel
theorem dX0_substAndShift_16 : decode cX0_substAndShift 16 = .ok (.aload_n 0, 1) := by decide +kernel
theorem dX0_substAndShift_17 : decode cX0_substAndShift 17 = .ok (.getfield 21, 3) := by decide +kernel
theorem dX0_substAndShift_20 : decode cX0_substAndShift 20 = .ok (.iload_n 1, 1) := by decide +kernel
theorem dX0_substAndShift_21 : decode cX0_substAndShift 21 = .ok (.aload_n 0, 1) := by decide +kernel
theorem dX0_substAndShift_22 : decode cX0_substAndShift 22 = .ok (.getfield 9, 3) := by decide +kernel
theorem dX0_substAndShift_25 : decode cX0_substAndShift 25 = .ok (.aload_n 0, 1) := by decide +kernel
theorem dX0_substAndShift_26 : decode cX0_substAndShift 26 = .ok (.getfield 24, 3) := by decide +kernel
theorem dX0_substAndShift_29 : decode cX0_substAndShift 29 = .ok (.iload_n 1, 1) := by decide +kernel
theorem dX0_substAndShift_30 : decode cX0_substAndShift 30 = .ok (.invokestatic 74, 3) := by decide +kernel
theorem dX0_substAndShift_33 : decode cX0_substAndShift 33 = .ok (.iaload, 1) := by decide +kernel
theorem dX0_substAndShift_34 : decode cX0_substAndShift 34 = .ok (.iaload, 1) := by decide +kernel
theorem dX0_substAndShift_35 : decode cX0_substAndShift 35 = .ok (.iastore, 1) := by decide +kernel
theorem dX0_substAndShift_36 : decode cX0_substAndShift 36 = .ok (.iinc 1 1, 3) := by decide +kernel
theorem dX0_substAndShift_39 : decode cX0_substAndShift 39 = .ok (.goto (-29), 3) := by decide +kernel
theorem dX0_substAndShift_42 : decode cX0_substAndShift 42 = .ok (.return_, 1) := by decide +kernel
theorem dX0_unshiftAndUnsubst_0 : decode cX0_unshiftAndUnsubst 0 = .ok (.aload_n 0, 1) := by decide +kernel
theorem dX0_unshiftAndUnsubst_1 : decode cX0_unshiftAndUnsubst 1 = .ok (.aload_n 0, 1) := by decide +kernel
theorem dX0_unshiftAndUnsubst_2 : decode cX0_unshiftAndUnsubst 2 = .ok (.getfield 24, 3) := by decide +kernel
theorem dX0_unshiftAndUnsubst_5 : decode cX0_unshiftAndUnsubst 5 = .ok (.invokevirtual 70, 3) := by decide +kernel
theorem dX0_unshiftAndUnsubst_8 : decode cX0_unshiftAndUnsubst 8 = .ok (.iconst 0, 1) := by decide +kernel
theorem dX0_unshiftAndUnsubst_9 : decode cX0_unshiftAndUnsubst 9 = .ok (.istore_n 1, 1) := by decide +kernel
theorem dX0_unshiftAndUnsubst_10 : decode cX0_unshiftAndUnsubst 10 = .ok (.iload_n 1, 1) := by decide +kernel
theorem dX0_unshiftAndUnsubst_11 : decode cX0_unshiftAndUnsubst 11 = .ok (.bipush 16, 2) := by decide +kernel
theorem dX0_unshiftAndUnsubst_13 : decode cX0_unshiftAndUnsubst 13 = .ok (.if_icmp .ge 29, 3) := by decide +kernel
theorem dX0_unshiftAndUnsubst_16 : decode cX0_unshiftAndUnsubst 16 = .ok (.aload_n 0, 1) := by decide +kernel
theorem dX0_unshiftAndUnsubst_17 : decode cX0_unshiftAndUnsubst 17 = .ok (.getfield 21, 3) := by decide +kernel
theorem dX0_unshiftAndUnsubst_20 : decode cX0_unshiftAndUnsubst 20 = .ok (.iload_n 1, 1) := by decide +kernel
theorem dX0_unshiftAndUnsubst_21 : decode cX0_unshiftAndUnsubst 21 = .ok (.invokestatic 74, 3) := by decide +kernel
theorem dX0_unshiftAndUnsubst_24 : decode cX0_unshiftAndUnsubst 24 = .ok (.aload_n 0, 1) := by decide +kernel
theorem dX0_unshiftAndUnsubst_25 : decode cX0_unshiftAndUnsubst 25 = .ok (.getfield 15, 3) := by decide +kernel
theorem dX0_unshiftAndUnsubst_28 : decode cX0_unshiftAndUnsubst 28 = .ok (.aload_n 0, 1) := by decide +kernel
theorem dX0_unshiftAndUnsubst_29 : decode cX0_unshiftAndUnsubst 29 = .ok (.getfield 24, 3) := by decide +kernel
theorem dX0_unshiftAndUnsubst_32 : decode cX0_unshiftAndUnsubst 32 = .ok (.iload_n 1, 1) := by decide +kernel
theorem dX0_unshiftAndUnsubst_33 : decode cX0_unshiftAndUnsubst 33 = .ok (.iaload, 1) := by decide +kernel
theorem dX0_unshiftAndUnsubst_34 : decode cX0_unshiftAndUnsubst 34 = .ok (.iaload, 1) := by decide +kernel
theorem dX0_unshiftAndUnsubst_35 : decode cX0_unshiftAndUnsubst 35 = .ok (.iastore, 1) := by decide +kernel
theorem dX0_unshiftAndUnsubst_36 : decode cX0_unshiftAndUnsubst 36 = .ok (.iinc 1 1, 3) := by decide +kernel
theorem dX0_unshiftAndUnsubst_39 : decode cX0_unshiftAndUnsubst 39 = .ok (.goto (-29), 3) := by decide +kernel
theorem dX0_unshiftAndUnsubst_42 : decode cX0_unshiftAndUnsubst 42 = .ok (.return_, 1) := by decide +kernel
theorem dX0_mix_0 : decode cX0_mix 0 = .ok (.iconst 0, 1) := by decide +kernel
theorem dX0_mix_1 : decode cX0_mix 1 = .ok (.istore_n 1, 1) := by decide +kernel
theorem dX0_mix_2 : decode cX0_mix 2 = .ok (.iload_n 1, 1) := by decide +kernel
theorem dX0_mix_3 : decode cX0_mix 3 = .ok (.bipush 16, 2) := by decide +kernel
theorem dX0_mix_5 : decode cX0_mix 5 = .ok (.if_icmp .ge 136, 3) := by decide +kernel
theorem dX0_mix_8 : decode cX0_mix 8 = .ok (.aload_n 0, 1) := by decide +kernel
theorem dX0_mix_9 : decode cX0_mix 9 = .ok (.getfield 21, 3) := by decide +kernel
theorem dX0_mix_12 : decode cX0_mix 12 = .ok (.iload_n 1, 1) := by decide +kernel
theorem dX0_mix_13 : decode cX0_mix 13 = .ok (.iaload, 1) := by decide +kernel
theorem dX0_mix_14 : decode cX0_mix 14 = .ok (.istore_n 2, 1) := by decide +kernel
theorem dX0_mix_15 : decode cX0_mix 15 = .ok (.aload_n 0, 1) := by decide +kernel
theorem dX0_mix_16 : decode cX0_mix 16 = .ok (.getfield 21, 3) := by decide +kernel
theorem dX0_mix_19 : decode cX0_mix 19 = .ok (.iload_n 1, 1) := by decide +kernel
theorem dX0_mix_20 : decode cX0_mix 20 = .ok (.iconst 1, 1) := by decide +kernel
theorem dX0_mix_21 : decode cX0_mix 21 = .ok (.iadd, 1) := by decide +kernel
theorem dX0_mix_22 : decode cX0_mix 22 = .ok (.iaload, 1) := by decide +kernel
theorem dX0_mix_23 : decode cX0_mix 23 = .ok (.istore_n 3, 1) := by decide +kernel
theorem dX0_mix_24 : decode cX0_mix 24 = .ok (.aload_n 0, 1) := by decide +kernel
theorem dX0_mix_25 : decode cX0_mix 25 = .ok (.getfield 21, 3) := by decide +kernel
theorem dX0_mix_28 : decode cX0_mix 28 = .ok (.iload_n 1, 1) := by decide +kernel
theorem dX0_mix_29 : decode cX0_mix 29 = .ok (.iconst 2, 1) := by decide +kernel
theorem dX0_mix_30 : decode cX0_mix 30 = .ok (.iadd, 1) := by decide +kernel
theorem dX0_mix_31 : decode cX0_mix 31 = .ok (.iaload, 1) := by decide +kernel
theorem dX0_mix_32 : decode cX0_mix 32 = .ok (.istore 4, 2) := by decide +kernel
theorem dX0_mix_34 : decode cX0_mix 34 = .ok (.aload_n 0, 1) := by decide +kernel
theorem dX0_mix_35 : decode cX0_mix 35 = .ok (.getfield 21, 3) := by decide +kernel
theorem dX0_mix_38 : decode cX0_mix 38 = .ok (.iload_n 1, 1) := by decide +kernel
theorem dX0_mix_39 : decode cX0_mix 39 = .ok (.iconst 3, 1) := by decide +kernel
theorem dX0_mix_40 : decode cX0_mix 40 = .ok (.iadd, 1) := by decide +kernel
theorem dX0_mix_41 : decode cX0_mix 41 = .ok (.iaload, 1) := by decide +kernel
theorem dX0_mix_42 : decode cX0_mix 42 = .ok (.istore 5, 2) := by decide +kernel
theorem dX0_mix_44 : decode cX0_mix 44 = .ok (.iload_n 2, 1) := by decide +kernel
theorem dX0_mix_45 : decode cX0_mix 45 = .ok (.iload_n 3, 1) := by decide +kernel
theorem dX0_mix_46 : decode cX0_mix 46 = .ok (.ixor, 1) := by decide +kernel
theorem dX0_mix_47 : decode cX0_mix 47 = .ok (.iload 4, 2) := by decide +kernel
theorem dX0_mix_49 : decode cX0_mix 49 = .ok (.ixor, 1) := by decide +kernel
theorem dX0_mix_50 : decode cX0_mix 50 = .ok (.iload 5, 2) := by decide +kernel
theorem dX0_mix_52 : decode cX0_mix 52 = .ok (.ixor, 1) := by decide +kernel
theorem dX0_mix_53 : decode cX0_mix 53 = .ok (.istore 6, 2) := by decide +kernel
theorem dX0_mix_55 : decode cX0_mix 55 = .ok (.aload_n 0, 1) := by decide +kernel
theorem dX0_mix_56 : decode cX0_mix 56 = .ok (.getfield 21, 3) := by decide +kernel
theorem dX0_mix_59 : decode cX0_mix 59 = .ok (.iload_n 1, 1) := by decide +kernel
theorem dX0_mix_60 : decode cX0_mix 60 = .ok (.iload 6, 2) := by decide +kernel
theorem dX0_mix_62 : decode cX0_mix 62 = .ok (.iload_n 2, 1) := by decide +kernel
theorem dX0_mix_63 : decode cX0_mix 63 = .ok (.ixor, 1) := by decide +kernel
theorem dX0_mix_64 : decode cX0_mix 64 = .ok (.iload_n 2, 1) := by decide +kernel
theorem dX0_mix_65 : decode cX0_mix 65 = .ok (.iload_n 3, 1) := by decide +kernel
theorem dX0_mix_66 : decode cX0_mix 66 = .ok (.ixor, 1) := by decide +kernel
theorem dX0_mix_67 : decode cX0_mix 67 = .ok (.invokestatic 34, 3) := by decide +kernel
theorem dX0_mix_70 : decode cX0_mix 70 = .ok (.ixor, 1) := by decide +kernel
theorem dX0_mix_71 : decode cX0_mix 71 = .ok (.iastore, 1) := by decide +kernel
theorem dX0_mix_72 : decode cX0_mix 72 = .ok (.aload_n 0, 1) := by decide +kernel
theorem dX0_mix_73 : decode cX0_mix 73 = .ok (.getfield 21, 3) := by decide +kernel
theorem dX0_mix_76 : decode cX0_mix 76 = .ok (.iload_n 1, 1) := by decide +kernel
theorem dX0_mix_77 : decode cX0_mix 77 = .ok (.iconst 1, 1) := by decide +kernel
theorem dX0_mix_78 : decode cX0_mix 78 = .ok (.iadd, 1) := by decide +kernel
theorem dX0_mix_79 : decode cX0_mix 79 = .ok (.iload 6, 2) := by decide +kernel
theorem dX0_mix_81 : decode cX0_mix 81 = .ok (.iload_n 3, 1) := by decide +kernel
theorem dX0_mix_82 : decode cX0_mix 82 = .ok (.ixor, 1) := by decide +kernel
theorem dX0_mix_83 : decode cX0_mix 83 = .ok (.iload_n 3, 1) := by decide +kernel
theorem dX0_mix_84 : decode cX0_mix 84 = .ok (.iload 4, 2) := by decide +kernel
theorem dX0_mix_86 : decode cX0_mix 86 = .ok (.ixor, 1) := by decide +kernel
theorem dX0_mix_87 : decode cX0_mix 87 = .ok (.invokestatic 34, 3) := by decide +kernel
theorem dX0_mix_90 : decode cX0_mix 90 = .ok (.ixor, 1) := by decide +kernel
theorem dX0_mix_91 : decode cX0_mix 91 = .ok (.iastore, 1) := by decide +kernel
theorem dX0_mix_92 : decode cX0_mix 92 = .ok (.aload_n 0, 1) := by decide +kernel
theorem dX0_mix_93 : decode cX0_mix 93 = .ok (.getfield 21, 3) := by decide +kernel
theorem dX0_mix_96 : decode cX0_mix 96 = .ok (.iload_n 1, 1) := by decide +kernel
theorem dX0_mix_97 : decode cX0_mix 97 = .ok (.iconst 2, 1) := by decide +kernel
theorem dX0_mix_98 : decode cX0_mix 98 = .ok (.iadd, 1) := by decide +kernel
theorem dX0_mix_99 : decode cX0_mix 99 = .ok (.iload 6, 2) := by decide +kernel
theorem dX0_mix_101 : decode cX0_mix 101 = .ok (.iload 4, 2) := by decide +kernel
theorem dX0_mix_103 : decode cX0_mix 103 = .ok (.ixor, 1) := by decide +kernel
theorem dX0_mix_104 : decode cX0_mix 104 = .ok (.iload 4, 2) := by decide +kernel
theorem dX0_mix_106 : decode cX0_mix 106 = .ok (.iload 5, 2) := by decide +kernel
theorem dX0_mix_108 : decode cX0_mix 108 = .ok (.ixor, 1) := by decide +kernel
theorem dX0_mix_109 : decode cX0_mix 109 = .ok (.invokestatic 34, 3) := by decide +kernel
theorem dX0_mix_112 : decode cX0_mix 112 = .ok (.ixor, 1) := by decide +kernel
theorem dX0_mix_113 : decode cX0_mix 113 = .ok (.iastore, 1) := by decide +kernel
theorem dX0_mix_114 : decode cX0_mix 114 = .ok (.aload_n 0, 1) := by decide +kernel
theorem dX0_mix_115 : decode cX0_mix 115 = .ok (.getfield 21, 3) := by decide +kernel
theorem dX0_mix_118 : decode cX0_mix 118 = .ok (.iload_n 1, 1) := by decide +kernel
theorem dX0_mix_119 : decode cX0_mix 119 = .ok (.iconst 3, 1) := by decide +kernel
theorem dX0_mix_120 : decode cX0_mix 120 = .ok (.iadd, 1) := by decide +kernel
theorem dX0_mix_121 : decode cX0_mix 121 = .ok (.iload 6, 2) := by decide +kernel
theorem dX0_mix_123 : decode cX0_mix 123 = .ok (.iload 5, 2) := by decide +kernel
theorem dX0_mix_125 : decode cX0_mix 125 = .ok (.ixor, 1) := by decide +kernel
theorem dX0_mix_126 : decode cX0_mix 126 = .ok (.iload 5, 2) := by decide +kernel
theorem dX0_mix_128 : decode cX0_mix 128 = .ok (.iload_n 2, 1) := by decide +kernel
theorem dX0_mix_129 : decode cX0_mix 129 = .ok (.ixor, 1) := by decide +kernel
theorem dX0_mix_130 : decode cX0_mix 130 = .ok (.invokestatic 34, 3) := by decide +kernel
theorem dX0_mix_133 : decode cX0_mix 133 = .ok (.ixor, 1) := by decide +kernel
theorem dX0_mix_134 : decode cX0_mix 134 = .ok (.iastore, 1) := by decide +kernel
theorem dX0_mix_135 : decode cX0_mix 135 = .ok (.iinc 1 4, 3) := by decide +kernel
theorem dX0_mix_138 : decode cX0_mix 138 = .ok (.goto (-136), 3) := by decide +kernel
theorem dX0_mix_141 : decode cX0_mix 141 = .ok (.return_, 1) := by decide +kernel
theorem dX0_unmix_0 : decode cX0_unmix 0 = .ok (.aload_n 0, 1) := by decide +kernel
theorem dX0_unmix_1 : decode cX0_unmix 1 = .ok (.invokevirtual 61, 3) := by decide +kernel
theorem dX0_unmix_4 : decode cX0_unmix 4 = .ok (.aload_n 0, 1) := by decide +kernel
theorem dX0_unmix_5 : decode cX0_unmix 5 = .ok (.invokevirtual 61, 3) := by decide +kernel
theorem dX0_unmix_8 : decode cX0_unmix 8 = .ok (.aload_n 0, 1) := by decide +kernel
theorem dX0_unmix_9 : decode cX0_unmix 9 = .ok (.invokevirtual 61, 3) := by decide +kernel
theorem dX0_unmix_12 : decode cX0_unmix 12 = .ok (.return_, 1) := by decide +kernel
theorem dX0_copyBlock_0 : decode cX0_copyBlock 0 = .ok (.aload_n 0, 1) := by decide +kernel
theorem dX0_copyBlock_1 : decode cX0_copyBlock 1 = .ok (.getfield 21, 3) := by decide +kernel
theorem dX0_copyBlock_4 : decode cX0_copyBlock 4 = .ok (.iconst 0, 1) := by decide +kernel
theorem dX0_copyBlock_5 : decode cX0_copyBlock 5 = .ok (.aload_n 1, 1) := by decide +kernel
theorem dX0_copyBlock_6 : decode cX0_copyBlock 6 = .ok (.iconst 0, 1) := by decide +kernel
theorem dX0_copyBlock_7 : decode cX0_copyBlock 7 = .ok (.bipush 16, 2) := by decide +kernel
theorem dX0_copyBlock_9 : decode cX0_copyBlock 9 = .ok (.invokestatic 77, 3) := by decide +kernel
theorem dX0_copyBlock_12 : decode cX0_copyBlock 12 = .ok (.return_, 1) := by decide +kernel
theorem dX0_high_0 : decode cX0_high 0 = .ok (.aload_n 0, 1) := by decide +kernel
theorem dX0_high_1 : decode cX0_high 1 = .ok (.getfield 21, 3) := by decide +kernel
theorem dX0_high_4 : decode cX0_high 4 = .ok (.iconst 0, 1) := by decide +kernel
theorem dX0_high_5 : decode cX0_high 5 = .ok (.bipush 16, 2) := by decide +kernel
theorem dX0_high_7 : decode cX0_high 7 = .ok (.invokestatic 83, 3) := by decide +kernel
theorem dX0_high_10 : decode cX0_high 10 = .ok (.lreturn, 1) := by decide +kernel
theorem dX0_low_0 : decode cX0_low 0 = .ok (.aload_n 0, 1) := by decide +kernel
theorem dX0_low_1 : decode cX0_low 1 = .ok (.getfield 21, 3) := by decide +kernel
theorem dX0_low_4 : decode cX0_low 4 = .ok (.bipush 8, 2) := by decide +kernel
theorem dX0_low_6 : decode cX0_low 6 = .ok (.bipush 16, 2) := by decide +kernel
theorem dX0_low_8 : decode cX0_low 8 = .ok (.invokestatic 83, 3) := by decide +kernel
theorem dX0_low_11 : decode cX0_low 11 = .ok (.lreturn, 1) := by decide +kernel
theorem dX1_init_0 : decode cX1_init 0 = .ok (.aload_n 0, 1) := by decide +kernel
theorem dX1_init_1 : decode cX1_init 1 = .ok (.invokespecial 1, 3) := by decide +kernel
theorem dX1_init_4 : decode cX1_init 4 = .ok (.aload_n 0, 1) := by decide +kernel
theorem dX1_init_5 : decode cX1_init 5 = .ok (.lconst 0, 1) := by decide +kernel
theorem dX1_init_6 : decode cX1_init 6 = .ok (.putfield 7, 3) := by decide +kernel
theorem dX1_init_9 : decode cX1_init 9 = .ok (.aload_n 0, 1) := by decide +kernel
theorem dX1_init_10 : decode cX1_init 10 = .ok (.lconst 0, 1) := by decide +kernel
theorem dX1_init_11 : decode cX1_init 11 = .ok (.putfield 13, 3) := by decide +kernel
theorem dX1_init_14 : decode cX1_init 14 = .ok (.return_, 1) := by decide +kernel
theorem dX1_put_0 : decode cX1_put 0 = .ok (.aload_n 0, 1) := by decide +kernel
theorem dX1_put_1 : decode cX1_put 1 = .ok (.lload_n 1, 1) := by decide +kernel
theorem dX1_put_2 : decode cX1_put 2 = .ok (.putfield 7, 3) := by decide +kernel
theorem dX1_put_5 : decode cX1_put 5 = .ok (.aload_n 0, 1) := by decide +kernel
theorem dX1_put_6 : decode cX1_put 6 = .ok (.lload_n 3, 1) := by decide +kernel
theorem dX1_put_7 : decode cX1_put 7 = .ok (.putfield 13, 3) := by decide +kernel
theorem dX1_put_10 : decode cX1_put 10 = .ok (.return_, 1) := by decide +kernel
theorem dX1_add_0 : decode cX1_add 0 = .ok (.aload_n 0, 1) := by decide +kernel
theorem dX1_add_1 : decode cX1_add 1 = .ok (.dup, 1) := by decide +kernel
theorem dX1_add_2 : decode cX1_add 2 = .ok (.getfield 7, 3) := by decide +kernel
theorem dX1_add_5 : decode cX1_add 5 = .ok (.lload_n 1, 1) := by decide +kernel
theorem dX1_add_6 : decode cX1_add 6 = .ok (.lxor, 1) := by decide +kernel
theorem dX1_add_7 : decode cX1_add 7 = .ok (.putfield 7, 3) := by decide +kernel
theorem dX1_add_10 : decode cX1_add 10 = .ok (.aload_n 0, 1) := by decide +kernel
theorem dX1_add_11 : decode cX1_add 11 = .ok (.dup, 1) := by decide +kernel
theorem dX1_add_12 : decode cX1_add 12 = .ok (.getfield 13, 3) := by decide +kernel
theorem dX1_add_15 : decode cX1_add 15 = .ok (.lload_n 3, 1) := by decide +kernel
theorem dX1_add_16 : decode cX1_add 16 = .ok (.lxor, 1) := by decide +kernel
theorem dX1_add_17 : decode cX1_add 17 = .ok (.putfield 13, 3) := by decide +kernel
theorem dX1_add_20 : decode cX1_add 20 = .ok (.return_, 1) := by decide +kernel
theorem dX1_multiply_0 : decode cX1_multiply 0 = .ok (.lconst 0, 1) := by decide +kernel
theorem dX1_multiply_1 : decode cX1_multiply 1 = .ok (.lstore 5, 2) := by decide +kernel
theorem dX1_multiply_3 : decode cX1_multiply 3 = .ok (.lconst 0, 1) := by decide +kernel
theorem dX1_multiply_4 : decode cX1_multiply 4 = .ok (.lstore 7, 2) := by decide +kernel
theorem dX1_multiply_6 : decode cX1_multiply 6 = .ok (.lload_n 1, 1) := by decide +kernel
theorem dX1_multiply_7 : decode cX1_multiply 7 = .ok (.lstore 9, 2) := by decide +kernel
theorem dX1_multiply_9 : decode cX1_multiply 9 = .ok (.lload_n 3, 1) := by decide +kernel
theorem dX1_multiply_10 : decode cX1_multiply 10 = .ok (.lstore 11, 2) := by decide +kernel
theorem dX1_multiply_12 : decode cX1_multiply 12 = .ok (.iconst 0, 1) := by decide +kernel
theorem dX1_multiply_13 : decode cX1_multiply 13 = .ok (.istore 13, 2) := by decide +kernel
theorem dX1_multiply_15 : decode cX1_multiply 15 = .ok (.iload 13, 2) := by decide +kernel
theorem dX1_multiply_17 : decode cX1_multiply 17 = .ok (.sipush 128, 3) := by decide +kernel
theorem dX1_multiply_20 : decode cX1_multiply 20 = .ok (.if_icmp .ge 97, 3) := by decide +kernel
theorem dX1_multiply_23 : decode cX1_multiply 23 = .ok (.iload 13, 2) := by decide +kernel
theorem dX1_multiply_25 : decode cX1_multiply 25 = .ok (.bipush 64, 2) := by decide +kernel
theorem dX1_multiply_27 : decode cX1_multiply 27 = .ok (.if_icmp .ge 10, 3) := by decide +kernel
theorem dX1_multiply_30 : decode cX1_multiply 30 = .ok (.aload_n 0, 1) := by decide +kernel
theorem dX1_multiply_31 : decode cX1_multiply 31 = .ok (.getfield 7, 3) := by decide +kernel
theorem dX1_multiply_34 : decode cX1_multiply 34 = .ok (.goto 7, 3) := by decide +kernel
theorem dX1_multiply_37 : decode cX1_multiply 37 = .ok (.aload_n 0, 1) := by decide +kernel
theorem dX1_multiply_38 : decode cX1_multiply 38 = .ok (.getfield 13, 3) := by decide +kernel
theorem dX1_multiply_41 : decode cX1_multiply 41 = .ok (.lstore 14, 2) := by decide +kernel
theorem dX1_multiply_43 : decode cX1_multiply 43 = .ok (.lload 14, 2) := by decide +kernel
theorem dX1_multiply_45 : decode cX1_multiply 45 = .ok (.bipush 63, 2) := by decide +kernel
theorem dX1_multiply_47 : decode cX1_multiply 47 = .ok (.iload 13, 2) := by decide +kernel
theorem dX1_multiply_49 : decode cX1_multiply 49 = .ok (.bipush 64, 2) := by decide +kernel
theorem dX1_multiply_51 : decode cX1_multiply 51 = .ok (.irem, 1) := by decide +kernel
theorem dX1_multiply_52 : decode cX1_multiply 52 = .ok (.isub, 1) := by decide +kernel
theorem dX1_multiply_53 : decode cX1_multiply 53 = .ok (.lushr, 1) := by decide +kernel
theorem dX1_multiply_54 : decode cX1_multiply 54 = .ok (.lconst 1, 1) := by decide +kernel
theorem dX1_multiply_55 : decode cX1_multiply 55 = .ok (.land, 1) := by decide +kernel
theorem dX1_multiply_56 : decode cX1_multiply 56 = .ok (.lneg, 1) := by decide +kernel
theorem dX1_multiply_57 : decode cX1_multiply 57 = .ok (.lstore 16, 2) := by decide +kernel
theorem dX1_multiply_59 : decode cX1_multiply 59 = .ok (.lload 5, 2) := by decide +kernel
theorem dX1_multiply_61 : decode cX1_multiply 61 = .ok (.lload 9, 2) := by decide +kernel
theorem dX1_multiply_63 : decode cX1_multiply 63 = .ok (.lload 16, 2) := by decide +kernel
theorem dX1_multiply_65 : decode cX1_multiply 65 = .ok (.land, 1) := by decide +kernel
theorem dX1_multiply_66 : decode cX1_multiply 66 = .ok (.lxor, 1) := by decide +kernel
theorem dX1_multiply_67 : decode cX1_multiply 67 = .ok (.lstore 5, 2) := by decide +kernel
theorem dX1_multiply_69 : decode cX1_multiply 69 = .ok (.lload 7, 2) := by decide +kernel
theorem dX1_multiply_71 : decode cX1_multiply 71 = .ok (.lload 11, 2) := by decide +kernel
theorem dX1_multiply_73 : decode cX1_multiply 73 = .ok (.lload 16, 2) := by decide +kernel
theorem dX1_multiply_75 : decode cX1_multiply 75 = .ok (.land, 1) := by decide +kernel
theorem dX1_multiply_76 : decode cX1_multiply 76 = .ok (.lxor, 1) := by decide +kernel
theorem dX1_multiply_77 : decode cX1_multiply 77 = .ok (.lstore 7, 2) := by decide +kernel
theorem dX1_multiply_79 : decode cX1_multiply 79 = .ok (.lload 11, 2) := by decide +kernel
theorem dX1_multiply_81 : decode cX1_multiply 81 = .ok (.lconst 1, 1) := by decide +kernel
theorem dX1_multiply_82 : decode cX1_multiply 82 = .ok (.land, 1) := by decide +kernel
theorem dX1_multiply_83 : decode cX1_multiply 83 = .ok (.lneg, 1) := by decide +kernel
theorem dX1_multiply_84 : decode cX1_multiply 84 = .ok (.lstore 18, 2) := by decide +kernel
theorem dX1_multiply_86 : decode cX1_multiply 86 = .ok (.lload 11, 2) := by decide +kernel
theorem dX1_multiply_88 : decode cX1_multiply 88 = .ok (.iconst 1, 1) := by decide +kernel
theorem dX1_multiply_89 : decode cX1_multiply 89 = .ok (.lushr, 1) := by decide +kernel
theorem dX1_multiply_90 : decode cX1_multiply 90 = .ok (.lload 9, 2) := by decide +kernel
theorem dX1_multiply_92 : decode cX1_multiply 92 = .ok (.bipush 63, 2) := by decide +kernel
theorem dX1_multiply_94 : decode cX1_multiply 94 = .ok (.lshl, 1) := by decide +kernel
theorem dX1_multiply_95 : decode cX1_multiply 95 = .ok (.lor, 1) := by decide +kernel
theorem dX1_multiply_96 : decode cX1_multiply 96 = .ok (.lstore 11, 2) := by decide +kernel
theorem dX1_multiply_98 : decode cX1_multiply 98 = .ok (.lload 9, 2) := by decide +kernel
theorem dX1_multiply_100 : decode cX1_multiply 100 = .ok (.iconst 1, 1) := by decide +kernel
