theorem dX3_encrypt_15 : decode cX3_encrypt 15 = .ok (.aload_n 0, 1) := by decide +kernel
theorem dX3_encrypt_16 : decode cX3_encrypt 16 = .ok (.invokevirtual 89, 3) := by decide +kernel
theorem dX3_encrypt_19 : decode cX3_encrypt 19 = .ok (.iload 5, 2) := by decide +kernel
theorem dX3_encrypt_21 : decode cX3_encrypt 21 = .ok (.ifCond .eq 10, 3) := by decide +kernel
theorem dX3_encrypt_24 : decode cX3_encrypt 24 = .ok (.aload_n 0, 1) := by decide +kernel
theorem dX3_encrypt_25 : decode cX3_encrypt 25 = .ok (.getfield 72, 3) := by decide +kernel
theorem dX3_encrypt_28 : decode cX3_encrypt 28 = .ok (.goto 7, 3) := by decide +kernel
theorem dX3_encrypt_31 : decode cX3_encrypt 31 = .ok (.aload_n 0, 1) := by decide +kernel
theorem dX3_encrypt_32 : decode cX3_encrypt 32 = .ok (.getfield 68, 3) := by decide +kernel
theorem dX3_encrypt_35 : decode cX3_encrypt 35 = .ok (.lreturn, 1) := by decide +kernel
theorem dX3_decrypt_0 : decode cX3_decrypt 0 = .ok (.aload_n 0, 1) := by decide +kernel
theorem dX3_decrypt_1 : decode cX3_decrypt 1 = .ok (.iconst 0, 1) := by decide +kernel
theorem dX3_decrypt_2 : decode cX3_decrypt 2 = .ok (.putfield 43, 3) := by decide +kernel
theorem dX3_decrypt_5 : decode cX3_decrypt 5 = .ok (.aload_n 0, 1) := by decide +kernel
theorem dX3_decrypt_6 : decode cX3_decrypt 6 = .ok (.lload_n 1, 1) := by decide +kernel
theorem dX3_decrypt_7 : decode cX3_decrypt 7 = .ok (.lload_n 3, 1) := by decide +kernel
theorem dX3_decrypt_8 : decode cX3_decrypt 8 = .ok (.invokevirtual 83, 3) := by decide +kernel
theorem dX3_decrypt_11 : decode cX3_decrypt 11 = .ok (.aload_n 0, 1) := by decide +kernel
theorem dX3_decrypt_12 : decode cX3_decrypt 12 = .ok (.invokevirtual 92, 3) := by decide +kernel
theorem dX3_decrypt_15 : decode cX3_decrypt 15 = .ok (.aload_n 0, 1) := by decide +kernel
theorem dX3_decrypt_16 : decode cX3_decrypt 16 = .ok (.invokevirtual 89, 3) := by decide +kernel
theorem dX3_decrypt_19 : decode cX3_decrypt 19 = .ok (.iload 5, 2) := by decide +kernel
theorem dX3_decrypt_21 : decode cX3_decrypt 21 = .ok (.ifCond .eq 10, 3) := by decide +kernel
theorem dX3_decrypt_24 : decode cX3_decrypt 24 = .ok (.aload_n 0, 1) := by decide +kernel
theorem dX3_decrypt_25 : decode cX3_decrypt 25 = .ok (.getfield 72, 3) := by decide +kernel
theorem dX3_decrypt_28 : decode cX3_decrypt 28 = .ok (.goto 7, 3) := by decide +kernel
theorem dX3_decrypt_31 : decode cX3_decrypt 31 = .ok (.aload_n 0, 1) := by decide +kernel
theorem dX3_decrypt_32 : decode cX3_decrypt 32 = .ok (.getfield 68, 3) := by decide +kernel
theorem dX3_decrypt_35 : decode cX3_decrypt 35 = .ok (.lreturn, 1) := by decide +kernel
theorem dX3_multiply_0 : decode cX3_multiply 0 = .ok (.lconst 0, 1) := by decide +kernel
theorem dX3_multiply_1 : decode cX3_multiply 1 = .ok (.lstore 5, 2) := by decide +kernel
theorem dX3_multiply_3 : decode cX3_multiply 3 = .ok (.lconst 0, 1) := by decide +kernel
theorem dX3_multiply_4 : decode cX3_multiply 4 = .ok (.lstore 7, 2) := by decide +kernel
theorem dX3_multiply_6 : decode cX3_multiply 6 = .ok (.lload_n 1, 1) := by decide +kernel
theorem dX3_multiply_7 : decode cX3_multiply 7 = .ok (.lstore 9, 2) := by decide +kernel
theorem dX3_multiply_9 : decode cX3_multiply 9 = .ok (.lload_n 3, 1) := by decide +kernel
theorem dX3_multiply_10 : decode cX3_multiply 10 = .ok (.lstore 11, 2) := by decide +kernel
theorem dX3_multiply_12 : decode cX3_multiply 12 = .ok (.iconst 0, 1) := by decide +kernel
theorem dX3_multiply_13 : decode cX3_multiply 13 = .ok (.istore 13, 2) := by decide +kernel
theorem dX3_multiply_15 : decode cX3_multiply 15 = .ok (.iload 13, 2) := by decide +kernel
theorem dX3_multiply_17 : decode cX3_multiply 17 = .ok (.sipush 128, 3) := by decide +kernel
theorem dX3_multiply_20 : decode cX3_multiply 20 = .ok (.if_icmp .ge 133, 3) := by decide +kernel
theorem dX3_multiply_23 : decode cX3_multiply 23 = .ok (.iload 13, 2) := by decide +kernel
theorem dX3_multiply_25 : decode cX3_multiply 25 = .ok (.bipush 64, 2) := by decide +kernel
theorem dX3_multiply_27 : decode cX3_multiply 27 = .ok (.if_icmp .ge 18, 3) := by decide +kernel
theorem dX3_multiply_30 : decode cX3_multiply 30 = .ok (.aload_n 0, 1) := by decide +kernel
theorem dX3_multiply_31 : decode cX3_multiply 31 = .ok (.getfield 68, 3) := by decide +kernel
theorem dX3_multiply_34 : decode cX3_multiply 34 = .ok (.bipush 63, 2) := by decide +kernel
theorem dX3_multiply_36 : decode cX3_multiply 36 = .ok (.iload 13, 2) := by decide +kernel
theorem dX3_multiply_38 : decode cX3_multiply 38 = .ok (.isub, 1) := by decide +kernel
theorem dX3_multiply_39 : decode cX3_multiply 39 = .ok (.lshr, 1) := by decide +kernel
theorem dX3_multiply_40 : decode cX3_multiply 40 = .ok (.lconst 1, 1) := by decide +kernel
theorem dX3_multiply_41 : decode cX3_multiply 41 = .ok (.land, 1) := by decide +kernel
theorem dX3_multiply_42 : decode cX3_multiply 42 = .ok (.goto 15, 3) := by decide +kernel
theorem dX3_multiply_45 : decode cX3_multiply 45 = .ok (.aload_n 0, 1) := by decide +kernel
theorem dX3_multiply_46 : decode cX3_multiply 46 = .ok (.getfield 72, 3) := by decide +kernel
theorem dX3_multiply_49 : decode cX3_multiply 49 = .ok (.bipush 127, 2) := by decide +kernel
theorem dX3_multiply_51 : decode cX3_multiply 51 = .ok (.iload 13, 2) := by decide +kernel
theorem dX3_multiply_53 : decode cX3_multiply 53 = .ok (.isub, 1) := by decide +kernel
theorem dX3_multiply_54 : decode cX3_multiply 54 = .ok (.lshr, 1) := by decide +kernel
theorem dX3_multiply_55 : decode cX3_multiply 55 = .ok (.lconst 1, 1) := by decide +kernel
theorem dX3_multiply_56 : decode cX3_multiply 56 = .ok (.land, 1) := by decide +kernel
theorem dX3_multiply_57 : decode cX3_multiply 57 = .ok (.lstore 14, 2) := by decide +kernel
theorem dX3_multiply_59 : decode cX3_multiply 59 = .ok (.lload 14, 2) := by decide +kernel
theorem dX3_multiply_61 : decode cX3_multiply 61 = .ok (.lconst 1, 1) := by decide +kernel
theorem dX3_multiply_62 : decode cX3_multiply 62 = .ok (.lcmp, 1) := by decide +kernel
theorem dX3_multiply_63 : decode cX3_multiply 63 = .ok (.ifCond .ne 11, 3) := by decide +kernel
theorem dX3_multiply_66 : decode cX3_multiply 66 = .ok (.lload 5, 2) := by decide +kernel
theorem dX3_multiply_68 : decode cX3_multiply 68 = .ok (.lload 9, 2) := by decide +kernel
theorem dX3_multiply_70 : decode cX3_multiply 70 = .ok (.lxor, 1) := by decide +kernel
theorem dX3_multiply_71 : decode cX3_multiply 71 = .ok (.goto 5, 3) := by decide +kernel
theorem dX3_multiply_74 : decode cX3_multiply 74 = .ok (.lload 5, 2) := by decide +kernel
theorem dX3_multiply_76 : decode cX3_multiply 76 = .ok (.lstore 5, 2) := by decide +kernel
theorem dX3_multiply_78 : decode cX3_multiply 78 = .ok (.lload 14, 2) := by decide +kernel
theorem dX3_multiply_80 : decode cX3_multiply 80 = .ok (.lconst 1, 1) := by decide +kernel
theorem dX3_multiply_81 : decode cX3_multiply 81 = .ok (.lcmp, 1) := by decide +kernel
theorem dX3_multiply_82 : decode cX3_multiply 82 = .ok (.ifCond .ne 11, 3) := by decide +kernel
theorem dX3_multiply_85 : decode cX3_multiply 85 = .ok (.lload 7, 2) := by decide +kernel
theorem dX3_multiply_87 : decode cX3_multiply 87 = .ok (.lload 11, 2) := by decide +kernel
theorem dX3_multiply_89 : decode cX3_multiply 89 = .ok (.lxor, 1) := by decide +kernel
theorem dX3_multiply_90 : decode cX3_multiply 90 = .ok (.goto 5, 3) := by decide +kernel
theorem dX3_multiply_93 : decode cX3_multiply 93 = .ok (.lload 7, 2) := by decide +kernel
theorem dX3_multiply_95 : decode cX3_multiply 95 = .ok (.lstore 7, 2) := by decide +kernel
theorem dX3_multiply_97 : decode cX3_multiply 97 = .ok (.lload 11, 2) := by decide +kernel
theorem dX3_multiply_99 : decode cX3_multiply 99 = .ok (.lconst 1, 1) := by decide +kernel
theorem dX3_multiply_100 : decode cX3_multiply 100 = .ok (.land, 1) := by decide +kernel
theorem dX3_multiply_101 : decode cX3_multiply 101 = .ok (.lconst 1, 1) := by decide +kernel
theorem dX3_multiply_102 : decode cX3_multiply 102 = .ok (.lcmp, 1) := by decide +kernel
theorem dX3_multiply_103 : decode cX3_multiply 103 = .ok (.ifCond .ne 7, 3) := by decide +kernel
theorem dX3_multiply_106 : decode cX3_multiply 106 = .ok (.iconst 1, 1) := by decide +kernel
theorem dX3_multiply_107 : decode cX3_multiply 107 = .ok (.goto 4, 3) := by decide +kernel
theorem dX3_multiply_110 : decode cX3_multiply 110 = .ok (.iconst 0, 1) := by decide +kernel
theorem dX3_multiply_111 : decode cX3_multiply 111 = .ok (.istore 16, 2) := by decide +kernel
theorem dX3_multiply_113 : decode cX3_multiply 113 = .ok (.lload 11, 2) := by decide +kernel
theorem dX3_multiply_115 : decode cX3_multiply 115 = .ok (.iconst 1, 1) := by decide +kernel
theorem dX3_multiply_116 : decode cX3_multiply 116 = .ok (.lushr, 1) := by decide +kernel
theorem dX3_multiply_117 : decode cX3_multiply 117 = .ok (.lload 9, 2) := by decide +kernel
theorem dX3_multiply_119 : decode cX3_multiply 119 = .ok (.bipush 63, 2) := by decide +kernel
theorem dX3_multiply_121 : decode cX3_multiply 121 = .ok (.lshl, 1) := by decide +kernel
theorem dX3_multiply_122 : decode cX3_multiply 122 = .ok (.lor, 1) := by decide +kernel
theorem dX3_multiply_123 : decode cX3_multiply 123 = .ok (.lstore 11, 2) := by decide +kernel
theorem dX3_multiply_125 : decode cX3_multiply 125 = .ok (.iload 16, 2) := by decide +kernel
theorem dX3_multiply_127 : decode cX3_multiply 127 = .ok (.ifCond .eq 14, 3) := by decide +kernel
theorem dX3_multiply_130 : decode cX3_multiply 130 = .ok (.lload 9, 2) := by decide +kernel
theorem dX3_multiply_132 : decode cX3_multiply 132 = .ok (.iconst 1, 1) := by decide +kernel
theorem dX3_multiply_133 : decode cX3_multiply 133 = .ok (.lushr, 1) := by decide +kernel
theorem dX3_multiply_134 : decode cX3_multiply 134 = .ok (.ldc2_w 95, 3) := by decide +kernel
theorem dX3_multiply_137 : decode cX3_multiply 137 = .ok (.lxor, 1) := by decide +kernel
theorem dX3_multiply_138 : decode cX3_multiply 138 = .ok (.goto 7, 3) := by decide +kernel
theorem dX3_multiply_141 : decode cX3_multiply 141 = .ok (.lload 9, 2) := by decide +kernel
theorem dX3_multiply_143 : decode cX3_multiply 143 = .ok (.iconst 1, 1) := by decide +kernel
theorem dX3_multiply_144 : decode cX3_multiply 144 = .ok (.lushr, 1) := by decide +kernel
theorem dX3_multiply_145 : decode cX3_multiply 145 = .ok (.lstore 9, 2) := by decide +kernel
theorem dX3_multiply_147 : decode cX3_multiply 147 = .ok (.iinc 13 1, 3) := by decide +kernel
theorem dX3_multiply_150 : decode cX3_multiply 150 = .ok (.goto (-135), 3) := by decide +kernel
theorem dX3_multiply_153 : decode cX3_multiply 153 = .ok (.aload_n 0, 1) := by decide +kernel
theorem dX3_multiply_154 : decode cX3_multiply 154 = .ok (.lload 5, 2) := by decide +kernel
theorem dX3_multiply_156 : decode cX3_multiply 156 = .ok (.putfield 68, 3) := by decide +kernel
theorem dX3_multiply_159 : decode cX3_multiply 159 = .ok (.aload_n 0, 1) := by decide +kernel
theorem dX3_multiply_160 : decode cX3_multiply 160 = .ok (.lload 7, 2) := by decide +kernel
theorem dX3_multiply_162 : decode cX3_multiply 162 = .ok (.putfield 72, 3) := by decide +kernel
theorem dX3_multiply_165 : decode cX3_multiply 165 = .ok (.return_, 1) := by decide +kernel
theorem dX3_product_0 : decode cX3_product 0 = .ok (.aload_n 0, 1) := by decide +kernel
theorem dX3_product_1 : decode cX3_product 1 = .ok (.iconst 0, 1) := by decide +kernel
theorem dX3_product_2 : decode cX3_product 2 = .ok (.putfield 43, 3) := by decide +kernel
theorem dX3_product_5 : decode cX3_product 5 = .ok (.aload_n 0, 1) := by decide +kernel
theorem dX3_product_6 : decode cX3_product 6 = .ok (.lload_n 1, 1) := by decide +kernel
theorem dX3_product_7 : decode cX3_product 7 = .ok (.putfield 68, 3) := by decide +kernel
theorem dX3_product_10 : decode cX3_product 10 = .ok (.aload_n 0, 1) := by decide +kernel
theorem dX3_product_11 : decode cX3_product 11 = .ok (.lload_n 3, 1) := by decide +kernel
theorem dX3_product_12 : decode cX3_product 12 = .ok (.putfield 72, 3) := by decide +kernel
theorem dX3_product_15 : decode cX3_product 15 = .ok (.aload_n 0, 1) := by decide +kernel
theorem dX3_product_16 : decode cX3_product 16 = .ok (.lload 5, 2) := by decide +kernel
theorem dX3_product_18 : decode cX3_product 18 = .ok (.lload 7, 2) := by decide +kernel
theorem dX3_product_20 : decode cX3_product 20 = .ok (.invokevirtual 97, 3) := by decide +kernel
theorem dX3_product_23 : decode cX3_product 23 = .ok (.iload 9, 2) := by decide +kernel
theorem dX3_product_25 : decode cX3_product 25 = .ok (.ifCond .eq 10, 3) := by decide +kernel
theorem dX3_product_28 : decode cX3_product 28 = .ok (.aload_n 0, 1) := by decide +kernel
theorem dX3_product_29 : decode cX3_product 29 = .ok (.getfield 72, 3) := by decide +kernel
theorem dX3_product_32 : decode cX3_product 32 = .ok (.goto 7, 3) := by decide +kernel
theorem dX3_product_35 : decode cX3_product 35 = .ok (.aload_n 0, 1) := by decide +kernel
theorem dX3_product_36 : decode cX3_product 36 = .ok (.getfield 68, 3) := by decide +kernel
theorem dX3_product_39 : decode cX3_product 39 = .ok (.lreturn, 1) := by decide +kernel
theorem dX3_start_0 : decode cX3_start 0 = .ok (.aload_n 0, 1) := by decide +kernel
theorem dX3_start_1 : decode cX3_start 1 = .ok (.iconst 0, 1) := by decide +kernel
theorem dX3_start_2 : decode cX3_start 2 = .ok (.putfield 43, 3) := by decide +kernel
theorem dX3_start_5 : decode cX3_start 5 = .ok (.aload_n 0, 1) := by decide +kernel
theorem dX3_start_6 : decode cX3_start 6 = .ok (.iload_n 1, 1) := by decide +kernel
theorem dX3_start_7 : decode cX3_start 7 = .ok (.putfield 100, 3) := by decide +kernel
theorem dX3_start_10 : decode cX3_start 10 = .ok (.aload_n 0, 1) := by decide +kernel
theorem dX3_start_11 : decode cX3_start 11 = .ok (.lload_n 2, 1) := by decide +kernel
theorem dX3_start_12 : decode cX3_start 12 = .ok (.putfield 104, 3) := by decide +kernel
theorem dX3_start_15 : decode cX3_start 15 = .ok (.aload_n 0, 1) := by decide +kernel
theorem dX3_start_16 : decode cX3_start 16 = .ok (.iload 4, 2) := by decide +kernel
theorem dX3_start_18 : decode cX3_start 18 = .ok (.putfield 107, 3) := by decide +kernel
theorem dX3_start_21 : decode cX3_start 21 = .ok (.aload_n 0, 1) := by decide +kernel
theorem dX3_start_22 : decode cX3_start 22 = .ok (.iconst 0, 1) := by decide +kernel
theorem dX3_start_23 : decode cX3_start 23 = .ok (.putfield 56, 3) := by decide +kernel
theorem dX3_start_26 : decode cX3_start 26 = .ok (.aload_n 0, 1) := by decide +kernel
theorem dX3_start_27 : decode cX3_start 27 = .ok (.iconst 0, 1) := by decide +kernel
theorem dX3_start_28 : decode cX3_start 28 = .ok (.putfield 59, 3) := by decide +kernel
theorem dX3_start_31 : decode cX3_start 31 = .ok (.aload_n 0, 1) := by decide +kernel
theorem dX3_start_32 : decode cX3_start 32 = .ok (.iconst 1, 1) := by decide +kernel
theorem dX3_start_33 : decode cX3_start 33 = .ok (.putfield 53, 3) := by decide +kernel
theorem dX3_start_36 : decode cX3_start 36 = .ok (.return_, 1) := by decide +kernel
theorem dX3_counter_0 : decode cX3_counter 0 = .ok (.aload_n 0, 1) := by decide +kernel
theorem dX3_counter_1 : decode cX3_counter 1 = .ok (.aload_n 0, 1) := by decide +kernel
theorem dX3_counter_2 : decode cX3_counter 2 = .ok (.getfield 104, 3) := by decide +kernel
theorem dX3_counter_5 : decode cX3_counter 5 = .ok (.aload_n 0, 1) := by decide +kernel
theorem dX3_counter_6 : decode cX3_counter 6 = .ok (.getfield 107, 3) := by decide +kernel
theorem dX3_counter_9 : decode cX3_counter 9 = .ok (.i2l, 1) := by decide +kernel
theorem dX3_counter_10 : decode cX3_counter 10 = .ok (.bipush 32, 2) := by decide +kernel
theorem dX3_counter_12 : decode cX3_counter 12 = .ok (.lshl, 1) := by decide +kernel
theorem dX3_counter_13 : decode cX3_counter 13 = .ok (.iload_n 1, 1) := by decide +kernel
theorem dX3_counter_14 : decode cX3_counter 14 = .ok (.i2l, 1) := by decide +kernel
theorem dX3_counter_15 : decode cX3_counter 15 = .ok (.lor, 1) := by decide +kernel
theorem dX3_counter_16 : decode cX3_counter 16 = .ok (.invokevirtual 83, 3) := by decide +kernel
theorem dX3_counter_19 : decode cX3_counter 19 = .ok (.aload_n 0, 1) := by decide +kernel
theorem dX3_counter_20 : decode cX3_counter 20 = .ok (.invokevirtual 86, 3) := by decide +kernel
theorem dX3_counter_23 : decode cX3_counter 23 = .ok (.return_, 1) := by decide +kernel
theorem dX3_mask_0 : decode cX3_mask 0 = .ok (.aload_n 0, 1) := by decide +kernel
theorem dX3_mask_1 : decode cX3_mask 1 = .ok (.iconst 2, 1) := by decide +kernel
theorem dX3_mask_2 : decode cX3_mask 2 = .ok (.iload_n 1, 1) := by decide +kernel
theorem dX3_mask_3 : decode cX3_mask 3 = .ok (.bipush 16, 2) := by decide +kernel
theorem dX3_mask_5 : decode cX3_mask 5 = .ok (.idiv, 1) := by decide +kernel
theorem dX3_mask_6 : decode cX3_mask 6 = .ok (.iadd, 1) := by decide +kernel
theorem dX3_mask_7 : decode cX3_mask 7 = .ok (.invokevirtual 110, 3) := by decide +kernel
theorem dX3_mask_10 : decode cX3_mask 10 = .ok (.aload_n 0, 1) := by decide +kernel
theorem dX3_mask_11 : decode cX3_mask 11 = .ok (.getfield 19, 3) := by decide +kernel
theorem dX3_mask_14 : decode cX3_mask 14 = .ok (.iload_n 1, 1) := by decide +kernel
theorem dX3_mask_15 : decode cX3_mask 15 = .ok (.bipush 16, 2) := by decide +kernel
theorem dX3_mask_17 : decode cX3_mask 17 = .ok (.irem, 1) := by decide +kernel
theorem dX3_mask_18 : decode cX3_mask 18 = .ok (.iaload, 1) := by decide +kernel
theorem dX3_mask_19 : decode cX3_mask 19 = .ok (.ireturn, 1) := by decide +kernel
theorem dX3_aside_0 : decode cX3_aside 0 = .ok (.aload_n 0, 1) := by decide +kernel
theorem dX3_aside_1 : decode cX3_aside 1 = .ok (.aload_n 0, 1) := by decide +kernel
theorem dX3_aside_2 : decode cX3_aside 2 = .ok (.getfield 53, 3) := by decide +kernel
theorem dX3_aside_5 : decode cX3_aside 5 = .ok (.iconst 1, 1) := by decide +kernel
theorem dX3_aside_6 : decode cX3_aside 6 = .ok (.if_icmp .eq 7, 3) := by decide +kernel
theorem dX3_aside_9 : decode cX3_aside 9 = .ok (.iconst 1, 1) := by decide +kernel
theorem dX3_aside_10 : decode cX3_aside 10 = .ok (.goto 4, 3) := by decide +kernel
theorem dX3_aside_13 : decode cX3_aside 13 = .ok (.iconst 0, 1) := by decide +kernel
theorem dX3_aside_14 : decode cX3_aside 14 = .ok (.iload_n 3, 1) := by decide +kernel
theorem dX3_aside_15 : decode cX3_aside 15 = .ok (.ifCond .lt 9, 3) := by decide +kernel
theorem dX3_aside_18 : decode cX3_aside 18 = .ok (.iload_n 3, 1) := by decide +kernel
theorem dX3_aside_19 : decode cX3_aside 19 = .ok (.bipush 8, 2) := by decide +kernel
theorem dX3_aside_21 : decode cX3_aside 21 = .ok (.if_icmp .le 7, 3) := by decide +kernel
theorem dX3_aside_24 : decode cX3_aside 24 = .ok (.iconst 1, 1) := by decide +kernel
theorem dX3_aside_25 : decode cX3_aside 25 = .ok (.goto 4, 3) := by decide +kernel
theorem dX3_aside_28 : decode cX3_aside 28 = .ok (.iconst 0, 1) := by decide +kernel
theorem dX3_aside_29 : decode cX3_aside 29 = .ok (.aload_n 0, 1) := by decide +kernel
theorem dX3_aside_30 : decode cX3_aside 30 = .ok (.getfield 56, 3) := by decide +kernel
theorem dX3_aside_33 : decode cX3_aside 33 = .ok (.iload_n 3, 1) := by decide +kernel
theorem dX3_aside_34 : decode cX3_aside 34 = .ok (.iadd, 1) := by decide +kernel
theorem dX3_aside_35 : decode cX3_aside 35 = .ok (.bipush 48, 2) := by decide +kernel
theorem dX3_aside_37 : decode cX3_aside 37 = .ok (.if_icmp .le 7, 3) := by decide +kernel
theorem dX3_aside_40 : decode cX3_aside 40 = .ok (.iconst 1, 1) := by decide +kernel
theorem dX3_aside_41 : decode cX3_aside 41 = .ok (.goto 4, 3) := by decide +kernel
theorem dX3_aside_44 : decode cX3_aside 44 = .ok (.iconst 0, 1) := by decide +kernel
theorem dX3_aside_45 : decode cX3_aside 45 = .ok (.invokevirtual 62, 3) := by decide +kernel
theorem dX3_aside_48 : decode cX3_aside 48 = .ok (.ifCond .eq 5, 3) := by decide +kernel
theorem dX3_aside_51 : decode cX3_aside 51 = .ok (.iconst 0, 1) := by decide +kernel
theorem dX3_aside_52 : decode cX3_aside 52 = .ok (.ireturn, 1) := by decide +kernel
theorem dX3_aside_53 : decode cX3_aside 53 = .ok (.iconst 0, 1) := by decide +kernel
theorem dX3_aside_54 : decode cX3_aside 54 = .ok (.istore 4, 2) := by decide +kernel
theorem dX3_aside_56 : decode cX3_aside 56 = .ok (.iload 4, 2) := by decide +kernel
theorem dX3_aside_58 : decode cX3_aside 58 = .ok (.iload_n 3, 1) := by decide +kernel
theorem dX3_aside_59 : decode cX3_aside 59 = .ok (.if_icmp .ge 40, 3) := by decide +kernel
theorem dX3_aside_62 : decode cX3_aside 62 = .ok (.aload_n 0, 1) := by decide +kernel
theorem dX3_aside_63 : decode cX3_aside 63 = .ok (.getfield 25, 3) := by decide +kernel
theorem dX3_aside_66 : decode cX3_aside 66 = .ok (.aload_n 0, 1) := by decide +kernel
theorem dX3_aside_67 : decode cX3_aside 67 = .ok (.getfield 56, 3) := by decide +kernel
theorem dX3_aside_70 : decode cX3_aside 70 = .ok (.lload_n 1, 1) := by decide +kernel
theorem dX3_aside_71 : decode cX3_aside 71 = .ok (.bipush 8, 2) := by decide +kernel
theorem dX3_aside_73 : decode cX3_aside 73 = .ok (.iload 4, 2) := by decide +kernel
theorem dX3_aside_75 : decode cX3_aside 75 = .ok (.imul, 1) := by decide +kernel
theorem dX3_aside_76 : decode cX3_aside 76 = .ok (.lshr, 1) := by decide +kernel
theorem dX3_aside_77 : decode cX3_aside 77 = .ok (.ldc2_w 66, 3) := by decide +kernel
theorem dX3_aside_80 : decode cX3_aside 80 = .ok (.land, 1) := by decide +kernel
theorem dX3_aside_81 : decode cX3_aside 81 = .ok (.l2i, 1) := by decide +kernel
theorem dX3_aside_82 : decode cX3_aside 82 = .ok (.iastore, 1) := by decide +kernel
theorem dX3_aside_83 : decode cX3_aside 83 = .ok (.aload_n 0, 1) := by decide +kernel
theorem dX3_aside_84 : decode cX3_aside 84 = .ok (.dup, 1) := by decide +kernel
theorem dX3_aside_85 : decode cX3_aside 85 = .ok (.getfield 56, 3) := by decide +kernel
theorem dX3_aside_88 : decode cX3_aside 88 = .ok (.iconst 1, 1) := by decide +kernel
theorem dX3_aside_89 : decode cX3_aside 89 = .ok (.iadd, 1) := by decide +kernel
theorem dX3_aside_90 : decode cX3_aside 90 = .ok (.putfield 56, 3) := by decide +kernel
theorem dX3_aside_93 : decode cX3_aside 93 = .ok (.iinc 4 1, 3) := by decide +kernel
theorem dX3_aside_96 : decode cX3_aside 96 = .ok (.goto (-40), 3) := by decide +kernel
theorem dX3_aside_99 : decode cX3_aside 99 = .ok (.aload_n 0, 1) := by decide +kernel
theorem dX3_aside_100 : decode cX3_aside 100 = .ok (.getfield 56, 3) := by decide +kernel
theorem dX3_aside_103 : decode cX3_aside 103 = .ok (.ireturn, 1) := by decide +kernel
theorem dX3_text_0 : decode cX3_text 0 = .ok (.aload_n 0, 1) := by decide +kernel
theorem dX3_text_1 : decode cX3_text 1 = .ok (.aload_n 0, 1) := by decide +kernel
theorem dX3_text_2 : decode cX3_text 2 = .ok (.getfield 53, 3) := by decide +kernel
theorem dX3_text_5 : decode cX3_text 5 = .ok (.iconst 1, 1) := by decide +kernel
theorem dX3_text_6 : decode cX3_text 6 = .ok (.if_icmp .eq 15, 3) := by decide +kernel
theorem dX3_text_9 : decode cX3_text 9 = .ok (.aload_n 0, 1) := by decide +kernel
theorem dX3_text_10 : decode cX3_text 10 = .ok (.getfield 53, 3) := by decide +kernel
theorem dX3_text_13 : decode cX3_text 13 = .ok (.iconst 2, 1) := by decide +kernel
theorem dX3_text_14 : decode cX3_text 14 = .ok (.if_icmp .eq 7, 3) := by decide +kernel
theorem dX3_text_17 : decode cX3_text 17 = .ok (.iconst 1, 1) := by decide +kernel
theorem dX3_text_18 : decode cX3_text 18 = .ok (.goto 4, 3) := by decide +kernel
theorem dX3_text_21 : decode cX3_text 21 = .ok (.iconst 0, 1) := by decide +kernel
theorem dX3_text_22 : decode cX3_text 22 = .ok (.iload_n 3, 1) := by decide +kernel
theorem dX3_text_23 : decode cX3_text 23 = .ok (.ifCond .lt 9, 3) := by decide +kernel
theorem dX3_text_26 : decode cX3_text 26 = .ok (.iload_n 3, 1) := by decide +kernel
theorem dX3_text_27 : decode cX3_text 27 = .ok (.bipush 8, 2) := by decide +kernel
theorem dX3_text_29 : decode cX3_text 29 = .ok (.if_icmp .le 7, 3) := by decide +kernel
theorem dX3_text_32 : decode cX3_text 32 = .ok (.iconst 1, 1) := by decide +kernel
theorem dX3_text_33 : decode cX3_text 33 = .ok (.goto 4, 3) := by decide +kernel
theorem dX3_text_36 : decode cX3_text 36 = .ok (.iconst 0, 1) := by decide +kernel
theorem dX3_text_37 : decode cX3_text 37 = .ok (.aload_n 0, 1) := by decide +kernel
theorem dX3_text_38 : decode cX3_text 38 = .ok (.getfield 59, 3) := by decide +kernel
theorem dX3_text_41 : decode cX3_text 41 = .ok (.iload_n 3, 1) := by decide +kernel
theorem dX3_text_42 : decode cX3_text 42 = .ok (.iadd, 1) := by decide +kernel
theorem dX3_text_43 : decode cX3_text 43 = .ok (.bipush 96, 2) := by decide +kernel
theorem dX3_text_45 : decode cX3_text 45 = .ok (.if_icmp .le 7, 3) := by decide +kernel
theorem dX3_text_48 : decode cX3_text 48 = .ok (.iconst 1, 1) := by decide +kernel
theorem dX3_text_49 : decode cX3_text 49 = .ok (.goto 4, 3) := by decide +kernel
theorem dX3_text_52 : decode cX3_text 52 = .ok (.iconst 0, 1) := by decide +kernel
theorem dX3_text_53 : decode cX3_text 53 = .ok (.invokevirtual 62, 3) := by decide +kernel
theorem dX3_text_56 : decode cX3_text 56 = .ok (.ifCond .eq 5, 3) := by decide +kernel
theorem dX3_text_59 : decode cX3_text 59 = .ok (.lconst 0, 1) := by decide +kernel
theorem dX3_text_60 : decode cX3_text 60 = .ok (.lreturn, 1) := by decide +kernel
theorem dX3_text_61 : decode cX3_text 61 = .ok (.aload_n 0, 1) := by decide +kernel
theorem dX3_text_62 : decode cX3_text 62 = .ok (.iconst 2, 1) := by decide +kernel
theorem dX3_text_63 : decode cX3_text 63 = .ok (.putfield 53, 3) := by decide +kernel
theorem dX3_text_66 : decode cX3_text 66 = .ok (.lconst 0, 1) := by decide +kernel
theorem dX3_text_67 : decode cX3_text 67 = .ok (.lstore 4, 2) := by decide +kernel
theorem dX3_text_69 : decode cX3_text 69 = .ok (.iconst 0, 1) := by decide +kernel
theorem dX3_text_70 : decode cX3_text 70 = .ok (.istore 6, 2) := by decide +kernel
theorem dX3_text_72 : decode cX3_text 72 = .ok (.iload 6, 2) := by decide +kernel
theorem dX3_text_74 : decode cX3_text 74 = .ok (.iload_n 3, 1) := by decide +kernel
theorem dX3_text_75 : decode cX3_text 75 = .ok (.if_icmp .ge 81, 3) := by decide +kernel
theorem dX3_text_78 : decode cX3_text 78 = .ok (.aload_n 0, 1) := by decide +kernel
theorem dX3_text_79 : decode cX3_text 79 = .ok (.getfield 28, 3) := by decide +kernel
theorem dX3_text_82 : decode cX3_text 82 = .ok (.aload_n 0, 1) := by decide +kernel
theorem dX3_text_83 : decode cX3_text 83 = .ok (.getfield 59, 3) := by decide +kernel
theorem dX3_text_86 : decode cX3_text 86 = .ok (.lload_n 1, 1) := by decide +kernel
theorem dX3_text_87 : decode cX3_text 87 = .ok (.bipush 8, 2) := by decide +kernel
theorem dX3_text_89 : decode cX3_text 89 = .ok (.iload 6, 2) := by decide +kernel
theorem dX3_text_91 : decode cX3_text 91 = .ok (.imul, 1) := by decide +kernel
theorem dX3_text_92 : decode cX3_text 92 = .ok (.lshr, 1) := by decide +kernel
theorem dX3_text_93 : decode cX3_text 93 = .ok (.ldc2_w 66, 3) := by decide +kernel
theorem dX3_text_96 : decode cX3_text 96 = .ok (.land, 1) := by decide +kernel
theorem dX3_text_97 : decode cX3_text 97 = .ok (.l2i, 1) := by decide +kernel
theorem dX3_text_98 : decode cX3_text 98 = .ok (.iastore, 1) := by decide +kernel
theorem dX3_text_99 : decode cX3_text 99 = .ok (.aload_n 0, 1) := by decide +kernel
theorem dX3_text_100 : decode cX3_text 100 = .ok (.getfield 100, 3) := by decide +kernel
theorem dX3_text_103 : decode cX3_text 103 = .ok (.ifCond .eq 7, 3) := by decide +kernel
theorem dX3_text_106 : decode cX3_text 106 = .ok (.lconst 0, 1) := by decide +kernel
theorem dX3_text_107 : decode cX3_text 107 = .ok (.goto 31, 3) := by decide +kernel
theorem dX3_text_110 : decode cX3_text 110 = .ok (.lload 4, 2) := by decide +kernel
theorem dX3_text_112 : decode cX3_text 112 = .ok (.aload_n 0, 1) := by decide +kernel
theorem dX3_text_113 : decode cX3_text 113 = .ok (.getfield 28, 3) := by decide +kernel
theorem dX3_text_116 : decode cX3_text 116 = .ok (.aload_n 0, 1) := by decide +kernel
theorem dX3_text_117 : decode cX3_text 117 = .ok (.getfield 59, 3) := by decide +kernel
theorem dX3_text_120 : decode cX3_text 120 = .ok (.iaload, 1) := by decide +kernel
theorem dX3_text_121 : decode cX3_text 121 = .ok (.aload_n 0, 1) := by decide +kernel
theorem dX3_text_122 : decode cX3_text 122 = .ok (.aload_n 0, 1) := by decide +kernel
theorem dX3_text_123 : decode cX3_text 123 = .ok (.getfield 59, 3) := by decide +kernel
theorem dX3_text_126 : decode cX3_text 126 = .ok (.invokevirtual 113, 3) := by decide +kernel
theorem dX3_text_129 : decode cX3_text 129 = .ok (.ixor, 1) := by decide +kernel
theorem dX3_text_130 : decode cX3_text 130 = .ok (.i2l, 1) := by decide +kernel
theorem dX3_text_131 : decode cX3_text 131 = .ok (.bipush 8, 2) := by decide +kernel
theorem dX3_text_133 : decode cX3_text 133 = .ok (.iload 6, 2) := by decide +kernel
theorem dX3_text_135 : decode cX3_text 135 = .ok (.imul, 1) := by decide +kernel
theorem dX3_text_136 : decode cX3_text 136 = .ok (.lshl, 1) := by decide +kernel
theorem dX3_text_137 : decode cX3_text 137 = .ok (.lor, 1) := by decide +kernel
theorem dX3_text_138 : decode cX3_text 138 = .ok (.lstore 4, 2) := by decide +kernel
theorem dX3_text_140 : decode cX3_text 140 = .ok (.aload_n 0, 1) := by decide +kernel
theorem dX3_text_141 : decode cX3_text 141 = .ok (.dup, 1) := by decide +kernel
theorem dX3_text_142 : decode cX3_text 142 = .ok (.getfield 59, 3) := by decide +kernel
theorem dX3_text_145 : decode cX3_text 145 = .ok (.iconst 1, 1) := by decide +kernel
theorem dX3_text_146 : decode cX3_text 146 = .ok (.iadd, 1) := by decide +kernel
theorem dX3_text_147 : decode cX3_text 147 = .ok (.putfield 59, 3) := by decide +kernel
theorem dX3_text_150 : decode cX3_text 150 = .ok (.iinc 6 1, 3) := by decide +kernel
theorem dX3_text_153 : decode cX3_text 153 = .ok (.goto (-81), 3) := by decide +kernel
theorem dX3_text_156 : decode cX3_text 156 = .ok (.lload 4, 2) := by decide +kernel
theorem dX3_text_158 : decode cX3_text 158 = .ok (.lreturn, 1) := by decide +kernel
theorem dX3_sealedByte_0 : decode cX3_sealedByte 0 = .ok (.aload_n 0, 1) := by decide +kernel
theorem dX3_sealedByte_1 : decode cX3_sealedByte 1 = .ok (.getfield 100, 3) := by decide +kernel
theorem dX3_sealedByte_4 : decode cX3_sealedByte 4 = .ok (.ifCond .eq 12, 3) := by decide +kernel
theorem dX3_sealedByte_7 : decode cX3_sealedByte 7 = .ok (.aload_n 0, 1) := by decide +kernel
theorem dX3_sealedByte_8 : decode cX3_sealedByte 8 = .ok (.getfield 28, 3) := by decide +kernel
theorem dX3_sealedByte_11 : decode cX3_sealedByte 11 = .ok (.iload_n 1, 1) := by decide +kernel
theorem dX3_sealedByte_12 : decode cX3_sealedByte 12 = .ok (.iaload, 1) := by decide +kernel
theorem dX3_sealedByte_13 : decode cX3_sealedByte 13 = .ok (.goto 15, 3) := by decide +kernel
theorem dX3_sealedByte_16 : decode cX3_sealedByte 16 = .ok (.aload_n 0, 1) := by decide +kernel
theorem dX3_sealedByte_17 : decode cX3_sealedByte 17 = .ok (.getfield 28, 3) := by decide +kernel
theorem dX3_sealedByte_20 : decode cX3_sealedByte 20 = .ok (.iload_n 1, 1) := by decide +kernel
theorem dX3_sealedByte_21 : decode cX3_sealedByte 21 = .ok (.iaload, 1) := by decide +kernel
theorem dX3_sealedByte_22 : decode cX3_sealedByte 22 = .ok (.aload_n 0, 1) := by decide +kernel
theorem dX3_sealedByte_23 : decode cX3_sealedByte 23 = .ok (.iload_n 1, 1) := by decide +kernel
theorem dX3_sealedByte_24 : decode cX3_sealedByte 24 = .ok (.invokevirtual 113, 3) := by decide +kernel
theorem dX3_sealedByte_27 : decode cX3_sealedByte 27 = .ok (.ixor, 1) := by decide +kernel
theorem dX3_sealedByte_28 : decode cX3_sealedByte 28 = .ok (.ireturn, 1) := by decide +kernel
theorem dX3_fold_0 : decode cX3_fold 0 = .ok (.lconst 0, 1) := by decide +kernel
theorem dX3_fold_1 : decode cX3_fold 1 = .ok (.lstore 7, 2) := by decide +kernel
theorem dX3_fold_3 : decode cX3_fold 3 = .ok (.lconst 0, 1) := by decide +kernel
theorem dX3_fold_4 : decode cX3_fold 4 = .ok (.lstore 9, 2) := by decide +kernel
theorem dX3_fold_6 : decode cX3_fold 6 = .ok (.iload_n 1, 1) := by decide +kernel
theorem dX3_fold_7 : decode cX3_fold 7 = .ok (.ifCond .eq 10, 3) := by decide +kernel
theorem dX3_fold_10 : decode cX3_fold 10 = .ok (.aload_n 0, 1) := by decide +kernel
theorem dX3_fold_11 : decode cX3_fold 11 = .ok (.getfield 56, 3) := by decide +kernel
theorem dX3_fold_14 : decode cX3_fold 14 = .ok (.goto 7, 3) := by decide +kernel
theorem dX3_fold_17 : decode cX3_fold 17 = .ok (.aload_n 0, 1) := by decide +kernel
theorem dX3_fold_18 : decode cX3_fold 18 = .ok (.getfield 59, 3) := by decide +kernel
theorem dX3_fold_21 : decode cX3_fold 21 = .ok (.istore 11, 2) := by decide +kernel
theorem dX3_fold_23 : decode cX3_fold 23 = .ok (.iconst 0, 1) := by decide +kernel
theorem dX3_fold_24 : decode cX3_fold 24 = .ok (.istore 12, 2) := by decide +kernel
theorem dX3_fold_26 : decode cX3_fold 26 = .ok (.iload 12, 2) := by decide +kernel
theorem dX3_fold_28 : decode cX3_fold 28 = .ok (.bipush 16, 2) := by decide +kernel
theorem dX3_fold_30 : decode cX3_fold 30 = .ok (.if_icmp .ge 94, 3) := by decide +kernel
theorem dX3_fold_33 : decode cX3_fold 33 = .ok (.iload_n 2, 1) := by decide +kernel
theorem dX3_fold_34 : decode cX3_fold 34 = .ok (.iload 12, 2) := by decide +kernel
theorem dX3_fold_36 : decode cX3_fold 36 = .ok (.iadd, 1) := by decide +kernel
theorem dX3_fold_37 : decode cX3_fold 37 = .ok (.iload 11, 2) := by decide +kernel
theorem dX3_fold_39 : decode cX3_fold 39 = .ok (.if_icmp .lt 7, 3) := by decide +kernel
theorem dX3_fold_42 : decode cX3_fold 42 = .ok (.iconst 0, 1) := by decide +kernel
theorem dX3_fold_43 : decode cX3_fold 43 = .ok (.goto 27, 3) := by decide +kernel
theorem dX3_fold_46 : decode cX3_fold 46 = .ok (.iload_n 1, 1) := by decide +kernel
theorem dX3_fold_47 : decode cX3_fold 47 = .ok (.ifCond .eq 15, 3) := by decide +kernel
theorem dX3_fold_50 : decode cX3_fold 50 = .ok (.aload_n 0, 1) := by decide +kernel
theorem dX3_fold_51 : decode cX3_fold 51 = .ok (.getfield 25, 3) := by decide +kernel
theorem dX3_fold_54 : decode cX3_fold 54 = .ok (.iload_n 2, 1) := by decide +kernel
theorem dX3_fold_55 : decode cX3_fold 55 = .ok (.iload 12, 2) := by decide +kernel
theorem dX3_fold_57 : decode cX3_fold 57 = .ok (.iadd, 1) := by decide +kernel
theorem dX3_fold_58 : decode cX3_fold 58 = .ok (.iaload, 1) := by decide +kernel
theorem dX3_fold_59 : decode cX3_fold 59 = .ok (.goto 11, 3) := by decide +kernel
theorem dX3_fold_62 : decode cX3_fold 62 = .ok (.aload_n 0, 1) := by decide +kernel
theorem dX3_fold_63 : decode cX3_fold 63 = .ok (.iload_n 2, 1) := by decide +kernel
theorem dX3_fold_64 : decode cX3_fold 64 = .ok (.iload 12, 2) := by decide +kernel
theorem dX3_fold_66 : decode cX3_fold 66 = .ok (.iadd, 1) := by decide +kernel
theorem dX3_fold_67 : decode cX3_fold 67 = .ok (.invokevirtual 116, 3) := by decide +kernel
theorem dX3_fold_70 : decode cX3_fold 70 = .ok (.istore 13, 2) := by decide +kernel
theorem dX3_fold_72 : decode cX3_fold 72 = .ok (.iload 12, 2) := by decide +kernel
theorem dX3_fold_74 : decode cX3_fold 74 = .ok (.bipush 8, 2) := by decide +kernel
theorem dX3_fold_76 : decode cX3_fold 76 = .ok (.if_icmp .ge 15, 3) := by decide +kernel
theorem dX3_fold_79 : decode cX3_fold 79 = .ok (.lload 7, 2) := by decide +kernel
theorem dX3_fold_81 : decode cX3_fold 81 = .ok (.bipush 8, 2) := by decide +kernel
theorem dX3_fold_83 : decode cX3_fold 83 = .ok (.lshl, 1) := by decide +kernel
theorem dX3_fold_84 : decode cX3_fold 84 = .ok (.iload 13, 2) := by decide +kernel
theorem dX3_fold_86 : decode cX3_fold 86 = .ok (.i2l, 1) := by decide +kernel
theorem dX3_fold_87 : decode cX3_fold 87 = .ok (.lor, 1) := by decide +kernel
theorem dX3_fold_88 : decode cX3_fold 88 = .ok (.goto 5, 3) := by decide +kernel
theorem dX3_fold_91 : decode cX3_fold 91 = .ok (.lload 7, 2) := by decide +kernel
theorem dX3_fold_93 : decode cX3_fold 93 = .ok (.lstore 7, 2) := by decide +kernel
theorem dX3_fold_95 : decode cX3_fold 95 = .ok (.iload 12, 2) := by decide +kernel
theorem dX3_fold_97 : decode cX3_fold 97 = .ok (.bipush 8, 2) := by decide +kernel
theorem dX3_fold_99 : decode cX3_fold 99 = .ok (.if_icmp .ge 8, 3) := by decide +kernel
theorem dX3_fold_102 : decode cX3_fold 102 = .ok (.lload 9, 2) := by decide +kernel
theorem dX3_fold_104 : decode cX3_fold 104 = .ok (.goto 12, 3) := by decide +kernel
theorem dX3_fold_107 : decode cX3_fold 107 = .ok (.lload 9, 2) := by decide +kernel
theorem dX3_fold_109 : decode cX3_fold 109 = .ok (.bipush 8, 2) := by decide +kernel
theorem dX3_fold_111 : decode cX3_fold 111 = .ok (.lshl, 1) := by decide +kernel
theorem dX3_fold_112 : decode cX3_fold 112 = .ok (.iload 13, 2) := by decide +kernel
theorem dX3_fold_114 : decode cX3_fold 114 = .ok (.i2l, 1) := by decide +kernel
theorem dX3_fold_115 : decode cX3_fold 115 = .ok (.lor, 1) := by decide +kernel
theorem dX3_fold_116 : decode cX3_fold 116 = .ok (.lstore 9, 2) := by decide +kernel
theorem dX3_fold_118 : decode cX3_fold 118 = .ok (.iinc 12 1, 3) := by decide +kernel
theorem dX3_fold_121 : decode cX3_fold 121 = .ok (.goto (-95), 3) := by decide +kernel
theorem dX3_fold_124 : decode cX3_fold 124 = .ok (.aload_n 0, 1) := by decide +kernel
theorem dX3_fold_125 : decode cX3_fold 125 = .ok (.aload_n 0, 1) := by decide +kernel
theorem dX3_fold_126 : decode cX3_fold 126 = .ok (.getfield 119, 3) := by decide +kernel
theorem dX3_fold_129 : decode cX3_fold 129 = .ok (.lload 7, 2) := by decide +kernel
theorem dX3_fold_131 : decode cX3_fold 131 = .ok (.lxor, 1) := by decide +kernel
theorem dX3_fold_132 : decode cX3_fold 132 = .ok (.putfield 68, 3) := by decide +kernel
theorem dX3_fold_135 : decode cX3_fold 135 = .ok (.aload_n 0, 1) := by decide +kernel
theorem dX3_fold_136 : decode cX3_fold 136 = .ok (.aload_n 0, 1) := by decide +kernel
theorem dX3_fold_137 : decode cX3_fold 137 = .ok (.getfield 122, 3) := by decide +kernel
theorem dX3_fold_140 : decode cX3_fold 140 = .ok (.lload 9, 2) := by decide +kernel
theorem dX3_fold_142 : decode cX3_fold 142 = .ok (.lxor, 1) := by decide +kernel
theorem dX3_fold_143 : decode cX3_fold 143 = .ok (.putfield 72, 3) := by decide +kernel
theorem dX3_fold_146 : decode cX3_fold 146 = .ok (.aload_n 0, 1) := by decide +kernel
theorem dX3_fold_147 : decode cX3_fold 147 = .ok (.lload_n 3, 1) := by decide +kernel
theorem dX3_fold_148 : decode cX3_fold 148 = .ok (.lload 5, 2) := by decide +kernel
theorem dX3_fold_150 : decode cX3_fold 150 = .ok (.invokevirtual 97, 3) := by decide +kernel
theorem dX3_fold_153 : decode cX3_fold 153 = .ok (.aload_n 0, 1) := by decide +kernel
theorem dX3_fold_154 : decode cX3_fold 154 = .ok (.aload_n 0, 1) := by decide +kernel
theorem dX3_fold_155 : decode cX3_fold 155 = .ok (.getfield 68, 3) := by decide +kernel
theorem dX3_fold_158 : decode cX3_fold 158 = .ok (.putfield 119, 3) := by decide +kernel
theorem dX3_fold_161 : decode cX3_fold 161 = .ok (.aload_n 0, 1) := by decide +kernel
theorem dX3_fold_162 : decode cX3_fold 162 = .ok (.aload_n 0, 1) := by decide +kernel
theorem dX3_fold_163 : decode cX3_fold 163 = .ok (.getfield 72, 3) := by decide +kernel
theorem dX3_fold_166 : decode cX3_fold 166 = .ok (.putfield 122, 3) := by decide +kernel
theorem dX3_fold_169 : decode cX3_fold 169 = .ok (.return_, 1) := by decide +kernel
theorem dX3_makeTag_0 : decode cX3_makeTag 0 = .ok (.aload_n 0, 1) := by decide +kernel
theorem dX3_makeTag_1 : decode cX3_makeTag 1 = .ok (.lconst 0, 1) := by decide +kernel
theorem dX3_makeTag_2 : decode cX3_makeTag 2 = .ok (.lconst 0, 1) := by decide +kernel
theorem dX3_makeTag_3 : decode cX3_makeTag 3 = .ok (.invokevirtual 83, 3) := by decide +kernel
theorem dX3_makeTag_6 : decode cX3_makeTag 6 = .ok (.aload_n 0, 1) := by decide +kernel
theorem dX3_makeTag_7 : decode cX3_makeTag 7 = .ok (.invokevirtual 86, 3) := by decide +kernel
theorem dX3_makeTag_10 : decode cX3_makeTag 10 = .ok (.aload_n 0, 1) := by decide +kernel
theorem dX3_makeTag_11 : decode cX3_makeTag 11 = .ok (.invokevirtual 89, 3) := by decide +kernel
theorem dX3_makeTag_14 : decode cX3_makeTag 14 = .ok (.aload_n 0, 1) := by decide +kernel
theorem dX3_makeTag_15 : decode cX3_makeTag 15 = .ok (.getfield 68, 3) := by decide +kernel
theorem dX3_makeTag_18 : decode cX3_makeTag 18 = .ok (.lstore_n 1, 1) := by decide +kernel
theorem dX3_makeTag_19 : decode cX3_makeTag 19 = .ok (.aload_n 0, 1) := by decide +kernel
theorem dX3_makeTag_20 : decode cX3_makeTag 20 = .ok (.getfield 72, 3) := by decide +kernel
theorem dX3_makeTag_23 : decode cX3_makeTag 23 = .ok (.lstore_n 3, 1) := by decide +kernel
theorem dX3_makeTag_24 : decode cX3_makeTag 24 = .ok (.aload_n 0, 1) := by decide +kernel
theorem dX3_makeTag_25 : decode cX3_makeTag 25 = .ok (.lconst 0, 1) := by decide +kernel
theorem dX3_makeTag_26 : decode cX3_makeTag 26 = .ok (.putfield 119, 3) := by decide +kernel
theorem dX3_makeTag_29 : decode cX3_makeTag 29 = .ok (.aload_n 0, 1) := by decide +kernel
theorem dX3_makeTag_30 : decode cX3_makeTag 30 = .ok (.lconst 0, 1) := by decide +kernel
theorem dX3_makeTag_31 : decode cX3_makeTag 31 = .ok (.putfield 122, 3) := by decide +kernel
theorem dX3_makeTag_34 : decode cX3_makeTag 34 = .ok (.iconst 0, 1) := by decide +kernel
theorem dX3_makeTag_35 : decode cX3_makeTag 35 = .ok (.istore 5, 2) := by decide +kernel
theorem dX3_makeTag_37 : decode cX3_makeTag 37 = .ok (.iload 5, 2) := by decide +kernel
theorem dX3_makeTag_39 : decode cX3_makeTag 39 = .ok (.aload_n 0, 1) := by decide +kernel
theorem dX3_makeTag_40 : decode cX3_makeTag 40 = .ok (.getfield 56, 3) := by decide +kernel
theorem dX3_makeTag_43 : decode cX3_makeTag 43 = .ok (.if_icmp .ge 18, 3) := by decide +kernel
theorem dX3_makeTag_46 : decode cX3_makeTag 46 = .ok (.aload_n 0, 1) := by decide +kernel
theorem dX3_makeTag_47 : decode cX3_makeTag 47 = .ok (.iconst 1, 1) := by decide +kernel
theorem dX3_makeTag_48 : decode cX3_makeTag 48 = .ok (.iload 5, 2) := by decide +kernel
theorem dX3_makeTag_50 : decode cX3_makeTag 50 = .ok (.lload_n 1, 1) := by decide +kernel
theorem dX3_makeTag_51 : decode cX3_makeTag 51 = .ok (.lload_n 3, 1) := by decide +kernel
theorem dX3_makeTag_52 : decode cX3_makeTag 52 = .ok (.invokevirtual 125, 3) := by decide +kernel
theorem dX3_makeTag_55 : decode cX3_makeTag 55 = .ok (.iinc 5 16, 3) := by decide +kernel
theorem dX3_makeTag_58 : decode cX3_makeTag 58 = .ok (.goto (-21), 3) := by decide +kernel
theorem dX3_makeTag_61 : decode cX3_makeTag 61 = .ok (.iconst 0, 1) := by decide +kernel
theorem dX3_makeTag_62 : decode cX3_makeTag 62 = .ok (.istore 5, 2) := by decide +kernel
theorem dX3_makeTag_64 : decode cX3_makeTag 64 = .ok (.iload 5, 2) := by decide +kernel
theorem dX3_makeTag_66 : decode cX3_makeTag 66 = .ok (.aload_n 0, 1) := by decide +kernel
theorem dX3_makeTag_67 : decode cX3_makeTag 67 = .ok (.getfield 59, 3) := by decide +kernel
theorem dX3_makeTag_70 : decode cX3_makeTag 70 = .ok (.if_icmp .ge 18, 3) := by decide +kernel
theorem dX3_makeTag_73 : decode cX3_makeTag 73 = .ok (.aload_n 0, 1) := by decide +kernel
theorem dX3_makeTag_74 : decode cX3_makeTag 74 = .ok (.iconst 0, 1) := by decide +kernel
theorem dX3_makeTag_75 : decode cX3_makeTag 75 = .ok (.iload 5, 2) := by decide +kernel
theorem dX3_makeTag_77 : decode cX3_makeTag 77 = .ok (.lload_n 1, 1) := by decide +kernel
theorem dX3_makeTag_78 : decode cX3_makeTag 78 = .ok (.lload_n 3, 1) := by decide +kernel
theorem dX3_makeTag_79 : decode cX3_makeTag 79 = .ok (.invokevirtual 125, 3) := by decide +kernel
theorem dX3_makeTag_82 : decode cX3_makeTag 82 = .ok (.iinc 5 16, 3) := by decide +kernel
theorem dX3_makeTag_85 : decode cX3_makeTag 85 = .ok (.goto (-21), 3) := by decide +kernel
theorem dX3_makeTag_88 : decode cX3_makeTag 88 = .ok (.aload_n 0, 1) := by decide +kernel
theorem dX3_makeTag_89 : decode cX3_makeTag 89 = .ok (.aload_n 0, 1) := by decide +kernel
theorem dX3_makeTag_90 : decode cX3_makeTag 90 = .ok (.getfield 119, 3) := by decide +kernel
theorem dX3_makeTag_93 : decode cX3_makeTag 93 = .ok (.ldc2_w 129, 3) := by decide +kernel
theorem dX3_makeTag_96 : decode cX3_makeTag 96 = .ok (.aload_n 0, 1) := by decide +kernel
theorem dX3_makeTag_97 : decode cX3_makeTag 97 = .ok (.getfield 56, 3) := by decide +kernel
theorem dX3_makeTag_100 : decode cX3_makeTag 100 = .ok (.i2l, 1) := by decide +kernel
theorem dX3_makeTag_101 : decode cX3_makeTag 101 = .ok (.lmul, 1) := by decide +kernel
theorem dX3_makeTag_102 : decode cX3_makeTag 102 = .ok (.lxor, 1) := by decide +kernel
theorem dX3_makeTag_103 : decode cX3_makeTag 103 = .ok (.putfield 68, 3) := by decide +kernel
theorem dX3_makeTag_106 : decode cX3_makeTag 106 = .ok (.aload_n 0, 1) := by decide +kernel
theorem dX3_makeTag_107 : decode cX3_makeTag 107 = .ok (.aload_n 0, 1) := by decide +kernel
theorem dX3_makeTag_108 : decode cX3_makeTag 108 = .ok (.getfield 122, 3) := by decide +kernel
theorem dX3_makeTag_111 : decode cX3_makeTag 111 = .ok (.ldc2_w 129, 3) := by decide +kernel
theorem dX3_makeTag_114 : decode cX3_makeTag 114 = .ok (.aload_n 0, 1) := by decide +kernel
theorem dX3_makeTag_115 : decode cX3_makeTag 115 = .ok (.getfield 59, 3) := by decide +kernel
theorem dX3_makeTag_118 : decode cX3_makeTag 118 = .ok (.i2l, 1) := by decide +kernel
theorem dX3_makeTag_119 : decode cX3_makeTag 119 = .ok (.lmul, 1) := by decide +kernel
theorem dX3_makeTag_120 : decode cX3_makeTag 120 = .ok (.lxor, 1) := by decide +kernel
theorem dX3_makeTag_121 : decode cX3_makeTag 121 = .ok (.putfield 72, 3) := by decide +kernel
theorem dX3_makeTag_124 : decode cX3_makeTag 124 = .ok (.aload_n 0, 1) := by decide +kernel
theorem dX3_makeTag_125 : decode cX3_makeTag 125 = .ok (.lload_n 1, 1) := by decide +kernel
theorem dX3_makeTag_126 : decode cX3_makeTag 126 = .ok (.lload_n 3, 1) := by decide +kernel
theorem dX3_makeTag_127 : decode cX3_makeTag 127 = .ok (.invokevirtual 97, 3) := by decide +kernel
theorem dX3_makeTag_130 : decode cX3_makeTag 130 = .ok (.aload_n 0, 1) := by decide +kernel
theorem dX3_makeTag_131 : decode cX3_makeTag 131 = .ok (.aload_n 0, 1) := by decide +kernel
theorem dX3_makeTag_132 : decode cX3_makeTag 132 = .ok (.getfield 68, 3) := by decide +kernel
theorem dX3_makeTag_135 : decode cX3_makeTag 135 = .ok (.putfield 119, 3) := by decide +kernel
theorem dX3_makeTag_138 : decode cX3_makeTag 138 = .ok (.aload_n 0, 1) := by decide +kernel
theorem dX3_makeTag_139 : decode cX3_makeTag 139 = .ok (.aload_n 0, 1) := by decide +kernel
theorem dX3_makeTag_140 : decode cX3_makeTag 140 = .ok (.getfield 72, 3) := by decide +kernel
theorem dX3_makeTag_143 : decode cX3_makeTag 143 = .ok (.putfield 122, 3) := by decide +kernel
theorem dX3_makeTag_146 : decode cX3_makeTag 146 = .ok (.aload_n 0, 1) := by decide +kernel
theorem dX3_makeTag_147 : decode cX3_makeTag 147 = .ok (.iconst 1, 1) := by decide +kernel
theorem dX3_makeTag_148 : decode cX3_makeTag 148 = .ok (.invokevirtual 110, 3) := by decide +kernel
theorem dX3_makeTag_151 : decode cX3_makeTag 151 = .ok (.aload_n 0, 1) := by decide +kernel
theorem dX3_makeTag_152 : decode cX3_makeTag 152 = .ok (.invokevirtual 89, 3) := by decide +kernel
theorem dX3_makeTag_155 : decode cX3_makeTag 155 = .ok (.aload_n 0, 1) := by decide +kernel
theorem dX3_makeTag_156 : decode cX3_makeTag 156 = .ok (.aload_n 0, 1) := by decide +kernel
theorem dX3_makeTag_157 : decode cX3_makeTag 157 = .ok (.getfield 119, 3) := by decide +kernel
theorem dX3_makeTag_160 : decode cX3_makeTag 160 = .ok (.aload_n 0, 1) := by decide +kernel
theorem dX3_makeTag_161 : decode cX3_makeTag 161 = .ok (.getfield 68, 3) := by decide +kernel
theorem dX3_makeTag_164 : decode cX3_makeTag 164 = .ok (.lxor, 1) := by decide +kernel
theorem dX3_makeTag_165 : decode cX3_makeTag 165 = .ok (.putfield 119, 3) := by decide +kernel
theorem dX3_makeTag_168 : decode cX3_makeTag 168 = .ok (.aload_n 0, 1) := by decide +kernel
theorem dX3_makeTag_169 : decode cX3_makeTag 169 = .ok (.aload_n 0, 1) := by decide +kernel
theorem dX3_makeTag_170 : decode cX3_makeTag 170 = .ok (.getfield 122, 3) := by decide +kernel
theorem dX3_makeTag_173 : decode cX3_makeTag 173 = .ok (.aload_n 0, 1) := by decide +kernel
theorem dX3_makeTag_174 : decode cX3_makeTag 174 = .ok (.getfield 72, 3) := by decide +kernel
theorem dX3_makeTag_177 : decode cX3_makeTag 177 = .ok (.lxor, 1) := by decide +kernel
theorem dX3_makeTag_178 : decode cX3_makeTag 178 = .ok (.putfield 122, 3) := by decide +kernel
theorem dX3_makeTag_181 : decode cX3_makeTag 181 = .ok (.return_, 1) := by decide +kernel
theorem dX3_isUnderWay_0 : decode cX3_isUnderWay 0 = .ok (.aload_n 0, 1) := by decide +kernel
theorem dX3_isUnderWay_1 : decode cX3_isUnderWay 1 = .ok (.getfield 53, 3) := by decide +kernel
theorem dX3_isUnderWay_4 : decode cX3_isUnderWay 4 = .ok (.iconst 1, 1) := by decide +kernel
theorem dX3_isUnderWay_5 : decode cX3_isUnderWay 5 = .ok (.if_icmp .eq 11, 3) := by decide +kernel
theorem dX3_isUnderWay_8 : decode cX3_isUnderWay 8 = .ok (.aload_n 0, 1) := by decide +kernel
theorem dX3_isUnderWay_9 : decode cX3_isUnderWay 9 = .ok (.getfield 53, 3) := by decide +kernel
theorem dX3_isUnderWay_12 : decode cX3_isUnderWay 12 = .ok (.iconst 2, 1) := by decide +kernel
theorem dX3_isUnderWay_13 : decode cX3_isUnderWay 13 = .ok (.if_icmp .ne 7, 3) := by decide +kernel
theorem dX3_isUnderWay_16 : decode cX3_isUnderWay 16 = .ok (.iconst 1, 1) := by decide +kernel
theorem dX3_isUnderWay_17 : decode cX3_isUnderWay 17 = .ok (.goto 4, 3) := by decide +kernel
theorem dX3_isUnderWay_20 : decode cX3_isUnderWay 20 = .ok (.iconst 0, 1) := by decide +kernel
theorem dX3_isUnderWay_21 : decode cX3_isUnderWay 21 = .ok (.ireturn, 1) := by decide +kernel
theorem dX3_seal_0 : decode cX3_seal 0 = .ok (.aload_n 0, 1) := by decide +kernel
theorem dX3_seal_1 : decode cX3_seal 1 = .ok (.aload_n 0, 1) := by decide +kernel
theorem dX3_seal_2 : decode cX3_seal 2 = .ok (.invokevirtual 131, 3) := by decide +kernel
theorem dX3_seal_5 : decode cX3_seal 5 = .ok (.ifCond .eq 10, 3) := by decide +kernel
theorem dX3_seal_8 : decode cX3_seal 8 = .ok (.aload_n 0, 1) := by decide +kernel
theorem dX3_seal_9 : decode cX3_seal 9 = .ok (.getfield 100, 3) := by decide +kernel
theorem dX3_seal_12 : decode cX3_seal 12 = .ok (.ifCond .eq 7, 3) := by decide +kernel
theorem dX3_seal_15 : decode cX3_seal 15 = .ok (.iconst 1, 1) := by decide +kernel
theorem dX3_seal_16 : decode cX3_seal 16 = .ok (.goto 4, 3) := by decide +kernel
theorem dX3_seal_19 : decode cX3_seal 19 = .ok (.iconst 0, 1) := by decide +kernel
theorem dX3_seal_20 : decode cX3_seal 20 = .ok (.iconst 0, 1) := by decide +kernel
theorem dX3_seal_21 : decode cX3_seal 21 = .ok (.iconst 0, 1) := by decide +kernel
theorem dX3_seal_22 : decode cX3_seal 22 = .ok (.invokevirtual 62, 3) := by decide +kernel
theorem dX3_seal_25 : decode cX3_seal 25 = .ok (.ifCond .eq 5, 3) := by decide +kernel
theorem dX3_seal_28 : decode cX3_seal 28 = .ok (.iconst 0, 1) := by decide +kernel
theorem dX3_seal_29 : decode cX3_seal 29 = .ok (.ireturn, 1) := by decide +kernel
theorem dX3_seal_30 : decode cX3_seal 30 = .ok (.aload_n 0, 1) := by decide +kernel
theorem dX3_seal_31 : decode cX3_seal 31 = .ok (.invokevirtual 135, 3) := by decide +kernel
theorem dX3_seal_34 : decode cX3_seal 34 = .ok (.aload_n 0, 1) := by decide +kernel
theorem dX3_seal_35 : decode cX3_seal 35 = .ok (.iconst 3, 1) := by decide +kernel
theorem dX3_seal_36 : decode cX3_seal 36 = .ok (.putfield 53, 3) := by decide +kernel
theorem dX3_seal_39 : decode cX3_seal 39 = .ok (.aload_n 0, 1) := by decide +kernel
theorem dX3_seal_40 : decode cX3_seal 40 = .ok (.getfield 59, 3) := by decide +kernel
theorem dX3_seal_43 : decode cX3_seal 43 = .ok (.ireturn, 1) := by decide +kernel
theorem dX3_open_0 : decode cX3_open 0 = .ok (.aload_n 0, 1) := by decide +kernel
theorem dX3_open_1 : decode cX3_open 1 = .ok (.aload_n 0, 1) := by decide +kernel
theorem dX3_open_2 : decode cX3_open 2 = .ok (.invokevirtual 131, 3) := by decide +kernel
theorem dX3_open_5 : decode cX3_open 5 = .ok (.ifCond .eq 10, 3) := by decide +kernel
theorem dX3_open_8 : decode cX3_open 8 = .ok (.aload_n 0, 1) := by decide +kernel
theorem dX3_open_9 : decode cX3_open 9 = .ok (.getfield 100, 3) := by decide +kernel
theorem dX3_open_12 : decode cX3_open 12 = .ok (.ifCond .ne 7, 3) := by decide +kernel
theorem dX3_open_15 : decode cX3_open 15 = .ok (.iconst 1, 1) := by decide +kernel
theorem dX3_open_16 : decode cX3_open 16 = .ok (.goto 4, 3) := by decide +kernel
theorem dX3_open_19 : decode cX3_open 19 = .ok (.iconst 0, 1) := by decide +kernel
theorem dX3_open_20 : decode cX3_open 20 = .ok (.iconst 0, 1) := by decide +kernel
theorem dX3_open_21 : decode cX3_open 21 = .ok (.iconst 0, 1) := by decide +kernel
theorem dX3_open_22 : decode cX3_open 22 = .ok (.invokevirtual 62, 3) := by decide +kernel
theorem dX3_open_25 : decode cX3_open 25 = .ok (.ifCond .eq 5, 3) := by decide +kernel
theorem dX3_open_28 : decode cX3_open 28 = .ok (.iconst 0, 1) := by decide +kernel
theorem dX3_open_29 : decode cX3_open 29 = .ok (.ireturn, 1) := by decide +kernel
theorem dX3_open_30 : decode cX3_open 30 = .ok (.aload_n 0, 1) := by decide +kernel
theorem dX3_open_31 : decode cX3_open 31 = .ok (.invokevirtual 135, 3) := by decide +kernel
theorem dX3_open_34 : decode cX3_open 34 = .ok (.lload_n 1, 1) := by decide +kernel
theorem dX3_open_35 : decode cX3_open 35 = .ok (.aload_n 0, 1) := by decide +kernel
theorem dX3_open_36 : decode cX3_open 36 = .ok (.getfield 119, 3) := by decide +kernel
theorem dX3_open_39 : decode cX3_open 39 = .ok (.lcmp, 1) := by decide +kernel
theorem dX3_open_40 : decode cX3_open 40 = .ok (.ifCond .ne 16, 3) := by decide +kernel
theorem dX3_open_43 : decode cX3_open 43 = .ok (.lload_n 3, 1) := by decide +kernel
theorem dX3_open_44 : decode cX3_open 44 = .ok (.aload_n 0, 1) := by decide +kernel
theorem dX3_open_45 : decode cX3_open 45 = .ok (.getfield 122, 3) := by decide +kernel
theorem dX3_open_48 : decode cX3_open 48 = .ok (.lcmp, 1) := by decide +kernel
theorem dX3_open_49 : decode cX3_open 49 = .ok (.ifCond .ne 7, 3) := by decide +kernel
theorem dX3_open_52 : decode cX3_open 52 = .ok (.iconst 1, 1) := by decide +kernel
theorem dX3_open_53 : decode cX3_open 53 = .ok (.goto 4, 3) := by decide +kernel
theorem dX3_open_56 : decode cX3_open 56 = .ok (.iconst 0, 1) := by decide +kernel
theorem dX3_open_57 : decode cX3_open 57 = .ok (.istore 5, 2) := by decide +kernel
theorem dX3_open_59 : decode cX3_open 59 = .ok (.aload_n 0, 1) := by decide +kernel
theorem dX3_open_60 : decode cX3_open 60 = .ok (.iload 5, 2) := by decide +kernel
theorem dX3_open_62 : decode cX3_open 62 = .ok (.ifCond .eq 7, 3) := by decide +kernel
theorem dX3_open_65 : decode cX3_open 65 = .ok (.iconst 4, 1) := by decide +kernel
theorem dX3_open_66 : decode cX3_open 66 = .ok (.goto 4, 3) := by decide +kernel
theorem dX3_open_69 : decode cX3_open 69 = .ok (.iconst 5, 1) := by decide +kernel
theorem dX3_open_70 : decode cX3_open 70 = .ok (.putfield 53, 3) := by decide +kernel
theorem dX3_open_73 : decode cX3_open 73 = .ok (.iload 5, 2) := by decide +kernel
theorem dX3_open_75 : decode cX3_open 75 = .ok (.ireturn, 1) := by decide +kernel
theorem dX3_tag_0 : decode cX3_tag 0 = .ok (.aload_n 0, 1) := by decide +kernel
theorem dX3_tag_1 : decode cX3_tag 1 = .ok (.aload_n 0, 1) := by decide +kernel
theorem dX3_tag_2 : decode cX3_tag 2 = .ok (.getfield 53, 3) := by decide +kernel
theorem dX3_tag_5 : decode cX3_tag 5 = .ok (.iconst 3, 1) := by decide +kernel
theorem dX3_tag_6 : decode cX3_tag 6 = .ok (.if_icmp .eq 7, 3) := by decide +kernel
theorem dX3_tag_9 : decode cX3_tag 9 = .ok (.iconst 1, 1) := by decide +kernel
theorem dX3_tag_10 : decode cX3_tag 10 = .ok (.goto 4, 3) := by decide +kernel
theorem dX3_tag_13 : decode cX3_tag 13 = .ok (.iconst 0, 1) := by decide +kernel
theorem dX3_tag_14 : decode cX3_tag 14 = .ok (.iconst 0, 1) := by decide +kernel
theorem dX3_tag_15 : decode cX3_tag 15 = .ok (.iconst 0, 1) := by decide +kernel
theorem dX3_tag_16 : decode cX3_tag 16 = .ok (.invokevirtual 62, 3) := by decide +kernel
theorem dX3_tag_19 : decode cX3_tag 19 = .ok (.ifCond .eq 7, 3) := by decide +kernel
theorem dX3_tag_22 : decode cX3_tag 22 = .ok (.lconst 0, 1) := by decide +kernel
theorem dX3_tag_23 : decode cX3_tag 23 = .ok (.goto 18, 3) := by decide +kernel
theorem dX3_tag_26 : decode cX3_tag 26 = .ok (.iload_n 1, 1) := by decide +kernel
theorem dX3_tag_27 : decode cX3_tag 27 = .ok (.ifCond .eq 10, 3) := by decide +kernel
theorem dX3_tag_30 : decode cX3_tag 30 = .ok (.aload_n 0, 1) := by decide +kernel
theorem dX3_tag_31 : decode cX3_tag 31 = .ok (.getfield 122, 3) := by decide +kernel
theorem dX3_tag_34 : decode cX3_tag 34 = .ok (.goto 7, 3) := by decide +kernel
theorem dX3_tag_37 : decode cX3_tag 37 = .ok (.aload_n 0, 1) := by decide +kernel
theorem dX3_tag_38 : decode cX3_tag 38 = .ok (.getfield 119, 3) := by decide +kernel
theorem dX3_tag_41 : decode cX3_tag 41 = .ok (.lreturn, 1) := by decide +kernel
theorem dX3_length_0 : decode cX3_length 0 = .ok (.aload_n 0, 1) := by decide +kernel
theorem dX3_length_1 : decode cX3_length 1 = .ok (.iconst 0, 1) := by decide +kernel
theorem dX3_length_2 : decode cX3_length 2 = .ok (.putfield 43, 3) := by decide +kernel
theorem dX3_length_5 : decode cX3_length 5 = .ok (.aload_n 0, 1) := by decide +kernel
theorem dX3_length_6 : decode cX3_length 6 = .ok (.getfield 59, 3) := by decide +kernel
theorem dX3_length_9 : decode cX3_length 9 = .ok (.ireturn, 1) := by decide +kernel
theorem dX3_at_0 : decode cX3_at 0 = .ok (.aload_n 0, 1) := by decide +kernel
theorem dX3_at_1 : decode cX3_at 1 = .ok (.iconst 0, 1) := by decide +kernel
theorem dX3_at_2 : decode cX3_at 2 = .ok (.putfield 43, 3) := by decide +kernel
theorem dX3_at_5 : decode cX3_at 5 = .ok (.aload_n 0, 1) := by decide +kernel
theorem dX3_at_6 : decode cX3_at 6 = .ok (.getfield 100, 3) := by decide +kernel
theorem dX3_at_9 : decode cX3_at 9 = .ok (.ifCond .ne 18, 3) := by decide +kernel
theorem dX3_at_12 : decode cX3_at 12 = .ok (.aload_n 0, 1) := by decide +kernel
theorem dX3_at_13 : decode cX3_at 13 = .ok (.invokevirtual 131, 3) := by decide +kernel
theorem dX3_at_16 : decode cX3_at 16 = .ok (.ifCond .ne 19, 3) := by decide +kernel
theorem dX3_at_19 : decode cX3_at 19 = .ok (.aload_n 0, 1) := by decide +kernel
theorem dX3_at_20 : decode cX3_at 20 = .ok (.getfield 53, 3) := by decide +kernel
theorem dX3_at_23 : decode cX3_at 23 = .ok (.iconst 3, 1) := by decide +kernel
theorem dX3_at_24 : decode cX3_at 24 = .ok (.if_icmp .eq 11, 3) := by decide +kernel
theorem dX3_at_27 : decode cX3_at 27 = .ok (.aload_n 0, 1) := by decide +kernel
theorem dX3_at_28 : decode cX3_at 28 = .ok (.getfield 53, 3) := by decide +kernel
theorem dX3_at_31 : decode cX3_at 31 = .ok (.iconst 4, 1) := by decide +kernel
theorem dX3_at_32 : decode cX3_at 32 = .ok (.if_icmp .ne 7, 3) := by decide +kernel
theorem dX3_at_35 : decode cX3_at 35 = .ok (.iconst 1, 1) := by decide +kernel
theorem dX3_at_36 : decode cX3_at 36 = .ok (.goto 4, 3) := by decide +kernel
theorem dX3_at_39 : decode cX3_at 39 = .ok (.iconst 0, 1) := by decide +kernel
theorem dX3_at_40 : decode cX3_at 40 = .ok (.istore_n 2, 1) := by decide +kernel
theorem dX3_at_41 : decode cX3_at 41 = .ok (.iload_n 2, 1) := by decide +kernel
theorem dX3_at_42 : decode cX3_at 42 = .ok (.ifCond .eq 30, 3) := by decide +kernel
theorem dX3_at_45 : decode cX3_at 45 = .ok (.iload_n 1, 1) := by decide +kernel
theorem dX3_at_46 : decode cX3_at 46 = .ok (.ifCond .lt 26, 3) := by decide +kernel
theorem dX3_at_49 : decode cX3_at 49 = .ok (.iload_n 1, 1) := by decide +kernel
theorem dX3_at_50 : decode cX3_at 50 = .ok (.aload_n 0, 1) := by decide +kernel
theorem dX3_at_51 : decode cX3_at 51 = .ok (.getfield 59, 3) := by decide +kernel
theorem dX3_at_54 : decode cX3_at 54 = .ok (.if_icmp .ge 18, 3) := by decide +kernel
theorem dX3_at_57 : decode cX3_at 57 = .ok (.aload_n 0, 1) := by decide +kernel
theorem dX3_at_58 : decode cX3_at 58 = .ok (.getfield 28, 3) := by decide +kernel
theorem dX3_at_61 : decode cX3_at 61 = .ok (.iload_n 1, 1) := by decide +kernel
theorem dX3_at_62 : decode cX3_at 62 = .ok (.iaload, 1) := by decide +kernel
theorem dX3_at_63 : decode cX3_at 63 = .ok (.aload_n 0, 1) := by decide +kernel
theorem dX3_at_64 : decode cX3_at 64 = .ok (.iload_n 1, 1) := by decide +kernel
theorem dX3_at_65 : decode cX3_at 65 = .ok (.invokevirtual 113, 3) := by decide +kernel
theorem dX3_at_68 : decode cX3_at 68 = .ok (.ixor, 1) := by decide +kernel
theorem dX3_at_69 : decode cX3_at 69 = .ok (.goto 4, 3) := by decide +kernel
theorem dX3_at_72 : decode cX3_at 72 = .ok (.iconst (-1), 1) := by decide +kernel
theorem dX3_at_73 : decode cX3_at 73 = .ok (.ireturn, 1) := by decide +kernel
theorem dX3_phase_0 : decode cX3_phase 0 = .ok (.aload_n 0, 1) := by decide +kernel
theorem dX3_phase_1 : decode cX3_phase 1 = .ok (.iconst 0, 1) := by decide +kernel
theorem dX3_phase_2 : decode cX3_phase 2 = .ok (.putfield 43, 3) := by decide +kernel
theorem dX3_phase_5 : decode cX3_phase 5 = .ok (.aload_n 0, 1) := by decide +kernel
theorem dX3_phase_6 : decode cX3_phase 6 = .ok (.getfield 53, 3) := by decide +kernel
theorem dX3_phase_9 : decode cX3_phase 9 = .ok (.ireturn, 1) := by decide +kernel
