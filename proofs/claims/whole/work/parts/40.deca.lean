theorem dX2_init_0 : decode cX2_init 0 = .ok (.aload_n 0, 1) := by decide +kernel
theorem dX2_init_1 : decode cX2_init 1 = .ok (.invokespecial 1, 3) := by decide +kernel
theorem dX2_init_4 : decode cX2_init 4 = .ok (.aload_n 0, 1) := by decide +kernel
theorem dX2_init_5 : decode cX2_init 5 = .ok (.new 7, 3) := by decide +kernel
theorem dX2_init_8 : decode cX2_init 8 = .ok (.dup, 1) := by decide +kernel
theorem dX2_init_9 : decode cX2_init 9 = .ok (.invokespecial 9, 3) := by decide +kernel
theorem dX2_init_12 : decode cX2_init 12 = .ok (.putfield 10, 3) := by decide +kernel
theorem dX2_init_15 : decode cX2_init 15 = .ok (.aload_n 0, 1) := by decide +kernel
theorem dX2_init_16 : decode cX2_init 16 = .ok (.new 16, 3) := by decide +kernel
theorem dX2_init_19 : decode cX2_init 19 = .ok (.dup, 1) := by decide +kernel
theorem dX2_init_20 : decode cX2_init 20 = .ok (.invokespecial 18, 3) := by decide +kernel
theorem dX2_init_23 : decode cX2_init 23 = .ok (.putfield 19, 3) := by decide +kernel
theorem dX2_init_26 : decode cX2_init 26 = .ok (.aload_n 0, 1) := by decide +kernel
theorem dX2_init_27 : decode cX2_init 27 = .ok (.bipush 48, 2) := by decide +kernel
theorem dX2_init_29 : decode cX2_init 29 = .ok (.newarray .int, 2) := by decide +kernel
theorem dX2_init_31 : decode cX2_init 31 = .ok (.putfield 23, 3) := by decide +kernel
theorem dX2_init_34 : decode cX2_init 34 = .ok (.aload_n 0, 1) := by decide +kernel
theorem dX2_init_35 : decode cX2_init 35 = .ok (.bipush 96, 2) := by decide +kernel
theorem dX2_init_37 : decode cX2_init 37 = .ok (.newarray .int, 2) := by decide +kernel
theorem dX2_init_39 : decode cX2_init 39 = .ok (.putfield 27, 3) := by decide +kernel
theorem dX2_init_42 : decode cX2_init 42 = .ok (.aload_n 0, 1) := by decide +kernel
theorem dX2_init_43 : decode cX2_init 43 = .ok (.bipush 16, 2) := by decide +kernel
theorem dX2_init_45 : decode cX2_init 45 = .ok (.newarray .int, 2) := by decide +kernel
theorem dX2_init_47 : decode cX2_init 47 = .ok (.putfield 30, 3) := by decide +kernel
theorem dX2_init_50 : decode cX2_init 50 = .ok (.aload_n 0, 1) := by decide +kernel
theorem dX2_init_51 : decode cX2_init 51 = .ok (.iconst 0, 1) := by decide +kernel
theorem dX2_init_52 : decode cX2_init 52 = .ok (.putfield 33, 3) := by decide +kernel
theorem dX2_init_55 : decode cX2_init 55 = .ok (.aload_n 0, 1) := by decide +kernel
theorem dX2_init_56 : decode cX2_init 56 = .ok (.iconst (-1), 1) := by decide +kernel
theorem dX2_init_57 : decode cX2_init 57 = .ok (.putfield 37, 3) := by decide +kernel
theorem dX2_init_60 : decode cX2_init 60 = .ok (.return_, 1) := by decide +kernel
theorem dX2_key_0 : decode cX2_key 0 = .ok (.aload_n 0, 1) := by decide +kernel
theorem dX2_key_1 : decode cX2_key 1 = .ok (.getfield 10, 3) := by decide +kernel
theorem dX2_key_4 : decode cX2_key 4 = .ok (.lload_n 1, 1) := by decide +kernel
theorem dX2_key_5 : decode cX2_key 5 = .ok (.lload_n 3, 1) := by decide +kernel
theorem dX2_key_6 : decode cX2_key 6 = .ok (.invokevirtual 40, 3) := by decide +kernel
theorem dX2_key_9 : decode cX2_key 9 = .ok (.aload_n 0, 1) := by decide +kernel
theorem dX2_key_10 : decode cX2_key 10 = .ok (.iconst 0, 1) := by decide +kernel
theorem dX2_key_11 : decode cX2_key 11 = .ok (.putfield 33, 3) := by decide +kernel
theorem dX2_key_14 : decode cX2_key 14 = .ok (.aload_n 0, 1) := by decide +kernel
theorem dX2_key_15 : decode cX2_key 15 = .ok (.iconst 0, 1) := by decide +kernel
theorem dX2_key_16 : decode cX2_key 16 = .ok (.putfield 44, 3) := by decide +kernel
theorem dX2_key_19 : decode cX2_key 19 = .ok (.return_, 1) := by decide +kernel
theorem dX2_word_0 : decode cX2_word 0 = .ok (.iload_n 1, 1) := by decide +kernel
theorem dX2_word_1 : decode cX2_word 1 = .ok (.ifCond .lt 9, 3) := by decide +kernel
theorem dX2_word_4 : decode cX2_word 4 = .ok (.iload_n 1, 1) := by decide +kernel
theorem dX2_word_5 : decode cX2_word 5 = .ok (.bipush 44, 2) := by decide +kernel
theorem dX2_word_7 : decode cX2_word 7 = .ok (.if_icmp .lt 11, 3) := by decide +kernel
theorem dX2_word_10 : decode cX2_word 10 = .ok (.new 47, 3) := by decide +kernel
theorem dX2_word_13 : decode cX2_word 13 = .ok (.dup, 1) := by decide +kernel
theorem dX2_word_14 : decode cX2_word 14 = .ok (.invokespecial 49, 3) := by decide +kernel
theorem dX2_word_17 : decode cX2_word 17 = .ok (.athrow, 1) := by decide +kernel
theorem dX2_word_18 : decode cX2_word 18 = .ok (.aload_n 0, 1) := by decide +kernel
theorem dX2_word_19 : decode cX2_word 19 = .ok (.getfield 10, 3) := by decide +kernel
theorem dX2_word_22 : decode cX2_word 22 = .ok (.iload_n 1, 1) := by decide +kernel
theorem dX2_word_23 : decode cX2_word 23 = .ok (.invokevirtual 50, 3) := by decide +kernel
theorem dX2_word_26 : decode cX2_word 26 = .ok (.ireturn, 1) := by decide +kernel
theorem dX2_encrypt_0 : decode cX2_encrypt 0 = .ok (.aload_n 0, 1) := by decide +kernel
theorem dX2_encrypt_1 : decode cX2_encrypt 1 = .ok (.getfield 10, 3) := by decide +kernel
theorem dX2_encrypt_4 : decode cX2_encrypt 4 = .ok (.lload_n 1, 1) := by decide +kernel
theorem dX2_encrypt_5 : decode cX2_encrypt 5 = .ok (.lload_n 3, 1) := by decide +kernel
theorem dX2_encrypt_6 : decode cX2_encrypt 6 = .ok (.invokevirtual 54, 3) := by decide +kernel
theorem dX2_encrypt_9 : decode cX2_encrypt 9 = .ok (.iload 5, 2) := by decide +kernel
theorem dX2_encrypt_11 : decode cX2_encrypt 11 = .ok (.ifCond .eq 13, 3) := by decide +kernel
theorem dX2_encrypt_14 : decode cX2_encrypt 14 = .ok (.aload_n 0, 1) := by decide +kernel
theorem dX2_encrypt_15 : decode cX2_encrypt 15 = .ok (.getfield 10, 3) := by decide +kernel
theorem dX2_encrypt_18 : decode cX2_encrypt 18 = .ok (.invokevirtual 57, 3) := by decide +kernel
theorem dX2_encrypt_21 : decode cX2_encrypt 21 = .ok (.goto 10, 3) := by decide +kernel
theorem dX2_encrypt_24 : decode cX2_encrypt 24 = .ok (.aload_n 0, 1) := by decide +kernel
theorem dX2_encrypt_25 : decode cX2_encrypt 25 = .ok (.getfield 10, 3) := by decide +kernel
theorem dX2_encrypt_28 : decode cX2_encrypt 28 = .ok (.invokevirtual 61, 3) := by decide +kernel
theorem dX2_encrypt_31 : decode cX2_encrypt 31 = .ok (.lreturn, 1) := by decide +kernel
theorem dX2_decrypt_0 : decode cX2_decrypt 0 = .ok (.aload_n 0, 1) := by decide +kernel
theorem dX2_decrypt_1 : decode cX2_decrypt 1 = .ok (.getfield 10, 3) := by decide +kernel
theorem dX2_decrypt_4 : decode cX2_decrypt 4 = .ok (.lload_n 1, 1) := by decide +kernel
theorem dX2_decrypt_5 : decode cX2_decrypt 5 = .ok (.lload_n 3, 1) := by decide +kernel
theorem dX2_decrypt_6 : decode cX2_decrypt 6 = .ok (.invokevirtual 64, 3) := by decide +kernel
theorem dX2_decrypt_9 : decode cX2_decrypt 9 = .ok (.iload 5, 2) := by decide +kernel
theorem dX2_decrypt_11 : decode cX2_decrypt 11 = .ok (.ifCond .eq 13, 3) := by decide +kernel
theorem dX2_decrypt_14 : decode cX2_decrypt 14 = .ok (.aload_n 0, 1) := by decide +kernel
theorem dX2_decrypt_15 : decode cX2_decrypt 15 = .ok (.getfield 10, 3) := by decide +kernel
theorem dX2_decrypt_18 : decode cX2_decrypt 18 = .ok (.invokevirtual 57, 3) := by decide +kernel
theorem dX2_decrypt_21 : decode cX2_decrypt 21 = .ok (.goto 10, 3) := by decide +kernel
theorem dX2_decrypt_24 : decode cX2_decrypt 24 = .ok (.aload_n 0, 1) := by decide +kernel
theorem dX2_decrypt_25 : decode cX2_decrypt 25 = .ok (.getfield 10, 3) := by decide +kernel
theorem dX2_decrypt_28 : decode cX2_decrypt 28 = .ok (.invokevirtual 61, 3) := by decide +kernel
theorem dX2_decrypt_31 : decode cX2_decrypt 31 = .ok (.lreturn, 1) := by decide +kernel
theorem dX2_product_0 : decode cX2_product 0 = .ok (.aload_n 0, 1) := by decide +kernel
theorem dX2_product_1 : decode cX2_product 1 = .ok (.getfield 19, 3) := by decide +kernel
theorem dX2_product_4 : decode cX2_product 4 = .ok (.lload_n 1, 1) := by decide +kernel
theorem dX2_product_5 : decode cX2_product 5 = .ok (.lload_n 3, 1) := by decide +kernel
theorem dX2_product_6 : decode cX2_product 6 = .ok (.invokevirtual 67, 3) := by decide +kernel
theorem dX2_product_9 : decode cX2_product 9 = .ok (.aload_n 0, 1) := by decide +kernel
theorem dX2_product_10 : decode cX2_product 10 = .ok (.getfield 19, 3) := by decide +kernel
theorem dX2_product_13 : decode cX2_product 13 = .ok (.lload 5, 2) := by decide +kernel
theorem dX2_product_15 : decode cX2_product 15 = .ok (.lload 7, 2) := by decide +kernel
theorem dX2_product_17 : decode cX2_product 17 = .ok (.invokevirtual 70, 3) := by decide +kernel
theorem dX2_product_20 : decode cX2_product 20 = .ok (.iload 9, 2) := by decide +kernel
theorem dX2_product_22 : decode cX2_product 22 = .ok (.ifCond .eq 13, 3) := by decide +kernel
theorem dX2_product_25 : decode cX2_product 25 = .ok (.aload_n 0, 1) := by decide +kernel
theorem dX2_product_26 : decode cX2_product 26 = .ok (.getfield 19, 3) := by decide +kernel
theorem dX2_product_29 : decode cX2_product 29 = .ok (.invokevirtual 73, 3) := by decide +kernel
theorem dX2_product_32 : decode cX2_product 32 = .ok (.goto 10, 3) := by decide +kernel
theorem dX2_product_35 : decode cX2_product 35 = .ok (.aload_n 0, 1) := by decide +kernel
theorem dX2_product_36 : decode cX2_product 36 = .ok (.getfield 19, 3) := by decide +kernel
theorem dX2_product_39 : decode cX2_product 39 = .ok (.invokevirtual 74, 3) := by decide +kernel
theorem dX2_product_42 : decode cX2_product 42 = .ok (.lreturn, 1) := by decide +kernel
theorem dX2_start_0 : decode cX2_start 0 = .ok (.aload_n 0, 1) := by decide +kernel
theorem dX2_start_1 : decode cX2_start 1 = .ok (.iload_n 1, 1) := by decide +kernel
theorem dX2_start_2 : decode cX2_start 2 = .ok (.putfield 75, 3) := by decide +kernel
theorem dX2_start_5 : decode cX2_start 5 = .ok (.aload_n 0, 1) := by decide +kernel
theorem dX2_start_6 : decode cX2_start 6 = .ok (.lload_n 2, 1) := by decide +kernel
theorem dX2_start_7 : decode cX2_start 7 = .ok (.putfield 79, 3) := by decide +kernel
theorem dX2_start_10 : decode cX2_start 10 = .ok (.aload_n 0, 1) := by decide +kernel
theorem dX2_start_11 : decode cX2_start 11 = .ok (.iload 4, 2) := by decide +kernel
theorem dX2_start_13 : decode cX2_start 13 = .ok (.putfield 83, 3) := by decide +kernel
theorem dX2_start_16 : decode cX2_start 16 = .ok (.aload_n 0, 1) := by decide +kernel
theorem dX2_start_17 : decode cX2_start 17 = .ok (.iconst 0, 1) := by decide +kernel
theorem dX2_start_18 : decode cX2_start 18 = .ok (.putfield 86, 3) := by decide +kernel
theorem dX2_start_21 : decode cX2_start 21 = .ok (.aload_n 0, 1) := by decide +kernel
theorem dX2_start_22 : decode cX2_start 22 = .ok (.iconst 0, 1) := by decide +kernel
theorem dX2_start_23 : decode cX2_start 23 = .ok (.putfield 44, 3) := by decide +kernel
theorem dX2_start_26 : decode cX2_start 26 = .ok (.aload_n 0, 1) := by decide +kernel
theorem dX2_start_27 : decode cX2_start 27 = .ok (.iconst (-1), 1) := by decide +kernel
theorem dX2_start_28 : decode cX2_start 28 = .ok (.putfield 37, 3) := by decide +kernel
theorem dX2_start_31 : decode cX2_start 31 = .ok (.aload_n 0, 1) := by decide +kernel
theorem dX2_start_32 : decode cX2_start 32 = .ok (.iconst 1, 1) := by decide +kernel
theorem dX2_start_33 : decode cX2_start 33 = .ok (.putfield 33, 3) := by decide +kernel
theorem dX2_start_36 : decode cX2_start 36 = .ok (.return_, 1) := by decide +kernel
theorem dX2_aside_0 : decode cX2_aside 0 = .ok (.aload_n 0, 1) := by decide +kernel
theorem dX2_aside_1 : decode cX2_aside 1 = .ok (.getfield 33, 3) := by decide +kernel
theorem dX2_aside_4 : decode cX2_aside 4 = .ok (.iconst 1, 1) := by decide +kernel
theorem dX2_aside_5 : decode cX2_aside 5 = .ok (.if_icmp .eq 11, 3) := by decide +kernel
theorem dX2_aside_8 : decode cX2_aside 8 = .ok (.new 89, 3) := by decide +kernel
theorem dX2_aside_11 : decode cX2_aside 11 = .ok (.dup, 1) := by decide +kernel
theorem dX2_aside_12 : decode cX2_aside 12 = .ok (.invokespecial 91, 3) := by decide +kernel
theorem dX2_aside_15 : decode cX2_aside 15 = .ok (.athrow, 1) := by decide +kernel
theorem dX2_aside_16 : decode cX2_aside 16 = .ok (.iload_n 3, 1) := by decide +kernel
theorem dX2_aside_17 : decode cX2_aside 17 = .ok (.aload_n 0, 1) := by decide +kernel
theorem dX2_aside_18 : decode cX2_aside 18 = .ok (.getfield 86, 3) := by decide +kernel
theorem dX2_aside_21 : decode cX2_aside 21 = .ok (.bipush 48, 2) := by decide +kernel
theorem dX2_aside_23 : decode cX2_aside 23 = .ok (.invokestatic 92, 3) := by decide +kernel
theorem dX2_aside_26 : decode cX2_aside 26 = .ok (.iconst 0, 1) := by decide +kernel
theorem dX2_aside_27 : decode cX2_aside 27 = .ok (.istore 4, 2) := by decide +kernel
theorem dX2_aside_29 : decode cX2_aside 29 = .ok (.iload 4, 2) := by decide +kernel
theorem dX2_aside_31 : decode cX2_aside 31 = .ok (.iload_n 3, 1) := by decide +kernel
theorem dX2_aside_32 : decode cX2_aside 32 = .ok (.if_icmp .ge 34, 3) := by decide +kernel
theorem dX2_aside_35 : decode cX2_aside 35 = .ok (.aload_n 0, 1) := by decide +kernel
theorem dX2_aside_36 : decode cX2_aside 36 = .ok (.getfield 23, 3) := by decide +kernel
theorem dX2_aside_39 : decode cX2_aside 39 = .ok (.aload_n 0, 1) := by decide +kernel
theorem dX2_aside_40 : decode cX2_aside 40 = .ok (.getfield 86, 3) := by decide +kernel
theorem dX2_aside_43 : decode cX2_aside 43 = .ok (.lload_n 1, 1) := by decide +kernel
theorem dX2_aside_44 : decode cX2_aside 44 = .ok (.iload 4, 2) := by decide +kernel
theorem dX2_aside_46 : decode cX2_aside 46 = .ok (.invokestatic 96, 3) := by decide +kernel
theorem dX2_aside_49 : decode cX2_aside 49 = .ok (.iastore, 1) := by decide +kernel
theorem dX2_aside_50 : decode cX2_aside 50 = .ok (.aload_n 0, 1) := by decide +kernel
theorem dX2_aside_51 : decode cX2_aside 51 = .ok (.dup, 1) := by decide +kernel
theorem dX2_aside_52 : decode cX2_aside 52 = .ok (.getfield 86, 3) := by decide +kernel
theorem dX2_aside_55 : decode cX2_aside 55 = .ok (.iconst 1, 1) := by decide +kernel
theorem dX2_aside_56 : decode cX2_aside 56 = .ok (.iadd, 1) := by decide +kernel
theorem dX2_aside_57 : decode cX2_aside 57 = .ok (.putfield 86, 3) := by decide +kernel
theorem dX2_aside_60 : decode cX2_aside 60 = .ok (.iinc 4 1, 3) := by decide +kernel
theorem dX2_aside_63 : decode cX2_aside 63 = .ok (.goto (-34), 3) := by decide +kernel
theorem dX2_aside_66 : decode cX2_aside 66 = .ok (.aload_n 0, 1) := by decide +kernel
theorem dX2_aside_67 : decode cX2_aside 67 = .ok (.getfield 86, 3) := by decide +kernel
theorem dX2_aside_70 : decode cX2_aside 70 = .ok (.ireturn, 1) := by decide +kernel
theorem dX2_text_0 : decode cX2_text 0 = .ok (.aload_n 0, 1) := by decide +kernel
theorem dX2_text_1 : decode cX2_text 1 = .ok (.invokevirtual 100, 3) := by decide +kernel
theorem dX2_text_4 : decode cX2_text 4 = .ok (.ifCond .ne 11, 3) := by decide +kernel
theorem dX2_text_7 : decode cX2_text 7 = .ok (.new 89, 3) := by decide +kernel
theorem dX2_text_10 : decode cX2_text 10 = .ok (.dup, 1) := by decide +kernel
theorem dX2_text_11 : decode cX2_text 11 = .ok (.invokespecial 91, 3) := by decide +kernel
theorem dX2_text_14 : decode cX2_text 14 = .ok (.athrow, 1) := by decide +kernel
theorem dX2_text_15 : decode cX2_text 15 = .ok (.iload_n 3, 1) := by decide +kernel
theorem dX2_text_16 : decode cX2_text 16 = .ok (.aload_n 0, 1) := by decide +kernel
theorem dX2_text_17 : decode cX2_text 17 = .ok (.getfield 44, 3) := by decide +kernel
theorem dX2_text_20 : decode cX2_text 20 = .ok (.bipush 96, 2) := by decide +kernel
theorem dX2_text_22 : decode cX2_text 22 = .ok (.invokestatic 92, 3) := by decide +kernel
theorem dX2_text_25 : decode cX2_text 25 = .ok (.aload_n 0, 1) := by decide +kernel
theorem dX2_text_26 : decode cX2_text 26 = .ok (.iconst 2, 1) := by decide +kernel
theorem dX2_text_27 : decode cX2_text 27 = .ok (.putfield 33, 3) := by decide +kernel
theorem dX2_text_30 : decode cX2_text 30 = .ok (.aload_n 0, 1) := by decide +kernel
theorem dX2_text_31 : decode cX2_text 31 = .ok (.getfield 75, 3) := by decide +kernel
theorem dX2_text_34 : decode cX2_text 34 = .ok (.ifCond .eq 12, 3) := by decide +kernel
theorem dX2_text_37 : decode cX2_text 37 = .ok (.aload_n 0, 1) := by decide +kernel
theorem dX2_text_38 : decode cX2_text 38 = .ok (.lload_n 1, 1) := by decide +kernel
theorem dX2_text_39 : decode cX2_text 39 = .ok (.iload_n 3, 1) := by decide +kernel
theorem dX2_text_40 : decode cX2_text 40 = .ok (.invokevirtual 104, 3) := by decide +kernel
theorem dX2_text_43 : decode cX2_text 43 = .ok (.goto 9, 3) := by decide +kernel
theorem dX2_text_46 : decode cX2_text 46 = .ok (.aload_n 0, 1) := by decide +kernel
theorem dX2_text_47 : decode cX2_text 47 = .ok (.lload_n 1, 1) := by decide +kernel
theorem dX2_text_48 : decode cX2_text 48 = .ok (.iload_n 3, 1) := by decide +kernel
theorem dX2_text_49 : decode cX2_text 49 = .ok (.invokevirtual 108, 3) := by decide +kernel
theorem dX2_text_52 : decode cX2_text 52 = .ok (.lreturn, 1) := by decide +kernel
theorem dX2_seal_0 : decode cX2_seal 0 = .ok (.aload_n 0, 1) := by decide +kernel
theorem dX2_seal_1 : decode cX2_seal 1 = .ok (.invokevirtual 100, 3) := by decide +kernel
theorem dX2_seal_4 : decode cX2_seal 4 = .ok (.ifCond .eq 10, 3) := by decide +kernel
theorem dX2_seal_7 : decode cX2_seal 7 = .ok (.aload_n 0, 1) := by decide +kernel
theorem dX2_seal_8 : decode cX2_seal 8 = .ok (.getfield 75, 3) := by decide +kernel
theorem dX2_seal_11 : decode cX2_seal 11 = .ok (.ifCond .eq 11, 3) := by decide +kernel
theorem dX2_seal_14 : decode cX2_seal 14 = .ok (.new 89, 3) := by decide +kernel
theorem dX2_seal_17 : decode cX2_seal 17 = .ok (.dup, 1) := by decide +kernel
theorem dX2_seal_18 : decode cX2_seal 18 = .ok (.invokespecial 91, 3) := by decide +kernel
theorem dX2_seal_21 : decode cX2_seal 21 = .ok (.athrow, 1) := by decide +kernel
theorem dX2_seal_22 : decode cX2_seal 22 = .ok (.aload_n 0, 1) := by decide +kernel
theorem dX2_seal_23 : decode cX2_seal 23 = .ok (.invokevirtual 111, 3) := by decide +kernel
theorem dX2_seal_26 : decode cX2_seal 26 = .ok (.aload_n 0, 1) := by decide +kernel
theorem dX2_seal_27 : decode cX2_seal 27 = .ok (.iconst 3, 1) := by decide +kernel
theorem dX2_seal_28 : decode cX2_seal 28 = .ok (.putfield 33, 3) := by decide +kernel
theorem dX2_seal_31 : decode cX2_seal 31 = .ok (.aload_n 0, 1) := by decide +kernel
theorem dX2_seal_32 : decode cX2_seal 32 = .ok (.getfield 44, 3) := by decide +kernel
theorem dX2_seal_35 : decode cX2_seal 35 = .ok (.ireturn, 1) := by decide +kernel
theorem dX2_open_0 : decode cX2_open 0 = .ok (.aload_n 0, 1) := by decide +kernel
theorem dX2_open_1 : decode cX2_open 1 = .ok (.invokevirtual 100, 3) := by decide +kernel
theorem dX2_open_4 : decode cX2_open 4 = .ok (.ifCond .eq 10, 3) := by decide +kernel
theorem dX2_open_7 : decode cX2_open 7 = .ok (.aload_n 0, 1) := by decide +kernel
theorem dX2_open_8 : decode cX2_open 8 = .ok (.getfield 75, 3) := by decide +kernel
theorem dX2_open_11 : decode cX2_open 11 = .ok (.ifCond .ne 11, 3) := by decide +kernel
theorem dX2_open_14 : decode cX2_open 14 = .ok (.new 89, 3) := by decide +kernel
theorem dX2_open_17 : decode cX2_open 17 = .ok (.dup, 1) := by decide +kernel
theorem dX2_open_18 : decode cX2_open 18 = .ok (.invokespecial 91, 3) := by decide +kernel
theorem dX2_open_21 : decode cX2_open 21 = .ok (.athrow, 1) := by decide +kernel
theorem dX2_open_22 : decode cX2_open 22 = .ok (.aload_n 0, 1) := by decide +kernel
theorem dX2_open_23 : decode cX2_open 23 = .ok (.invokevirtual 111, 3) := by decide +kernel
theorem dX2_open_26 : decode cX2_open 26 = .ok (.lload_n 1, 1) := by decide +kernel
theorem dX2_open_27 : decode cX2_open 27 = .ok (.aload_n 0, 1) := by decide +kernel
theorem dX2_open_28 : decode cX2_open 28 = .ok (.getfield 114, 3) := by decide +kernel
theorem dX2_open_31 : decode cX2_open 31 = .ok (.lxor, 1) := by decide +kernel
theorem dX2_open_32 : decode cX2_open 32 = .ok (.lload_n 3, 1) := by decide +kernel
theorem dX2_open_33 : decode cX2_open 33 = .ok (.aload_n 0, 1) := by decide +kernel
theorem dX2_open_34 : decode cX2_open 34 = .ok (.getfield 117, 3) := by decide +kernel
theorem dX2_open_37 : decode cX2_open 37 = .ok (.lxor, 1) := by decide +kernel
theorem dX2_open_38 : decode cX2_open 38 = .ok (.lor, 1) := by decide +kernel
theorem dX2_open_39 : decode cX2_open 39 = .ok (.lconst 0, 1) := by decide +kernel
theorem dX2_open_40 : decode cX2_open 40 = .ok (.lcmp, 1) := by decide +kernel
theorem dX2_open_41 : decode cX2_open 41 = .ok (.ifCond .ne 7, 3) := by decide +kernel
theorem dX2_open_44 : decode cX2_open 44 = .ok (.iconst 1, 1) := by decide +kernel
theorem dX2_open_45 : decode cX2_open 45 = .ok (.goto 4, 3) := by decide +kernel
theorem dX2_open_48 : decode cX2_open 48 = .ok (.iconst 0, 1) := by decide +kernel
theorem dX2_open_49 : decode cX2_open 49 = .ok (.istore 5, 2) := by decide +kernel
theorem dX2_open_51 : decode cX2_open 51 = .ok (.iload 5, 2) := by decide +kernel
theorem dX2_open_53 : decode cX2_open 53 = .ok (.ifCond .eq 7, 3) := by decide +kernel
theorem dX2_open_56 : decode cX2_open 56 = .ok (.aload_n 0, 1) := by decide +kernel
theorem dX2_open_57 : decode cX2_open 57 = .ok (.invokevirtual 120, 3) := by decide +kernel
theorem dX2_open_60 : decode cX2_open 60 = .ok (.aload_n 0, 1) := by decide +kernel
theorem dX2_open_61 : decode cX2_open 61 = .ok (.iload 5, 2) := by decide +kernel
theorem dX2_open_63 : decode cX2_open 63 = .ok (.ifCond .eq 7, 3) := by decide +kernel
theorem dX2_open_66 : decode cX2_open 66 = .ok (.iconst 4, 1) := by decide +kernel
theorem dX2_open_67 : decode cX2_open 67 = .ok (.goto 4, 3) := by decide +kernel
theorem dX2_open_70 : decode cX2_open 70 = .ok (.iconst 5, 1) := by decide +kernel
theorem dX2_open_71 : decode cX2_open 71 = .ok (.putfield 33, 3) := by decide +kernel
theorem dX2_open_74 : decode cX2_open 74 = .ok (.iload 5, 2) := by decide +kernel
theorem dX2_open_76 : decode cX2_open 76 = .ok (.ireturn, 1) := by decide +kernel
theorem dX2_tag_0 : decode cX2_tag 0 = .ok (.aload_n 0, 1) := by decide +kernel
theorem dX2_tag_1 : decode cX2_tag 1 = .ok (.getfield 33, 3) := by decide +kernel
theorem dX2_tag_4 : decode cX2_tag 4 = .ok (.iconst 3, 1) := by decide +kernel
theorem dX2_tag_5 : decode cX2_tag 5 = .ok (.if_icmp .eq 11, 3) := by decide +kernel
theorem dX2_tag_8 : decode cX2_tag 8 = .ok (.new 89, 3) := by decide +kernel
theorem dX2_tag_11 : decode cX2_tag 11 = .ok (.dup, 1) := by decide +kernel
theorem dX2_tag_12 : decode cX2_tag 12 = .ok (.invokespecial 91, 3) := by decide +kernel
theorem dX2_tag_15 : decode cX2_tag 15 = .ok (.athrow, 1) := by decide +kernel
theorem dX2_tag_16 : decode cX2_tag 16 = .ok (.iload_n 1, 1) := by decide +kernel
theorem dX2_tag_17 : decode cX2_tag 17 = .ok (.ifCond .eq 10, 3) := by decide +kernel
theorem dX2_tag_20 : decode cX2_tag 20 = .ok (.aload_n 0, 1) := by decide +kernel
theorem dX2_tag_21 : decode cX2_tag 21 = .ok (.getfield 117, 3) := by decide +kernel
theorem dX2_tag_24 : decode cX2_tag 24 = .ok (.goto 7, 3) := by decide +kernel
theorem dX2_tag_27 : decode cX2_tag 27 = .ok (.aload_n 0, 1) := by decide +kernel
theorem dX2_tag_28 : decode cX2_tag 28 = .ok (.getfield 114, 3) := by decide +kernel
theorem dX2_tag_31 : decode cX2_tag 31 = .ok (.lreturn, 1) := by decide +kernel
theorem dX2_length_0 : decode cX2_length 0 = .ok (.aload_n 0, 1) := by decide +kernel
theorem dX2_length_1 : decode cX2_length 1 = .ok (.getfield 44, 3) := by decide +kernel
theorem dX2_length_4 : decode cX2_length 4 = .ok (.ireturn, 1) := by decide +kernel
theorem dX2_at_0 : decode cX2_at 0 = .ok (.aload_n 0, 1) := by decide +kernel
theorem dX2_at_1 : decode cX2_at 1 = .ok (.invokevirtual 123, 3) := by decide +kernel
theorem dX2_at_4 : decode cX2_at 4 = .ok (.ifCond .eq 24, 3) := by decide +kernel
theorem dX2_at_7 : decode cX2_at 7 = .ok (.iload_n 1, 1) := by decide +kernel
theorem dX2_at_8 : decode cX2_at 8 = .ok (.ifCond .lt 20, 3) := by decide +kernel
theorem dX2_at_11 : decode cX2_at 11 = .ok (.iload_n 1, 1) := by decide +kernel
theorem dX2_at_12 : decode cX2_at 12 = .ok (.aload_n 0, 1) := by decide +kernel
theorem dX2_at_13 : decode cX2_at 13 = .ok (.getfield 44, 3) := by decide +kernel
theorem dX2_at_16 : decode cX2_at 16 = .ok (.if_icmp .ge 12, 3) := by decide +kernel
theorem dX2_at_19 : decode cX2_at 19 = .ok (.aload_n 0, 1) := by decide +kernel
theorem dX2_at_20 : decode cX2_at 20 = .ok (.getfield 27, 3) := by decide +kernel
theorem dX2_at_23 : decode cX2_at 23 = .ok (.iload_n 1, 1) := by decide +kernel
theorem dX2_at_24 : decode cX2_at 24 = .ok (.iaload, 1) := by decide +kernel
theorem dX2_at_25 : decode cX2_at 25 = .ok (.goto 4, 3) := by decide +kernel
theorem dX2_at_28 : decode cX2_at 28 = .ok (.iconst (-1), 1) := by decide +kernel
theorem dX2_at_29 : decode cX2_at 29 = .ok (.ireturn, 1) := by decide +kernel
theorem dX2_phase_0 : decode cX2_phase 0 = .ok (.aload_n 0, 1) := by decide +kernel
theorem dX2_phase_1 : decode cX2_phase 1 = .ok (.getfield 33, 3) := by decide +kernel
theorem dX2_phase_4 : decode cX2_phase 4 = .ok (.ireturn, 1) := by decide +kernel
theorem dX2_isUnderWay_0 : decode cX2_isUnderWay 0 = .ok (.aload_n 0, 1) := by decide +kernel
theorem dX2_isUnderWay_1 : decode cX2_isUnderWay 1 = .ok (.getfield 33, 3) := by decide +kernel
theorem dX2_isUnderWay_4 : decode cX2_isUnderWay 4 = .ok (.iconst 1, 1) := by decide +kernel
theorem dX2_isUnderWay_5 : decode cX2_isUnderWay 5 = .ok (.if_icmp .eq 11, 3) := by decide +kernel
theorem dX2_isUnderWay_8 : decode cX2_isUnderWay 8 = .ok (.aload_n 0, 1) := by decide +kernel
theorem dX2_isUnderWay_9 : decode cX2_isUnderWay 9 = .ok (.getfield 33, 3) := by decide +kernel
theorem dX2_isUnderWay_12 : decode cX2_isUnderWay 12 = .ok (.iconst 2, 1) := by decide +kernel
theorem dX2_isUnderWay_13 : decode cX2_isUnderWay 13 = .ok (.if_icmp .ne 7, 3) := by decide +kernel
theorem dX2_isUnderWay_16 : decode cX2_isUnderWay 16 = .ok (.iconst 1, 1) := by decide +kernel
theorem dX2_isUnderWay_17 : decode cX2_isUnderWay 17 = .ok (.goto 4, 3) := by decide +kernel
theorem dX2_isUnderWay_20 : decode cX2_isUnderWay 20 = .ok (.iconst 0, 1) := by decide +kernel
theorem dX2_isUnderWay_21 : decode cX2_isUnderWay 21 = .ok (.ireturn, 1) := by decide +kernel
theorem dX2_isReadable_0 : decode cX2_isReadable 0 = .ok (.aload_n 0, 1) := by decide +kernel
theorem dX2_isReadable_1 : decode cX2_isReadable 1 = .ok (.getfield 33, 3) := by decide +kernel
theorem dX2_isReadable_4 : decode cX2_isReadable 4 = .ok (.iconst 4, 1) := by decide +kernel
theorem dX2_isReadable_5 : decode cX2_isReadable 5 = .ok (.if_icmp .eq 17, 3) := by decide +kernel
theorem dX2_isReadable_8 : decode cX2_isReadable 8 = .ok (.aload_n 0, 1) := by decide +kernel
theorem dX2_isReadable_9 : decode cX2_isReadable 9 = .ok (.getfield 33, 3) := by decide +kernel
theorem dX2_isReadable_12 : decode cX2_isReadable 12 = .ok (.ifCond .eq 14, 3) := by decide +kernel
theorem dX2_isReadable_15 : decode cX2_isReadable 15 = .ok (.aload_n 0, 1) := by decide +kernel
theorem dX2_isReadable_16 : decode cX2_isReadable 16 = .ok (.getfield 75, 3) := by decide +kernel
theorem dX2_isReadable_19 : decode cX2_isReadable 19 = .ok (.ifCond .ne 7, 3) := by decide +kernel
theorem dX2_isReadable_22 : decode cX2_isReadable 22 = .ok (.iconst 1, 1) := by decide +kernel
theorem dX2_isReadable_23 : decode cX2_isReadable 23 = .ok (.goto 4, 3) := by decide +kernel
theorem dX2_isReadable_26 : decode cX2_isReadable 26 = .ok (.iconst 0, 1) := by decide +kernel
theorem dX2_isReadable_27 : decode cX2_isReadable 27 = .ok (.ireturn, 1) := by decide +kernel
theorem dX2_checkPiece_0 : decode cX2_checkPiece 0 = .ok (.iload_n 0, 1) := by decide +kernel
theorem dX2_checkPiece_1 : decode cX2_checkPiece 1 = .ok (.ifCond .lt 9, 3) := by decide +kernel
theorem dX2_checkPiece_4 : decode cX2_checkPiece 4 = .ok (.iload_n 0, 1) := by decide +kernel
theorem dX2_checkPiece_5 : decode cX2_checkPiece 5 = .ok (.bipush 8, 2) := by decide +kernel
theorem dX2_checkPiece_7 : decode cX2_checkPiece 7 = .ok (.if_icmp .le 11, 3) := by decide +kernel
theorem dX2_checkPiece_10 : decode cX2_checkPiece 10 = .ok (.new 126, 3) := by decide +kernel
theorem dX2_checkPiece_13 : decode cX2_checkPiece 13 = .ok (.dup, 1) := by decide +kernel
theorem dX2_checkPiece_14 : decode cX2_checkPiece 14 = .ok (.invokespecial 128, 3) := by decide +kernel
theorem dX2_checkPiece_17 : decode cX2_checkPiece 17 = .ok (.athrow, 1) := by decide +kernel
theorem dX2_checkPiece_18 : decode cX2_checkPiece 18 = .ok (.iload_n 1, 1) := by decide +kernel
theorem dX2_checkPiece_19 : decode cX2_checkPiece 19 = .ok (.iload_n 0, 1) := by decide +kernel
theorem dX2_checkPiece_20 : decode cX2_checkPiece 20 = .ok (.iadd, 1) := by decide +kernel
theorem dX2_checkPiece_21 : decode cX2_checkPiece 21 = .ok (.iload_n 2, 1) := by decide +kernel
theorem dX2_checkPiece_22 : decode cX2_checkPiece 22 = .ok (.if_icmp .le 11, 3) := by decide +kernel
theorem dX2_checkPiece_25 : decode cX2_checkPiece 25 = .ok (.new 129, 3) := by decide +kernel
theorem dX2_checkPiece_28 : decode cX2_checkPiece 28 = .ok (.dup, 1) := by decide +kernel
theorem dX2_checkPiece_29 : decode cX2_checkPiece 29 = .ok (.invokespecial 131, 3) := by decide +kernel
theorem dX2_checkPiece_32 : decode cX2_checkPiece 32 = .ok (.athrow, 1) := by decide +kernel
theorem dX2_checkPiece_33 : decode cX2_checkPiece 33 = .ok (.return_, 1) := by decide +kernel
theorem dX2_pieceByte_0 : decode cX2_pieceByte 0 = .ok (.lload_n 0, 1) := by decide +kernel
theorem dX2_pieceByte_1 : decode cX2_pieceByte 1 = .ok (.bipush 8, 2) := by decide +kernel
theorem dX2_pieceByte_3 : decode cX2_pieceByte 3 = .ok (.iload_n 2, 1) := by decide +kernel
theorem dX2_pieceByte_4 : decode cX2_pieceByte 4 = .ok (.imul, 1) := by decide +kernel
theorem dX2_pieceByte_5 : decode cX2_pieceByte 5 = .ok (.lushr, 1) := by decide +kernel
theorem dX2_pieceByte_6 : decode cX2_pieceByte 6 = .ok (.l2i, 1) := by decide +kernel
theorem dX2_pieceByte_7 : decode cX2_pieceByte 7 = .ok (.sipush 255, 3) := by decide +kernel
theorem dX2_pieceByte_10 : decode cX2_pieceByte 10 = .ok (.iand, 1) := by decide +kernel
theorem dX2_pieceByte_11 : decode cX2_pieceByte 11 = .ok (.ireturn, 1) := by decide +kernel
theorem dX2_takePlain_0 : decode cX2_takePlain 0 = .ok (.lconst 0, 1) := by decide +kernel
theorem dX2_takePlain_1 : decode cX2_takePlain 1 = .ok (.lstore 4, 2) := by decide +kernel
theorem dX2_takePlain_3 : decode cX2_takePlain 3 = .ok (.iconst 0, 1) := by decide +kernel
theorem dX2_takePlain_4 : decode cX2_takePlain 4 = .ok (.istore 6, 2) := by decide +kernel
theorem dX2_takePlain_6 : decode cX2_takePlain 6 = .ok (.iload 6, 2) := by decide +kernel
theorem dX2_takePlain_8 : decode cX2_takePlain 8 = .ok (.iload_n 3, 1) := by decide +kernel
theorem dX2_takePlain_9 : decode cX2_takePlain 9 = .ok (.if_icmp .ge 61, 3) := by decide +kernel
theorem dX2_takePlain_12 : decode cX2_takePlain 12 = .ok (.lload_n 1, 1) := by decide +kernel
theorem dX2_takePlain_13 : decode cX2_takePlain 13 = .ok (.iload 6, 2) := by decide +kernel
theorem dX2_takePlain_15 : decode cX2_takePlain 15 = .ok (.invokestatic 96, 3) := by decide +kernel
theorem dX2_takePlain_18 : decode cX2_takePlain 18 = .ok (.aload_n 0, 1) := by decide +kernel
theorem dX2_takePlain_19 : decode cX2_takePlain 19 = .ok (.aload_n 0, 1) := by decide +kernel
theorem dX2_takePlain_20 : decode cX2_takePlain 20 = .ok (.getfield 44, 3) := by decide +kernel
theorem dX2_takePlain_23 : decode cX2_takePlain 23 = .ok (.invokevirtual 132, 3) := by decide +kernel
theorem dX2_takePlain_26 : decode cX2_takePlain 26 = .ok (.ixor, 1) := by decide +kernel
theorem dX2_takePlain_27 : decode cX2_takePlain 27 = .ok (.istore 7, 2) := by decide +kernel
theorem dX2_takePlain_29 : decode cX2_takePlain 29 = .ok (.aload_n 0, 1) := by decide +kernel
theorem dX2_takePlain_30 : decode cX2_takePlain 30 = .ok (.getfield 27, 3) := by decide +kernel
theorem dX2_takePlain_33 : decode cX2_takePlain 33 = .ok (.aload_n 0, 1) := by decide +kernel
theorem dX2_takePlain_34 : decode cX2_takePlain 34 = .ok (.getfield 44, 3) := by decide +kernel
theorem dX2_takePlain_37 : decode cX2_takePlain 37 = .ok (.iload 7, 2) := by decide +kernel
theorem dX2_takePlain_39 : decode cX2_takePlain 39 = .ok (.iastore, 1) := by decide +kernel
theorem dX2_takePlain_40 : decode cX2_takePlain 40 = .ok (.aload_n 0, 1) := by decide +kernel
theorem dX2_takePlain_41 : decode cX2_takePlain 41 = .ok (.dup, 1) := by decide +kernel
theorem dX2_takePlain_42 : decode cX2_takePlain 42 = .ok (.getfield 44, 3) := by decide +kernel
theorem dX2_takePlain_45 : decode cX2_takePlain 45 = .ok (.iconst 1, 1) := by decide +kernel
theorem dX2_takePlain_46 : decode cX2_takePlain 46 = .ok (.iadd, 1) := by decide +kernel
theorem dX2_takePlain_47 : decode cX2_takePlain 47 = .ok (.putfield 44, 3) := by decide +kernel
theorem dX2_takePlain_50 : decode cX2_takePlain 50 = .ok (.lload 4, 2) := by decide +kernel
theorem dX2_takePlain_52 : decode cX2_takePlain 52 = .ok (.iload 7, 2) := by decide +kernel
theorem dX2_takePlain_54 : decode cX2_takePlain 54 = .ok (.i2l, 1) := by decide +kernel
theorem dX2_takePlain_55 : decode cX2_takePlain 55 = .ok (.bipush 8, 2) := by decide +kernel
theorem dX2_takePlain_57 : decode cX2_takePlain 57 = .ok (.iload 6, 2) := by decide +kernel
theorem dX2_takePlain_59 : decode cX2_takePlain 59 = .ok (.imul, 1) := by decide +kernel
theorem dX2_takePlain_60 : decode cX2_takePlain 60 = .ok (.lshl, 1) := by decide +kernel
theorem dX2_takePlain_61 : decode cX2_takePlain 61 = .ok (.lor, 1) := by decide +kernel
theorem dX2_takePlain_62 : decode cX2_takePlain 62 = .ok (.lstore 4, 2) := by decide +kernel
theorem dX2_takePlain_64 : decode cX2_takePlain 64 = .ok (.iinc 6 1, 3) := by decide +kernel
theorem dX2_takePlain_67 : decode cX2_takePlain 67 = .ok (.goto (-61), 3) := by decide +kernel
theorem dX2_takePlain_70 : decode cX2_takePlain 70 = .ok (.lload 4, 2) := by decide +kernel
theorem dX2_takePlain_72 : decode cX2_takePlain 72 = .ok (.lreturn, 1) := by decide +kernel
theorem dX2_takeSealed_0 : decode cX2_takeSealed 0 = .ok (.iconst 0, 1) := by decide +kernel
theorem dX2_takeSealed_1 : decode cX2_takeSealed 1 = .ok (.istore 4, 2) := by decide +kernel
theorem dX2_takeSealed_3 : decode cX2_takeSealed 3 = .ok (.iload 4, 2) := by decide +kernel
theorem dX2_takeSealed_5 : decode cX2_takeSealed 5 = .ok (.iload_n 3, 1) := by decide +kernel
theorem dX2_takeSealed_6 : decode cX2_takeSealed 6 = .ok (.if_icmp .ge 34, 3) := by decide +kernel
theorem dX2_takeSealed_9 : decode cX2_takeSealed 9 = .ok (.aload_n 0, 1) := by decide +kernel
theorem dX2_takeSealed_10 : decode cX2_takeSealed 10 = .ok (.getfield 27, 3) := by decide +kernel
theorem dX2_takeSealed_13 : decode cX2_takeSealed 13 = .ok (.aload_n 0, 1) := by decide +kernel
theorem dX2_takeSealed_14 : decode cX2_takeSealed 14 = .ok (.getfield 44, 3) := by decide +kernel
theorem dX2_takeSealed_17 : decode cX2_takeSealed 17 = .ok (.lload_n 1, 1) := by decide +kernel
theorem dX2_takeSealed_18 : decode cX2_takeSealed 18 = .ok (.iload 4, 2) := by decide +kernel
theorem dX2_takeSealed_20 : decode cX2_takeSealed 20 = .ok (.invokestatic 96, 3) := by decide +kernel
theorem dX2_takeSealed_23 : decode cX2_takeSealed 23 = .ok (.iastore, 1) := by decide +kernel
theorem dX2_takeSealed_24 : decode cX2_takeSealed 24 = .ok (.aload_n 0, 1) := by decide +kernel
theorem dX2_takeSealed_25 : decode cX2_takeSealed 25 = .ok (.dup, 1) := by decide +kernel
theorem dX2_takeSealed_26 : decode cX2_takeSealed 26 = .ok (.getfield 44, 3) := by decide +kernel
theorem dX2_takeSealed_29 : decode cX2_takeSealed 29 = .ok (.iconst 1, 1) := by decide +kernel
theorem dX2_takeSealed_30 : decode cX2_takeSealed 30 = .ok (.iadd, 1) := by decide +kernel
theorem dX2_takeSealed_31 : decode cX2_takeSealed 31 = .ok (.putfield 44, 3) := by decide +kernel
theorem dX2_takeSealed_34 : decode cX2_takeSealed 34 = .ok (.iinc 4 1, 3) := by decide +kernel
theorem dX2_takeSealed_37 : decode cX2_takeSealed 37 = .ok (.goto (-34), 3) := by decide +kernel
theorem dX2_takeSealed_40 : decode cX2_takeSealed 40 = .ok (.lconst 0, 1) := by decide +kernel
theorem dX2_takeSealed_41 : decode cX2_takeSealed 41 = .ok (.lreturn, 1) := by decide +kernel
theorem dX2_unmaskText_0 : decode cX2_unmaskText 0 = .ok (.iconst 0, 1) := by decide +kernel
theorem dX2_unmaskText_1 : decode cX2_unmaskText 1 = .ok (.istore_n 1, 1) := by decide +kernel
theorem dX2_unmaskText_2 : decode cX2_unmaskText 2 = .ok (.iload_n 1, 1) := by decide +kernel
theorem dX2_unmaskText_3 : decode cX2_unmaskText 3 = .ok (.aload_n 0, 1) := by decide +kernel
theorem dX2_unmaskText_4 : decode cX2_unmaskText 4 = .ok (.getfield 44, 3) := by decide +kernel
theorem dX2_unmaskText_7 : decode cX2_unmaskText 7 = .ok (.if_icmp .ge 23, 3) := by decide +kernel
theorem dX2_unmaskText_10 : decode cX2_unmaskText 10 = .ok (.aload_n 0, 1) := by decide +kernel
theorem dX2_unmaskText_11 : decode cX2_unmaskText 11 = .ok (.getfield 27, 3) := by decide +kernel
theorem dX2_unmaskText_14 : decode cX2_unmaskText 14 = .ok (.iload_n 1, 1) := by decide +kernel
theorem dX2_unmaskText_15 : decode cX2_unmaskText 15 = .ok (.dup2, 1) := by decide +kernel
theorem dX2_unmaskText_16 : decode cX2_unmaskText 16 = .ok (.iaload, 1) := by decide +kernel
theorem dX2_unmaskText_17 : decode cX2_unmaskText 17 = .ok (.aload_n 0, 1) := by decide +kernel
theorem dX2_unmaskText_18 : decode cX2_unmaskText 18 = .ok (.iload_n 1, 1) := by decide +kernel
theorem dX2_unmaskText_19 : decode cX2_unmaskText 19 = .ok (.invokevirtual 132, 3) := by decide +kernel
theorem dX2_unmaskText_22 : decode cX2_unmaskText 22 = .ok (.ixor, 1) := by decide +kernel
theorem dX2_unmaskText_23 : decode cX2_unmaskText 23 = .ok (.iastore, 1) := by decide +kernel
theorem dX2_unmaskText_24 : decode cX2_unmaskText 24 = .ok (.iinc 1 1, 3) := by decide +kernel
theorem dX2_unmaskText_27 : decode cX2_unmaskText 27 = .ok (.goto (-25), 3) := by decide +kernel
theorem dX2_unmaskText_30 : decode cX2_unmaskText 30 = .ok (.return_, 1) := by decide +kernel
theorem dX2_maskByte_0 : decode cX2_maskByte 0 = .ok (.iload_n 1, 1) := by decide +kernel
theorem dX2_maskByte_1 : decode cX2_maskByte 1 = .ok (.bipush 16, 2) := by decide +kernel
theorem dX2_maskByte_3 : decode cX2_maskByte 3 = .ok (.idiv, 1) := by decide +kernel
theorem dX2_maskByte_4 : decode cX2_maskByte 4 = .ok (.istore_n 2, 1) := by decide +kernel
theorem dX2_maskByte_5 : decode cX2_maskByte 5 = .ok (.iload_n 2, 1) := by decide +kernel
theorem dX2_maskByte_6 : decode cX2_maskByte 6 = .ok (.aload_n 0, 1) := by decide +kernel
theorem dX2_maskByte_7 : decode cX2_maskByte 7 = .ok (.getfield 37, 3) := by decide +kernel
theorem dX2_maskByte_10 : decode cX2_maskByte 10 = .ok (.if_icmp .eq 26, 3) := by decide +kernel
theorem dX2_maskByte_13 : decode cX2_maskByte 13 = .ok (.aload_n 0, 1) := by decide +kernel
theorem dX2_maskByte_14 : decode cX2_maskByte 14 = .ok (.iconst 2, 1) := by decide +kernel
theorem dX2_maskByte_15 : decode cX2_maskByte 15 = .ok (.iload_n 2, 1) := by decide +kernel
theorem dX2_maskByte_16 : decode cX2_maskByte 16 = .ok (.iadd, 1) := by decide +kernel
theorem dX2_maskByte_17 : decode cX2_maskByte 17 = .ok (.invokevirtual 135, 3) := by decide +kernel
theorem dX2_maskByte_20 : decode cX2_maskByte 20 = .ok (.aload_n 0, 1) := by decide +kernel
theorem dX2_maskByte_21 : decode cX2_maskByte 21 = .ok (.getfield 10, 3) := by decide +kernel
theorem dX2_maskByte_24 : decode cX2_maskByte 24 = .ok (.aload_n 0, 1) := by decide +kernel
theorem dX2_maskByte_25 : decode cX2_maskByte 25 = .ok (.getfield 30, 3) := by decide +kernel
theorem dX2_maskByte_28 : decode cX2_maskByte 28 = .ok (.invokevirtual 139, 3) := by decide +kernel
theorem dX2_maskByte_31 : decode cX2_maskByte 31 = .ok (.aload_n 0, 1) := by decide +kernel
theorem dX2_maskByte_32 : decode cX2_maskByte 32 = .ok (.iload_n 2, 1) := by decide +kernel
theorem dX2_maskByte_33 : decode cX2_maskByte 33 = .ok (.putfield 37, 3) := by decide +kernel
theorem dX2_maskByte_36 : decode cX2_maskByte 36 = .ok (.aload_n 0, 1) := by decide +kernel
theorem dX2_maskByte_37 : decode cX2_maskByte 37 = .ok (.getfield 30, 3) := by decide +kernel
theorem dX2_maskByte_40 : decode cX2_maskByte 40 = .ok (.iload_n 1, 1) := by decide +kernel
theorem dX2_maskByte_41 : decode cX2_maskByte 41 = .ok (.bipush 16, 2) := by decide +kernel
theorem dX2_maskByte_43 : decode cX2_maskByte 43 = .ok (.irem, 1) := by decide +kernel
theorem dX2_maskByte_44 : decode cX2_maskByte 44 = .ok (.iaload, 1) := by decide +kernel
theorem dX2_maskByte_45 : decode cX2_maskByte 45 = .ok (.ireturn, 1) := by decide +kernel
theorem dX2_encipherNonce_0 : decode cX2_encipherNonce 0 = .ok (.aload_n 0, 1) := by decide +kernel
theorem dX2_encipherNonce_1 : decode cX2_encipherNonce 1 = .ok (.getfield 10, 3) := by decide +kernel
theorem dX2_encipherNonce_4 : decode cX2_encipherNonce 4 = .ok (.aload_n 0, 1) := by decide +kernel
theorem dX2_encipherNonce_5 : decode cX2_encipherNonce 5 = .ok (.getfield 79, 3) := by decide +kernel
theorem dX2_encipherNonce_8 : decode cX2_encipherNonce 8 = .ok (.aload_n 0, 1) := by decide +kernel
theorem dX2_encipherNonce_9 : decode cX2_encipherNonce 9 = .ok (.getfield 83, 3) := by decide +kernel
theorem dX2_encipherNonce_12 : decode cX2_encipherNonce 12 = .ok (.i2l, 1) := by decide +kernel
theorem dX2_encipherNonce_13 : decode cX2_encipherNonce 13 = .ok (.bipush 32, 2) := by decide +kernel
theorem dX2_encipherNonce_15 : decode cX2_encipherNonce 15 = .ok (.lshl, 1) := by decide +kernel
theorem dX2_encipherNonce_16 : decode cX2_encipherNonce 16 = .ok (.iload_n 1, 1) := by decide +kernel
theorem dX2_encipherNonce_17 : decode cX2_encipherNonce 17 = .ok (.i2l, 1) := by decide +kernel
theorem dX2_encipherNonce_18 : decode cX2_encipherNonce 18 = .ok (.lor, 1) := by decide +kernel
theorem dX2_encipherNonce_19 : decode cX2_encipherNonce 19 = .ok (.invokevirtual 54, 3) := by decide +kernel
theorem dX2_encipherNonce_22 : decode cX2_encipherNonce 22 = .ok (.return_, 1) := by decide +kernel
theorem dX2_reckonTag_0 : decode cX2_reckonTag 0 = .ok (.aload_n 0, 1) := by decide +kernel
theorem dX2_reckonTag_1 : decode cX2_reckonTag 1 = .ok (.getfield 10, 3) := by decide +kernel
theorem dX2_reckonTag_4 : decode cX2_reckonTag 4 = .ok (.lconst 0, 1) := by decide +kernel
theorem dX2_reckonTag_5 : decode cX2_reckonTag 5 = .ok (.lconst 0, 1) := by decide +kernel
theorem dX2_reckonTag_6 : decode cX2_reckonTag 6 = .ok (.invokevirtual 54, 3) := by decide +kernel
theorem dX2_reckonTag_9 : decode cX2_reckonTag 9 = .ok (.aload_n 0, 1) := by decide +kernel
theorem dX2_reckonTag_10 : decode cX2_reckonTag 10 = .ok (.getfield 10, 3) := by decide +kernel
theorem dX2_reckonTag_13 : decode cX2_reckonTag 13 = .ok (.invokevirtual 61, 3) := by decide +kernel
theorem dX2_reckonTag_16 : decode cX2_reckonTag 16 = .ok (.lstore_n 1, 1) := by decide +kernel
theorem dX2_reckonTag_17 : decode cX2_reckonTag 17 = .ok (.aload_n 0, 1) := by decide +kernel
theorem dX2_reckonTag_18 : decode cX2_reckonTag 18 = .ok (.getfield 10, 3) := by decide +kernel
theorem dX2_reckonTag_21 : decode cX2_reckonTag 21 = .ok (.invokevirtual 57, 3) := by decide +kernel
theorem dX2_reckonTag_24 : decode cX2_reckonTag 24 = .ok (.lstore_n 3, 1) := by decide +kernel
theorem dX2_reckonTag_25 : decode cX2_reckonTag 25 = .ok (.aload_n 0, 1) := by decide +kernel
theorem dX2_reckonTag_26 : decode cX2_reckonTag 26 = .ok (.getfield 19, 3) := by decide +kernel
theorem dX2_reckonTag_29 : decode cX2_reckonTag 29 = .ok (.lconst 0, 1) := by decide +kernel
theorem dX2_reckonTag_30 : decode cX2_reckonTag 30 = .ok (.lconst 0, 1) := by decide +kernel
theorem dX2_reckonTag_31 : decode cX2_reckonTag 31 = .ok (.invokevirtual 67, 3) := by decide +kernel
theorem dX2_reckonTag_34 : decode cX2_reckonTag 34 = .ok (.aload_n 0, 1) := by decide +kernel
theorem dX2_reckonTag_35 : decode cX2_reckonTag 35 = .ok (.aload_n 0, 1) := by decide +kernel
theorem dX2_reckonTag_36 : decode cX2_reckonTag 36 = .ok (.getfield 23, 3) := by decide +kernel
theorem dX2_reckonTag_39 : decode cX2_reckonTag 39 = .ok (.aload_n 0, 1) := by decide +kernel
theorem dX2_reckonTag_40 : decode cX2_reckonTag 40 = .ok (.getfield 86, 3) := by decide +kernel
theorem dX2_reckonTag_43 : decode cX2_reckonTag 43 = .ok (.lload_n 1, 1) := by decide +kernel
theorem dX2_reckonTag_44 : decode cX2_reckonTag 44 = .ok (.lload_n 3, 1) := by decide +kernel
theorem dX2_reckonTag_45 : decode cX2_reckonTag 45 = .ok (.invokevirtual 143, 3) := by decide +kernel
theorem dX2_reckonTag_48 : decode cX2_reckonTag 48 = .ok (.aload_n 0, 1) := by decide +kernel
theorem dX2_reckonTag_49 : decode cX2_reckonTag 49 = .ok (.aload_n 0, 1) := by decide +kernel
theorem dX2_reckonTag_50 : decode cX2_reckonTag 50 = .ok (.getfield 27, 3) := by decide +kernel
theorem dX2_reckonTag_53 : decode cX2_reckonTag 53 = .ok (.aload_n 0, 1) := by decide +kernel
theorem dX2_reckonTag_54 : decode cX2_reckonTag 54 = .ok (.getfield 44, 3) := by decide +kernel
theorem dX2_reckonTag_57 : decode cX2_reckonTag 57 = .ok (.lload_n 1, 1) := by decide +kernel
theorem dX2_reckonTag_58 : decode cX2_reckonTag 58 = .ok (.lload_n 3, 1) := by decide +kernel
theorem dX2_reckonTag_59 : decode cX2_reckonTag 59 = .ok (.invokevirtual 143, 3) := by decide +kernel
theorem dX2_reckonTag_62 : decode cX2_reckonTag 62 = .ok (.aload_n 0, 1) := by decide +kernel
theorem dX2_reckonTag_63 : decode cX2_reckonTag 63 = .ok (.getfield 19, 3) := by decide +kernel
theorem dX2_reckonTag_66 : decode cX2_reckonTag 66 = .ok (.ldc2_w 147, 3) := by decide +kernel
theorem dX2_reckonTag_69 : decode cX2_reckonTag 69 = .ok (.aload_n 0, 1) := by decide +kernel
theorem dX2_reckonTag_70 : decode cX2_reckonTag 70 = .ok (.getfield 86, 3) := by decide +kernel
theorem dX2_reckonTag_73 : decode cX2_reckonTag 73 = .ok (.i2l, 1) := by decide +kernel
theorem dX2_reckonTag_74 : decode cX2_reckonTag 74 = .ok (.lmul, 1) := by decide +kernel
theorem dX2_reckonTag_75 : decode cX2_reckonTag 75 = .ok (.ldc2_w 147, 3) := by decide +kernel
theorem dX2_reckonTag_78 : decode cX2_reckonTag 78 = .ok (.aload_n 0, 1) := by decide +kernel
theorem dX2_reckonTag_79 : decode cX2_reckonTag 79 = .ok (.getfield 44, 3) := by decide +kernel
theorem dX2_reckonTag_82 : decode cX2_reckonTag 82 = .ok (.i2l, 1) := by decide +kernel
theorem dX2_reckonTag_83 : decode cX2_reckonTag 83 = .ok (.lmul, 1) := by decide +kernel
theorem dX2_reckonTag_84 : decode cX2_reckonTag 84 = .ok (.invokevirtual 149, 3) := by decide +kernel
theorem dX2_reckonTag_87 : decode cX2_reckonTag 87 = .ok (.aload_n 0, 1) := by decide +kernel
theorem dX2_reckonTag_88 : decode cX2_reckonTag 88 = .ok (.getfield 19, 3) := by decide +kernel
theorem dX2_reckonTag_91 : decode cX2_reckonTag 91 = .ok (.lload_n 1, 1) := by decide +kernel
theorem dX2_reckonTag_92 : decode cX2_reckonTag 92 = .ok (.lload_n 3, 1) := by decide +kernel
theorem dX2_reckonTag_93 : decode cX2_reckonTag 93 = .ok (.invokevirtual 70, 3) := by decide +kernel
theorem dX2_reckonTag_96 : decode cX2_reckonTag 96 = .ok (.aload_n 0, 1) := by decide +kernel
theorem dX2_reckonTag_97 : decode cX2_reckonTag 97 = .ok (.iconst 1, 1) := by decide +kernel
theorem dX2_reckonTag_98 : decode cX2_reckonTag 98 = .ok (.invokevirtual 135, 3) := by decide +kernel
theorem dX2_reckonTag_101 : decode cX2_reckonTag 101 = .ok (.aload_n 0, 1) := by decide +kernel
theorem dX2_reckonTag_102 : decode cX2_reckonTag 102 = .ok (.getfield 19, 3) := by decide +kernel
theorem dX2_reckonTag_105 : decode cX2_reckonTag 105 = .ok (.aload_n 0, 1) := by decide +kernel
theorem dX2_reckonTag_106 : decode cX2_reckonTag 106 = .ok (.getfield 10, 3) := by decide +kernel
theorem dX2_reckonTag_109 : decode cX2_reckonTag 109 = .ok (.invokevirtual 61, 3) := by decide +kernel
theorem dX2_reckonTag_112 : decode cX2_reckonTag 112 = .ok (.aload_n 0, 1) := by decide +kernel
theorem dX2_reckonTag_113 : decode cX2_reckonTag 113 = .ok (.getfield 10, 3) := by decide +kernel
theorem dX2_reckonTag_116 : decode cX2_reckonTag 116 = .ok (.invokevirtual 57, 3) := by decide +kernel
theorem dX2_reckonTag_119 : decode cX2_reckonTag 119 = .ok (.invokevirtual 149, 3) := by decide +kernel
theorem dX2_reckonTag_122 : decode cX2_reckonTag 122 = .ok (.aload_n 0, 1) := by decide +kernel
theorem dX2_reckonTag_123 : decode cX2_reckonTag 123 = .ok (.aload_n 0, 1) := by decide +kernel
theorem dX2_reckonTag_124 : decode cX2_reckonTag 124 = .ok (.getfield 19, 3) := by decide +kernel
theorem dX2_reckonTag_127 : decode cX2_reckonTag 127 = .ok (.invokevirtual 74, 3) := by decide +kernel
theorem dX2_reckonTag_130 : decode cX2_reckonTag 130 = .ok (.putfield 114, 3) := by decide +kernel
theorem dX2_reckonTag_133 : decode cX2_reckonTag 133 = .ok (.aload_n 0, 1) := by decide +kernel
theorem dX2_reckonTag_134 : decode cX2_reckonTag 134 = .ok (.aload_n 0, 1) := by decide +kernel
theorem dX2_reckonTag_135 : decode cX2_reckonTag 135 = .ok (.getfield 19, 3) := by decide +kernel
theorem dX2_reckonTag_138 : decode cX2_reckonTag 138 = .ok (.invokevirtual 73, 3) := by decide +kernel
theorem dX2_reckonTag_141 : decode cX2_reckonTag 141 = .ok (.putfield 117, 3) := by decide +kernel
theorem dX2_reckonTag_144 : decode cX2_reckonTag 144 = .ok (.return_, 1) := by decide +kernel
theorem dX2_foldRow_0 : decode cX2_foldRow 0 = .ok (.iconst 0, 1) := by decide +kernel
theorem dX2_foldRow_1 : decode cX2_foldRow 1 = .ok (.istore 7, 2) := by decide +kernel
theorem dX2_foldRow_3 : decode cX2_foldRow 3 = .ok (.iload 7, 2) := by decide +kernel
theorem dX2_foldRow_5 : decode cX2_foldRow 5 = .ok (.iload_n 2, 1) := by decide +kernel
theorem dX2_foldRow_6 : decode cX2_foldRow 6 = .ok (.if_icmp .ge 43, 3) := by decide +kernel
theorem dX2_foldRow_9 : decode cX2_foldRow 9 = .ok (.aload_n 0, 1) := by decide +kernel
theorem dX2_foldRow_10 : decode cX2_foldRow 10 = .ok (.getfield 19, 3) := by decide +kernel
theorem dX2_foldRow_13 : decode cX2_foldRow 13 = .ok (.aload_n 1, 1) := by decide +kernel
theorem dX2_foldRow_14 : decode cX2_foldRow 14 = .ok (.iload 7, 2) := by decide +kernel
theorem dX2_foldRow_16 : decode cX2_foldRow 16 = .ok (.iload_n 2, 1) := by decide +kernel
theorem dX2_foldRow_17 : decode cX2_foldRow 17 = .ok (.invokestatic 152, 3) := by decide +kernel
theorem dX2_foldRow_20 : decode cX2_foldRow 20 = .ok (.aload_n 1, 1) := by decide +kernel
theorem dX2_foldRow_21 : decode cX2_foldRow 21 = .ok (.iload 7, 2) := by decide +kernel
theorem dX2_foldRow_23 : decode cX2_foldRow 23 = .ok (.bipush 8, 2) := by decide +kernel
theorem dX2_foldRow_25 : decode cX2_foldRow 25 = .ok (.iadd, 1) := by decide +kernel
theorem dX2_foldRow_26 : decode cX2_foldRow 26 = .ok (.iload_n 2, 1) := by decide +kernel
theorem dX2_foldRow_27 : decode cX2_foldRow 27 = .ok (.invokestatic 152, 3) := by decide +kernel
theorem dX2_foldRow_30 : decode cX2_foldRow 30 = .ok (.invokevirtual 149, 3) := by decide +kernel
theorem dX2_foldRow_33 : decode cX2_foldRow 33 = .ok (.aload_n 0, 1) := by decide +kernel
theorem dX2_foldRow_34 : decode cX2_foldRow 34 = .ok (.getfield 19, 3) := by decide +kernel
theorem dX2_foldRow_37 : decode cX2_foldRow 37 = .ok (.lload_n 3, 1) := by decide +kernel
theorem dX2_foldRow_38 : decode cX2_foldRow 38 = .ok (.lload 5, 2) := by decide +kernel
theorem dX2_foldRow_40 : decode cX2_foldRow 40 = .ok (.invokevirtual 70, 3) := by decide +kernel
theorem dX2_foldRow_43 : decode cX2_foldRow 43 = .ok (.iinc 7 16, 3) := by decide +kernel
theorem dX2_foldRow_46 : decode cX2_foldRow 46 = .ok (.goto (-43), 3) := by decide +kernel
theorem dX2_foldRow_49 : decode cX2_foldRow 49 = .ok (.return_, 1) := by decide +kernel
