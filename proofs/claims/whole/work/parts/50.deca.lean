theorem dL_word_0 : decode cL_word 0 = .ok (.aload_n 2, 1) := by decide +kernel
theorem dL_word_1 : decode cL_word 1 = .ok (.iconst 0, 1) := by decide +kernel
theorem dL_word_2 : decode cL_word 2 = .ok (.aload_n 0, 1) := by decide +kernel
theorem dL_word_3 : decode cL_word 3 = .ok (.iload_n 1, 1) := by decide +kernel
theorem dL_word_4 : decode cL_word 4 = .ok (.invokevirtual 7, 3) := by decide +kernel
theorem dL_word_7 : decode cL_word 7 = .ok (.i2l, 1) := by decide +kernel
theorem dL_word_8 : decode cL_word 8 = .ok (.lastore, 1) := by decide +kernel
theorem dL_word_9 : decode cL_word 9 = .ok (.goto 6, 3) := by decide +kernel
theorem dL_word_12 : decode cL_word 12 = .ok (.astore_n 3, 1) := by decide +kernel
theorem dL_word_13 : decode cL_word 13 = .ok (.iconst 1, 1) := by decide +kernel
theorem dL_word_14 : decode cL_word 14 = .ok (.ireturn, 1) := by decide +kernel
theorem dL_word_15 : decode cL_word 15 = .ok (.iconst 0, 1) := by decide +kernel
theorem dL_word_16 : decode cL_word 16 = .ok (.ireturn, 1) := by decide +kernel
theorem dL_aside_0 : decode cL_aside 0 = .ok (.aload 4, 2) := by decide +kernel
theorem dL_aside_2 : decode cL_aside 2 = .ok (.iconst 0, 1) := by decide +kernel
theorem dL_aside_3 : decode cL_aside 3 = .ok (.aload_n 0, 1) := by decide +kernel
theorem dL_aside_4 : decode cL_aside 4 = .ok (.lload_n 1, 1) := by decide +kernel
theorem dL_aside_5 : decode cL_aside 5 = .ok (.iload_n 3, 1) := by decide +kernel
theorem dL_aside_6 : decode cL_aside 6 = .ok (.invokevirtual 15, 3) := by decide +kernel
theorem dL_aside_9 : decode cL_aside 9 = .ok (.i2l, 1) := by decide +kernel
theorem dL_aside_10 : decode cL_aside 10 = .ok (.lastore, 1) := by decide +kernel
theorem dL_aside_11 : decode cL_aside 11 = .ok (.goto 15, 3) := by decide +kernel
theorem dL_aside_14 : decode cL_aside 14 = .ok (.astore 5, 2) := by decide +kernel
theorem dL_aside_16 : decode cL_aside 16 = .ok (.iconst 1, 1) := by decide +kernel
theorem dL_aside_17 : decode cL_aside 17 = .ok (.ireturn, 1) := by decide +kernel
theorem dL_aside_18 : decode cL_aside 18 = .ok (.astore 5, 2) := by decide +kernel
theorem dL_aside_20 : decode cL_aside 20 = .ok (.iconst 2, 1) := by decide +kernel
theorem dL_aside_21 : decode cL_aside 21 = .ok (.ireturn, 1) := by decide +kernel
theorem dL_aside_22 : decode cL_aside 22 = .ok (.astore 5, 2) := by decide +kernel
theorem dL_aside_24 : decode cL_aside 24 = .ok (.iconst 3, 1) := by decide +kernel
theorem dL_aside_25 : decode cL_aside 25 = .ok (.ireturn, 1) := by decide +kernel
theorem dL_aside_26 : decode cL_aside 26 = .ok (.iconst 0, 1) := by decide +kernel
theorem dL_aside_27 : decode cL_aside 27 = .ok (.ireturn, 1) := by decide +kernel
theorem dL_text_0 : decode cL_text 0 = .ok (.aload 4, 2) := by decide +kernel
theorem dL_text_2 : decode cL_text 2 = .ok (.iconst 0, 1) := by decide +kernel
theorem dL_text_3 : decode cL_text 3 = .ok (.aload_n 0, 1) := by decide +kernel
theorem dL_text_4 : decode cL_text 4 = .ok (.lload_n 1, 1) := by decide +kernel
theorem dL_text_5 : decode cL_text 5 = .ok (.iload_n 3, 1) := by decide +kernel
theorem dL_text_6 : decode cL_text 6 = .ok (.invokevirtual 25, 3) := by decide +kernel
theorem dL_text_9 : decode cL_text 9 = .ok (.lastore, 1) := by decide +kernel
theorem dL_text_10 : decode cL_text 10 = .ok (.goto 15, 3) := by decide +kernel
theorem dL_text_13 : decode cL_text 13 = .ok (.astore 5, 2) := by decide +kernel
theorem dL_text_15 : decode cL_text 15 = .ok (.iconst 1, 1) := by decide +kernel
theorem dL_text_16 : decode cL_text 16 = .ok (.ireturn, 1) := by decide +kernel
theorem dL_text_17 : decode cL_text 17 = .ok (.astore 5, 2) := by decide +kernel
theorem dL_text_19 : decode cL_text 19 = .ok (.iconst 2, 1) := by decide +kernel
theorem dL_text_20 : decode cL_text 20 = .ok (.ireturn, 1) := by decide +kernel
theorem dL_text_21 : decode cL_text 21 = .ok (.astore 5, 2) := by decide +kernel
theorem dL_text_23 : decode cL_text 23 = .ok (.iconst 3, 1) := by decide +kernel
theorem dL_text_24 : decode cL_text 24 = .ok (.ireturn, 1) := by decide +kernel
theorem dL_text_25 : decode cL_text 25 = .ok (.iconst 0, 1) := by decide +kernel
theorem dL_text_26 : decode cL_text 26 = .ok (.ireturn, 1) := by decide +kernel
theorem dL_seal_0 : decode cL_seal 0 = .ok (.aload_n 1, 1) := by decide +kernel
theorem dL_seal_1 : decode cL_seal 1 = .ok (.iconst 0, 1) := by decide +kernel
theorem dL_seal_2 : decode cL_seal 2 = .ok (.aload_n 0, 1) := by decide +kernel
theorem dL_seal_3 : decode cL_seal 3 = .ok (.invokevirtual 29, 3) := by decide +kernel
theorem dL_seal_6 : decode cL_seal 6 = .ok (.i2l, 1) := by decide +kernel
theorem dL_seal_7 : decode cL_seal 7 = .ok (.lastore, 1) := by decide +kernel
theorem dL_seal_8 : decode cL_seal 8 = .ok (.goto 6, 3) := by decide +kernel
theorem dL_seal_11 : decode cL_seal 11 = .ok (.astore_n 2, 1) := by decide +kernel
theorem dL_seal_12 : decode cL_seal 12 = .ok (.iconst 1, 1) := by decide +kernel
theorem dL_seal_13 : decode cL_seal 13 = .ok (.ireturn, 1) := by decide +kernel
theorem dL_seal_14 : decode cL_seal 14 = .ok (.iconst 0, 1) := by decide +kernel
theorem dL_seal_15 : decode cL_seal 15 = .ok (.ireturn, 1) := by decide +kernel
theorem dL_open_0 : decode cL_open 0 = .ok (.aload 5, 2) := by decide +kernel
theorem dL_open_2 : decode cL_open 2 = .ok (.iconst 0, 1) := by decide +kernel
theorem dL_open_3 : decode cL_open 3 = .ok (.aload_n 0, 1) := by decide +kernel
theorem dL_open_4 : decode cL_open 4 = .ok (.lload_n 1, 1) := by decide +kernel
theorem dL_open_5 : decode cL_open 5 = .ok (.lload_n 3, 1) := by decide +kernel
theorem dL_open_6 : decode cL_open 6 = .ok (.invokevirtual 33, 3) := by decide +kernel
theorem dL_open_9 : decode cL_open 9 = .ok (.ifCond .eq 7, 3) := by decide +kernel
theorem dL_open_12 : decode cL_open 12 = .ok (.lconst 1, 1) := by decide +kernel
theorem dL_open_13 : decode cL_open 13 = .ok (.goto 4, 3) := by decide +kernel
theorem dL_open_16 : decode cL_open 16 = .ok (.lconst 0, 1) := by decide +kernel
theorem dL_open_17 : decode cL_open 17 = .ok (.lastore, 1) := by decide +kernel
theorem dL_open_18 : decode cL_open 18 = .ok (.goto 7, 3) := by decide +kernel
theorem dL_open_21 : decode cL_open 21 = .ok (.astore 6, 2) := by decide +kernel
theorem dL_open_23 : decode cL_open 23 = .ok (.iconst 1, 1) := by decide +kernel
theorem dL_open_24 : decode cL_open 24 = .ok (.ireturn, 1) := by decide +kernel
theorem dL_open_25 : decode cL_open 25 = .ok (.iconst 0, 1) := by decide +kernel
theorem dL_open_26 : decode cL_open 26 = .ok (.ireturn, 1) := by decide +kernel
theorem dL_tag_0 : decode cL_tag 0 = .ok (.aload_n 2, 1) := by decide +kernel
theorem dL_tag_1 : decode cL_tag 1 = .ok (.iconst 0, 1) := by decide +kernel
theorem dL_tag_2 : decode cL_tag 2 = .ok (.aload_n 0, 1) := by decide +kernel
theorem dL_tag_3 : decode cL_tag 3 = .ok (.iload_n 1, 1) := by decide +kernel
theorem dL_tag_4 : decode cL_tag 4 = .ok (.invokevirtual 37, 3) := by decide +kernel
theorem dL_tag_7 : decode cL_tag 7 = .ok (.lastore, 1) := by decide +kernel
theorem dL_tag_8 : decode cL_tag 8 = .ok (.goto 6, 3) := by decide +kernel
theorem dL_tag_11 : decode cL_tag 11 = .ok (.astore_n 3, 1) := by decide +kernel
theorem dL_tag_12 : decode cL_tag 12 = .ok (.iconst 1, 1) := by decide +kernel
theorem dL_tag_13 : decode cL_tag 13 = .ok (.ireturn, 1) := by decide +kernel
theorem dL_tag_14 : decode cL_tag 14 = .ok (.iconst 0, 1) := by decide +kernel
theorem dL_tag_15 : decode cL_tag 15 = .ok (.ireturn, 1) := by decide +kernel
