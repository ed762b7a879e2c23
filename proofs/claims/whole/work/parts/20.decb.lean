theorem dX1_multiply_101 : decode cX1_multiply 101 = .ok (.lushr, 1) := by decide +kernel
theorem dX1_multiply_102 : decode cX1_multiply 102 = .ok (.lload 18, 2) := by decide +kernel
theorem dX1_multiply_104 : decode cX1_multiply 104 = .ok (.ldc2_w 16, 3) := by decide +kernel
theorem dX1_multiply_107 : decode cX1_multiply 107 = .ok (.land, 1) := by decide +kernel
theorem dX1_multiply_108 : decode cX1_multiply 108 = .ok (.lxor, 1) := by decide +kernel
theorem dX1_multiply_109 : decode cX1_multiply 109 = .ok (.lstore 9, 2) := by decide +kernel
theorem dX1_multiply_111 : decode cX1_multiply 111 = .ok (.iinc 13 1, 3) := by decide +kernel
theorem dX1_multiply_114 : decode cX1_multiply 114 = .ok (.goto (-99), 3) := by decide +kernel
theorem dX1_multiply_117 : decode cX1_multiply 117 = .ok (.aload_n 0, 1) := by decide +kernel
theorem dX1_multiply_118 : decode cX1_multiply 118 = .ok (.lload 5, 2) := by decide +kernel
theorem dX1_multiply_120 : decode cX1_multiply 120 = .ok (.putfield 7, 3) := by decide +kernel
theorem dX1_multiply_123 : decode cX1_multiply 123 = .ok (.aload_n 0, 1) := by decide +kernel
theorem dX1_multiply_124 : decode cX1_multiply 124 = .ok (.lload 7, 2) := by decide +kernel
theorem dX1_multiply_126 : decode cX1_multiply 126 = .ok (.putfield 13, 3) := by decide +kernel
theorem dX1_multiply_129 : decode cX1_multiply 129 = .ok (.return_, 1) := by decide +kernel
theorem dX1_high_0 : decode cX1_high 0 = .ok (.aload_n 0, 1) := by decide +kernel
theorem dX1_high_1 : decode cX1_high 1 = .ok (.getfield 7, 3) := by decide +kernel
theorem dX1_high_4 : decode cX1_high 4 = .ok (.lreturn, 1) := by decide +kernel
theorem dX1_low_0 : decode cX1_low 0 = .ok (.aload_n 0, 1) := by decide +kernel
theorem dX1_low_1 : decode cX1_low 1 = .ok (.getfield 13, 3) := by decide +kernel
theorem dX1_low_4 : decode cX1_low 4 = .ok (.lreturn, 1) := by decide +kernel
theorem dJ_rotateLeft_0 : decode cJ_rotateLeft 0 = .ok (.iload_n 0, 1) := by decide +kernel
theorem dJ_rotateLeft_1 : decode cJ_rotateLeft 1 = .ok (.iload_n 1, 1) := by decide +kernel
theorem dJ_rotateLeft_2 : decode cJ_rotateLeft 2 = .ok (.ishl, 1) := by decide +kernel
theorem dJ_rotateLeft_3 : decode cJ_rotateLeft 3 = .ok (.iload_n 0, 1) := by decide +kernel
theorem dJ_rotateLeft_4 : decode cJ_rotateLeft 4 = .ok (.iload_n 1, 1) := by decide +kernel
theorem dJ_rotateLeft_5 : decode cJ_rotateLeft 5 = .ok (.ineg, 1) := by decide +kernel
theorem dJ_rotateLeft_6 : decode cJ_rotateLeft 6 = .ok (.iushr, 1) := by decide +kernel
theorem dJ_rotateLeft_7 : decode cJ_rotateLeft 7 = .ok (.ior, 1) := by decide +kernel
theorem dJ_rotateLeft_8 : decode cJ_rotateLeft 8 = .ok (.ireturn, 1) := by decide +kernel
