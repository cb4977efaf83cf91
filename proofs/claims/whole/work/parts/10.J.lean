theorem dJ13_bitCount_95d88_0 : decode cJ13_bitCount_95d88 0 = .ok (.lload_n 0, 1) := by decide +kernel
theorem dJ13_bitCount_95d88_1 : decode cJ13_bitCount_95d88 1 = .ok (.lload_n 0, 1) := by decide +kernel
theorem dJ13_bitCount_95d88_2 : decode cJ13_bitCount_95d88 2 = .ok (.iconst 1, 1) := by decide +kernel
theorem dJ13_bitCount_95d88_3 : decode cJ13_bitCount_95d88 3 = .ok (.lushr, 1) := by decide +kernel
theorem dJ13_bitCount_95d88_4 : decode cJ13_bitCount_95d88 4 = .ok (.ldc2_w 314, 3) := by decide +kernel
theorem dJ13_bitCount_95d88_7 : decode cJ13_bitCount_95d88 7 = .ok (.land, 1) := by decide +kernel
theorem dJ13_bitCount_95d88_8 : decode cJ13_bitCount_95d88 8 = .ok (.lsub, 1) := by decide +kernel
theorem dJ13_bitCount_95d88_9 : decode cJ13_bitCount_95d88 9 = .ok (.lstore_n 0, 1) := by decide +kernel
theorem dJ13_bitCount_95d88_10 : decode cJ13_bitCount_95d88 10 = .ok (.lload_n 0, 1) := by decide +kernel
theorem dJ13_bitCount_95d88_11 : decode cJ13_bitCount_95d88 11 = .ok (.ldc2_w 316, 3) := by decide +kernel
theorem dJ13_bitCount_95d88_14 : decode cJ13_bitCount_95d88 14 = .ok (.land, 1) := by decide +kernel
theorem dJ13_bitCount_95d88_15 : decode cJ13_bitCount_95d88 15 = .ok (.lload_n 0, 1) := by decide +kernel
theorem dJ13_bitCount_95d88_16 : decode cJ13_bitCount_95d88 16 = .ok (.iconst 2, 1) := by decide +kernel
theorem dJ13_bitCount_95d88_17 : decode cJ13_bitCount_95d88 17 = .ok (.lushr, 1) := by decide +kernel
theorem dJ13_bitCount_95d88_18 : decode cJ13_bitCount_95d88 18 = .ok (.ldc2_w 316, 3) := by decide +kernel
theorem dJ13_bitCount_95d88_21 : decode cJ13_bitCount_95d88 21 = .ok (.land, 1) := by decide +kernel
theorem dJ13_bitCount_95d88_22 : decode cJ13_bitCount_95d88 22 = .ok (.ladd, 1) := by decide +kernel
theorem dJ13_bitCount_95d88_23 : decode cJ13_bitCount_95d88 23 = .ok (.lstore_n 0, 1) := by decide +kernel
theorem dJ13_bitCount_95d88_24 : decode cJ13_bitCount_95d88 24 = .ok (.lload_n 0, 1) := by decide +kernel
theorem dJ13_bitCount_95d88_25 : decode cJ13_bitCount_95d88 25 = .ok (.lload_n 0, 1) := by decide +kernel
theorem dJ13_bitCount_95d88_26 : decode cJ13_bitCount_95d88 26 = .ok (.iconst 4, 1) := by decide +kernel
theorem dJ13_bitCount_95d88_27 : decode cJ13_bitCount_95d88 27 = .ok (.lushr, 1) := by decide +kernel
theorem dJ13_bitCount_95d88_28 : decode cJ13_bitCount_95d88 28 = .ok (.ladd, 1) := by decide +kernel
theorem dJ13_bitCount_95d88_29 : decode cJ13_bitCount_95d88 29 = .ok (.ldc2_w 318, 3) := by decide +kernel
theorem dJ13_bitCount_95d88_32 : decode cJ13_bitCount_95d88 32 = .ok (.land, 1) := by decide +kernel
theorem dJ13_bitCount_95d88_33 : decode cJ13_bitCount_95d88 33 = .ok (.lstore_n 0, 1) := by decide +kernel
theorem dJ13_bitCount_95d88_34 : decode cJ13_bitCount_95d88 34 = .ok (.lload_n 0, 1) := by decide +kernel
theorem dJ13_bitCount_95d88_35 : decode cJ13_bitCount_95d88 35 = .ok (.lload_n 0, 1) := by decide +kernel
theorem dJ13_bitCount_95d88_36 : decode cJ13_bitCount_95d88 36 = .ok (.bipush 8, 2) := by decide +kernel
theorem dJ13_bitCount_95d88_38 : decode cJ13_bitCount_95d88 38 = .ok (.lushr, 1) := by decide +kernel
theorem dJ13_bitCount_95d88_39 : decode cJ13_bitCount_95d88 39 = .ok (.ladd, 1) := by decide +kernel
theorem dJ13_bitCount_95d88_40 : decode cJ13_bitCount_95d88 40 = .ok (.lstore_n 0, 1) := by decide +kernel
theorem dJ13_bitCount_95d88_41 : decode cJ13_bitCount_95d88 41 = .ok (.lload_n 0, 1) := by decide +kernel
theorem dJ13_bitCount_95d88_42 : decode cJ13_bitCount_95d88 42 = .ok (.lload_n 0, 1) := by decide +kernel
theorem dJ13_bitCount_95d88_43 : decode cJ13_bitCount_95d88 43 = .ok (.bipush 16, 2) := by decide +kernel
theorem dJ13_bitCount_95d88_45 : decode cJ13_bitCount_95d88 45 = .ok (.lushr, 1) := by decide +kernel
theorem dJ13_bitCount_95d88_46 : decode cJ13_bitCount_95d88 46 = .ok (.ladd, 1) := by decide +kernel
theorem dJ13_bitCount_95d88_47 : decode cJ13_bitCount_95d88 47 = .ok (.lstore_n 0, 1) := by decide +kernel
theorem dJ13_bitCount_95d88_48 : decode cJ13_bitCount_95d88 48 = .ok (.lload_n 0, 1) := by decide +kernel
theorem dJ13_bitCount_95d88_49 : decode cJ13_bitCount_95d88 49 = .ok (.lload_n 0, 1) := by decide +kernel
theorem dJ13_bitCount_95d88_50 : decode cJ13_bitCount_95d88 50 = .ok (.bipush 32, 2) := by decide +kernel
theorem dJ13_bitCount_95d88_52 : decode cJ13_bitCount_95d88 52 = .ok (.lushr, 1) := by decide +kernel
theorem dJ13_bitCount_95d88_53 : decode cJ13_bitCount_95d88 53 = .ok (.ladd, 1) := by decide +kernel
theorem dJ13_bitCount_95d88_54 : decode cJ13_bitCount_95d88 54 = .ok (.lstore_n 0, 1) := by decide +kernel
theorem dJ13_bitCount_95d88_55 : decode cJ13_bitCount_95d88 55 = .ok (.lload_n 0, 1) := by decide +kernel
theorem dJ13_bitCount_95d88_56 : decode cJ13_bitCount_95d88 56 = .ok (.l2i, 1) := by decide +kernel
theorem dJ13_bitCount_95d88_57 : decode cJ13_bitCount_95d88 57 = .ok (.bipush 127, 2) := by decide +kernel
theorem dJ13_bitCount_95d88_59 : decode cJ13_bitCount_95d88 59 = .ok (.iand, 1) := by decide +kernel
theorem dJ13_bitCount_95d88_60 : decode cJ13_bitCount_95d88 60 = .ok (.ireturn, 1) := by decide +kernel
/-! java/lang/Long.bitCount(J)I -/
theorem eJ13_bitCount_95d88 {d mc ms : Nat} {w : qW} {Q : Option Value → qW → Prop} {x0 : Int64} (h : AW (mJ13_bitCount_95d88, d, mc, ms, none, Q) 0 [some (.long x0), none] [] w 0 0) : CT mJ13_bitCount_95d88 d mc ms [.long x0] w Q := CT_of (by decide +kernel) rfl (Nat.le_of_ble_eq_true rfl) h
def bJ13_bitCount_95d88_0 (G : Nat × Nat × Nat × Option (Nat × (Nat → Int32)) × (Option Value → qW → Prop)) : qK := (s_lload 0 (s_lload 0 (s_iconst 1 (s_lushr (s_lconst 6148914691236517205 (s_land (s_lsub (s_lstore 0 0 (s_lload 0 (s_lconst 3689348814741910323 (s_land (s_lload 0 (s_iconst 2 (s_lushr (s_lconst 3689348814741910323 (s_land (s_ladd (s_lstore 0 0 (s_lload 0 (s_lload 0 (s_iconst 4 (s_lushr (s_ladd (s_lconst 1085102592571150095 (s_land (s_lstore 0 0 (s_lload 0 (s_lload 0 (s_iconst 8 (s_lushr (s_ladd (s_lstore 0 0 (s_lload 0 (s_lload 0 (s_iconst 16 (s_lushr (s_ladd (s_lstore 0 0 (s_lload 0 (s_lload 0 (s_iconst 32 (s_lushr (s_ladd (s_lstore 0 0 (s_lload 0 (s_l2i (s_iconst 127 (s_iand (s_ireturn (mJ13_bitCount_95d88, G))))))))))))))))))))))))))))))))))))))))))))))))))
theorem oJ13_bitCount_95d88_0 (G : Nat × Nat × Nat × Option (Nat × (Nat → Int32)) × (Option Value → qW → Prop)) : qImp (bJ13_bitCount_95d88_0 G) (AW (mJ13_bitCount_95d88, G) 0) := (r_lload_n dJ13_bitCount_95d88_0 rfl (r_lload_n dJ13_bitCount_95d88_1 rfl (r_iconst dJ13_bitCount_95d88_2 rfl (r_lushr dJ13_bitCount_95d88_3 (r_ldc2 dJ13_bitCount_95d88_4 lk773 (r_land dJ13_bitCount_95d88_7 (r_lsub dJ13_bitCount_95d88_8 (r_lstore_n dJ13_bitCount_95d88_9 rfl (Or.inl rfl) (Nat.le_of_ble_eq_true rfl) (r_lload_n dJ13_bitCount_95d88_10 rfl (r_ldc2 dJ13_bitCount_95d88_11 lk774 (r_land dJ13_bitCount_95d88_14 (r_lload_n dJ13_bitCount_95d88_15 rfl (r_iconst dJ13_bitCount_95d88_16 rfl (r_lushr dJ13_bitCount_95d88_17 (r_ldc2 dJ13_bitCount_95d88_18 lk774 (r_land dJ13_bitCount_95d88_21 (r_ladd dJ13_bitCount_95d88_22 (r_lstore_n dJ13_bitCount_95d88_23 rfl (Or.inl rfl) (Nat.le_of_ble_eq_true rfl) (r_lload_n dJ13_bitCount_95d88_24 rfl (r_lload_n dJ13_bitCount_95d88_25 rfl (r_iconst dJ13_bitCount_95d88_26 rfl (r_lushr dJ13_bitCount_95d88_27 (r_ladd dJ13_bitCount_95d88_28 (r_ldc2 dJ13_bitCount_95d88_29 lk775 (r_land dJ13_bitCount_95d88_32 (r_lstore_n dJ13_bitCount_95d88_33 rfl (Or.inl rfl) (Nat.le_of_ble_eq_true rfl) (r_lload_n dJ13_bitCount_95d88_34 rfl (r_lload_n dJ13_bitCount_95d88_35 rfl (r_bipush dJ13_bitCount_95d88_36 rfl (r_lushr dJ13_bitCount_95d88_38 (r_ladd dJ13_bitCount_95d88_39 (r_lstore_n dJ13_bitCount_95d88_40 rfl (Or.inl rfl) (Nat.le_of_ble_eq_true rfl) (r_lload_n dJ13_bitCount_95d88_41 rfl (r_lload_n dJ13_bitCount_95d88_42 rfl (r_bipush dJ13_bitCount_95d88_43 rfl (r_lushr dJ13_bitCount_95d88_45 (r_ladd dJ13_bitCount_95d88_46 (r_lstore_n dJ13_bitCount_95d88_47 rfl (Or.inl rfl) (Nat.le_of_ble_eq_true rfl) (r_lload_n dJ13_bitCount_95d88_48 rfl (r_lload_n dJ13_bitCount_95d88_49 rfl (r_bipush dJ13_bitCount_95d88_50 rfl (r_lushr dJ13_bitCount_95d88_52 (r_ladd dJ13_bitCount_95d88_53 (r_lstore_n dJ13_bitCount_95d88_54 rfl (Or.inl rfl) (Nat.le_of_ble_eq_true rfl) (r_lload_n dJ13_bitCount_95d88_55 rfl (r_l2i dJ13_bitCount_95d88_56 (r_bipush dJ13_bitCount_95d88_57 rfl (r_iand dJ13_bitCount_95d88_59 (r_ireturn dJ13_bitCount_95d88_60 rfl)))))))))))))))))))))))))))))))))))))))))))))))))
theorem dJ6_numberOfTrailingZeros_0f7a4_0 : decode cJ6_numberOfTrailingZeros_0f7a4 0 = .ok (.iload_n 0, 1) := by decide +kernel
theorem dJ6_numberOfTrailingZeros_0f7a4_1 : decode cJ6_numberOfTrailingZeros_0f7a4 1 = .ok (.iconst (-1), 1) := by decide +kernel
theorem dJ6_numberOfTrailingZeros_0f7a4_2 : decode cJ6_numberOfTrailingZeros_0f7a4 2 = .ok (.ixor, 1) := by decide +kernel
theorem dJ6_numberOfTrailingZeros_0f7a4_3 : decode cJ6_numberOfTrailingZeros_0f7a4 3 = .ok (.iload_n 0, 1) := by decide +kernel
theorem dJ6_numberOfTrailingZeros_0f7a4_4 : decode cJ6_numberOfTrailingZeros_0f7a4 4 = .ok (.iconst 1, 1) := by decide +kernel
theorem dJ6_numberOfTrailingZeros_0f7a4_5 : decode cJ6_numberOfTrailingZeros_0f7a4 5 = .ok (.isub, 1) := by decide +kernel
theorem dJ6_numberOfTrailingZeros_0f7a4_6 : decode cJ6_numberOfTrailingZeros_0f7a4 6 = .ok (.iand, 1) := by decide +kernel
theorem dJ6_numberOfTrailingZeros_0f7a4_7 : decode cJ6_numberOfTrailingZeros_0f7a4 7 = .ok (.istore_n 0, 1) := by decide +kernel
theorem dJ6_numberOfTrailingZeros_0f7a4_8 : decode cJ6_numberOfTrailingZeros_0f7a4 8 = .ok (.iload_n 0, 1) := by decide +kernel
theorem dJ6_numberOfTrailingZeros_0f7a4_9 : decode cJ6_numberOfTrailingZeros_0f7a4 9 = .ok (.ifCond .gt 8, 3) := by decide +kernel
theorem dJ6_numberOfTrailingZeros_0f7a4_12 : decode cJ6_numberOfTrailingZeros_0f7a4 12 = .ok (.iload_n 0, 1) := by decide +kernel
theorem dJ6_numberOfTrailingZeros_0f7a4_13 : decode cJ6_numberOfTrailingZeros_0f7a4 13 = .ok (.bipush 32, 2) := by decide +kernel
theorem dJ6_numberOfTrailingZeros_0f7a4_15 : decode cJ6_numberOfTrailingZeros_0f7a4 15 = .ok (.iand, 1) := by decide +kernel
theorem dJ6_numberOfTrailingZeros_0f7a4_16 : decode cJ6_numberOfTrailingZeros_0f7a4 16 = .ok (.ireturn, 1) := by decide +kernel
theorem dJ6_numberOfTrailingZeros_0f7a4_17 : decode cJ6_numberOfTrailingZeros_0f7a4 17 = .ok (.iconst 1, 1) := by decide +kernel
theorem dJ6_numberOfTrailingZeros_0f7a4_18 : decode cJ6_numberOfTrailingZeros_0f7a4 18 = .ok (.istore_n 1, 1) := by decide +kernel
theorem dJ6_numberOfTrailingZeros_0f7a4_19 : decode cJ6_numberOfTrailingZeros_0f7a4 19 = .ok (.iload_n 0, 1) := by decide +kernel
theorem dJ6_numberOfTrailingZeros_0f7a4_20 : decode cJ6_numberOfTrailingZeros_0f7a4 20 = .ok (.ldc_w 264, 3) := by decide +kernel
theorem dJ6_numberOfTrailingZeros_0f7a4_23 : decode cJ6_numberOfTrailingZeros_0f7a4 23 = .ok (.if_icmp .le 11, 3) := by decide +kernel
theorem dJ6_numberOfTrailingZeros_0f7a4_26 : decode cJ6_numberOfTrailingZeros_0f7a4 26 = .ok (.iinc 1 16, 3) := by decide +kernel
theorem dJ6_numberOfTrailingZeros_0f7a4_29 : decode cJ6_numberOfTrailingZeros_0f7a4 29 = .ok (.iload_n 0, 1) := by decide +kernel
theorem dJ6_numberOfTrailingZeros_0f7a4_30 : decode cJ6_numberOfTrailingZeros_0f7a4 30 = .ok (.bipush 16, 2) := by decide +kernel
theorem dJ6_numberOfTrailingZeros_0f7a4_32 : decode cJ6_numberOfTrailingZeros_0f7a4 32 = .ok (.iushr, 1) := by decide +kernel
theorem dJ6_numberOfTrailingZeros_0f7a4_33 : decode cJ6_numberOfTrailingZeros_0f7a4 33 = .ok (.istore_n 0, 1) := by decide +kernel
theorem dJ6_numberOfTrailingZeros_0f7a4_34 : decode cJ6_numberOfTrailingZeros_0f7a4 34 = .ok (.iload_n 0, 1) := by decide +kernel
theorem dJ6_numberOfTrailingZeros_0f7a4_35 : decode cJ6_numberOfTrailingZeros_0f7a4 35 = .ok (.sipush 256, 3) := by decide +kernel
theorem dJ6_numberOfTrailingZeros_0f7a4_38 : decode cJ6_numberOfTrailingZeros_0f7a4 38 = .ok (.if_icmp .le 11, 3) := by decide +kernel
theorem dJ6_numberOfTrailingZeros_0f7a4_41 : decode cJ6_numberOfTrailingZeros_0f7a4 41 = .ok (.iinc 1 8, 3) := by decide +kernel
theorem dJ6_numberOfTrailingZeros_0f7a4_44 : decode cJ6_numberOfTrailingZeros_0f7a4 44 = .ok (.iload_n 0, 1) := by decide +kernel
theorem dJ6_numberOfTrailingZeros_0f7a4_45 : decode cJ6_numberOfTrailingZeros_0f7a4 45 = .ok (.bipush 8, 2) := by decide +kernel
theorem dJ6_numberOfTrailingZeros_0f7a4_47 : decode cJ6_numberOfTrailingZeros_0f7a4 47 = .ok (.iushr, 1) := by decide +kernel
theorem dJ6_numberOfTrailingZeros_0f7a4_48 : decode cJ6_numberOfTrailingZeros_0f7a4 48 = .ok (.istore_n 0, 1) := by decide +kernel
theorem dJ6_numberOfTrailingZeros_0f7a4_49 : decode cJ6_numberOfTrailingZeros_0f7a4 49 = .ok (.iload_n 0, 1) := by decide +kernel
theorem dJ6_numberOfTrailingZeros_0f7a4_50 : decode cJ6_numberOfTrailingZeros_0f7a4 50 = .ok (.bipush 16, 2) := by decide +kernel
theorem dJ6_numberOfTrailingZeros_0f7a4_52 : decode cJ6_numberOfTrailingZeros_0f7a4 52 = .ok (.if_icmp .le 10, 3) := by decide +kernel
theorem dJ6_numberOfTrailingZeros_0f7a4_55 : decode cJ6_numberOfTrailingZeros_0f7a4 55 = .ok (.iinc 1 4, 3) := by decide +kernel
theorem dJ6_numberOfTrailingZeros_0f7a4_58 : decode cJ6_numberOfTrailingZeros_0f7a4 58 = .ok (.iload_n 0, 1) := by decide +kernel
theorem dJ6_numberOfTrailingZeros_0f7a4_59 : decode cJ6_numberOfTrailingZeros_0f7a4 59 = .ok (.iconst 4, 1) := by decide +kernel
theorem dJ6_numberOfTrailingZeros_0f7a4_60 : decode cJ6_numberOfTrailingZeros_0f7a4 60 = .ok (.iushr, 1) := by decide +kernel
theorem dJ6_numberOfTrailingZeros_0f7a4_61 : decode cJ6_numberOfTrailingZeros_0f7a4 61 = .ok (.istore_n 0, 1) := by decide +kernel
theorem dJ6_numberOfTrailingZeros_0f7a4_62 : decode cJ6_numberOfTrailingZeros_0f7a4 62 = .ok (.iload_n 0, 1) := by decide +kernel
theorem dJ6_numberOfTrailingZeros_0f7a4_63 : decode cJ6_numberOfTrailingZeros_0f7a4 63 = .ok (.iconst 4, 1) := by decide +kernel
theorem dJ6_numberOfTrailingZeros_0f7a4_64 : decode cJ6_numberOfTrailingZeros_0f7a4 64 = .ok (.if_icmp .le 10, 3) := by decide +kernel
theorem dJ6_numberOfTrailingZeros_0f7a4_67 : decode cJ6_numberOfTrailingZeros_0f7a4 67 = .ok (.iinc 1 2, 3) := by decide +kernel
theorem dJ6_numberOfTrailingZeros_0f7a4_70 : decode cJ6_numberOfTrailingZeros_0f7a4 70 = .ok (.iload_n 0, 1) := by decide +kernel
theorem dJ6_numberOfTrailingZeros_0f7a4_71 : decode cJ6_numberOfTrailingZeros_0f7a4 71 = .ok (.iconst 2, 1) := by decide +kernel
theorem dJ6_numberOfTrailingZeros_0f7a4_72 : decode cJ6_numberOfTrailingZeros_0f7a4 72 = .ok (.iushr, 1) := by decide +kernel
theorem dJ6_numberOfTrailingZeros_0f7a4_73 : decode cJ6_numberOfTrailingZeros_0f7a4 73 = .ok (.istore_n 0, 1) := by decide +kernel
theorem dJ6_numberOfTrailingZeros_0f7a4_74 : decode cJ6_numberOfTrailingZeros_0f7a4 74 = .ok (.iload_n 1, 1) := by decide +kernel
theorem dJ6_numberOfTrailingZeros_0f7a4_75 : decode cJ6_numberOfTrailingZeros_0f7a4 75 = .ok (.iload_n 0, 1) := by decide +kernel
theorem dJ6_numberOfTrailingZeros_0f7a4_76 : decode cJ6_numberOfTrailingZeros_0f7a4 76 = .ok (.iconst 1, 1) := by decide +kernel
theorem dJ6_numberOfTrailingZeros_0f7a4_77 : decode cJ6_numberOfTrailingZeros_0f7a4 77 = .ok (.iushr, 1) := by decide +kernel
theorem dJ6_numberOfTrailingZeros_0f7a4_78 : decode cJ6_numberOfTrailingZeros_0f7a4 78 = .ok (.iadd, 1) := by decide +kernel
theorem dJ6_numberOfTrailingZeros_0f7a4_79 : decode cJ6_numberOfTrailingZeros_0f7a4 79 = .ok (.ireturn, 1) := by decide +kernel
/-! java/lang/Integer.numberOfTrailingZeros(I)I -/
theorem eJ6_numberOfTrailingZeros_0f7a4 {d mc ms : Nat} {w : qW} {Q : Option Value → qW → Prop} {x0 : Int32} (h : AW (mJ6_numberOfTrailingZeros_0f7a4, d, mc, ms, none, Q) 0 [some (.int x0), none] [] w 0 0) : CT mJ6_numberOfTrailingZeros_0f7a4 d mc ms [.int x0] w Q := CT_of (by decide +kernel) rfl (Nat.le_of_ble_eq_true rfl) h
def bJ6_numberOfTrailingZeros_0f7a4_0 (G : Nat × Nat × Nat × Option (Nat × (Nat → Int32)) × (Option Value → qW → Prop)) : qK := (s_iload 0 (s_iconst (-1) (s_ixor (s_iload 0 (s_iconst 1 (s_isub (s_iand (s_istore 0 0 (s_iload 0 (s_if_gt (AW (mJ6_numberOfTrailingZeros_0f7a4, G) 17) (s_iload 0 (s_iconst 32 (s_iand (s_ireturn (mJ6_numberOfTrailingZeros_0f7a4, G)))))))))))))))
theorem oJ6_numberOfTrailingZeros_0f7a4_0 (G : Nat × Nat × Nat × Option (Nat × (Nat → Int32)) × (Option Value → qW → Prop)) : qImp (bJ6_numberOfTrailingZeros_0f7a4_0 G) (AW (mJ6_numberOfTrailingZeros_0f7a4, G) 0) := (r_iload_n dJ6_numberOfTrailingZeros_0f7a4_0 rfl (r_iconst dJ6_numberOfTrailingZeros_0f7a4_1 rfl (r_ixor dJ6_numberOfTrailingZeros_0f7a4_2 (r_iload_n dJ6_numberOfTrailingZeros_0f7a4_3 rfl (r_iconst dJ6_numberOfTrailingZeros_0f7a4_4 rfl (r_isub dJ6_numberOfTrailingZeros_0f7a4_5 (r_iand dJ6_numberOfTrailingZeros_0f7a4_6 (r_istore_n dJ6_numberOfTrailingZeros_0f7a4_7 rfl (Or.inl rfl) (Nat.le_of_ble_eq_true rfl) (r_iload_n dJ6_numberOfTrailingZeros_0f7a4_8 rfl (r_if_gt (tgt := 17) dJ6_numberOfTrailingZeros_0f7a4_9 rfl qImp.rf (r_iload_n dJ6_numberOfTrailingZeros_0f7a4_12 rfl (r_bipush dJ6_numberOfTrailingZeros_0f7a4_13 rfl (r_iand dJ6_numberOfTrailingZeros_0f7a4_15 (r_ireturn dJ6_numberOfTrailingZeros_0f7a4_16 rfl))))))))))))))
def bJ6_numberOfTrailingZeros_0f7a4_17 (G : Nat × Nat × Nat × Option (Nat × (Nat → Int32)) × (Option Value → qW → Prop)) : qK := (s_iconst 1 (s_istore 1 0 (s_iload 0 (s_iconst 65536 (s_ic_le (AW (mJ6_numberOfTrailingZeros_0f7a4, G) 34) (s_iinc 1 0 16 (s_iload 0 (s_iconst 16 (s_iushr (s_istore 0 0 (AW (mJ6_numberOfTrailingZeros_0f7a4, G) 34)))))))))))
theorem oJ6_numberOfTrailingZeros_0f7a4_17 (G : Nat × Nat × Nat × Option (Nat × (Nat → Int32)) × (Option Value → qW → Prop)) : qImp (bJ6_numberOfTrailingZeros_0f7a4_17 G) (AW (mJ6_numberOfTrailingZeros_0f7a4, G) 17) := (r_iconst dJ6_numberOfTrailingZeros_0f7a4_17 rfl (r_istore_n dJ6_numberOfTrailingZeros_0f7a4_18 rfl (Or.inr rfl) (Nat.le_of_ble_eq_true rfl) (r_iload_n dJ6_numberOfTrailingZeros_0f7a4_19 rfl (r_ldcw dJ6_numberOfTrailingZeros_0f7a4_20 lk826 (r_ic_le (tgt := 34) dJ6_numberOfTrailingZeros_0f7a4_23 rfl qImp.rf (r_iinc dJ6_numberOfTrailingZeros_0f7a4_26 rfl (Or.inr rfl) (Nat.le_of_ble_eq_true rfl) (r_iload_n dJ6_numberOfTrailingZeros_0f7a4_29 rfl (r_bipush dJ6_numberOfTrailingZeros_0f7a4_30 rfl (r_iushr dJ6_numberOfTrailingZeros_0f7a4_32 (r_istore_n dJ6_numberOfTrailingZeros_0f7a4_33 rfl (Or.inl rfl) (Nat.le_of_ble_eq_true rfl) qImp.rf))))))))))
def bJ6_numberOfTrailingZeros_0f7a4_34 (G : Nat × Nat × Nat × Option (Nat × (Nat → Int32)) × (Option Value → qW → Prop)) : qK := (s_iload 0 (s_iconst 256 (s_ic_le (AW (mJ6_numberOfTrailingZeros_0f7a4, G) 49) (s_iinc 1 0 8 (s_iload 0 (s_iconst 8 (s_iushr (s_istore 0 0 (AW (mJ6_numberOfTrailingZeros_0f7a4, G) 49)))))))))
theorem oJ6_numberOfTrailingZeros_0f7a4_34 (G : Nat × Nat × Nat × Option (Nat × (Nat → Int32)) × (Option Value → qW → Prop)) : qImp (bJ6_numberOfTrailingZeros_0f7a4_34 G) (AW (mJ6_numberOfTrailingZeros_0f7a4, G) 34) := (r_iload_n dJ6_numberOfTrailingZeros_0f7a4_34 rfl (r_sipush dJ6_numberOfTrailingZeros_0f7a4_35 rfl (r_ic_le (tgt := 49) dJ6_numberOfTrailingZeros_0f7a4_38 rfl qImp.rf (r_iinc dJ6_numberOfTrailingZeros_0f7a4_41 rfl (Or.inr rfl) (Nat.le_of_ble_eq_true rfl) (r_iload_n dJ6_numberOfTrailingZeros_0f7a4_44 rfl (r_bipush dJ6_numberOfTrailingZeros_0f7a4_45 rfl (r_iushr dJ6_numberOfTrailingZeros_0f7a4_47 (r_istore_n dJ6_numberOfTrailingZeros_0f7a4_48 rfl (Or.inl rfl) (Nat.le_of_ble_eq_true rfl) qImp.rf))))))))
def bJ6_numberOfTrailingZeros_0f7a4_49 (G : Nat × Nat × Nat × Option (Nat × (Nat → Int32)) × (Option Value → qW → Prop)) : qK := (s_iload 0 (s_iconst 16 (s_ic_le (AW (mJ6_numberOfTrailingZeros_0f7a4, G) 62) (s_iinc 1 0 4 (s_iload 0 (s_iconst 4 (s_iushr (s_istore 0 0 (AW (mJ6_numberOfTrailingZeros_0f7a4, G) 62)))))))))
theorem oJ6_numberOfTrailingZeros_0f7a4_49 (G : Nat × Nat × Nat × Option (Nat × (Nat → Int32)) × (Option Value → qW → Prop)) : qImp (bJ6_numberOfTrailingZeros_0f7a4_49 G) (AW (mJ6_numberOfTrailingZeros_0f7a4, G) 49) := (r_iload_n dJ6_numberOfTrailingZeros_0f7a4_49 rfl (r_bipush dJ6_numberOfTrailingZeros_0f7a4_50 rfl (r_ic_le (tgt := 62) dJ6_numberOfTrailingZeros_0f7a4_52 rfl qImp.rf (r_iinc dJ6_numberOfTrailingZeros_0f7a4_55 rfl (Or.inr rfl) (Nat.le_of_ble_eq_true rfl) (r_iload_n dJ6_numberOfTrailingZeros_0f7a4_58 rfl (r_iconst dJ6_numberOfTrailingZeros_0f7a4_59 rfl (r_iushr dJ6_numberOfTrailingZeros_0f7a4_60 (r_istore_n dJ6_numberOfTrailingZeros_0f7a4_61 rfl (Or.inl rfl) (Nat.le_of_ble_eq_true rfl) qImp.rf))))))))
def bJ6_numberOfTrailingZeros_0f7a4_62 (G : Nat × Nat × Nat × Option (Nat × (Nat → Int32)) × (Option Value → qW → Prop)) : qK := (s_iload 0 (s_iconst 4 (s_ic_le (AW (mJ6_numberOfTrailingZeros_0f7a4, G) 74) (s_iinc 1 0 2 (s_iload 0 (s_iconst 2 (s_iushr (s_istore 0 0 (AW (mJ6_numberOfTrailingZeros_0f7a4, G) 74)))))))))
theorem oJ6_numberOfTrailingZeros_0f7a4_62 (G : Nat × Nat × Nat × Option (Nat × (Nat → Int32)) × (Option Value → qW → Prop)) : qImp (bJ6_numberOfTrailingZeros_0f7a4_62 G) (AW (mJ6_numberOfTrailingZeros_0f7a4, G) 62) := (r_iload_n dJ6_numberOfTrailingZeros_0f7a4_62 rfl (r_iconst dJ6_numberOfTrailingZeros_0f7a4_63 rfl (r_ic_le (tgt := 74) dJ6_numberOfTrailingZeros_0f7a4_64 rfl qImp.rf (r_iinc dJ6_numberOfTrailingZeros_0f7a4_67 rfl (Or.inr rfl) (Nat.le_of_ble_eq_true rfl) (r_iload_n dJ6_numberOfTrailingZeros_0f7a4_70 rfl (r_iconst dJ6_numberOfTrailingZeros_0f7a4_71 rfl (r_iushr dJ6_numberOfTrailingZeros_0f7a4_72 (r_istore_n dJ6_numberOfTrailingZeros_0f7a4_73 rfl (Or.inl rfl) (Nat.le_of_ble_eq_true rfl) qImp.rf))))))))
def bJ6_numberOfTrailingZeros_0f7a4_74 (G : Nat × Nat × Nat × Option (Nat × (Nat → Int32)) × (Option Value → qW → Prop)) : qK := (s_iload 1 (s_iload 0 (s_iconst 1 (s_iushr (s_iadd (s_ireturn (mJ6_numberOfTrailingZeros_0f7a4, G)))))))
theorem oJ6_numberOfTrailingZeros_0f7a4_74 (G : Nat × Nat × Nat × Option (Nat × (Nat → Int32)) × (Option Value → qW → Prop)) : qImp (bJ6_numberOfTrailingZeros_0f7a4_74 G) (AW (mJ6_numberOfTrailingZeros_0f7a4, G) 74) := (r_iload_n dJ6_numberOfTrailingZeros_0f7a4_74 rfl (r_iload_n dJ6_numberOfTrailingZeros_0f7a4_75 rfl (r_iconst dJ6_numberOfTrailingZeros_0f7a4_76 rfl (r_iushr dJ6_numberOfTrailingZeros_0f7a4_77 (r_iadd dJ6_numberOfTrailingZeros_0f7a4_78 (r_ireturn dJ6_numberOfTrailingZeros_0f7a4_79 rfl))))))
theorem dJ7_fill_53178_0 : decode cJ7_fill_53178 0 = .ok (.iconst 0, 1) := by decide +kernel
theorem dJ7_fill_53178_1 : decode cJ7_fill_53178 1 = .ok (.istore_n 2, 1) := by decide +kernel
theorem dJ7_fill_53178_2 : decode cJ7_fill_53178 2 = .ok (.aload_n 0, 1) := by decide +kernel
theorem dJ7_fill_53178_3 : decode cJ7_fill_53178 3 = .ok (.arraylength, 1) := by decide +kernel
theorem dJ7_fill_53178_4 : decode cJ7_fill_53178 4 = .ok (.istore_n 3, 1) := by decide +kernel
theorem dJ7_fill_53178_5 : decode cJ7_fill_53178 5 = .ok (.iload_n 2, 1) := by decide +kernel
theorem dJ7_fill_53178_6 : decode cJ7_fill_53178 6 = .ok (.iload_n 3, 1) := by decide +kernel
theorem dJ7_fill_53178_7 : decode cJ7_fill_53178 7 = .ok (.if_icmp .ge 13, 3) := by decide +kernel
theorem dJ7_fill_53178_10 : decode cJ7_fill_53178 10 = .ok (.aload_n 0, 1) := by decide +kernel
theorem dJ7_fill_53178_11 : decode cJ7_fill_53178 11 = .ok (.iload_n 2, 1) := by decide +kernel
theorem dJ7_fill_53178_12 : decode cJ7_fill_53178 12 = .ok (.iload_n 1, 1) := by decide +kernel
theorem dJ7_fill_53178_13 : decode cJ7_fill_53178 13 = .ok (.iastore, 1) := by decide +kernel
theorem dJ7_fill_53178_14 : decode cJ7_fill_53178 14 = .ok (.iinc 2 1, 3) := by decide +kernel
theorem dJ7_fill_53178_17 : decode cJ7_fill_53178 17 = .ok (.goto (-12), 3) := by decide +kernel
theorem dJ7_fill_53178_20 : decode cJ7_fill_53178 20 = .ok (.return_, 1) := by decide +kernel
/-! java/util/Arrays.fill([II)V -/
theorem eJ7_fill_53178 {d mc ms : Nat} {w : qW} {Q : Option Value → qW → Prop} {x0 : Nat} {x1 : Int32} (h : AW (mJ7_fill_53178, d, mc, ms, none, Q) 0 [some (.ref x0), some (.int x1), none, none] [] w 0 0) : CT mJ7_fill_53178 d mc ms [.ref x0, .int x1] w Q := CT_of (by decide +kernel) rfl (Nat.le_of_ble_eq_true rfl) h
def bJ7_fill_53178_0 (G : Nat × Nat × Nat × Option (Nat × (Nat → Int32)) × (Option Value → qW → Prop)) : qK := (s_iconst 0 (s_istore 2 1 (s_aload 0 (s_alen (mJ7_fill_53178, G) (s_istore 3 2 (AW (mJ7_fill_53178, G) 5))))))
theorem oJ7_fill_53178_0 (G : Nat × Nat × Nat × Option (Nat × (Nat → Int32)) × (Option Value → qW → Prop)) : qImp (bJ7_fill_53178_0 G) (AW (mJ7_fill_53178, G) 0) := (r_iconst dJ7_fill_53178_0 rfl (r_istore_n dJ7_fill_53178_1 rfl (Or.inr rfl) (Nat.le_of_ble_eq_true rfl) (r_aload_n dJ7_fill_53178_2 rfl (r_alen dJ7_fill_53178_3 (r_istore_n dJ7_fill_53178_4 rfl (Or.inr rfl) (Nat.le_of_ble_eq_true rfl) qImp.rf)))))
def bJ7_fill_53178_5 (G : Nat × Nat × Nat × Option (Nat × (Nat → Int32)) × (Option Value → qW → Prop)) : qK := (s_iload 2 (s_iload 3 (s_ic_ge (AW (mJ7_fill_53178, G) 20) (s_aload 0 (s_iload 2 (s_iload 1 (s_iastore (s_iinc 2 1 1 (AW (mJ7_fill_53178, G) 5)))))))))
theorem oJ7_fill_53178_5 (G : Nat × Nat × Nat × Option (Nat × (Nat → Int32)) × (Option Value → qW → Prop)) : qImp (bJ7_fill_53178_5 G) (AW (mJ7_fill_53178, G) 5) := (r_iload_n dJ7_fill_53178_5 rfl (r_iload_n dJ7_fill_53178_6 rfl (r_ic_ge (tgt := 20) dJ7_fill_53178_7 rfl qImp.rf (r_aload_n dJ7_fill_53178_10 rfl (r_iload_n dJ7_fill_53178_11 rfl (r_iload_n dJ7_fill_53178_12 rfl (r_iastore dJ7_fill_53178_13 (r_iinc dJ7_fill_53178_14 rfl (Or.inr rfl) (Nat.le_of_ble_eq_true rfl) (r_goto (tgt := 5) dJ7_fill_53178_17 rfl qImp.rf)))))))))
def bJ7_fill_53178_20 (G : Nat × Nat × Nat × Option (Nat × (Nat → Int32)) × (Option Value → qW → Prop)) : qK := (s_vreturn (mJ7_fill_53178, G))
theorem oJ7_fill_53178_20 (G : Nat × Nat × Nat × Option (Nat × (Nat → Int32)) × (Option Value → qW → Prop)) : qImp (bJ7_fill_53178_20 G) (AW (mJ7_fill_53178, G) 20) := (r_vreturn dJ7_fill_53178_20 rfl)
theorem dJ6_bitCount_0f7a4_0 : decode cJ6_bitCount_0f7a4 0 = .ok (.iload_n 0, 1) := by decide +kernel
theorem dJ6_bitCount_0f7a4_1 : decode cJ6_bitCount_0f7a4 1 = .ok (.iload_n 0, 1) := by decide +kernel
theorem dJ6_bitCount_0f7a4_2 : decode cJ6_bitCount_0f7a4 2 = .ok (.iconst 1, 1) := by decide +kernel
theorem dJ6_bitCount_0f7a4_3 : decode cJ6_bitCount_0f7a4 3 = .ok (.iushr, 1) := by decide +kernel
theorem dJ6_bitCount_0f7a4_4 : decode cJ6_bitCount_0f7a4 4 = .ok (.ldc_w 265, 3) := by decide +kernel
theorem dJ6_bitCount_0f7a4_7 : decode cJ6_bitCount_0f7a4 7 = .ok (.iand, 1) := by decide +kernel
theorem dJ6_bitCount_0f7a4_8 : decode cJ6_bitCount_0f7a4 8 = .ok (.isub, 1) := by decide +kernel
theorem dJ6_bitCount_0f7a4_9 : decode cJ6_bitCount_0f7a4 9 = .ok (.istore_n 0, 1) := by decide +kernel
theorem dJ6_bitCount_0f7a4_10 : decode cJ6_bitCount_0f7a4 10 = .ok (.iload_n 0, 1) := by decide +kernel
theorem dJ6_bitCount_0f7a4_11 : decode cJ6_bitCount_0f7a4 11 = .ok (.ldc_w 266, 3) := by decide +kernel
theorem dJ6_bitCount_0f7a4_14 : decode cJ6_bitCount_0f7a4 14 = .ok (.iand, 1) := by decide +kernel
theorem dJ6_bitCount_0f7a4_15 : decode cJ6_bitCount_0f7a4 15 = .ok (.iload_n 0, 1) := by decide +kernel
theorem dJ6_bitCount_0f7a4_16 : decode cJ6_bitCount_0f7a4 16 = .ok (.iconst 2, 1) := by decide +kernel
theorem dJ6_bitCount_0f7a4_17 : decode cJ6_bitCount_0f7a4 17 = .ok (.iushr, 1) := by decide +kernel
theorem dJ6_bitCount_0f7a4_18 : decode cJ6_bitCount_0f7a4 18 = .ok (.ldc_w 266, 3) := by decide +kernel
theorem dJ6_bitCount_0f7a4_21 : decode cJ6_bitCount_0f7a4 21 = .ok (.iand, 1) := by decide +kernel
theorem dJ6_bitCount_0f7a4_22 : decode cJ6_bitCount_0f7a4 22 = .ok (.iadd, 1) := by decide +kernel
theorem dJ6_bitCount_0f7a4_23 : decode cJ6_bitCount_0f7a4 23 = .ok (.istore_n 0, 1) := by decide +kernel
theorem dJ6_bitCount_0f7a4_24 : decode cJ6_bitCount_0f7a4 24 = .ok (.iload_n 0, 1) := by decide +kernel
theorem dJ6_bitCount_0f7a4_25 : decode cJ6_bitCount_0f7a4 25 = .ok (.iload_n 0, 1) := by decide +kernel
theorem dJ6_bitCount_0f7a4_26 : decode cJ6_bitCount_0f7a4 26 = .ok (.iconst 4, 1) := by decide +kernel
theorem dJ6_bitCount_0f7a4_27 : decode cJ6_bitCount_0f7a4 27 = .ok (.iushr, 1) := by decide +kernel
theorem dJ6_bitCount_0f7a4_28 : decode cJ6_bitCount_0f7a4 28 = .ok (.iadd, 1) := by decide +kernel
theorem dJ6_bitCount_0f7a4_29 : decode cJ6_bitCount_0f7a4 29 = .ok (.ldc_w 267, 3) := by decide +kernel
theorem dJ6_bitCount_0f7a4_32 : decode cJ6_bitCount_0f7a4 32 = .ok (.iand, 1) := by decide +kernel
theorem dJ6_bitCount_0f7a4_33 : decode cJ6_bitCount_0f7a4 33 = .ok (.istore_n 0, 1) := by decide +kernel
theorem dJ6_bitCount_0f7a4_34 : decode cJ6_bitCount_0f7a4 34 = .ok (.iload_n 0, 1) := by decide +kernel
theorem dJ6_bitCount_0f7a4_35 : decode cJ6_bitCount_0f7a4 35 = .ok (.iload_n 0, 1) := by decide +kernel
theorem dJ6_bitCount_0f7a4_36 : decode cJ6_bitCount_0f7a4 36 = .ok (.bipush 8, 2) := by decide +kernel
theorem dJ6_bitCount_0f7a4_38 : decode cJ6_bitCount_0f7a4 38 = .ok (.iushr, 1) := by decide +kernel
theorem dJ6_bitCount_0f7a4_39 : decode cJ6_bitCount_0f7a4 39 = .ok (.iadd, 1) := by decide +kernel
theorem dJ6_bitCount_0f7a4_40 : decode cJ6_bitCount_0f7a4 40 = .ok (.istore_n 0, 1) := by decide +kernel
theorem dJ6_bitCount_0f7a4_41 : decode cJ6_bitCount_0f7a4 41 = .ok (.iload_n 0, 1) := by decide +kernel
theorem dJ6_bitCount_0f7a4_42 : decode cJ6_bitCount_0f7a4 42 = .ok (.iload_n 0, 1) := by decide +kernel
theorem dJ6_bitCount_0f7a4_43 : decode cJ6_bitCount_0f7a4 43 = .ok (.bipush 16, 2) := by decide +kernel
theorem dJ6_bitCount_0f7a4_45 : decode cJ6_bitCount_0f7a4 45 = .ok (.iushr, 1) := by decide +kernel
theorem dJ6_bitCount_0f7a4_46 : decode cJ6_bitCount_0f7a4 46 = .ok (.iadd, 1) := by decide +kernel
theorem dJ6_bitCount_0f7a4_47 : decode cJ6_bitCount_0f7a4 47 = .ok (.istore_n 0, 1) := by decide +kernel
theorem dJ6_bitCount_0f7a4_48 : decode cJ6_bitCount_0f7a4 48 = .ok (.iload_n 0, 1) := by decide +kernel
theorem dJ6_bitCount_0f7a4_49 : decode cJ6_bitCount_0f7a4 49 = .ok (.bipush 63, 2) := by decide +kernel
theorem dJ6_bitCount_0f7a4_51 : decode cJ6_bitCount_0f7a4 51 = .ok (.iand, 1) := by decide +kernel
theorem dJ6_bitCount_0f7a4_52 : decode cJ6_bitCount_0f7a4 52 = .ok (.ireturn, 1) := by decide +kernel
/-! java/lang/Integer.bitCount(I)I -/
theorem eJ6_bitCount_0f7a4 {d mc ms : Nat} {w : qW} {Q : Option Value → qW → Prop} {x0 : Int32} (h : AW (mJ6_bitCount_0f7a4, d, mc, ms, none, Q) 0 [some (.int x0)] [] w 0 0) : CT mJ6_bitCount_0f7a4 d mc ms [.int x0] w Q := CT_of (by decide +kernel) rfl (Nat.le_of_ble_eq_true rfl) h
def bJ6_bitCount_0f7a4_0 (G : Nat × Nat × Nat × Option (Nat × (Nat → Int32)) × (Option Value → qW → Prop)) : qK := (s_iload 0 (s_iload 0 (s_iconst 1 (s_iushr (s_iconst 1431655765 (s_iand (s_isub (s_istore 0 0 (s_iload 0 (s_iconst 858993459 (s_iand (s_iload 0 (s_iconst 2 (s_iushr (s_iconst 858993459 (s_iand (s_iadd (s_istore 0 0 (s_iload 0 (s_iload 0 (s_iconst 4 (s_iushr (s_iadd (s_iconst 252645135 (s_iand (s_istore 0 0 (s_iload 0 (s_iload 0 (s_iconst 8 (s_iushr (s_iadd (s_istore 0 0 (s_iload 0 (s_iload 0 (s_iconst 16 (s_iushr (s_iadd (s_istore 0 0 (s_iload 0 (s_iconst 63 (s_iand (s_ireturn (mJ6_bitCount_0f7a4, G)))))))))))))))))))))))))))))))))))))))))))
theorem oJ6_bitCount_0f7a4_0 (G : Nat × Nat × Nat × Option (Nat × (Nat → Int32)) × (Option Value → qW → Prop)) : qImp (bJ6_bitCount_0f7a4_0 G) (AW (mJ6_bitCount_0f7a4, G) 0) := (r_iload_n dJ6_bitCount_0f7a4_0 rfl (r_iload_n dJ6_bitCount_0f7a4_1 rfl (r_iconst dJ6_bitCount_0f7a4_2 rfl (r_iushr dJ6_bitCount_0f7a4_3 (r_ldcw dJ6_bitCount_0f7a4_4 lk656 (r_iand dJ6_bitCount_0f7a4_7 (r_isub dJ6_bitCount_0f7a4_8 (r_istore_n dJ6_bitCount_0f7a4_9 rfl (Or.inl rfl) (Nat.le_of_ble_eq_true rfl) (r_iload_n dJ6_bitCount_0f7a4_10 rfl (r_ldcw dJ6_bitCount_0f7a4_11 lk657 (r_iand dJ6_bitCount_0f7a4_14 (r_iload_n dJ6_bitCount_0f7a4_15 rfl (r_iconst dJ6_bitCount_0f7a4_16 rfl (r_iushr dJ6_bitCount_0f7a4_17 (r_ldcw dJ6_bitCount_0f7a4_18 lk657 (r_iand dJ6_bitCount_0f7a4_21 (r_iadd dJ6_bitCount_0f7a4_22 (r_istore_n dJ6_bitCount_0f7a4_23 rfl (Or.inl rfl) (Nat.le_of_ble_eq_true rfl) (r_iload_n dJ6_bitCount_0f7a4_24 rfl (r_iload_n dJ6_bitCount_0f7a4_25 rfl (r_iconst dJ6_bitCount_0f7a4_26 rfl (r_iushr dJ6_bitCount_0f7a4_27 (r_iadd dJ6_bitCount_0f7a4_28 (r_ldcw dJ6_bitCount_0f7a4_29 lk658 (r_iand dJ6_bitCount_0f7a4_32 (r_istore_n dJ6_bitCount_0f7a4_33 rfl (Or.inl rfl) (Nat.le_of_ble_eq_true rfl) (r_iload_n dJ6_bitCount_0f7a4_34 rfl (r_iload_n dJ6_bitCount_0f7a4_35 rfl (r_bipush dJ6_bitCount_0f7a4_36 rfl (r_iushr dJ6_bitCount_0f7a4_38 (r_iadd dJ6_bitCount_0f7a4_39 (r_istore_n dJ6_bitCount_0f7a4_40 rfl (Or.inl rfl) (Nat.le_of_ble_eq_true rfl) (r_iload_n dJ6_bitCount_0f7a4_41 rfl (r_iload_n dJ6_bitCount_0f7a4_42 rfl (r_bipush dJ6_bitCount_0f7a4_43 rfl (r_iushr dJ6_bitCount_0f7a4_45 (r_iadd dJ6_bitCount_0f7a4_46 (r_istore_n dJ6_bitCount_0f7a4_47 rfl (Or.inl rfl) (Nat.le_of_ble_eq_true rfl) (r_iload_n dJ6_bitCount_0f7a4_48 rfl (r_bipush dJ6_bitCount_0f7a4_49 rfl (r_iand dJ6_bitCount_0f7a4_51 (r_ireturn dJ6_bitCount_0f7a4_52 rfl))))))))))))))))))))))))))))))))))))))))))
theorem dJ7_copyOf_59c91_0 : decode cJ7_copyOf_59c91 0 = .ok (.iload_n 1, 1) := by decide +kernel
theorem dJ7_copyOf_59c91_1 : decode cJ7_copyOf_59c91 1 = .ok (.aload_n 0, 1) := by decide +kernel
theorem dJ7_copyOf_59c91_2 : decode cJ7_copyOf_59c91 2 = .ok (.arraylength, 1) := by decide +kernel
theorem dJ7_copyOf_59c91_3 : decode cJ7_copyOf_59c91 3 = .ok (.if_icmp .ne 11, 3) := by decide +kernel
theorem dJ7_copyOf_59c91_6 : decode cJ7_copyOf_59c91 6 = .ok (.aload_n 0, 1) := by decide +kernel
theorem dJ7_copyOf_59c91_7 : decode cJ7_copyOf_59c91 7 = .ok (.invokevirtual 316, 3) := by decide +kernel
theorem dJ7_copyOf_59c91_10 : decode cJ7_copyOf_59c91 10 = .ok (.checkcast 317, 3) := by decide +kernel
theorem dJ7_copyOf_59c91_13 : decode cJ7_copyOf_59c91 13 = .ok (.areturn, 1) := by decide +kernel
theorem dJ7_copyOf_59c91_14 : decode cJ7_copyOf_59c91 14 = .ok (.iload_n 1, 1) := by decide +kernel
theorem dJ7_copyOf_59c91_15 : decode cJ7_copyOf_59c91 15 = .ok (.newarray .int, 2) := by decide +kernel
theorem dJ7_copyOf_59c91_17 : decode cJ7_copyOf_59c91 17 = .ok (.astore_n 2, 1) := by decide +kernel
theorem dJ7_copyOf_59c91_18 : decode cJ7_copyOf_59c91 18 = .ok (.aload_n 0, 1) := by decide +kernel
theorem dJ7_copyOf_59c91_19 : decode cJ7_copyOf_59c91 19 = .ok (.iconst 0, 1) := by decide +kernel
theorem dJ7_copyOf_59c91_20 : decode cJ7_copyOf_59c91 20 = .ok (.aload_n 2, 1) := by decide +kernel
theorem dJ7_copyOf_59c91_21 : decode cJ7_copyOf_59c91 21 = .ok (.iconst 0, 1) := by decide +kernel
theorem dJ7_copyOf_59c91_22 : decode cJ7_copyOf_59c91 22 = .ok (.aload_n 0, 1) := by decide +kernel
theorem dJ7_copyOf_59c91_23 : decode cJ7_copyOf_59c91 23 = .ok (.arraylength, 1) := by decide +kernel
theorem dJ7_copyOf_59c91_24 : decode cJ7_copyOf_59c91 24 = .ok (.iload_n 1, 1) := by decide +kernel
theorem dJ7_copyOf_59c91_25 : decode cJ7_copyOf_59c91 25 = .ok (.invokestatic 304, 3) := by decide +kernel
theorem dJ7_copyOf_59c91_28 : decode cJ7_copyOf_59c91 28 = .ok (.invokestatic 150, 3) := by decide +kernel
theorem dJ7_copyOf_59c91_31 : decode cJ7_copyOf_59c91 31 = .ok (.aload_n 2, 1) := by decide +kernel
theorem dJ7_copyOf_59c91_32 : decode cJ7_copyOf_59c91 32 = .ok (.areturn, 1) := by decide +kernel
/-! java/util/Arrays.copyOf([II)[I -/
theorem eJ7_copyOf_59c91 {d mc ms : Nat} {w : qW} {Q : Option Value → qW → Prop} {x0 : Nat} {x1 : Int32} (h : AW (mJ7_copyOf_59c91, d, mc, ms, none, Q) 0 [some (.ref x0), some (.int x1), none] [] w 0 0) : CT mJ7_copyOf_59c91 d mc ms [.ref x0, .int x1] w Q := CT_of (by decide +kernel) rfl (Nat.le_of_ble_eq_true rfl) h
def bJ7_copyOf_59c91_0 (G : Nat × Nat × Nat × Option (Nat × (Nat → Int32)) × (Option Value → qW → Prop)) : qK := (s_iload 1 (s_aload 0 (s_alen (mJ7_copyOf_59c91, G) (s_ic_ne (AW (mJ7_copyOf_59c91, G) 14) (s_aload 0 (AW (mJ7_copyOf_59c91, G) 7))))))
theorem oJ7_copyOf_59c91_0 (G : Nat × Nat × Nat × Option (Nat × (Nat → Int32)) × (Option Value → qW → Prop)) : qImp (bJ7_copyOf_59c91_0 G) (AW (mJ7_copyOf_59c91, G) 0) := (r_iload_n dJ7_copyOf_59c91_0 rfl (r_aload_n dJ7_copyOf_59c91_1 rfl (r_alen dJ7_copyOf_59c91_2 (r_ic_ne (tgt := 14) dJ7_copyOf_59c91_3 rfl qImp.rf (r_aload_n dJ7_copyOf_59c91_6 rfl qImp.rf)))))
def bJ7_copyOf_59c91_14 (G : Nat × Nat × Nat × Option (Nat × (Nat → Int32)) × (Option Value → qW → Prop)) : qK := (s_iload 1 (s_newI (mJ7_copyOf_59c91, G) 0 (s_astore 2 1 (s_aload 0 (s_iconst 0 (s_aload 2 (s_iconst 0 (s_aload 0 (s_alen (mJ7_copyOf_59c91, G) (s_iload 1 (AW (mJ7_copyOf_59c91, G) 25)))))))))))
theorem oJ7_copyOf_59c91_14 (G : Nat × Nat × Nat × Option (Nat × (Nat → Int32)) × (Option Value → qW → Prop)) : qImp (bJ7_copyOf_59c91_14 G) (AW (mJ7_copyOf_59c91, G) 14) := (r_iload_n dJ7_copyOf_59c91_14 rfl (r_newI0 dJ7_copyOf_59c91_15 lk113 (r_astore_n dJ7_copyOf_59c91_17 rfl (Or.inr rfl) (Nat.le_of_ble_eq_true rfl) (r_aload_n dJ7_copyOf_59c91_18 rfl (r_iconst dJ7_copyOf_59c91_19 rfl (r_aload_n dJ7_copyOf_59c91_20 rfl (r_iconst dJ7_copyOf_59c91_21 rfl (r_aload_n dJ7_copyOf_59c91_22 rfl (r_alen dJ7_copyOf_59c91_23 (r_iload_n dJ7_copyOf_59c91_24 rfl qImp.rf))))))))))
def bJ7_copyOf_59c91_31 (G : Nat × Nat × Nat × Option (Nat × (Nat → Int32)) × (Option Value → qW → Prop)) : qK := (s_aload 2 (s_areturn (mJ7_copyOf_59c91, G)))
theorem oJ7_copyOf_59c91_31 (G : Nat × Nat × Nat × Option (Nat × (Nat → Int32)) × (Option Value → qW → Prop)) : qImp (bJ7_copyOf_59c91_31 G) (AW (mJ7_copyOf_59c91, G) 31) := (r_aload_n dJ7_copyOf_59c91_31 rfl (r_areturn dJ7_copyOf_59c91_32 rfl (Or.inr ⟨_, rfl⟩)))
theorem kJ7_copyOf_59c91_25 {G : Nat × Nat × Nat × Option (Nat × (Nat → Int32)) × (Option Value → qW → Prop)} {L : qL} {w : qW} {kc ks : Nat} {rest : List Value} {x y : Int32} (hst : rest.length ≤ 4) (hdp : 1 ≤ G.1) (hc : kc ≤ G.2.1) (hs : ks ≤ G.2.2.1) (k : AW (mJ7_copyOf_59c91, G) 28 L (.int (if y < x then y else x) :: rest) w kc ks) : AW (mJ7_copyOf_59c91, G) 25 L (.int y :: .int x :: rest) w kc ks := a_mmin dJ7_copyOf_59c91_25 lk583 lk584 lk65 lk585 hst hdp hc hs k
theorem kJ7_copyOf_59c91_28 {G : Nat × Nat × Nat × Option (Nat × (Nat → Int32)) × (Option Value → qW → Prop)} {L : qL} {w : qW} {kc ks : Nat} {rest : List Value} {p0 p1 n0 n1 : Nat} {f0 f1 : Nat → Int32} {sp dp n : Int32} (ha0 : qgI w p0 0 = some (n0, f0)) (ha1 : qgI w p1 0 = some (n1, f1)) (h1 : ¬ sp < 0) (h2 : ¬ dp < 0) (h3 : ¬ n < 0) (h4 : sp.toNatClampNeg + n.toNatClampNeg ≤ n0) (h5 : dp.toNatClampNeg + n.toNatClampNeg ≤ n1) (hst : rest.length ≤ 4) (hdp : 1 ≤ G.1) (k : AW (mJ7_copyOf_59c91, G) 31 L rest (qsI w p1 (va_cpy f0 f1 sp.toNatClampNeg dp.toNatClampNeg n.toNatClampNeg)) kc ks) : AW (mJ7_copyOf_59c91, G) 28 L (.int n :: .int dp :: .ref p1 :: .int sp :: .ref p0 :: rest) w kc ks := a_copy dJ7_copyOf_59c91_28 lk586 lk588 lk587 lk77 ha0 ha1 h1 h2 h3 h4 h5 hst hdp k
