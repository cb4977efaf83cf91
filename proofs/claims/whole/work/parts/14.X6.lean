theorem dX6_begin_0 : decode cX6_begin 0 = .ok (.iload_n 1, 1) := by decide +kernel
theorem dX6_begin_1 : decode cX6_begin 1 = .ok (.ifCond .lt 25, 3) := by decide +kernel
theorem dX6_begin_4 : decode cX6_begin 4 = .ok (.iload_n 1, 1) := by decide +kernel
theorem dX6_begin_5 : decode cX6_begin 5 = .ok (.bipush 8, 2) := by decide +kernel
theorem dX6_begin_7 : decode cX6_begin 7 = .ok (.if_icmp .gt 19, 3) := by decide +kernel
theorem dX6_begin_10 : decode cX6_begin 10 = .ok (.aload_n 0, 1) := by decide +kernel
theorem dX6_begin_11 : decode cX6_begin 11 = .ok (.getfield 11, 3) := by decide +kernel
theorem dX6_begin_14 : decode cX6_begin 14 = .ok (.iload_n 1, 1) := by decide +kernel
theorem dX6_begin_15 : decode cX6_begin 15 = .ok (.iconst 0, 1) := by decide +kernel
theorem dX6_begin_16 : decode cX6_begin 16 = .ok (.iastore, 1) := by decide +kernel
theorem dX6_begin_17 : decode cX6_begin 17 = .ok (.aload_n 0, 1) := by decide +kernel
theorem dX6_begin_18 : decode cX6_begin 18 = .ok (.getfield 15, 3) := by decide +kernel
theorem dX6_begin_21 : decode cX6_begin 21 = .ok (.iload_n 1, 1) := by decide +kernel
theorem dX6_begin_22 : decode cX6_begin 22 = .ok (.sipush 8191, 3) := by decide +kernel
theorem dX6_begin_25 : decode cX6_begin 25 = .ok (.iastore, 1) := by decide +kernel
theorem dX6_begin_26 : decode cX6_begin 26 = .ok (.return_, 1) := by decide +kernel
/-! SealLine$Rule.begin(I)V -/
theorem eX6_begin {d mc ms : Nat} {w : qW} {Q : Option Value → qW → Prop} {q : Nat} {x0 : Int32} (h : AW (mX6_begin, d, mc, ms, none, Q) 0 [some (.ref q), some (.int x0)] [] w 0 0) : CT mX6_begin d mc ms [.ref q, .int x0] w Q := CT_of (by decide +kernel) rfl (Nat.le_of_ble_eq_true rfl) h
def bX6_begin_0 (G : Nat × Nat × Nat × Option (Nat × (Nat → Int32)) × (Option Value → qW → Prop)) : qK := (s_iload 1 (s_if_lt (AW (mX6_begin, G) 26) (s_iload 1 (s_iconst 8 (s_ic_gt (AW (mX6_begin, G) 26) (s_aload 0 (s_getfield 6 1 (s_iload 1 (s_iconst 0 (s_iastore (s_aload 0 (s_getfield 6 2 (s_iload 1 (s_iconst 8191 (s_iastore (AW (mX6_begin, G) 26))))))))))))))))
theorem oX6_begin_0 (G : Nat × Nat × Nat × Option (Nat × (Nat → Int32)) × (Option Value → qW → Prop)) : qImp (bX6_begin_0 G) (AW (mX6_begin, G) 0) := (r_iload_n dX6_begin_0 rfl (r_if_lt (tgt := 26) dX6_begin_1 rfl qImp.rf (r_iload_n dX6_begin_4 rfl (r_bipush dX6_begin_5 rfl (r_ic_gt (tgt := 26) dX6_begin_7 rfl qImp.rf (r_aload_n dX6_begin_10 rfl (r_getfield dX6_begin_11 fgX6_11 (r_iload_n dX6_begin_14 rfl (r_iconst dX6_begin_15 rfl (r_iastore dX6_begin_16 (r_aload_n dX6_begin_17 rfl (r_getfield dX6_begin_18 fgX6_15 (r_iload_n dX6_begin_21 rfl (r_sipush dX6_begin_22 rfl (r_iastore dX6_begin_25 qImp.rf)))))))))))))))
def bX6_begin_26 (G : Nat × Nat × Nat × Option (Nat × (Nat → Int32)) × (Option Value → qW → Prop)) : qK := (s_vreturn (mX6_begin, G))
theorem oX6_begin_26 (G : Nat × Nat × Nat × Option (Nat × (Nat → Int32)) × (Option Value → qW → Prop)) : qImp (bX6_begin_26 G) (AW (mX6_begin, G) 26) := (r_vreturn dX6_begin_26 rfl)
theorem dX6_triesBelow_0 : decode cX6_triesBelow 0 = .ok (.iload_n 0, 1) := by decide +kernel
theorem dX6_triesBelow_1 : decode cX6_triesBelow 1 = .ok (.bipush 12, 2) := by decide +kernel
theorem dX6_triesBelow_3 : decode cX6_triesBelow 3 = .ok (.if_icmp .le 9, 3) := by decide +kernel
theorem dX6_triesBelow_6 : decode cX6_triesBelow 6 = .ok (.sipush 8191, 3) := by decide +kernel
theorem dX6_triesBelow_9 : decode cX6_triesBelow 9 = .ok (.goto 8, 3) := by decide +kernel
theorem dX6_triesBelow_12 : decode cX6_triesBelow 12 = .ok (.iconst 1, 1) := by decide +kernel
theorem dX6_triesBelow_13 : decode cX6_triesBelow 13 = .ok (.iload_n 0, 1) := by decide +kernel
theorem dX6_triesBelow_14 : decode cX6_triesBelow 14 = .ok (.ishl, 1) := by decide +kernel
theorem dX6_triesBelow_15 : decode cX6_triesBelow 15 = .ok (.iconst 1, 1) := by decide +kernel
theorem dX6_triesBelow_16 : decode cX6_triesBelow 16 = .ok (.isub, 1) := by decide +kernel
theorem dX6_triesBelow_17 : decode cX6_triesBelow 17 = .ok (.ireturn, 1) := by decide +kernel
/-! SealLine$Rule.triesBelow(I)I -/
theorem eX6_triesBelow {d mc ms : Nat} {w : qW} {Q : Option Value → qW → Prop} {x0 : Int32} (h : AW (mX6_triesBelow, d, mc, ms, none, Q) 0 [some (.int x0)] [] w 0 0) : CT mX6_triesBelow d mc ms [.int x0] w Q := CT_of (by decide +kernel) rfl (Nat.le_of_ble_eq_true rfl) h
def bX6_triesBelow_0 (G : Nat × Nat × Nat × Option (Nat × (Nat → Int32)) × (Option Value → qW → Prop)) : qK := (s_iload 0 (s_iconst 12 (s_ic_le (AW (mX6_triesBelow, G) 12) (s_iconst 8191 (AW (mX6_triesBelow, G) 17)))))
theorem oX6_triesBelow_0 (G : Nat × Nat × Nat × Option (Nat × (Nat → Int32)) × (Option Value → qW → Prop)) : qImp (bX6_triesBelow_0 G) (AW (mX6_triesBelow, G) 0) := (r_iload_n dX6_triesBelow_0 rfl (r_bipush dX6_triesBelow_1 rfl (r_ic_le (tgt := 12) dX6_triesBelow_3 rfl qImp.rf (r_sipush dX6_triesBelow_6 rfl (r_goto (tgt := 17) dX6_triesBelow_9 rfl qImp.rf)))))
def bX6_triesBelow_12 (G : Nat × Nat × Nat × Option (Nat × (Nat → Int32)) × (Option Value → qW → Prop)) : qK := (s_iconst 1 (s_iload 0 (s_ishl (s_iconst 1 (s_isub (AW (mX6_triesBelow, G) 17))))))
theorem oX6_triesBelow_12 (G : Nat × Nat × Nat × Option (Nat × (Nat → Int32)) × (Option Value → qW → Prop)) : qImp (bX6_triesBelow_12 G) (AW (mX6_triesBelow, G) 12) := (r_iconst dX6_triesBelow_12 rfl (r_iload_n dX6_triesBelow_13 rfl (r_ishl dX6_triesBelow_14 (r_iconst dX6_triesBelow_15 rfl (r_isub dX6_triesBelow_16 qImp.rf)))))
def bX6_triesBelow_17 (G : Nat × Nat × Nat × Option (Nat × (Nat → Int32)) × (Option Value → qW → Prop)) : qK := (s_ireturn (mX6_triesBelow, G))
theorem oX6_triesBelow_17 (G : Nat × Nat × Nat × Option (Nat × (Nat → Int32)) × (Option Value → qW → Prop)) : qImp (bX6_triesBelow_17 G) (AW (mX6_triesBelow, G) 17) := (r_ireturn dX6_triesBelow_17 rfl)
theorem dX6_triesOfTest_0 : decode cX6_triesOfTest 0 = .ok (.iload_n 0, 1) := by decide +kernel
theorem dX6_triesOfTest_1 : decode cX6_triesOfTest 1 = .ok (.sipush 300, 3) := by decide +kernel
theorem dX6_triesOfTest_4 : decode cX6_triesOfTest 4 = .ok (.idiv, 1) := by decide +kernel
theorem dX6_triesOfTest_5 : decode cX6_triesOfTest 5 = .ok (.istore_n 3, 1) := by decide +kernel
theorem dX6_triesOfTest_6 : decode cX6_triesOfTest 6 = .ok (.iload_n 0, 1) := by decide +kernel
theorem dX6_triesOfTest_7 : decode cX6_triesOfTest 7 = .ok (.bipush 100, 2) := by decide +kernel
theorem dX6_triesOfTest_9 : decode cX6_triesOfTest 9 = .ok (.idiv, 1) := by decide +kernel
theorem dX6_triesOfTest_10 : decode cX6_triesOfTest 10 = .ok (.iconst 3, 1) := by decide +kernel
theorem dX6_triesOfTest_11 : decode cX6_triesOfTest 11 = .ok (.irem, 1) := by decide +kernel
theorem dX6_triesOfTest_12 : decode cX6_triesOfTest 12 = .ok (.istore 4, 2) := by decide +kernel
theorem dX6_triesOfTest_14 : decode cX6_triesOfTest 14 = .ok (.iload_n 0, 1) := by decide +kernel
theorem dX6_triesOfTest_15 : decode cX6_triesOfTest 15 = .ok (.bipush 100, 2) := by decide +kernel
theorem dX6_triesOfTest_17 : decode cX6_triesOfTest 17 = .ok (.irem, 1) := by decide +kernel
theorem dX6_triesOfTest_18 : decode cX6_triesOfTest 18 = .ok (.istore 5, 2) := by decide +kernel
theorem dX6_triesOfTest_20 : decode cX6_triesOfTest 20 = .ok (.iload_n 3, 1) := by decide +kernel
theorem dX6_triesOfTest_21 : decode cX6_triesOfTest 21 = .ok (.ifCond .ne 54, 3) := by decide +kernel
theorem dX6_triesOfTest_24 : decode cX6_triesOfTest 24 = .ok (.iload 5, 2) := by decide +kernel
theorem dX6_triesOfTest_26 : decode cX6_triesOfTest 26 = .ok (.invokestatic 29, 3) := by decide +kernel
theorem dX6_triesOfTest_29 : decode cX6_triesOfTest 29 = .ok (.istore 6, 2) := by decide +kernel
theorem dX6_triesOfTest_31 : decode cX6_triesOfTest 31 = .ok (.iload 5, 2) := by decide +kernel
theorem dX6_triesOfTest_33 : decode cX6_triesOfTest 33 = .ok (.iconst 1, 1) := by decide +kernel
theorem dX6_triesOfTest_34 : decode cX6_triesOfTest 34 = .ok (.iadd, 1) := by decide +kernel
theorem dX6_triesOfTest_35 : decode cX6_triesOfTest 35 = .ok (.invokestatic 29, 3) := by decide +kernel
theorem dX6_triesOfTest_38 : decode cX6_triesOfTest 38 = .ok (.istore 7, 2) := by decide +kernel
theorem dX6_triesOfTest_40 : decode cX6_triesOfTest 40 = .ok (.iload 4, 2) := by decide +kernel
theorem dX6_triesOfTest_42 : decode cX6_triesOfTest 42 = .ok (.ifCond .ne 13, 3) := by decide +kernel
theorem dX6_triesOfTest_45 : decode cX6_triesOfTest 45 = .ok (.iload 7, 2) := by decide +kernel
theorem dX6_triesOfTest_47 : decode cX6_triesOfTest 47 = .ok (.iload 6, 2) := by decide +kernel
theorem dX6_triesOfTest_49 : decode cX6_triesOfTest 49 = .ok (.iconst (-1), 1) := by decide +kernel
theorem dX6_triesOfTest_50 : decode cX6_triesOfTest 50 = .ok (.ixor, 1) := by decide +kernel
theorem dX6_triesOfTest_51 : decode cX6_triesOfTest 51 = .ok (.iand, 1) := by decide +kernel
theorem dX6_triesOfTest_52 : decode cX6_triesOfTest 52 = .ok (.goto 22, 3) := by decide +kernel
theorem dX6_triesOfTest_55 : decode cX6_triesOfTest 55 = .ok (.iload 4, 2) := by decide +kernel
theorem dX6_triesOfTest_57 : decode cX6_triesOfTest 57 = .ok (.iconst 1, 1) := by decide +kernel
theorem dX6_triesOfTest_58 : decode cX6_triesOfTest 58 = .ok (.if_icmp .ne 8, 3) := by decide +kernel
theorem dX6_triesOfTest_61 : decode cX6_triesOfTest 61 = .ok (.iload 6, 2) := by decide +kernel
theorem dX6_triesOfTest_63 : decode cX6_triesOfTest 63 = .ok (.goto 11, 3) := by decide +kernel
theorem dX6_triesOfTest_66 : decode cX6_triesOfTest 66 = .ok (.sipush 8191, 3) := by decide +kernel
theorem dX6_triesOfTest_69 : decode cX6_triesOfTest 69 = .ok (.iload 7, 2) := by decide +kernel
theorem dX6_triesOfTest_71 : decode cX6_triesOfTest 71 = .ok (.iconst (-1), 1) := by decide +kernel
theorem dX6_triesOfTest_72 : decode cX6_triesOfTest 72 = .ok (.ixor, 1) := by decide +kernel
theorem dX6_triesOfTest_73 : decode cX6_triesOfTest 73 = .ok (.iand, 1) := by decide +kernel
theorem dX6_triesOfTest_74 : decode cX6_triesOfTest 74 = .ok (.ireturn, 1) := by decide +kernel
theorem dX6_triesOfTest_75 : decode cX6_triesOfTest 75 = .ok (.iload_n 3, 1) := by decide +kernel
theorem dX6_triesOfTest_76 : decode cX6_triesOfTest 76 = .ok (.iconst 1, 1) := by decide +kernel
theorem dX6_triesOfTest_77 : decode cX6_triesOfTest 77 = .ok (.if_icmp .ne 7, 3) := by decide +kernel
theorem dX6_triesOfTest_80 : decode cX6_triesOfTest 80 = .ok (.iload_n 1, 1) := by decide +kernel
theorem dX6_triesOfTest_81 : decode cX6_triesOfTest 81 = .ok (.goto 4, 3) := by decide +kernel
theorem dX6_triesOfTest_84 : decode cX6_triesOfTest 84 = .ok (.iload_n 2, 1) := by decide +kernel
theorem dX6_triesOfTest_85 : decode cX6_triesOfTest 85 = .ok (.istore 6, 2) := by decide +kernel
theorem dX6_triesOfTest_87 : decode cX6_triesOfTest 87 = .ok (.iload 4, 2) := by decide +kernel
theorem dX6_triesOfTest_89 : decode cX6_triesOfTest 89 = .ok (.ifCond .ne 18, 3) := by decide +kernel
theorem dX6_triesOfTest_92 : decode cX6_triesOfTest 92 = .ok (.iload 6, 2) := by decide +kernel
theorem dX6_triesOfTest_94 : decode cX6_triesOfTest 94 = .ok (.iload 5, 2) := by decide +kernel
theorem dX6_triesOfTest_96 : decode cX6_triesOfTest 96 = .ok (.if_icmp .ne 7, 3) := by decide +kernel
theorem dX6_triesOfTest_99 : decode cX6_triesOfTest 99 = .ok (.iconst 1, 1) := by decide +kernel
theorem dX6_triesOfTest_100 : decode cX6_triesOfTest 100 = .ok (.goto 40, 3) := by decide +kernel
theorem dX6_triesOfTest_103 : decode cX6_triesOfTest 103 = .ok (.iconst 0, 1) := by decide +kernel
theorem dX6_triesOfTest_104 : decode cX6_triesOfTest 104 = .ok (.goto 36, 3) := by decide +kernel
theorem dX6_triesOfTest_107 : decode cX6_triesOfTest 107 = .ok (.iload 4, 2) := by decide +kernel
theorem dX6_triesOfTest_109 : decode cX6_triesOfTest 109 = .ok (.iconst 1, 1) := by decide +kernel
theorem dX6_triesOfTest_110 : decode cX6_triesOfTest 110 = .ok (.if_icmp .ne 18, 3) := by decide +kernel
theorem dX6_triesOfTest_113 : decode cX6_triesOfTest 113 = .ok (.iload 6, 2) := by decide +kernel
theorem dX6_triesOfTest_115 : decode cX6_triesOfTest 115 = .ok (.iload 5, 2) := by decide +kernel
theorem dX6_triesOfTest_117 : decode cX6_triesOfTest 117 = .ok (.if_icmp .ge 7, 3) := by decide +kernel
theorem dX6_triesOfTest_120 : decode cX6_triesOfTest 120 = .ok (.iconst 1, 1) := by decide +kernel
theorem dX6_triesOfTest_121 : decode cX6_triesOfTest 121 = .ok (.goto 19, 3) := by decide +kernel
theorem dX6_triesOfTest_124 : decode cX6_triesOfTest 124 = .ok (.iconst 0, 1) := by decide +kernel
theorem dX6_triesOfTest_125 : decode cX6_triesOfTest 125 = .ok (.goto 15, 3) := by decide +kernel
theorem dX6_triesOfTest_128 : decode cX6_triesOfTest 128 = .ok (.iload 6, 2) := by decide +kernel
theorem dX6_triesOfTest_130 : decode cX6_triesOfTest 130 = .ok (.iload 5, 2) := by decide +kernel
theorem dX6_triesOfTest_132 : decode cX6_triesOfTest 132 = .ok (.if_icmp .le 7, 3) := by decide +kernel
theorem dX6_triesOfTest_135 : decode cX6_triesOfTest 135 = .ok (.iconst 1, 1) := by decide +kernel
theorem dX6_triesOfTest_136 : decode cX6_triesOfTest 136 = .ok (.goto 4, 3) := by decide +kernel
theorem dX6_triesOfTest_139 : decode cX6_triesOfTest 139 = .ok (.iconst 0, 1) := by decide +kernel
theorem dX6_triesOfTest_140 : decode cX6_triesOfTest 140 = .ok (.istore 7, 2) := by decide +kernel
theorem dX6_triesOfTest_142 : decode cX6_triesOfTest 142 = .ok (.iload 7, 2) := by decide +kernel
theorem dX6_triesOfTest_144 : decode cX6_triesOfTest 144 = .ok (.ifCond .eq 9, 3) := by decide +kernel
theorem dX6_triesOfTest_147 : decode cX6_triesOfTest 147 = .ok (.sipush 8191, 3) := by decide +kernel
theorem dX6_triesOfTest_150 : decode cX6_triesOfTest 150 = .ok (.goto 4, 3) := by decide +kernel
theorem dX6_triesOfTest_153 : decode cX6_triesOfTest 153 = .ok (.iconst 0, 1) := by decide +kernel
theorem dX6_triesOfTest_154 : decode cX6_triesOfTest 154 = .ok (.ireturn, 1) := by decide +kernel
/-! SealLine$Rule.triesOfTest(III)I -/
theorem eX6_triesOfTest {d mc ms : Nat} {w : qW} {Q : Option Value → qW → Prop} {x0 : Int32} {x1 : Int32} {x2 : Int32} (h : AW (mX6_triesOfTest, d, mc, ms, none, Q) 0 [some (.int x0), some (.int x1), some (.int x2), none, none, none, none, none] [] w 0 0) : CT mX6_triesOfTest d mc ms [.int x0, .int x1, .int x2] w Q := CT_of (by decide +kernel) rfl (Nat.le_of_ble_eq_true rfl) h
def bX6_triesOfTest_0 (G : Nat × Nat × Nat × Option (Nat × (Nat → Int32)) × (Option Value → qW → Prop)) : qK := (s_iload 0 (s_iconst 300 (s_idiv (s_istore 3 2 (s_iload 0 (s_iconst 100 (s_idiv (s_iconst 3 (s_irem (s_istore 4 3 (s_iload 0 (s_iconst 100 (s_irem (s_istore 5 4 (s_iload 3 (s_if_ne (AW (mX6_triesOfTest, G) 75) (s_iload 5 (AW (mX6_triesOfTest, G) 26))))))))))))))))))
theorem oX6_triesOfTest_0 (G : Nat × Nat × Nat × Option (Nat × (Nat → Int32)) × (Option Value → qW → Prop)) : qImp (bX6_triesOfTest_0 G) (AW (mX6_triesOfTest, G) 0) := (r_iload_n dX6_triesOfTest_0 rfl (r_sipush dX6_triesOfTest_1 rfl (r_idiv dX6_triesOfTest_4 (r_istore_n dX6_triesOfTest_5 rfl (Or.inr rfl) (Nat.le_of_ble_eq_true rfl) (r_iload_n dX6_triesOfTest_6 rfl (r_bipush dX6_triesOfTest_7 rfl (r_idiv dX6_triesOfTest_9 (r_iconst dX6_triesOfTest_10 rfl (r_irem dX6_triesOfTest_11 (r_istore dX6_triesOfTest_12 (Or.inr rfl) (Nat.le_of_ble_eq_true rfl) (r_iload_n dX6_triesOfTest_14 rfl (r_bipush dX6_triesOfTest_15 rfl (r_irem dX6_triesOfTest_17 (r_istore dX6_triesOfTest_18 (Or.inr rfl) (Nat.le_of_ble_eq_true rfl) (r_iload_n dX6_triesOfTest_20 rfl (r_if_ne (tgt := 75) dX6_triesOfTest_21 rfl qImp.rf (r_iload dX6_triesOfTest_24 qImp.rf)))))))))))))))))
def bX6_triesOfTest_29 (G : Nat × Nat × Nat × Option (Nat × (Nat → Int32)) × (Option Value → qW → Prop)) : qK := (s_istore 6 5 (s_iload 5 (s_iconst 1 (s_iadd (AW (mX6_triesOfTest, G) 35)))))
theorem oX6_triesOfTest_29 (G : Nat × Nat × Nat × Option (Nat × (Nat → Int32)) × (Option Value → qW → Prop)) : qImp (bX6_triesOfTest_29 G) (AW (mX6_triesOfTest, G) 29) := (r_istore dX6_triesOfTest_29 (Or.inr rfl) (Nat.le_of_ble_eq_true rfl) (r_iload dX6_triesOfTest_31 (r_iconst dX6_triesOfTest_33 rfl (r_iadd dX6_triesOfTest_34 qImp.rf))))
def bX6_triesOfTest_38 (G : Nat × Nat × Nat × Option (Nat × (Nat → Int32)) × (Option Value → qW → Prop)) : qK := (s_istore 7 6 (s_iload 4 (s_if_ne (AW (mX6_triesOfTest, G) 55) (s_iload 7 (s_iload 6 (s_iconst (-1) (s_ixor (s_iand (AW (mX6_triesOfTest, G) 74)))))))))
theorem oX6_triesOfTest_38 (G : Nat × Nat × Nat × Option (Nat × (Nat → Int32)) × (Option Value → qW → Prop)) : qImp (bX6_triesOfTest_38 G) (AW (mX6_triesOfTest, G) 38) := (r_istore dX6_triesOfTest_38 (Or.inr rfl) (Nat.le_of_ble_eq_true rfl) (r_iload dX6_triesOfTest_40 (r_if_ne (tgt := 55) dX6_triesOfTest_42 rfl qImp.rf (r_iload dX6_triesOfTest_45 (r_iload dX6_triesOfTest_47 (r_iconst dX6_triesOfTest_49 rfl (r_ixor dX6_triesOfTest_50 (r_iand dX6_triesOfTest_51 (r_goto (tgt := 74) dX6_triesOfTest_52 rfl qImp.rf)))))))))
def bX6_triesOfTest_55 (G : Nat × Nat × Nat × Option (Nat × (Nat → Int32)) × (Option Value → qW → Prop)) : qK := (s_iload 4 (s_iconst 1 (s_ic_ne (AW (mX6_triesOfTest, G) 66) (s_iload 6 (AW (mX6_triesOfTest, G) 74)))))
theorem oX6_triesOfTest_55 (G : Nat × Nat × Nat × Option (Nat × (Nat → Int32)) × (Option Value → qW → Prop)) : qImp (bX6_triesOfTest_55 G) (AW (mX6_triesOfTest, G) 55) := (r_iload dX6_triesOfTest_55 (r_iconst dX6_triesOfTest_57 rfl (r_ic_ne (tgt := 66) dX6_triesOfTest_58 rfl qImp.rf (r_iload dX6_triesOfTest_61 (r_goto (tgt := 74) dX6_triesOfTest_63 rfl qImp.rf)))))
def bX6_triesOfTest_66 (G : Nat × Nat × Nat × Option (Nat × (Nat → Int32)) × (Option Value → qW → Prop)) : qK := (s_iconst 8191 (s_iload 7 (s_iconst (-1) (s_ixor (s_iand (AW (mX6_triesOfTest, G) 74))))))
theorem oX6_triesOfTest_66 (G : Nat × Nat × Nat × Option (Nat × (Nat → Int32)) × (Option Value → qW → Prop)) : qImp (bX6_triesOfTest_66 G) (AW (mX6_triesOfTest, G) 66) := (r_sipush dX6_triesOfTest_66 rfl (r_iload dX6_triesOfTest_69 (r_iconst dX6_triesOfTest_71 rfl (r_ixor dX6_triesOfTest_72 (r_iand dX6_triesOfTest_73 qImp.rf)))))
def bX6_triesOfTest_74 (G : Nat × Nat × Nat × Option (Nat × (Nat → Int32)) × (Option Value → qW → Prop)) : qK := (s_ireturn (mX6_triesOfTest, G))
theorem oX6_triesOfTest_74 (G : Nat × Nat × Nat × Option (Nat × (Nat → Int32)) × (Option Value → qW → Prop)) : qImp (bX6_triesOfTest_74 G) (AW (mX6_triesOfTest, G) 74) := (r_ireturn dX6_triesOfTest_74 rfl)
def bX6_triesOfTest_75 (G : Nat × Nat × Nat × Option (Nat × (Nat → Int32)) × (Option Value → qW → Prop)) : qK := (s_iload 3 (s_iconst 1 (s_ic_ne (AW (mX6_triesOfTest, G) 84) (s_iload 1 (AW (mX6_triesOfTest, G) 85)))))
theorem oX6_triesOfTest_75 (G : Nat × Nat × Nat × Option (Nat × (Nat → Int32)) × (Option Value → qW → Prop)) : qImp (bX6_triesOfTest_75 G) (AW (mX6_triesOfTest, G) 75) := (r_iload_n dX6_triesOfTest_75 rfl (r_iconst dX6_triesOfTest_76 rfl (r_ic_ne (tgt := 84) dX6_triesOfTest_77 rfl qImp.rf (r_iload_n dX6_triesOfTest_80 rfl (r_goto (tgt := 85) dX6_triesOfTest_81 rfl qImp.rf)))))
def bX6_triesOfTest_84 (G : Nat × Nat × Nat × Option (Nat × (Nat → Int32)) × (Option Value → qW → Prop)) : qK := (s_iload 2 (AW (mX6_triesOfTest, G) 85))
theorem oX6_triesOfTest_84 (G : Nat × Nat × Nat × Option (Nat × (Nat → Int32)) × (Option Value → qW → Prop)) : qImp (bX6_triesOfTest_84 G) (AW (mX6_triesOfTest, G) 84) := (r_iload_n dX6_triesOfTest_84 rfl qImp.rf)
def bX6_triesOfTest_85 (G : Nat × Nat × Nat × Option (Nat × (Nat → Int32)) × (Option Value → qW → Prop)) : qK := (s_istore 6 5 (s_iload 4 (s_if_ne (AW (mX6_triesOfTest, G) 107) (s_iload 6 (s_iload 5 (s_ic_ne (AW (mX6_triesOfTest, G) 103) (s_iconst 1 (AW (mX6_triesOfTest, G) 140))))))))
theorem oX6_triesOfTest_85 (G : Nat × Nat × Nat × Option (Nat × (Nat → Int32)) × (Option Value → qW → Prop)) : qImp (bX6_triesOfTest_85 G) (AW (mX6_triesOfTest, G) 85) := (r_istore dX6_triesOfTest_85 (Or.inr rfl) (Nat.le_of_ble_eq_true rfl) (r_iload dX6_triesOfTest_87 (r_if_ne (tgt := 107) dX6_triesOfTest_89 rfl qImp.rf (r_iload dX6_triesOfTest_92 (r_iload dX6_triesOfTest_94 (r_ic_ne (tgt := 103) dX6_triesOfTest_96 rfl qImp.rf (r_iconst dX6_triesOfTest_99 rfl (r_goto (tgt := 140) dX6_triesOfTest_100 rfl qImp.rf))))))))
def bX6_triesOfTest_103 (G : Nat × Nat × Nat × Option (Nat × (Nat → Int32)) × (Option Value → qW → Prop)) : qK := (s_iconst 0 (AW (mX6_triesOfTest, G) 140))
theorem oX6_triesOfTest_103 (G : Nat × Nat × Nat × Option (Nat × (Nat → Int32)) × (Option Value → qW → Prop)) : qImp (bX6_triesOfTest_103 G) (AW (mX6_triesOfTest, G) 103) := (r_iconst dX6_triesOfTest_103 rfl (r_goto (tgt := 140) dX6_triesOfTest_104 rfl qImp.rf))
def bX6_triesOfTest_107 (G : Nat × Nat × Nat × Option (Nat × (Nat → Int32)) × (Option Value → qW → Prop)) : qK := (s_iload 4 (s_iconst 1 (s_ic_ne (AW (mX6_triesOfTest, G) 128) (s_iload 6 (s_iload 5 (s_ic_ge (AW (mX6_triesOfTest, G) 124) (s_iconst 1 (AW (mX6_triesOfTest, G) 140))))))))
theorem oX6_triesOfTest_107 (G : Nat × Nat × Nat × Option (Nat × (Nat → Int32)) × (Option Value → qW → Prop)) : qImp (bX6_triesOfTest_107 G) (AW (mX6_triesOfTest, G) 107) := (r_iload dX6_triesOfTest_107 (r_iconst dX6_triesOfTest_109 rfl (r_ic_ne (tgt := 128) dX6_triesOfTest_110 rfl qImp.rf (r_iload dX6_triesOfTest_113 (r_iload dX6_triesOfTest_115 (r_ic_ge (tgt := 124) dX6_triesOfTest_117 rfl qImp.rf (r_iconst dX6_triesOfTest_120 rfl (r_goto (tgt := 140) dX6_triesOfTest_121 rfl qImp.rf))))))))
def bX6_triesOfTest_124 (G : Nat × Nat × Nat × Option (Nat × (Nat → Int32)) × (Option Value → qW → Prop)) : qK := (s_iconst 0 (AW (mX6_triesOfTest, G) 140))
theorem oX6_triesOfTest_124 (G : Nat × Nat × Nat × Option (Nat × (Nat → Int32)) × (Option Value → qW → Prop)) : qImp (bX6_triesOfTest_124 G) (AW (mX6_triesOfTest, G) 124) := (r_iconst dX6_triesOfTest_124 rfl (r_goto (tgt := 140) dX6_triesOfTest_125 rfl qImp.rf))
def bX6_triesOfTest_128 (G : Nat × Nat × Nat × Option (Nat × (Nat → Int32)) × (Option Value → qW → Prop)) : qK := (s_iload 6 (s_iload 5 (s_ic_le (AW (mX6_triesOfTest, G) 139) (s_iconst 1 (AW (mX6_triesOfTest, G) 140)))))
theorem oX6_triesOfTest_128 (G : Nat × Nat × Nat × Option (Nat × (Nat → Int32)) × (Option Value → qW → Prop)) : qImp (bX6_triesOfTest_128 G) (AW (mX6_triesOfTest, G) 128) := (r_iload dX6_triesOfTest_128 (r_iload dX6_triesOfTest_130 (r_ic_le (tgt := 139) dX6_triesOfTest_132 rfl qImp.rf (r_iconst dX6_triesOfTest_135 rfl (r_goto (tgt := 140) dX6_triesOfTest_136 rfl qImp.rf)))))
def bX6_triesOfTest_139 (G : Nat × Nat × Nat × Option (Nat × (Nat → Int32)) × (Option Value → qW → Prop)) : qK := (s_iconst 0 (AW (mX6_triesOfTest, G) 140))
theorem oX6_triesOfTest_139 (G : Nat × Nat × Nat × Option (Nat × (Nat → Int32)) × (Option Value → qW → Prop)) : qImp (bX6_triesOfTest_139 G) (AW (mX6_triesOfTest, G) 139) := (r_iconst dX6_triesOfTest_139 rfl qImp.rf)
def bX6_triesOfTest_140 (G : Nat × Nat × Nat × Option (Nat × (Nat → Int32)) × (Option Value → qW → Prop)) : qK := (s_istore 7 6 (s_iload 7 (s_if_eq (AW (mX6_triesOfTest, G) 153) (s_iconst 8191 (AW (mX6_triesOfTest, G) 154)))))
theorem oX6_triesOfTest_140 (G : Nat × Nat × Nat × Option (Nat × (Nat → Int32)) × (Option Value → qW → Prop)) : qImp (bX6_triesOfTest_140 G) (AW (mX6_triesOfTest, G) 140) := (r_istore dX6_triesOfTest_140 (Or.inr rfl) (Nat.le_of_ble_eq_true rfl) (r_iload dX6_triesOfTest_142 (r_if_eq (tgt := 153) dX6_triesOfTest_144 rfl qImp.rf (r_sipush dX6_triesOfTest_147 rfl (r_goto (tgt := 154) dX6_triesOfTest_150 rfl qImp.rf)))))
def bX6_triesOfTest_153 (G : Nat × Nat × Nat × Option (Nat × (Nat → Int32)) × (Option Value → qW → Prop)) : qK := (s_iconst 0 (AW (mX6_triesOfTest, G) 154))
theorem oX6_triesOfTest_153 (G : Nat × Nat × Nat × Option (Nat × (Nat → Int32)) × (Option Value → qW → Prop)) : qImp (bX6_triesOfTest_153 G) (AW (mX6_triesOfTest, G) 153) := (r_iconst dX6_triesOfTest_153 rfl qImp.rf)
def bX6_triesOfTest_154 (G : Nat × Nat × Nat × Option (Nat × (Nat → Int32)) × (Option Value → qW → Prop)) : qK := (s_ireturn (mX6_triesOfTest, G))
theorem oX6_triesOfTest_154 (G : Nat × Nat × Nat × Option (Nat × (Nat → Int32)) × (Option Value → qW → Prop)) : qImp (bX6_triesOfTest_154 G) (AW (mX6_triesOfTest, G) 154) := (r_ireturn dX6_triesOfTest_154 rfl)
theorem kX6_triesOfTest_26 {G : Nat × Nat × Nat × Option (Nat × (Nat → Int32)) × (Option Value → qW → Prop)} {L : qL} {w : qW} {kc ks : Nat} {rest : List Value}  {x0 : Int32} {d mc ms : Nat} {Q : Option Value → qW → Prop} (hC : CT mX6_triesBelow d mc ms [.int x0] w Q) (hst : rest.length ≤ 4) (hdp : d + 1 ≤ G.1) (hmc : kc + mc ≤ G.2.1 ∧ ks + ms ≤ G.2.2.1) (k : ∀ r w', Q r w' → AW (mX6_triesOfTest, G) 29 L (r.toList ++ rest) w' (kc + mc) (ks + ms)) : AW (mX6_triesOfTest, G) 26 L (.int x0 :: rest) w kc ks := a_callS [.int x0] rest dX6_triesOfTest_26 tX6_triesBelow lk674 hC rfl hst hdp hmc k
theorem kX6_triesOfTest_35 {G : Nat × Nat × Nat × Option (Nat × (Nat → Int32)) × (Option Value → qW → Prop)} {L : qL} {w : qW} {kc ks : Nat} {rest : List Value}  {x0 : Int32} {d mc ms : Nat} {Q : Option Value → qW → Prop} (hC : CT mX6_triesBelow d mc ms [.int x0] w Q) (hst : rest.length ≤ 4) (hdp : d + 1 ≤ G.1) (hmc : kc + mc ≤ G.2.1 ∧ ks + ms ≤ G.2.2.1) (k : ∀ r w', Q r w' → AW (mX6_triesOfTest, G) 38 L (r.toList ++ rest) w' (kc + mc) (ks + ms)) : AW (mX6_triesOfTest, G) 35 L (.int x0 :: rest) w kc ks := a_callS [.int x0] rest dX6_triesOfTest_35 tX6_triesBelow lk674 hC rfl hst hdp hmc k
theorem dX6_holdingTries_0 : decode cX6_holdingTries 0 = .ok (.iconst 0, 1) := by decide +kernel
theorem dX6_holdingTries_1 : decode cX6_holdingTries 1 = .ok (.istore_n 3, 1) := by decide +kernel
theorem dX6_holdingTries_2 : decode cX6_holdingTries 2 = .ok (.aload_n 0, 1) := by decide +kernel
theorem dX6_holdingTries_3 : decode cX6_holdingTries 3 = .ok (.iload_n 3, 1) := by decide +kernel
theorem dX6_holdingTries_4 : decode cX6_holdingTries 4 = .ok (.invokevirtual 21, 3) := by decide +kernel
theorem dX6_holdingTries_7 : decode cX6_holdingTries 7 = .ok (.iconst 0, 1) := by decide +kernel
theorem dX6_holdingTries_8 : decode cX6_holdingTries 8 = .ok (.istore 4, 2) := by decide +kernel
theorem dX6_holdingTries_10 : decode cX6_holdingTries 10 = .ok (.iload 4, 2) := by decide +kernel
theorem dX6_holdingTries_12 : decode cX6_holdingTries 12 = .ok (.aload_n 0, 1) := by decide +kernel
theorem dX6_holdingTries_13 : decode cX6_holdingTries 13 = .ok (.getfield 18, 3) := by decide +kernel
theorem dX6_holdingTries_16 : decode cX6_holdingTries 16 = .ok (.arraylength, 1) := by decide +kernel
theorem dX6_holdingTries_17 : decode cX6_holdingTries 17 = .ok (.if_icmp .ge 147, 3) := by decide +kernel
theorem dX6_holdingTries_20 : decode cX6_holdingTries 20 = .ok (.aload_n 0, 1) := by decide +kernel
theorem dX6_holdingTries_21 : decode cX6_holdingTries 21 = .ok (.getfield 18, 3) := by decide +kernel
theorem dX6_holdingTries_24 : decode cX6_holdingTries 24 = .ok (.iload 4, 2) := by decide +kernel
theorem dX6_holdingTries_26 : decode cX6_holdingTries 26 = .ok (.iaload, 1) := by decide +kernel
theorem dX6_holdingTries_27 : decode cX6_holdingTries 27 = .ok (.istore 5, 2) := by decide +kernel
theorem dX6_holdingTries_29 : decode cX6_holdingTries 29 = .ok (.iload 5, 2) := by decide +kernel
theorem dX6_holdingTries_31 : decode cX6_holdingTries 31 = .ok (.sipush 1000, 3) := by decide +kernel
theorem dX6_holdingTries_34 : decode cX6_holdingTries 34 = .ok (.if_icmp .lt 26, 3) := by decide +kernel
theorem dX6_holdingTries_37 : decode cX6_holdingTries 37 = .ok (.aload_n 0, 1) := by decide +kernel
theorem dX6_holdingTries_38 : decode cX6_holdingTries 38 = .ok (.getfield 15, 3) := by decide +kernel
theorem dX6_holdingTries_41 : decode cX6_holdingTries 41 = .ok (.iload_n 3, 1) := by decide +kernel
theorem dX6_holdingTries_42 : decode cX6_holdingTries 42 = .ok (.dup2, 1) := by decide +kernel
theorem dX6_holdingTries_43 : decode cX6_holdingTries 43 = .ok (.iaload, 1) := by decide +kernel
theorem dX6_holdingTries_44 : decode cX6_holdingTries 44 = .ok (.iload 5, 2) := by decide +kernel
theorem dX6_holdingTries_46 : decode cX6_holdingTries 46 = .ok (.sipush 1000, 3) := by decide +kernel
theorem dX6_holdingTries_49 : decode cX6_holdingTries 49 = .ok (.isub, 1) := by decide +kernel
theorem dX6_holdingTries_50 : decode cX6_holdingTries 50 = .ok (.iload_n 1, 1) := by decide +kernel
theorem dX6_holdingTries_51 : decode cX6_holdingTries 51 = .ok (.iload_n 2, 1) := by decide +kernel
theorem dX6_holdingTries_52 : decode cX6_holdingTries 52 = .ok (.invokestatic 25, 3) := by decide +kernel
theorem dX6_holdingTries_55 : decode cX6_holdingTries 55 = .ok (.iand, 1) := by decide +kernel
theorem dX6_holdingTries_56 : decode cX6_holdingTries 56 = .ok (.iastore, 1) := by decide +kernel
theorem dX6_holdingTries_57 : decode cX6_holdingTries 57 = .ok (.goto 101, 3) := by decide +kernel
theorem dX6_holdingTries_60 : decode cX6_holdingTries 60 = .ok (.iload 5, 2) := by decide +kernel
theorem dX6_holdingTries_62 : decode cX6_holdingTries 62 = .ok (.bipush 40, 2) := by decide +kernel
theorem dX6_holdingTries_64 : decode cX6_holdingTries 64 = .ok (.if_icmp .ne 20, 3) := by decide +kernel
theorem dX6_holdingTries_67 : decode cX6_holdingTries 67 = .ok (.iload_n 3, 1) := by decide +kernel
theorem dX6_holdingTries_68 : decode cX6_holdingTries 68 = .ok (.bipush 8, 2) := by decide +kernel
theorem dX6_holdingTries_70 : decode cX6_holdingTries 70 = .ok (.if_icmp .ge 14, 3) := by decide +kernel
theorem dX6_holdingTries_73 : decode cX6_holdingTries 73 = .ok (.iinc 3 1, 3) := by decide +kernel
theorem dX6_holdingTries_76 : decode cX6_holdingTries 76 = .ok (.aload_n 0, 1) := by decide +kernel
theorem dX6_holdingTries_77 : decode cX6_holdingTries 77 = .ok (.iload_n 3, 1) := by decide +kernel
theorem dX6_holdingTries_78 : decode cX6_holdingTries 78 = .ok (.invokevirtual 21, 3) := by decide +kernel
theorem dX6_holdingTries_81 : decode cX6_holdingTries 81 = .ok (.goto 77, 3) := by decide +kernel
theorem dX6_holdingTries_84 : decode cX6_holdingTries 84 = .ok (.iload 5, 2) := by decide +kernel
theorem dX6_holdingTries_86 : decode cX6_holdingTries 86 = .ok (.bipush 41, 2) := by decide +kernel
theorem dX6_holdingTries_88 : decode cX6_holdingTries 88 = .ok (.if_icmp .ne 39, 3) := by decide +kernel
theorem dX6_holdingTries_91 : decode cX6_holdingTries 91 = .ok (.iload_n 3, 1) := by decide +kernel
theorem dX6_holdingTries_92 : decode cX6_holdingTries 92 = .ok (.ifCond .le 35, 3) := by decide +kernel
theorem dX6_holdingTries_95 : decode cX6_holdingTries 95 = .ok (.iinc 3 (-1), 3) := by decide +kernel
theorem dX6_holdingTries_98 : decode cX6_holdingTries 98 = .ok (.aload_n 0, 1) := by decide +kernel
theorem dX6_holdingTries_99 : decode cX6_holdingTries 99 = .ok (.getfield 15, 3) := by decide +kernel
theorem dX6_holdingTries_102 : decode cX6_holdingTries 102 = .ok (.iload_n 3, 1) := by decide +kernel
theorem dX6_holdingTries_103 : decode cX6_holdingTries 103 = .ok (.dup2, 1) := by decide +kernel
theorem dX6_holdingTries_104 : decode cX6_holdingTries 104 = .ok (.iaload, 1) := by decide +kernel
theorem dX6_holdingTries_105 : decode cX6_holdingTries 105 = .ok (.aload_n 0, 1) := by decide +kernel
theorem dX6_holdingTries_106 : decode cX6_holdingTries 106 = .ok (.getfield 11, 3) := by decide +kernel
theorem dX6_holdingTries_109 : decode cX6_holdingTries 109 = .ok (.iload_n 3, 1) := by decide +kernel
theorem dX6_holdingTries_110 : decode cX6_holdingTries 110 = .ok (.iconst 1, 1) := by decide +kernel
theorem dX6_holdingTries_111 : decode cX6_holdingTries 111 = .ok (.iadd, 1) := by decide +kernel
theorem dX6_holdingTries_112 : decode cX6_holdingTries 112 = .ok (.iaload, 1) := by decide +kernel
theorem dX6_holdingTries_113 : decode cX6_holdingTries 113 = .ok (.aload_n 0, 1) := by decide +kernel
theorem dX6_holdingTries_114 : decode cX6_holdingTries 114 = .ok (.getfield 15, 3) := by decide +kernel
theorem dX6_holdingTries_117 : decode cX6_holdingTries 117 = .ok (.iload_n 3, 1) := by decide +kernel
theorem dX6_holdingTries_118 : decode cX6_holdingTries 118 = .ok (.iconst 1, 1) := by decide +kernel
theorem dX6_holdingTries_119 : decode cX6_holdingTries 119 = .ok (.iadd, 1) := by decide +kernel
theorem dX6_holdingTries_120 : decode cX6_holdingTries 120 = .ok (.iaload, 1) := by decide +kernel
theorem dX6_holdingTries_121 : decode cX6_holdingTries 121 = .ok (.ior, 1) := by decide +kernel
theorem dX6_holdingTries_122 : decode cX6_holdingTries 122 = .ok (.iand, 1) := by decide +kernel
theorem dX6_holdingTries_123 : decode cX6_holdingTries 123 = .ok (.iastore, 1) := by decide +kernel
theorem dX6_holdingTries_124 : decode cX6_holdingTries 124 = .ok (.goto 34, 3) := by decide +kernel
theorem dX6_holdingTries_127 : decode cX6_holdingTries 127 = .ok (.iload 5, 2) := by decide +kernel
theorem dX6_holdingTries_129 : decode cX6_holdingTries 129 = .ok (.bipush 124, 2) := by decide +kernel
theorem dX6_holdingTries_131 : decode cX6_holdingTries 131 = .ok (.if_icmp .ne 27, 3) := by decide +kernel
theorem dX6_holdingTries_134 : decode cX6_holdingTries 134 = .ok (.aload_n 0, 1) := by decide +kernel
theorem dX6_holdingTries_135 : decode cX6_holdingTries 135 = .ok (.getfield 11, 3) := by decide +kernel
theorem dX6_holdingTries_138 : decode cX6_holdingTries 138 = .ok (.iload_n 3, 1) := by decide +kernel
theorem dX6_holdingTries_139 : decode cX6_holdingTries 139 = .ok (.dup2, 1) := by decide +kernel
theorem dX6_holdingTries_140 : decode cX6_holdingTries 140 = .ok (.iaload, 1) := by decide +kernel
theorem dX6_holdingTries_141 : decode cX6_holdingTries 141 = .ok (.aload_n 0, 1) := by decide +kernel
theorem dX6_holdingTries_142 : decode cX6_holdingTries 142 = .ok (.getfield 15, 3) := by decide +kernel
theorem dX6_holdingTries_145 : decode cX6_holdingTries 145 = .ok (.iload_n 3, 1) := by decide +kernel
theorem dX6_holdingTries_146 : decode cX6_holdingTries 146 = .ok (.iaload, 1) := by decide +kernel
theorem dX6_holdingTries_147 : decode cX6_holdingTries 147 = .ok (.ior, 1) := by decide +kernel
theorem dX6_holdingTries_148 : decode cX6_holdingTries 148 = .ok (.iastore, 1) := by decide +kernel
theorem dX6_holdingTries_149 : decode cX6_holdingTries 149 = .ok (.aload_n 0, 1) := by decide +kernel
theorem dX6_holdingTries_150 : decode cX6_holdingTries 150 = .ok (.getfield 15, 3) := by decide +kernel
theorem dX6_holdingTries_153 : decode cX6_holdingTries 153 = .ok (.iload_n 3, 1) := by decide +kernel
theorem dX6_holdingTries_154 : decode cX6_holdingTries 154 = .ok (.sipush 8191, 3) := by decide +kernel
theorem dX6_holdingTries_157 : decode cX6_holdingTries 157 = .ok (.iastore, 1) := by decide +kernel
theorem dX6_holdingTries_158 : decode cX6_holdingTries 158 = .ok (.iinc 4 1, 3) := by decide +kernel
theorem dX6_holdingTries_161 : decode cX6_holdingTries 161 = .ok (.goto (-151), 3) := by decide +kernel
theorem dX6_holdingTries_164 : decode cX6_holdingTries 164 = .ok (.aload_n 0, 1) := by decide +kernel
theorem dX6_holdingTries_165 : decode cX6_holdingTries 165 = .ok (.getfield 11, 3) := by decide +kernel
theorem dX6_holdingTries_168 : decode cX6_holdingTries 168 = .ok (.iconst 0, 1) := by decide +kernel
theorem dX6_holdingTries_169 : decode cX6_holdingTries 169 = .ok (.iaload, 1) := by decide +kernel
theorem dX6_holdingTries_170 : decode cX6_holdingTries 170 = .ok (.aload_n 0, 1) := by decide +kernel
theorem dX6_holdingTries_171 : decode cX6_holdingTries 171 = .ok (.getfield 15, 3) := by decide +kernel
theorem dX6_holdingTries_174 : decode cX6_holdingTries 174 = .ok (.iconst 0, 1) := by decide +kernel
theorem dX6_holdingTries_175 : decode cX6_holdingTries 175 = .ok (.iaload, 1) := by decide +kernel
theorem dX6_holdingTries_176 : decode cX6_holdingTries 176 = .ok (.ior, 1) := by decide +kernel
theorem dX6_holdingTries_177 : decode cX6_holdingTries 177 = .ok (.ireturn, 1) := by decide +kernel
/-! SealLine$Rule.holdingTries(II)I -/
theorem eX6_holdingTries {d mc ms : Nat} {w : qW} {Q : Option Value → qW → Prop} {q : Nat} {x0 : Int32} {x1 : Int32} (h : AW (mX6_holdingTries, d, mc, ms, none, Q) 0 [some (.ref q), some (.int x0), some (.int x1), none, none, none] [] w 0 0) : CT mX6_holdingTries d mc ms [.ref q, .int x0, .int x1] w Q := CT_of (by decide +kernel) rfl (Nat.le_of_ble_eq_true rfl) h
def bX6_holdingTries_0 (G : Nat × Nat × Nat × Option (Nat × (Nat → Int32)) × (Option Value → qW → Prop)) : qK := (s_iconst 0 (s_istore 3 2 (s_aload 0 (s_iload 3 (AW (mX6_holdingTries, G) 4)))))
theorem oX6_holdingTries_0 (G : Nat × Nat × Nat × Option (Nat × (Nat → Int32)) × (Option Value → qW → Prop)) : qImp (bX6_holdingTries_0 G) (AW (mX6_holdingTries, G) 0) := (r_iconst dX6_holdingTries_0 rfl (r_istore_n dX6_holdingTries_1 rfl (Or.inr rfl) (Nat.le_of_ble_eq_true rfl) (r_aload_n dX6_holdingTries_2 rfl (r_iload_n dX6_holdingTries_3 rfl qImp.rf))))
def bX6_holdingTries_7 (G : Nat × Nat × Nat × Option (Nat × (Nat → Int32)) × (Option Value → qW → Prop)) : qK := (s_iconst 0 (s_istore 4 3 (AW (mX6_holdingTries, G) 10)))
theorem oX6_holdingTries_7 (G : Nat × Nat × Nat × Option (Nat × (Nat → Int32)) × (Option Value → qW → Prop)) : qImp (bX6_holdingTries_7 G) (AW (mX6_holdingTries, G) 7) := (r_iconst dX6_holdingTries_7 rfl (r_istore dX6_holdingTries_8 (Or.inr rfl) (Nat.le_of_ble_eq_true rfl) qImp.rf))
def bX6_holdingTries_10 (G : Nat × Nat × Nat × Option (Nat × (Nat → Int32)) × (Option Value → qW → Prop)) : qK := (s_iload 4 (s_aload 0 (s_getfield 6 0 (s_alen (mX6_holdingTries, G) (s_ic_ge (AW (mX6_holdingTries, G) 164) (s_aload 0 (s_getfield 6 0 (s_iload 4 (s_iaload (mX6_holdingTries, G) (s_istore 5 4 (s_iload 5 (s_iconst 1000 (s_ic_lt (AW (mX6_holdingTries, G) 60) (s_aload 0 (s_getfield 6 2 (s_iload 3 (s_dup2 (s_iaload (mX6_holdingTries, G) (s_iload 5 (s_iconst 1000 (s_isub (s_iload 1 (s_iload 2 (AW (mX6_holdingTries, G) 52))))))))))))))))))))))))
theorem oX6_holdingTries_10 (G : Nat × Nat × Nat × Option (Nat × (Nat → Int32)) × (Option Value → qW → Prop)) : qImp (bX6_holdingTries_10 G) (AW (mX6_holdingTries, G) 10) := (r_iload dX6_holdingTries_10 (r_aload_n dX6_holdingTries_12 rfl (r_getfield dX6_holdingTries_13 fgX6_18 (r_alen dX6_holdingTries_16 (r_ic_ge (tgt := 164) dX6_holdingTries_17 rfl qImp.rf (r_aload_n dX6_holdingTries_20 rfl (r_getfield dX6_holdingTries_21 fgX6_18 (r_iload dX6_holdingTries_24 (r_iaload dX6_holdingTries_26 (r_istore dX6_holdingTries_27 (Or.inr rfl) (Nat.le_of_ble_eq_true rfl) (r_iload dX6_holdingTries_29 (r_sipush dX6_holdingTries_31 rfl (r_ic_lt (tgt := 60) dX6_holdingTries_34 rfl qImp.rf (r_aload_n dX6_holdingTries_37 rfl (r_getfield dX6_holdingTries_38 fgX6_15 (r_iload_n dX6_holdingTries_41 rfl (r_dup2 dX6_holdingTries_42 (r_iaload dX6_holdingTries_43 (r_iload dX6_holdingTries_44 (r_sipush dX6_holdingTries_46 rfl (r_isub dX6_holdingTries_49 (r_iload_n dX6_holdingTries_50 rfl (r_iload_n dX6_holdingTries_51 rfl qImp.rf)))))))))))))))))))))))
def bX6_holdingTries_55 (G : Nat × Nat × Nat × Option (Nat × (Nat → Int32)) × (Option Value → qW → Prop)) : qK := (s_iand (s_iastore (AW (mX6_holdingTries, G) 158)))
theorem oX6_holdingTries_55 (G : Nat × Nat × Nat × Option (Nat × (Nat → Int32)) × (Option Value → qW → Prop)) : qImp (bX6_holdingTries_55 G) (AW (mX6_holdingTries, G) 55) := (r_iand dX6_holdingTries_55 (r_iastore dX6_holdingTries_56 (r_goto (tgt := 158) dX6_holdingTries_57 rfl qImp.rf)))
def bX6_holdingTries_60 (G : Nat × Nat × Nat × Option (Nat × (Nat → Int32)) × (Option Value → qW → Prop)) : qK := (s_iload 5 (s_iconst 40 (s_ic_ne (AW (mX6_holdingTries, G) 84) (s_iload 3 (s_iconst 8 (s_ic_ge (AW (mX6_holdingTries, G) 84) (s_iinc 3 2 1 (s_aload 0 (s_iload 3 (AW (mX6_holdingTries, G) 78))))))))))
theorem oX6_holdingTries_60 (G : Nat × Nat × Nat × Option (Nat × (Nat → Int32)) × (Option Value → qW → Prop)) : qImp (bX6_holdingTries_60 G) (AW (mX6_holdingTries, G) 60) := (r_iload dX6_holdingTries_60 (r_bipush dX6_holdingTries_62 rfl (r_ic_ne (tgt := 84) dX6_holdingTries_64 rfl qImp.rf (r_iload_n dX6_holdingTries_67 rfl (r_bipush dX6_holdingTries_68 rfl (r_ic_ge (tgt := 84) dX6_holdingTries_70 rfl qImp.rf (r_iinc dX6_holdingTries_73 rfl (Or.inr rfl) (Nat.le_of_ble_eq_true rfl) (r_aload_n dX6_holdingTries_76 rfl (r_iload_n dX6_holdingTries_77 rfl qImp.rf)))))))))
def bX6_holdingTries_81 (G : Nat × Nat × Nat × Option (Nat × (Nat → Int32)) × (Option Value → qW → Prop)) : qK := (AW (mX6_holdingTries, G) 158)
theorem oX6_holdingTries_81 (G : Nat × Nat × Nat × Option (Nat × (Nat → Int32)) × (Option Value → qW → Prop)) : qImp (bX6_holdingTries_81 G) (AW (mX6_holdingTries, G) 81) := (r_goto (tgt := 158) dX6_holdingTries_81 rfl qImp.rf)
def bX6_holdingTries_84 (G : Nat × Nat × Nat × Option (Nat × (Nat → Int32)) × (Option Value → qW → Prop)) : qK := (s_iload 5 (s_iconst 41 (s_ic_ne (AW (mX6_holdingTries, G) 127) (s_iload 3 (s_if_le (AW (mX6_holdingTries, G) 127) (s_iinc 3 2 (-1) (s_aload 0 (s_getfield 6 2 (s_iload 3 (s_dup2 (s_iaload (mX6_holdingTries, G) (s_aload 0 (s_getfield 6 1 (s_iload 3 (s_iconst 1 (s_iadd (s_iaload (mX6_holdingTries, G) (s_aload 0 (s_getfield 6 2 (s_iload 3 (s_iconst 1 (s_iadd (s_iaload (mX6_holdingTries, G) (s_ior (s_iand (s_iastore (AW (mX6_holdingTries, G) 158)))))))))))))))))))))))))))
theorem oX6_holdingTries_84 (G : Nat × Nat × Nat × Option (Nat × (Nat → Int32)) × (Option Value → qW → Prop)) : qImp (bX6_holdingTries_84 G) (AW (mX6_holdingTries, G) 84) := (r_iload dX6_holdingTries_84 (r_bipush dX6_holdingTries_86 rfl (r_ic_ne (tgt := 127) dX6_holdingTries_88 rfl qImp.rf (r_iload_n dX6_holdingTries_91 rfl (r_if_le (tgt := 127) dX6_holdingTries_92 rfl qImp.rf (r_iinc dX6_holdingTries_95 rfl (Or.inr rfl) (Nat.le_of_ble_eq_true rfl) (r_aload_n dX6_holdingTries_98 rfl (r_getfield dX6_holdingTries_99 fgX6_15 (r_iload_n dX6_holdingTries_102 rfl (r_dup2 dX6_holdingTries_103 (r_iaload dX6_holdingTries_104 (r_aload_n dX6_holdingTries_105 rfl (r_getfield dX6_holdingTries_106 fgX6_11 (r_iload_n dX6_holdingTries_109 rfl (r_iconst dX6_holdingTries_110 rfl (r_iadd dX6_holdingTries_111 (r_iaload dX6_holdingTries_112 (r_aload_n dX6_holdingTries_113 rfl (r_getfield dX6_holdingTries_114 fgX6_15 (r_iload_n dX6_holdingTries_117 rfl (r_iconst dX6_holdingTries_118 rfl (r_iadd dX6_holdingTries_119 (r_iaload dX6_holdingTries_120 (r_ior dX6_holdingTries_121 (r_iand dX6_holdingTries_122 (r_iastore dX6_holdingTries_123 (r_goto (tgt := 158) dX6_holdingTries_124 rfl qImp.rf)))))))))))))))))))))))))))
def bX6_holdingTries_127 (G : Nat × Nat × Nat × Option (Nat × (Nat → Int32)) × (Option Value → qW → Prop)) : qK := (s_iload 5 (s_iconst 124 (s_ic_ne (AW (mX6_holdingTries, G) 158) (s_aload 0 (s_getfield 6 1 (s_iload 3 (s_dup2 (s_iaload (mX6_holdingTries, G) (s_aload 0 (s_getfield 6 2 (s_iload 3 (s_iaload (mX6_holdingTries, G) (s_ior (s_iastore (s_aload 0 (s_getfield 6 2 (s_iload 3 (s_iconst 8191 (s_iastore (AW (mX6_holdingTries, G) 158))))))))))))))))))))
theorem oX6_holdingTries_127 (G : Nat × Nat × Nat × Option (Nat × (Nat → Int32)) × (Option Value → qW → Prop)) : qImp (bX6_holdingTries_127 G) (AW (mX6_holdingTries, G) 127) := (r_iload dX6_holdingTries_127 (r_bipush dX6_holdingTries_129 rfl (r_ic_ne (tgt := 158) dX6_holdingTries_131 rfl qImp.rf (r_aload_n dX6_holdingTries_134 rfl (r_getfield dX6_holdingTries_135 fgX6_11 (r_iload_n dX6_holdingTries_138 rfl (r_dup2 dX6_holdingTries_139 (r_iaload dX6_holdingTries_140 (r_aload_n dX6_holdingTries_141 rfl (r_getfield dX6_holdingTries_142 fgX6_15 (r_iload_n dX6_holdingTries_145 rfl (r_iaload dX6_holdingTries_146 (r_ior dX6_holdingTries_147 (r_iastore dX6_holdingTries_148 (r_aload_n dX6_holdingTries_149 rfl (r_getfield dX6_holdingTries_150 fgX6_15 (r_iload_n dX6_holdingTries_153 rfl (r_sipush dX6_holdingTries_154 rfl (r_iastore dX6_holdingTries_157 qImp.rf)))))))))))))))))))
def bX6_holdingTries_158 (G : Nat × Nat × Nat × Option (Nat × (Nat → Int32)) × (Option Value → qW → Prop)) : qK := (s_iinc 4 3 1 (AW (mX6_holdingTries, G) 10))
theorem oX6_holdingTries_158 (G : Nat × Nat × Nat × Option (Nat × (Nat → Int32)) × (Option Value → qW → Prop)) : qImp (bX6_holdingTries_158 G) (AW (mX6_holdingTries, G) 158) := (r_iinc dX6_holdingTries_158 rfl (Or.inr rfl) (Nat.le_of_ble_eq_true rfl) (r_goto (tgt := 10) dX6_holdingTries_161 rfl qImp.rf))
def bX6_holdingTries_164 (G : Nat × Nat × Nat × Option (Nat × (Nat → Int32)) × (Option Value → qW → Prop)) : qK := (s_aload 0 (s_getfield 6 1 (s_iconst 0 (s_iaload (mX6_holdingTries, G) (s_aload 0 (s_getfield 6 2 (s_iconst 0 (s_iaload (mX6_holdingTries, G) (s_ior (s_ireturn (mX6_holdingTries, G)))))))))))
theorem oX6_holdingTries_164 (G : Nat × Nat × Nat × Option (Nat × (Nat → Int32)) × (Option Value → qW → Prop)) : qImp (bX6_holdingTries_164 G) (AW (mX6_holdingTries, G) 164) := (r_aload_n dX6_holdingTries_164 rfl (r_getfield dX6_holdingTries_165 fgX6_11 (r_iconst dX6_holdingTries_168 rfl (r_iaload dX6_holdingTries_169 (r_aload_n dX6_holdingTries_170 rfl (r_getfield dX6_holdingTries_171 fgX6_15 (r_iconst dX6_holdingTries_174 rfl (r_iaload dX6_holdingTries_175 (r_ior dX6_holdingTries_176 (r_ireturn dX6_holdingTries_177 rfl))))))))))
theorem kX6_holdingTries_4 {G : Nat × Nat × Nat × Option (Nat × (Nat → Int32)) × (Option Value → qW → Prop)} {L : qL} {w : qW} {kc ks : Nat} {rest : List Value} {q : Nat} {x0 : Int32} {d mc ms : Nat} {Q : Option Value → qW → Prop} (hC : CT mX6_begin d mc ms [.ref q, .int x0] w Q) (hq : qci w q = some 6) (hst : rest.length ≤ 4) (hdp : d + 1 ≤ G.1) (hmc : kc + mc ≤ G.2.1 ∧ ks + ms ≤ G.2.2.1) (k : ∀ r w', Q r w' → AW (mX6_holdingTries, G) 7 L (r.toList ++ rest) w' (kc + mc) (ks + ms)) : AW (mX6_holdingTries, G) 4 L (.int x0 :: .ref q :: rest) w kc ks := a_callV [.int x0] rest dX6_holdingTries_4 vX6_begin lk667 hC hq rfl rfl hst hdp hmc k
theorem kX6_holdingTries_52 {G : Nat × Nat × Nat × Option (Nat × (Nat → Int32)) × (Option Value → qW → Prop)} {L : qL} {w : qW} {kc ks : Nat} {rest : List Value}  {x0 : Int32} {x1 : Int32} {x2 : Int32} {d mc ms : Nat} {Q : Option Value → qW → Prop} (hC : CT mX6_triesOfTest d mc ms [.int x0, .int x1, .int x2] w Q) (hst : rest.length ≤ 4) (hdp : d + 1 ≤ G.1) (hmc : kc + mc ≤ G.2.1 ∧ ks + ms ≤ G.2.2.1) (k : ∀ r w', Q r w' → AW (mX6_holdingTries, G) 55 L (r.toList ++ rest) w' (kc + mc) (ks + ms)) : AW (mX6_holdingTries, G) 52 L (.int x2 :: .int x1 :: .int x0 :: rest) w kc ks := a_callS [.int x0, .int x1, .int x2] rest dX6_holdingTries_52 tX6_triesOfTest lk671 hC rfl hst hdp hmc k
theorem kX6_holdingTries_78 {G : Nat × Nat × Nat × Option (Nat × (Nat → Int32)) × (Option Value → qW → Prop)} {L : qL} {w : qW} {kc ks : Nat} {rest : List Value} {q : Nat} {x0 : Int32} {d mc ms : Nat} {Q : Option Value → qW → Prop} (hC : CT mX6_begin d mc ms [.ref q, .int x0] w Q) (hq : qci w q = some 6) (hst : rest.length ≤ 4) (hdp : d + 1 ≤ G.1) (hmc : kc + mc ≤ G.2.1 ∧ ks + ms ≤ G.2.2.1) (k : ∀ r w', Q r w' → AW (mX6_holdingTries, G) 81 L (r.toList ++ rest) w' (kc + mc) (ks + ms)) : AW (mX6_holdingTries, G) 78 L (.int x0 :: .ref q :: rest) w kc ks := a_callV [.int x0] rest dX6_holdingTries_78 vX6_begin lk667 hC hq rfl rfl hst hdp hmc k
theorem dX6_init_0 : decode cX6_init 0 = .ok (.aload_n 0, 1) := by decide +kernel
theorem dX6_init_1 : decode cX6_init 1 = .ok (.invokespecial 3, 3) := by decide +kernel
theorem dX6_init_4 : decode cX6_init 4 = .ok (.aload_n 0, 1) := by decide +kernel
theorem dX6_init_5 : decode cX6_init 5 = .ok (.bipush 9, 2) := by decide +kernel
theorem dX6_init_7 : decode cX6_init 7 = .ok (.newarray .int, 2) := by decide +kernel
theorem dX6_init_9 : decode cX6_init 9 = .ok (.putfield 11, 3) := by decide +kernel
theorem dX6_init_12 : decode cX6_init 12 = .ok (.aload_n 0, 1) := by decide +kernel
theorem dX6_init_13 : decode cX6_init 13 = .ok (.bipush 9, 2) := by decide +kernel
theorem dX6_init_15 : decode cX6_init 15 = .ok (.newarray .int, 2) := by decide +kernel
theorem dX6_init_17 : decode cX6_init 17 = .ok (.putfield 15, 3) := by decide +kernel
theorem dX6_init_20 : decode cX6_init 20 = .ok (.aload_n 0, 1) := by decide +kernel
theorem dX6_init_21 : decode cX6_init 21 = .ok (.aload_n 1, 1) := by decide +kernel
theorem dX6_init_22 : decode cX6_init 22 = .ok (.putfield 18, 3) := by decide +kernel
theorem dX6_init_25 : decode cX6_init 25 = .ok (.return_, 1) := by decide +kernel
/-! SealLine$Rule.<init>([I)V -/
theorem eX6_init {d mc ms : Nat} {w : qW} {Q : Option Value → qW → Prop} {q : Nat} {x0 : Nat} (h : AW (mX6_init, d, mc, ms, none, Q) 0 [some (.ref q), some (.ref x0)] [] w 0 0) : CT mX6_init d mc ms [.ref q, .ref x0] w Q := CT_of (by decide +kernel) rfl (Nat.le_of_ble_eq_true rfl) h
def bX6_init_0 (G : Nat × Nat × Nat × Option (Nat × (Nat → Int32)) × (Option Value → qW → Prop)) : qK := (s_aload 0 (s_oinit (mX6_init, G) (s_aload 0 (s_iconst 9 (s_newI (mX6_init, G) 0 (s_putR 6 1 (s_aload 0 (s_iconst 9 (s_newI (mX6_init, G) 0 (s_putR 6 2 (s_aload 0 (s_aload 1 (s_putR 6 0 (s_vreturn (mX6_init, G)))))))))))))))
theorem oX6_init_0 (G : Nat × Nat × Nat × Option (Nat × (Nat → Int32)) × (Option Value → qW → Prop)) : qImp (bX6_init_0 G) (AW (mX6_init, G) 0) := (r_aload_n dX6_init_0 rfl (r_oinit dX6_init_1 lk289 lk86 lk87 (r_aload_n dX6_init_4 rfl (r_bipush dX6_init_5 rfl (r_newI0 dX6_init_7 lk113 (r_putRF dX6_init_9 fpX6_11 (fun q hq => by cases hq; rfl) rfl (fun q hq => by cases hq; rfl) (fun _ => rfl) (fun _ => rfl) (r_aload_n dX6_init_12 rfl (r_bipush dX6_init_13 rfl (r_newI0 dX6_init_15 lk113 (r_putRF dX6_init_17 fpX6_15 (fun q hq => by cases hq; rfl) rfl (fun q hq => by cases hq; rfl) (fun _ => rfl) (fun _ => rfl) (r_aload_n dX6_init_20 rfl (r_aload_n dX6_init_21 rfl (r_putRF dX6_init_22 fpX6_18 (fun q hq => by cases hq; rfl) rfl (fun q hq => by cases hq; rfl) (fun _ => rfl) (fun _ => rfl) (r_vreturn dX6_init_25 rfl))))))))))))))
theorem dX6_test_0 : decode cX6_test 0 = .ok (.sipush 1000, 3) := by decide +kernel
theorem dX6_test_3 : decode cX6_test 3 = .ok (.iload_n 0, 1) := by decide +kernel
theorem dX6_test_4 : decode cX6_test 4 = .ok (.sipush 300, 3) := by decide +kernel
theorem dX6_test_7 : decode cX6_test 7 = .ok (.imul, 1) := by decide +kernel
theorem dX6_test_8 : decode cX6_test 8 = .ok (.iadd, 1) := by decide +kernel
theorem dX6_test_9 : decode cX6_test 9 = .ok (.iload_n 1, 1) := by decide +kernel
theorem dX6_test_10 : decode cX6_test 10 = .ok (.bipush 100, 2) := by decide +kernel
theorem dX6_test_12 : decode cX6_test 12 = .ok (.imul, 1) := by decide +kernel
theorem dX6_test_13 : decode cX6_test 13 = .ok (.iadd, 1) := by decide +kernel
theorem dX6_test_14 : decode cX6_test 14 = .ok (.iload_n 2, 1) := by decide +kernel
theorem dX6_test_15 : decode cX6_test 15 = .ok (.iadd, 1) := by decide +kernel
theorem dX6_test_16 : decode cX6_test 16 = .ok (.ireturn, 1) := by decide +kernel
/-! SealLine$Rule.test(III)I -/
theorem eX6_test {d mc ms : Nat} {w : qW} {Q : Option Value → qW → Prop} {x0 : Int32} {x1 : Int32} {x2 : Int32} (h : AW (mX6_test, d, mc, ms, none, Q) 0 [some (.int x0), some (.int x1), some (.int x2)] [] w 0 0) : CT mX6_test d mc ms [.int x0, .int x1, .int x2] w Q := CT_of (by decide +kernel) rfl (Nat.le_of_ble_eq_true rfl) h
def bX6_test_0 (G : Nat × Nat × Nat × Option (Nat × (Nat → Int32)) × (Option Value → qW → Prop)) : qK := (s_iconst 1000 (s_iload 0 (s_iconst 300 (s_imul (s_iadd (s_iload 1 (s_iconst 100 (s_imul (s_iadd (s_iload 2 (s_iadd (s_ireturn (mX6_test, G)))))))))))))
theorem oX6_test_0 (G : Nat × Nat × Nat × Option (Nat × (Nat → Int32)) × (Option Value → qW → Prop)) : qImp (bX6_test_0 G) (AW (mX6_test, G) 0) := (r_sipush dX6_test_0 rfl (r_iload_n dX6_test_3 rfl (r_sipush dX6_test_4 rfl (r_imul dX6_test_7 (r_iadd dX6_test_8 (r_iload_n dX6_test_9 rfl (r_bipush dX6_test_10 rfl (r_imul dX6_test_12 (r_iadd dX6_test_13 (r_iload_n dX6_test_14 rfl (r_iadd dX6_test_15 (r_ireturn dX6_test_16 rfl))))))))))))
