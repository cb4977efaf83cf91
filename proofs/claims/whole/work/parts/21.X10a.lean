theorem dX10_bit_0 : decode cX10_bit 0 = .ok (.iload_n 0, 1) := by decide +kernel
theorem dX10_bit_1 : decode cX10_bit 1 = .ok (.ifCond .eq 7, 3) := by decide +kernel
theorem dX10_bit_4 : decode cX10_bit 4 = .ok (.iconst 1, 1) := by decide +kernel
theorem dX10_bit_5 : decode cX10_bit 5 = .ok (.goto 4, 3) := by decide +kernel
theorem dX10_bit_8 : decode cX10_bit 8 = .ok (.iconst 0, 1) := by decide +kernel
theorem dX10_bit_9 : decode cX10_bit 9 = .ok (.ireturn, 1) := by decide +kernel
/-! SealLine.bit(Z)I -/
theorem eX10_bit {d mc ms : Nat} {w : qW} {Q : Option Value → qW → Prop} {x0 : Int32} (h : AW (mX10_bit, d, mc, ms, none, Q) 0 [some (.int x0)] [] w 0 0) : CT mX10_bit d mc ms [.int x0] w Q := CT_of (by decide +kernel) rfl (Nat.le_of_ble_eq_true rfl) h
def bX10_bit_0 (G : Nat × Nat × Nat × Option (Nat × (Nat → Int32)) × (Option Value → qW → Prop)) : qK := (s_iload 0 (s_if_eq (AW (mX10_bit, G) 8) (s_iconst 1 (AW (mX10_bit, G) 9))))
theorem oX10_bit_0 (G : Nat × Nat × Nat × Option (Nat × (Nat → Int32)) × (Option Value → qW → Prop)) : qImp (bX10_bit_0 G) (AW (mX10_bit, G) 0) := (r_iload_n dX10_bit_0 rfl (r_if_eq (tgt := 8) dX10_bit_1 rfl qImp.rf (r_iconst dX10_bit_4 rfl (r_goto (tgt := 9) dX10_bit_5 rfl qImp.rf))))
def bX10_bit_8 (G : Nat × Nat × Nat × Option (Nat × (Nat → Int32)) × (Option Value → qW → Prop)) : qK := (s_iconst 0 (AW (mX10_bit, G) 9))
theorem oX10_bit_8 (G : Nat × Nat × Nat × Option (Nat × (Nat → Int32)) × (Option Value → qW → Prop)) : qImp (bX10_bit_8 G) (AW (mX10_bit, G) 8) := (r_iconst dX10_bit_8 rfl qImp.rf)
def bX10_bit_9 (G : Nat × Nat × Nat × Option (Nat × (Nat → Int32)) × (Option Value → qW → Prop)) : qK := (s_ireturn (mX10_bit, G))
theorem oX10_bit_9 (G : Nat × Nat × Nat × Option (Nat × (Nat → Int32)) × (Option Value → qW → Prop)) : qImp (bX10_bit_9 G) (AW (mX10_bit, G) 9) := (r_ireturn dX10_bit_9 rfl)
theorem dX10_isTool_0 : decode cX10_isTool 0 = .ok (.iload_n 0, 1) := by decide +kernel
theorem dX10_isTool_1 : decode cX10_isTool 1 = .ok (.ifCond .lt 13, 3) := by decide +kernel
theorem dX10_isTool_4 : decode cX10_isTool 4 = .ok (.iload_n 0, 1) := by decide +kernel
theorem dX10_isTool_5 : decode cX10_isTool 5 = .ok (.bipush 6, 2) := by decide +kernel
theorem dX10_isTool_7 : decode cX10_isTool 7 = .ok (.if_icmp .ge 7, 3) := by decide +kernel
theorem dX10_isTool_10 : decode cX10_isTool 10 = .ok (.iconst 1, 1) := by decide +kernel
theorem dX10_isTool_11 : decode cX10_isTool 11 = .ok (.goto 4, 3) := by decide +kernel
theorem dX10_isTool_14 : decode cX10_isTool 14 = .ok (.iconst 0, 1) := by decide +kernel
theorem dX10_isTool_15 : decode cX10_isTool 15 = .ok (.ireturn, 1) := by decide +kernel
/-! SealLine.isTool(I)Z -/
theorem eX10_isTool {d mc ms : Nat} {w : qW} {Q : Option Value → qW → Prop} {x0 : Int32} (h : AW (mX10_isTool, d, mc, ms, none, Q) 0 [some (.int x0)] [] w 0 0) : CT mX10_isTool d mc ms [.int x0] w Q := CT_of (by decide +kernel) rfl (Nat.le_of_ble_eq_true rfl) h
def bX10_isTool_0 (G : Nat × Nat × Nat × Option (Nat × (Nat → Int32)) × (Option Value → qW → Prop)) : qK := (s_iload 0 (s_if_lt (AW (mX10_isTool, G) 14) (s_iload 0 (s_iconst 6 (s_ic_ge (AW (mX10_isTool, G) 14) (s_iconst 1 (AW (mX10_isTool, G) 15)))))))
theorem oX10_isTool_0 (G : Nat × Nat × Nat × Option (Nat × (Nat → Int32)) × (Option Value → qW → Prop)) : qImp (bX10_isTool_0 G) (AW (mX10_isTool, G) 0) := (r_iload_n dX10_isTool_0 rfl (r_if_lt (tgt := 14) dX10_isTool_1 rfl qImp.rf (r_iload_n dX10_isTool_4 rfl (r_bipush dX10_isTool_5 rfl (r_ic_ge (tgt := 14) dX10_isTool_7 rfl qImp.rf (r_iconst dX10_isTool_10 rfl (r_goto (tgt := 15) dX10_isTool_11 rfl qImp.rf)))))))
def bX10_isTool_14 (G : Nat × Nat × Nat × Option (Nat × (Nat → Int32)) × (Option Value → qW → Prop)) : qK := (s_iconst 0 (AW (mX10_isTool, G) 15))
theorem oX10_isTool_14 (G : Nat × Nat × Nat × Option (Nat × (Nat → Int32)) × (Option Value → qW → Prop)) : qImp (bX10_isTool_14 G) (AW (mX10_isTool, G) 14) := (r_iconst dX10_isTool_14 rfl qImp.rf)
def bX10_isTool_15 (G : Nat × Nat × Nat × Option (Nat × (Nat → Int32)) × (Option Value → qW → Prop)) : qK := (s_zreturn (mX10_isTool, G))
theorem oX10_isTool_15 (G : Nat × Nat × Nat × Option (Nat × (Nat → Int32)) × (Option Value → qW → Prop)) : qImp (bX10_isTool_15 G) (AW (mX10_isTool, G) 15) := (r_zreturn dX10_isTool_15 rfl)
theorem dX10_isHand_0 : decode cX10_isHand 0 = .ok (.iload_n 0, 1) := by decide +kernel
theorem dX10_isHand_1 : decode cX10_isHand 1 = .ok (.ifCond .lt 13, 3) := by decide +kernel
theorem dX10_isHand_4 : decode cX10_isHand 4 = .ok (.iload_n 0, 1) := by decide +kernel
theorem dX10_isHand_5 : decode cX10_isHand 5 = .ok (.bipush 12, 2) := by decide +kernel
theorem dX10_isHand_7 : decode cX10_isHand 7 = .ok (.if_icmp .ge 7, 3) := by decide +kernel
theorem dX10_isHand_10 : decode cX10_isHand 10 = .ok (.iconst 1, 1) := by decide +kernel
theorem dX10_isHand_11 : decode cX10_isHand 11 = .ok (.goto 4, 3) := by decide +kernel
theorem dX10_isHand_14 : decode cX10_isHand 14 = .ok (.iconst 0, 1) := by decide +kernel
theorem dX10_isHand_15 : decode cX10_isHand 15 = .ok (.ireturn, 1) := by decide +kernel
/-! SealLine.isHand(I)Z -/
theorem eX10_isHand {d mc ms : Nat} {w : qW} {Q : Option Value → qW → Prop} {x0 : Int32} (h : AW (mX10_isHand, d, mc, ms, none, Q) 0 [some (.int x0)] [] w 0 0) : CT mX10_isHand d mc ms [.int x0] w Q := CT_of (by decide +kernel) rfl (Nat.le_of_ble_eq_true rfl) h
def bX10_isHand_0 (G : Nat × Nat × Nat × Option (Nat × (Nat → Int32)) × (Option Value → qW → Prop)) : qK := (s_iload 0 (s_if_lt (AW (mX10_isHand, G) 14) (s_iload 0 (s_iconst 12 (s_ic_ge (AW (mX10_isHand, G) 14) (s_iconst 1 (AW (mX10_isHand, G) 15)))))))
theorem oX10_isHand_0 (G : Nat × Nat × Nat × Option (Nat × (Nat → Int32)) × (Option Value → qW → Prop)) : qImp (bX10_isHand_0 G) (AW (mX10_isHand, G) 0) := (r_iload_n dX10_isHand_0 rfl (r_if_lt (tgt := 14) dX10_isHand_1 rfl qImp.rf (r_iload_n dX10_isHand_4 rfl (r_bipush dX10_isHand_5 rfl (r_ic_ge (tgt := 14) dX10_isHand_7 rfl qImp.rf (r_iconst dX10_isHand_10 rfl (r_goto (tgt := 15) dX10_isHand_11 rfl qImp.rf)))))))
def bX10_isHand_14 (G : Nat × Nat × Nat × Option (Nat × (Nat → Int32)) × (Option Value → qW → Prop)) : qK := (s_iconst 0 (AW (mX10_isHand, G) 15))
theorem oX10_isHand_14 (G : Nat × Nat × Nat × Option (Nat × (Nat → Int32)) × (Option Value → qW → Prop)) : qImp (bX10_isHand_14 G) (AW (mX10_isHand, G) 14) := (r_iconst dX10_isHand_14 rfl qImp.rf)
def bX10_isHand_15 (G : Nat × Nat × Nat × Option (Nat × (Nat → Int32)) × (Option Value → qW → Prop)) : qK := (s_zreturn (mX10_isHand, G))
theorem oX10_isHand_15 (G : Nat × Nat × Nat × Option (Nat × (Nat → Int32)) × (Option Value → qW → Prop)) : qImp (bX10_isHand_15 G) (AW (mX10_isHand, G) 15) := (r_zreturn dX10_isHand_15 rfl)
theorem dX10_init_0 : decode cX10_init 0 = .ok (.aload_n 0, 1) := by decide +kernel
theorem dX10_init_1 : decode cX10_init 1 = .ok (.invokespecial 1, 3) := by decide +kernel
theorem dX10_init_4 : decode cX10_init 4 = .ok (.aload_n 0, 1) := by decide +kernel
theorem dX10_init_5 : decode cX10_init 5 = .ok (.new 7, 3) := by decide +kernel
theorem dX10_init_8 : decode cX10_init 8 = .ok (.dup, 1) := by decide +kernel
theorem dX10_init_9 : decode cX10_init 9 = .ok (.sipush 400, 3) := by decide +kernel
theorem dX10_init_12 : decode cX10_init 12 = .ok (.bipush 8, 2) := by decide +kernel
theorem dX10_init_14 : decode cX10_init 14 = .ok (.invokespecial 11, 3) := by decide +kernel
theorem dX10_init_17 : decode cX10_init 17 = .ok (.putfield 14, 3) := by decide +kernel
theorem dX10_init_20 : decode cX10_init 20 = .ok (.aload_n 0, 1) := by decide +kernel
theorem dX10_init_21 : decode cX10_init 21 = .ok (.new 7, 3) := by decide +kernel
theorem dX10_init_24 : decode cX10_init 24 = .ok (.dup, 1) := by decide +kernel
theorem dX10_init_25 : decode cX10_init 25 = .ok (.sipush 400, 3) := by decide +kernel
theorem dX10_init_28 : decode cX10_init 28 = .ok (.bipush 6, 2) := by decide +kernel
theorem dX10_init_30 : decode cX10_init 30 = .ok (.invokespecial 11, 3) := by decide +kernel
theorem dX10_init_33 : decode cX10_init 33 = .ok (.putfield 18, 3) := by decide +kernel
theorem dX10_init_36 : decode cX10_init 36 = .ok (.aload_n 0, 1) := by decide +kernel
theorem dX10_init_37 : decode cX10_init 37 = .ok (.new 21, 3) := by decide +kernel
theorem dX10_init_40 : decode cX10_init 40 = .ok (.dup, 1) := by decide +kernel
theorem dX10_init_41 : decode cX10_init 41 = .ok (.invokespecial 23, 3) := by decide +kernel
theorem dX10_init_44 : decode cX10_init 44 = .ok (.putfield 24, 3) := by decide +kernel
theorem dX10_init_47 : decode cX10_init 47 = .ok (.aload_n 0, 1) := by decide +kernel
theorem dX10_init_48 : decode cX10_init 48 = .ok (.new 28, 3) := by decide +kernel
theorem dX10_init_51 : decode cX10_init 51 = .ok (.dup, 1) := by decide +kernel
theorem dX10_init_52 : decode cX10_init 52 = .ok (.invokespecial 30, 3) := by decide +kernel
theorem dX10_init_55 : decode cX10_init 55 = .ok (.putfield 31, 3) := by decide +kernel
theorem dX10_init_58 : decode cX10_init 58 = .ok (.aload_n 0, 1) := by decide +kernel
theorem dX10_init_59 : decode cX10_init 59 = .ok (.new 35, 3) := by decide +kernel
theorem dX10_init_62 : decode cX10_init 62 = .ok (.dup, 1) := by decide +kernel
theorem dX10_init_63 : decode cX10_init 63 = .ok (.invokespecial 37, 3) := by decide +kernel
theorem dX10_init_66 : decode cX10_init 66 = .ok (.putfield 38, 3) := by decide +kernel
theorem dX10_init_69 : decode cX10_init 69 = .ok (.aload_n 0, 1) := by decide +kernel
theorem dX10_init_70 : decode cX10_init 70 = .ok (.new 42, 3) := by decide +kernel
theorem dX10_init_73 : decode cX10_init 73 = .ok (.dup, 1) := by decide +kernel
theorem dX10_init_74 : decode cX10_init 74 = .ok (.invokespecial 44, 3) := by decide +kernel
theorem dX10_init_77 : decode cX10_init 77 = .ok (.putfield 45, 3) := by decide +kernel
theorem dX10_init_80 : decode cX10_init 80 = .ok (.aload_n 0, 1) := by decide +kernel
theorem dX10_init_81 : decode cX10_init 81 = .ok (.new 49, 3) := by decide +kernel
theorem dX10_init_84 : decode cX10_init 84 = .ok (.dup, 1) := by decide +kernel
theorem dX10_init_85 : decode cX10_init 85 = .ok (.invokespecial 51, 3) := by decide +kernel
theorem dX10_init_88 : decode cX10_init 88 = .ok (.putfield 52, 3) := by decide +kernel
theorem dX10_init_91 : decode cX10_init 91 = .ok (.aload_n 0, 1) := by decide +kernel
theorem dX10_init_92 : decode cX10_init 92 = .ok (.new 56, 3) := by decide +kernel
theorem dX10_init_95 : decode cX10_init 95 = .ok (.dup, 1) := by decide +kernel
theorem dX10_init_96 : decode cX10_init 96 = .ok (.invokespecial 58, 3) := by decide +kernel
theorem dX10_init_99 : decode cX10_init 99 = .ok (.putfield 59, 3) := by decide +kernel
theorem dX10_init_102 : decode cX10_init 102 = .ok (.aload_n 0, 1) := by decide +kernel
theorem dX10_init_103 : decode cX10_init 103 = .ok (.new 63, 3) := by decide +kernel
theorem dX10_init_106 : decode cX10_init 106 = .ok (.dup, 1) := by decide +kernel
theorem dX10_init_107 : decode cX10_init 107 = .ok (.invokespecial 65, 3) := by decide +kernel
theorem dX10_init_110 : decode cX10_init 110 = .ok (.putfield 66, 3) := by decide +kernel
theorem dX10_init_113 : decode cX10_init 113 = .ok (.aload_n 0, 1) := by decide +kernel
theorem dX10_init_114 : decode cX10_init 114 = .ok (.new 70, 3) := by decide +kernel
theorem dX10_init_117 : decode cX10_init 117 = .ok (.dup, 1) := by decide +kernel
theorem dX10_init_118 : decode cX10_init 118 = .ok (.iconst 0, 1) := by decide +kernel
theorem dX10_init_119 : decode cX10_init 119 = .ok (.newarray .int, 2) := by decide +kernel
theorem dX10_init_121 : decode cX10_init 121 = .ok (.invokespecial 72, 3) := by decide +kernel
theorem dX10_init_124 : decode cX10_init 124 = .ok (.putfield 75, 3) := by decide +kernel
theorem dX10_init_127 : decode cX10_init 127 = .ok (.aload_n 0, 1) := by decide +kernel
theorem dX10_init_128 : decode cX10_init 128 = .ok (.iconst 0, 1) := by decide +kernel
theorem dX10_init_129 : decode cX10_init 129 = .ok (.putfield 79, 3) := by decide +kernel
theorem dX10_init_132 : decode cX10_init 132 = .ok (.return_, 1) := by decide +kernel
/-! SealLine.<init>()V -/
theorem eX10_init {d mc ms : Nat} {w : qW} {Q : Option Value → qW → Prop} {q : Nat} (h : AW (mX10_init, d, mc, ms, none, Q) 0 [some (.ref q)] [] w 0 0) : CT mX10_init d mc ms [.ref q] w Q := CT_of (by decide +kernel) rfl (Nat.le_of_ble_eq_true rfl) h
def bX10_init_0 (G : Nat × Nat × Nat × Option (Nat × (Nat → Int32)) × (Option Value → qW → Prop)) : qK := (s_aload 0 (s_oinit (mX10_init, G) (s_aload 0 (s_new (mX10_init, G) 8 4 [.int 0, .int 0, .null, .int 0] (s_dup (s_iconst 400 (s_iconst 8 (AW (mX10_init, G) 14))))))))
theorem oX10_init_0 (G : Nat × Nat × Nat × Option (Nat × (Nat → Int32)) × (Option Value → qW → Prop)) : qImp (bX10_init_0 G) (AW (mX10_init, G) 0) := (r_aload_n dX10_init_0 rfl (r_oinit dX10_init_1 lk85 lk86 lk87 (r_aload_n dX10_init_4 rfl (r_new dX10_init_5 nwX10_7 (r_dup dX10_init_8 (r_sipush dX10_init_9 rfl (r_bipush dX10_init_12 rfl qImp.rf)))))))
def bX10_init_17 (G : Nat × Nat × Nat × Option (Nat × (Nat → Int32)) × (Option Value → qW → Prop)) : qK := (s_putR 10 0 (s_aload 0 (s_new (mX10_init, G) 8 4 [.int 0, .int 0, .null, .int 0] (s_dup (s_iconst 400 (s_iconst 6 (AW (mX10_init, G) 30)))))))
theorem oX10_init_17 (G : Nat × Nat × Nat × Option (Nat × (Nat → Int32)) × (Option Value → qW → Prop)) : qImp (bX10_init_17 G) (AW (mX10_init, G) 17) := (r_putRF dX10_init_17 fpX10_14 (fun q hq => by cases hq; rfl) rfl (fun q hq => by cases hq; rfl) (fun _ => rfl) (fun _ => rfl) (r_aload_n dX10_init_20 rfl (r_new dX10_init_21 nwX10_7 (r_dup dX10_init_24 (r_sipush dX10_init_25 rfl (r_bipush dX10_init_28 rfl qImp.rf))))))
def bX10_init_33 (G : Nat × Nat × Nat × Option (Nat × (Nat → Int32)) × (Option Value → qW → Prop)) : qK := (s_putR 10 1 (s_aload 0 (s_new (mX10_init, G) 7 8 [.null, .null, .null, .null, .null, .null, .null, .int 0] (s_dup (AW (mX10_init, G) 41)))))
theorem oX10_init_33 (G : Nat × Nat × Nat × Option (Nat × (Nat → Int32)) × (Option Value → qW → Prop)) : qImp (bX10_init_33 G) (AW (mX10_init, G) 33) := (r_putRF dX10_init_33 fpX10_18 (fun q hq => by cases hq; rfl) rfl (fun q hq => by cases hq; rfl) (fun _ => rfl) (fun _ => rfl) (r_aload_n dX10_init_36 rfl (r_new dX10_init_37 nwX10_21 (r_dup dX10_init_40 qImp.rf))))
def bX10_init_44 (G : Nat × Nat × Nat × Option (Nat × (Nat → Int32)) × (Option Value → qW → Prop)) : qK := (s_putR 10 2 (s_aload 0 (s_new (mX10_init, G) 3 4 [.null, .null, .null, .int 0] (s_dup (AW (mX10_init, G) 52)))))
theorem oX10_init_44 (G : Nat × Nat × Nat × Option (Nat × (Nat → Int32)) × (Option Value → qW → Prop)) : qImp (bX10_init_44 G) (AW (mX10_init, G) 44) := (r_putRF dX10_init_44 fpX10_24 (fun q hq => by cases hq; rfl) rfl (fun q hq => by cases hq; rfl) (fun _ => rfl) (fun _ => rfl) (r_aload_n dX10_init_47 rfl (r_new dX10_init_48 nwX10_28 (r_dup dX10_init_51 qImp.rf))))
def bX10_init_55 (G : Nat × Nat × Nat × Option (Nat × (Nat → Int32)) × (Option Value → qW → Prop)) : qK := (s_putR 10 3 (s_aload 0 (s_new (mX10_init, G) 5 4 [.null, .null, .null, .int 0] (s_dup (AW (mX10_init, G) 63)))))
theorem oX10_init_55 (G : Nat × Nat × Nat × Option (Nat × (Nat → Int32)) × (Option Value → qW → Prop)) : qImp (bX10_init_55 G) (AW (mX10_init, G) 55) := (r_putRF dX10_init_55 fpX10_31 (fun q hq => by cases hq; rfl) rfl (fun q hq => by cases hq; rfl) (fun _ => rfl) (fun _ => rfl) (r_aload_n dX10_init_58 rfl (r_new dX10_init_59 nwX10_35 (r_dup dX10_init_62 qImp.rf))))
def bX10_init_66 (G : Nat × Nat × Nat × Option (Nat × (Nat → Int32)) × (Option Value → qW → Prop)) : qK := (s_putR 10 4 (s_aload 0 (s_new (mX10_init, G) 9 8 [.null, .int 0, .null, .int 0, .int 0, .int 0, .int 0, .int 0] (s_dup (AW (mX10_init, G) 74)))))
theorem oX10_init_66 (G : Nat × Nat × Nat × Option (Nat × (Nat → Int32)) × (Option Value → qW → Prop)) : qImp (bX10_init_66 G) (AW (mX10_init, G) 66) := (r_putRF dX10_init_66 fpX10_38 (fun q hq => by cases hq; rfl) rfl (fun q hq => by cases hq; rfl) (fun _ => rfl) (fun _ => rfl) (r_aload_n dX10_init_69 rfl (r_new dX10_init_70 nwX10_42 (r_dup dX10_init_73 qImp.rf))))
def bX10_init_77 (G : Nat × Nat × Nat × Option (Nat × (Nat → Int32)) × (Option Value → qW → Prop)) : qK := (s_putR 10 5 (s_aload 0 (s_new (mX10_init, G) 4 2 [.null, .int 0] (s_dup (AW (mX10_init, G) 85)))))
theorem oX10_init_77 (G : Nat × Nat × Nat × Option (Nat × (Nat → Int32)) × (Option Value → qW → Prop)) : qImp (bX10_init_77 G) (AW (mX10_init, G) 77) := (r_putRF dX10_init_77 fpX10_45 (fun q hq => by cases hq; rfl) rfl (fun q hq => by cases hq; rfl) (fun _ => rfl) (fun _ => rfl) (r_aload_n dX10_init_80 rfl (r_new dX10_init_81 nwX10_49 (r_dup dX10_init_84 qImp.rf))))
def bX10_init_88 (G : Nat × Nat × Nat × Option (Nat × (Nat → Int32)) × (Option Value → qW → Prop)) : qK := (s_putR 10 6 (s_aload 0 (s_new (mX10_init, G) 2 4 [.null, .null, .null, .null] (s_dup (AW (mX10_init, G) 96)))))
theorem oX10_init_88 (G : Nat × Nat × Nat × Option (Nat × (Nat → Int32)) × (Option Value → qW → Prop)) : qImp (bX10_init_88 G) (AW (mX10_init, G) 88) := (r_putRF dX10_init_88 fpX10_52 (fun q hq => by cases hq; rfl) rfl (fun q hq => by cases hq; rfl) (fun _ => rfl) (fun _ => rfl) (r_aload_n dX10_init_91 rfl (r_new dX10_init_92 nwX10_56 (r_dup dX10_init_95 qImp.rf))))
def bX10_init_99 (G : Nat × Nat × Nat × Option (Nat × (Nat → Int32)) × (Option Value → qW → Prop)) : qK := (s_putR 10 7 (s_aload 0 (s_new (mX10_init, G) 1 3 [.int 0, .int 0, .int 0] (s_dup (AW (mX10_init, G) 107)))))
theorem oX10_init_99 (G : Nat × Nat × Nat × Option (Nat × (Nat → Int32)) × (Option Value → qW → Prop)) : qImp (bX10_init_99 G) (AW (mX10_init, G) 99) := (r_putRF dX10_init_99 fpX10_59 (fun q hq => by cases hq; rfl) rfl (fun q hq => by cases hq; rfl) (fun _ => rfl) (fun _ => rfl) (r_aload_n dX10_init_102 rfl (r_new dX10_init_103 nwX10_63 (r_dup dX10_init_106 qImp.rf))))
def bX10_init_110 (G : Nat × Nat × Nat × Option (Nat × (Nat → Int32)) × (Option Value → qW → Prop)) : qK := (s_putR 10 8 (s_aload 0 (s_new (mX10_init, G) 6 3 [.null, .null, .null] (s_dup (s_iconst 0 (s_newI (mX10_init, G) 0 (AW (mX10_init, G) 121)))))))
theorem oX10_init_110 (G : Nat × Nat × Nat × Option (Nat × (Nat → Int32)) × (Option Value → qW → Prop)) : qImp (bX10_init_110 G) (AW (mX10_init, G) 110) := (r_putRF dX10_init_110 fpX10_66 (fun q hq => by cases hq; rfl) rfl (fun q hq => by cases hq; rfl) (fun _ => rfl) (fun _ => rfl) (r_aload_n dX10_init_113 rfl (r_new dX10_init_114 nwX10_70 (r_dup dX10_init_117 (r_iconst dX10_init_118 rfl (r_newI0 dX10_init_119 lk113 qImp.rf))))))
def bX10_init_124 (G : Nat × Nat × Nat × Option (Nat × (Nat → Int32)) × (Option Value → qW → Prop)) : qK := (s_putR 10 9 (s_aload 0 (s_iconst 0 (s_putI 10 10 (s_vreturn (mX10_init, G))))))
theorem oX10_init_124 (G : Nat × Nat × Nat × Option (Nat × (Nat → Int32)) × (Option Value → qW → Prop)) : qImp (bX10_init_124 G) (AW (mX10_init, G) 124) := (r_putR dX10_init_124 fpX10_75 (fun q hq => by cases hq; rfl) (fun _ => rfl) (fun _ => rfl) (r_aload_n dX10_init_127 rfl (r_iconst dX10_init_128 rfl (r_putI dX10_init_129 fpX10_79 (fun q hq => by cases hq; rfl) (r_vreturn dX10_init_132 rfl)))))
theorem kX10_init_14 {G : Nat × Nat × Nat × Option (Nat × (Nat → Int32)) × (Option Value → qW → Prop)} {L : qL} {w : qW} {kc ks : Nat} {rest : List Value} {q : Nat} {x0 : Int32} {x1 : Int32} {d mc ms : Nat} {Q : Option Value → qW → Prop} (hC : CT mX8_init d mc ms [.ref q, .int x0, .int x1] w Q) (hst : rest.length ≤ 4) (hdp : d + 1 ≤ G.1) (hmc : kc + mc ≤ G.2.1 ∧ ks + ms ≤ G.2.2.1) (k : ∀ r w', Q r w' → AW (mX10_init, G) 17 L (r.toList ++ rest) w' (kc + mc) (ks + ms)) : AW (mX10_init, G) 14 L (.int x1 :: .int x0 :: .ref q :: rest) w kc ks := a_callI [.int x0, .int x1] rest dX10_init_14 iX8_init lk90 hC rfl hst hdp hmc k
theorem kX10_init_30 {G : Nat × Nat × Nat × Option (Nat × (Nat → Int32)) × (Option Value → qW → Prop)} {L : qL} {w : qW} {kc ks : Nat} {rest : List Value} {q : Nat} {x0 : Int32} {x1 : Int32} {d mc ms : Nat} {Q : Option Value → qW → Prop} (hC : CT mX8_init d mc ms [.ref q, .int x0, .int x1] w Q) (hst : rest.length ≤ 4) (hdp : d + 1 ≤ G.1) (hmc : kc + mc ≤ G.2.1 ∧ ks + ms ≤ G.2.2.1) (k : ∀ r w', Q r w' → AW (mX10_init, G) 33 L (r.toList ++ rest) w' (kc + mc) (ks + ms)) : AW (mX10_init, G) 30 L (.int x1 :: .int x0 :: .ref q :: rest) w kc ks := a_callI [.int x0, .int x1] rest dX10_init_30 iX8_init lk90 hC rfl hst hdp hmc k
theorem kX10_init_41 {G : Nat × Nat × Nat × Option (Nat × (Nat → Int32)) × (Option Value → qW → Prop)} {L : qL} {w : qW} {kc ks : Nat} {rest : List Value} {q : Nat}  {d mc ms : Nat} {Q : Option Value → qW → Prop} (hC : CT mX7_init d mc ms [.ref q] w Q) (hst : rest.length ≤ 4) (hdp : d + 1 ≤ G.1) (hmc : kc + mc ≤ G.2.1 ∧ ks + ms ≤ G.2.2.1) (k : ∀ r w', Q r w' → AW (mX10_init, G) 44 L (r.toList ++ rest) w' (kc + mc) (ks + ms)) : AW (mX10_init, G) 41 L (.ref q :: rest) w kc ks := a_callI [] rest dX10_init_41 iX7_init lk116 hC rfl hst hdp hmc k
theorem kX10_init_52 {G : Nat × Nat × Nat × Option (Nat × (Nat → Int32)) × (Option Value → qW → Prop)} {L : qL} {w : qW} {kc ks : Nat} {rest : List Value} {q : Nat}  {d mc ms : Nat} {Q : Option Value → qW → Prop} (hC : CT mX3_init d mc ms [.ref q] w Q) (hst : rest.length ≤ 4) (hdp : d + 1 ≤ G.1) (hmc : kc + mc ≤ G.2.1 ∧ ks + ms ≤ G.2.2.1) (k : ∀ r w', Q r w' → AW (mX10_init, G) 55 L (r.toList ++ rest) w' (kc + mc) (ks + ms)) : AW (mX10_init, G) 52 L (.ref q :: rest) w kc ks := a_callIN [] rest dX10_init_52 iX3_init lnX10_30 hC rfl hst hdp hmc k
theorem kX10_init_63 {G : Nat × Nat × Nat × Option (Nat × (Nat → Int32)) × (Option Value → qW → Prop)} {L : qL} {w : qW} {kc ks : Nat} {rest : List Value} {q : Nat}  {d mc ms : Nat} {Q : Option Value → qW → Prop} (hC : CT mX5_init d mc ms [.ref q] w Q) (hst : rest.length ≤ 4) (hdp : d + 1 ≤ G.1) (hmc : kc + mc ≤ G.2.1 ∧ ks + ms ≤ G.2.2.1) (k : ∀ r w', Q r w' → AW (mX10_init, G) 66 L (r.toList ++ rest) w' (kc + mc) (ks + ms)) : AW (mX10_init, G) 63 L (.ref q :: rest) w kc ks := a_callI [] rest dX10_init_63 iX5_init lk183 hC rfl hst hdp hmc k
theorem kX10_init_74 {G : Nat × Nat × Nat × Option (Nat × (Nat → Int32)) × (Option Value → qW → Prop)} {L : qL} {w : qW} {kc ks : Nat} {rest : List Value} {q : Nat}  {d mc ms : Nat} {Q : Option Value → qW → Prop} (hC : CT mX9_init d mc ms [.ref q] w Q) (hst : rest.length ≤ 4) (hdp : d + 1 ≤ G.1) (hmc : kc + mc ≤ G.2.1 ∧ ks + ms ≤ G.2.2.1) (k : ∀ r w', Q r w' → AW (mX10_init, G) 77 L (r.toList ++ rest) w' (kc + mc) (ks + ms)) : AW (mX10_init, G) 74 L (.ref q :: rest) w kc ks := a_callIN [] rest dX10_init_74 iX9_init lnX10_44 hC rfl hst hdp hmc k
theorem kX10_init_85 {G : Nat × Nat × Nat × Option (Nat × (Nat → Int32)) × (Option Value → qW → Prop)} {L : qL} {w : qW} {kc ks : Nat} {rest : List Value} {q : Nat}  {d mc ms : Nat} {Q : Option Value → qW → Prop} (hC : CT mX4_init d mc ms [.ref q] w Q) (hst : rest.length ≤ 4) (hdp : d + 1 ≤ G.1) (hmc : kc + mc ≤ G.2.1 ∧ ks + ms ≤ G.2.2.1) (k : ∀ r w', Q r w' → AW (mX10_init, G) 88 L (r.toList ++ rest) w' (kc + mc) (ks + ms)) : AW (mX10_init, G) 85 L (.ref q :: rest) w kc ks := a_callIN [] rest dX10_init_85 iX4_init lnX10_51 hC rfl hst hdp hmc k
theorem kX10_init_96 {G : Nat × Nat × Nat × Option (Nat × (Nat → Int32)) × (Option Value → qW → Prop)} {L : qL} {w : qW} {kc ks : Nat} {rest : List Value} {q : Nat}  {d mc ms : Nat} {Q : Option Value → qW → Prop} (hC : CT mX2_init d mc ms [.ref q] w Q) (hst : rest.length ≤ 4) (hdp : d + 1 ≤ G.1) (hmc : kc + mc ≤ G.2.1 ∧ ks + ms ≤ G.2.2.1) (k : ∀ r w', Q r w' → AW (mX10_init, G) 99 L (r.toList ++ rest) w' (kc + mc) (ks + ms)) : AW (mX10_init, G) 96 L (.ref q :: rest) w kc ks := a_callI [] rest dX10_init_96 iX2_init lk249 hC rfl hst hdp hmc k
theorem kX10_init_107 {G : Nat × Nat × Nat × Option (Nat × (Nat → Int32)) × (Option Value → qW → Prop)} {L : qL} {w : qW} {kc ks : Nat} {rest : List Value} {q : Nat}  {d mc ms : Nat} {Q : Option Value → qW → Prop} (hC : CT mX1_init d mc ms [.ref q] w Q) (hst : rest.length ≤ 4) (hdp : d + 1 ≤ G.1) (hmc : kc + mc ≤ G.2.1 ∧ ks + ms ≤ G.2.2.1) (k : ∀ r w', Q r w' → AW (mX10_init, G) 110 L (r.toList ++ rest) w' (kc + mc) (ks + ms)) : AW (mX10_init, G) 107 L (.ref q :: rest) w kc ks := a_callIN [] rest dX10_init_107 iX1_init lnX10_65 hC rfl hst hdp hmc k
theorem kX10_init_121 {G : Nat × Nat × Nat × Option (Nat × (Nat → Int32)) × (Option Value → qW → Prop)} {L : qL} {w : qW} {kc ks : Nat} {rest : List Value} {q : Nat} {x0 : Nat} {d mc ms : Nat} {Q : Option Value → qW → Prop} (hC : CT mX6_init d mc ms [.ref q, .ref x0] w Q) (hst : rest.length ≤ 4) (hdp : d + 1 ≤ G.1) (hmc : kc + mc ≤ G.2.1 ∧ ks + ms ≤ G.2.2.1) (k : ∀ r w', Q r w' → AW (mX10_init, G) 124 L (r.toList ++ rest) w' (kc + mc) (ks + ms)) : AW (mX10_init, G) 121 L (.ref x0 :: .ref q :: rest) w kc ks := a_callI [.ref x0] rest dX10_init_121 iX6_init lk286 hC rfl hst hdp hmc k
theorem dX10_addNote_0 : decode cX10_addNote 0 = .ok (.aload_n 0, 1) := by decide +kernel
theorem dX10_addNote_1 : decode cX10_addNote 1 = .ok (.getfield 14, 3) := by decide +kernel
theorem dX10_addNote_4 : decode cX10_addNote 4 = .ok (.invokevirtual 177, 3) := by decide +kernel
theorem dX10_addNote_7 : decode cX10_addNote 7 = .ok (.istore 4, 2) := by decide +kernel
theorem dX10_addNote_9 : decode cX10_addNote 9 = .ok (.aload_n 0, 1) := by decide +kernel
theorem dX10_addNote_10 : decode cX10_addNote 10 = .ok (.getfield 14, 3) := by decide +kernel
theorem dX10_addNote_13 : decode cX10_addNote 13 = .ok (.iload 4, 2) := by decide +kernel
theorem dX10_addNote_15 : decode cX10_addNote 15 = .ok (.iconst 0, 1) := by decide +kernel
theorem dX10_addNote_16 : decode cX10_addNote 16 = .ok (.iload_n 1, 1) := by decide +kernel
theorem dX10_addNote_17 : decode cX10_addNote 17 = .ok (.invokevirtual 124, 3) := by decide +kernel
theorem dX10_addNote_20 : decode cX10_addNote 20 = .ok (.aload_n 0, 1) := by decide +kernel
theorem dX10_addNote_21 : decode cX10_addNote 21 = .ok (.getfield 14, 3) := by decide +kernel
theorem dX10_addNote_24 : decode cX10_addNote 24 = .ok (.iload 4, 2) := by decide +kernel
theorem dX10_addNote_26 : decode cX10_addNote 26 = .ok (.iconst 1, 1) := by decide +kernel
theorem dX10_addNote_27 : decode cX10_addNote 27 = .ok (.iload_n 2, 1) := by decide +kernel
theorem dX10_addNote_28 : decode cX10_addNote 28 = .ok (.invokevirtual 124, 3) := by decide +kernel
theorem dX10_addNote_31 : decode cX10_addNote 31 = .ok (.aload_n 0, 1) := by decide +kernel
theorem dX10_addNote_32 : decode cX10_addNote 32 = .ok (.getfield 14, 3) := by decide +kernel
theorem dX10_addNote_35 : decode cX10_addNote 35 = .ok (.iload 4, 2) := by decide +kernel
theorem dX10_addNote_37 : decode cX10_addNote 37 = .ok (.iconst 2, 1) := by decide +kernel
theorem dX10_addNote_38 : decode cX10_addNote 38 = .ok (.iload_n 3, 1) := by decide +kernel
theorem dX10_addNote_39 : decode cX10_addNote 39 = .ok (.invokevirtual 124, 3) := by decide +kernel
theorem dX10_addNote_42 : decode cX10_addNote 42 = .ok (.iload 4, 2) := by decide +kernel
theorem dX10_addNote_44 : decode cX10_addNote 44 = .ok (.ireturn, 1) := by decide +kernel
/-! SealLine.addNote(III)I -/
theorem eX10_addNote {d mc ms : Nat} {w : qW} {Q : Option Value → qW → Prop} {q : Nat} {x0 : Int32} {x1 : Int32} {x2 : Int32} (h : AW (mX10_addNote, d, mc, ms, none, Q) 0 [some (.ref q), some (.int x0), some (.int x1), some (.int x2), none] [] w 0 0) : CT mX10_addNote d mc ms [.ref q, .int x0, .int x1, .int x2] w Q := CT_of (by decide +kernel) rfl (Nat.le_of_ble_eq_true rfl) h
def bX10_addNote_0 (G : Nat × Nat × Nat × Option (Nat × (Nat → Int32)) × (Option Value → qW → Prop)) : qK := (s_aload 0 (s_getfield 10 0 (AW (mX10_addNote, G) 4)))
theorem oX10_addNote_0 (G : Nat × Nat × Nat × Option (Nat × (Nat → Int32)) × (Option Value → qW → Prop)) : qImp (bX10_addNote_0 G) (AW (mX10_addNote, G) 0) := (r_aload_n dX10_addNote_0 rfl (r_getfield dX10_addNote_1 fgX10_14 qImp.rf))
def bX10_addNote_7 (G : Nat × Nat × Nat × Option (Nat × (Nat → Int32)) × (Option Value → qW → Prop)) : qK := (s_istore 4 3 (s_aload 0 (s_getfield 10 0 (s_iload 4 (s_iconst 0 (s_iload 1 (AW (mX10_addNote, G) 17)))))))
theorem oX10_addNote_7 (G : Nat × Nat × Nat × Option (Nat × (Nat → Int32)) × (Option Value → qW → Prop)) : qImp (bX10_addNote_7 G) (AW (mX10_addNote, G) 7) := (r_istore dX10_addNote_7 (Or.inr rfl) (Nat.le_of_ble_eq_true rfl) (r_aload_n dX10_addNote_9 rfl (r_getfield dX10_addNote_10 fgX10_14 (r_iload dX10_addNote_13 (r_iconst dX10_addNote_15 rfl (r_iload_n dX10_addNote_16 rfl qImp.rf))))))
def bX10_addNote_20 (G : Nat × Nat × Nat × Option (Nat × (Nat → Int32)) × (Option Value → qW → Prop)) : qK := (s_aload 0 (s_getfield 10 0 (s_iload 4 (s_iconst 1 (s_iload 2 (AW (mX10_addNote, G) 28))))))
theorem oX10_addNote_20 (G : Nat × Nat × Nat × Option (Nat × (Nat → Int32)) × (Option Value → qW → Prop)) : qImp (bX10_addNote_20 G) (AW (mX10_addNote, G) 20) := (r_aload_n dX10_addNote_20 rfl (r_getfield dX10_addNote_21 fgX10_14 (r_iload dX10_addNote_24 (r_iconst dX10_addNote_26 rfl (r_iload_n dX10_addNote_27 rfl qImp.rf)))))
def bX10_addNote_31 (G : Nat × Nat × Nat × Option (Nat × (Nat → Int32)) × (Option Value → qW → Prop)) : qK := (s_aload 0 (s_getfield 10 0 (s_iload 4 (s_iconst 2 (s_iload 3 (AW (mX10_addNote, G) 39))))))
theorem oX10_addNote_31 (G : Nat × Nat × Nat × Option (Nat × (Nat → Int32)) × (Option Value → qW → Prop)) : qImp (bX10_addNote_31 G) (AW (mX10_addNote, G) 31) := (r_aload_n dX10_addNote_31 rfl (r_getfield dX10_addNote_32 fgX10_14 (r_iload dX10_addNote_35 (r_iconst dX10_addNote_37 rfl (r_iload_n dX10_addNote_38 rfl qImp.rf)))))
def bX10_addNote_42 (G : Nat × Nat × Nat × Option (Nat × (Nat → Int32)) × (Option Value → qW → Prop)) : qK := (s_iload 4 (s_ireturn (mX10_addNote, G)))
theorem oX10_addNote_42 (G : Nat × Nat × Nat × Option (Nat × (Nat → Int32)) × (Option Value → qW → Prop)) : qImp (bX10_addNote_42 G) (AW (mX10_addNote, G) 42) := (r_iload dX10_addNote_42 (r_ireturn dX10_addNote_44 rfl))
theorem kX10_addNote_4 {G : Nat × Nat × Nat × Option (Nat × (Nat → Int32)) × (Option Value → qW → Prop)} {L : qL} {w : qW} {kc ks : Nat} {rest : List Value} {q : Nat}  {d mc ms : Nat} {Q : Option Value → qW → Prop} (hC : CT mX8_addRow d mc ms [.ref q] w Q) (hq : qci w q = some 8) (hst : rest.length ≤ 4) (hdp : d + 1 ≤ G.1) (hmc : kc + mc ≤ G.2.1 ∧ ks + ms ≤ G.2.2.1) (k : ∀ r w', Q r w' → AW (mX10_addNote, G) 7 L (r.toList ++ rest) w' (kc + mc) (ks + ms)) : AW (mX10_addNote, G) 4 L (.ref q :: rest) w kc ks := a_callV [] rest dX10_addNote_4 vX8_addRow lk361 hC hq rfl rfl hst hdp hmc k
theorem kX10_addNote_17 {G : Nat × Nat × Nat × Option (Nat × (Nat → Int32)) × (Option Value → qW → Prop)} {L : qL} {w : qW} {kc ks : Nat} {rest : List Value} {q : Nat} {x0 : Int32} {x1 : Int32} {x2 : Int32} {d mc ms : Nat} {Q : Option Value → qW → Prop} (hC : CT mX8_set d mc ms [.ref q, .int x0, .int x1, .int x2] w Q) (hq : qci w q = some 8) (hst : rest.length ≤ 4) (hdp : d + 1 ≤ G.1) (hmc : kc + mc ≤ G.2.1 ∧ ks + ms ≤ G.2.2.1) (k : ∀ r w', Q r w' → AW (mX10_addNote, G) 20 L (r.toList ++ rest) w' (kc + mc) (ks + ms)) : AW (mX10_addNote, G) 17 L (.int x2 :: .int x1 :: .int x0 :: .ref q :: rest) w kc ks := a_callV [.int x0, .int x1, .int x2] rest dX10_addNote_17 vX8_set lk366 hC hq rfl rfl hst hdp hmc k
theorem kX10_addNote_28 {G : Nat × Nat × Nat × Option (Nat × (Nat → Int32)) × (Option Value → qW → Prop)} {L : qL} {w : qW} {kc ks : Nat} {rest : List Value} {q : Nat} {x0 : Int32} {x1 : Int32} {x2 : Int32} {d mc ms : Nat} {Q : Option Value → qW → Prop} (hC : CT mX8_set d mc ms [.ref q, .int x0, .int x1, .int x2] w Q) (hq : qci w q = some 8) (hst : rest.length ≤ 4) (hdp : d + 1 ≤ G.1) (hmc : kc + mc ≤ G.2.1 ∧ ks + ms ≤ G.2.2.1) (k : ∀ r w', Q r w' → AW (mX10_addNote, G) 31 L (r.toList ++ rest) w' (kc + mc) (ks + ms)) : AW (mX10_addNote, G) 28 L (.int x2 :: .int x1 :: .int x0 :: .ref q :: rest) w kc ks := a_callV [.int x0, .int x1, .int x2] rest dX10_addNote_28 vX8_set lk366 hC hq rfl rfl hst hdp hmc k
theorem kX10_addNote_39 {G : Nat × Nat × Nat × Option (Nat × (Nat → Int32)) × (Option Value → qW → Prop)} {L : qL} {w : qW} {kc ks : Nat} {rest : List Value} {q : Nat} {x0 : Int32} {x1 : Int32} {x2 : Int32} {d mc ms : Nat} {Q : Option Value → qW → Prop} (hC : CT mX8_set d mc ms [.ref q, .int x0, .int x1, .int x2] w Q) (hq : qci w q = some 8) (hst : rest.length ≤ 4) (hdp : d + 1 ≤ G.1) (hmc : kc + mc ≤ G.2.1 ∧ ks + ms ≤ G.2.2.1) (k : ∀ r w', Q r w' → AW (mX10_addNote, G) 42 L (r.toList ++ rest) w' (kc + mc) (ks + ms)) : AW (mX10_addNote, G) 39 L (.int x2 :: .int x1 :: .int x0 :: .ref q :: rest) w kc ks := a_callV [.int x0, .int x1, .int x2] rest dX10_addNote_39 vX8_set lk366 hC hq rfl rfl hst hdp hmc k
theorem dX10_settle_0 : decode cX10_settle 0 = .ok (.aload_n 0, 1) := by decide +kernel
theorem dX10_settle_1 : decode cX10_settle 1 = .ok (.getfield 24, 3) := by decide +kernel
theorem dX10_settle_4 : decode cX10_settle 4 = .ok (.aload_n 0, 1) := by decide +kernel
theorem dX10_settle_5 : decode cX10_settle 5 = .ok (.getfield 14, 3) := by decide +kernel
theorem dX10_settle_8 : decode cX10_settle 8 = .ok (.iload_n 1, 1) := by decide +kernel
theorem dX10_settle_9 : decode cX10_settle 9 = .ok (.invokevirtual 275, 3) := by decide +kernel
theorem dX10_settle_12 : decode cX10_settle 12 = .ok (.aload_n 0, 1) := by decide +kernel
theorem dX10_settle_13 : decode cX10_settle 13 = .ok (.getfield 38, 3) := by decide +kernel
theorem dX10_settle_16 : decode cX10_settle 16 = .ok (.aload_n 0, 1) := by decide +kernel
theorem dX10_settle_17 : decode cX10_settle 17 = .ok (.getfield 14, 3) := by decide +kernel
theorem dX10_settle_20 : decode cX10_settle 20 = .ok (.iload_n 1, 1) := by decide +kernel
theorem dX10_settle_21 : decode cX10_settle 21 = .ok (.invokevirtual 279, 3) := by decide +kernel
theorem dX10_settle_24 : decode cX10_settle 24 = .ok (.return_, 1) := by decide +kernel
/-! SealLine.settle(I)V -/
theorem eX10_settle {d mc ms : Nat} {w : qW} {Q : Option Value → qW → Prop} {q : Nat} {x0 : Int32} (h : AW (mX10_settle, d, mc, ms, none, Q) 0 [some (.ref q), some (.int x0)] [] w 0 0) : CT mX10_settle d mc ms [.ref q, .int x0] w Q := CT_of (by decide +kernel) rfl (Nat.le_of_ble_eq_true rfl) h
def bX10_settle_0 (G : Nat × Nat × Nat × Option (Nat × (Nat → Int32)) × (Option Value → qW → Prop)) : qK := (s_aload 0 (s_getfield 10 2 (s_aload 0 (s_getfield 10 0 (s_iload 1 (AW (mX10_settle, G) 9))))))
theorem oX10_settle_0 (G : Nat × Nat × Nat × Option (Nat × (Nat → Int32)) × (Option Value → qW → Prop)) : qImp (bX10_settle_0 G) (AW (mX10_settle, G) 0) := (r_aload_n dX10_settle_0 rfl (r_getfield dX10_settle_1 fgX10_24 (r_aload_n dX10_settle_4 rfl (r_getfield dX10_settle_5 fgX10_14 (r_iload_n dX10_settle_8 rfl qImp.rf)))))
def bX10_settle_12 (G : Nat × Nat × Nat × Option (Nat × (Nat → Int32)) × (Option Value → qW → Prop)) : qK := (s_aload 0 (s_getfield 10 4 (s_aload 0 (s_getfield 10 0 (s_iload 1 (AW (mX10_settle, G) 21))))))
theorem oX10_settle_12 (G : Nat × Nat × Nat × Option (Nat × (Nat → Int32)) × (Option Value → qW → Prop)) : qImp (bX10_settle_12 G) (AW (mX10_settle, G) 12) := (r_aload_n dX10_settle_12 rfl (r_getfield dX10_settle_13 fgX10_38 (r_aload_n dX10_settle_16 rfl (r_getfield dX10_settle_17 fgX10_14 (r_iload_n dX10_settle_20 rfl qImp.rf)))))
def bX10_settle_24 (G : Nat × Nat × Nat × Option (Nat × (Nat → Int32)) × (Option Value → qW → Prop)) : qK := (s_vreturn (mX10_settle, G))
theorem oX10_settle_24 (G : Nat × Nat × Nat × Option (Nat × (Nat → Int32)) × (Option Value → qW → Prop)) : qImp (bX10_settle_24 G) (AW (mX10_settle, G) 24) := (r_vreturn dX10_settle_24 rfl)
theorem kX10_settle_9 {G : Nat × Nat × Nat × Option (Nat × (Nat → Int32)) × (Option Value → qW → Prop)} {L : qL} {w : qW} {kc ks : Nat} {rest : List Value} {q : Nat} {x0 : Nat} {x1 : Int32} {d mc ms : Nat} {Q : Option Value → qW → Prop} (hC : CT mX7_cleanBy d mc ms [.ref q, .ref x0, .int x1] w Q) (hq : qci w q = some 7) (hst : rest.length ≤ 4) (hdp : d + 1 ≤ G.1) (hmc : kc + mc ≤ G.2.1 ∧ ks + ms ≤ G.2.2.1) (k : ∀ r w', Q r w' → AW (mX10_settle, G) 12 L (r.toList ++ rest) w' (kc + mc) (ks + ms)) : AW (mX10_settle, G) 9 L (.int x1 :: .ref x0 :: .ref q :: rest) w kc ks := a_callV [.ref x0, .int x1] rest dX10_settle_9 vX7_cleanBy lk391 hC hq rfl rfl hst hdp hmc k
theorem kX10_settle_21 {G : Nat × Nat × Nat × Option (Nat × (Nat → Int32)) × (Option Value → qW → Prop)} {L : qL} {w : qW} {kc ks : Nat} {rest : List Value} {q : Nat} {x0 : Nat} {x1 : Int32} {d mc ms : Nat} {Q : Option Value → qW → Prop} (hC : CT mX5_look d mc ms [.ref q, .ref x0, .int x1] w Q) (hq : qci w q = some 5) (hst : rest.length ≤ 4) (hdp : d + 1 ≤ G.1) (hmc : kc + mc ≤ G.2.1 ∧ ks + ms ≤ G.2.2.1) (k : ∀ r w', Q r w' → AW (mX10_settle, G) 24 L (r.toList ++ rest) w' (kc + mc) (ks + ms)) : AW (mX10_settle, G) 21 L (.int x1 :: .ref x0 :: .ref q :: rest) w kc ks := a_callV [.ref x0, .int x1] rest dX10_settle_21 vX5_look lk423 hC hq rfl rfl hst hdp hmc k
theorem dX10_source_0 : decode cX10_source 0 = .ok (.iload_n 1, 1) := by decide +kernel
theorem dX10_source_1 : decode cX10_source 1 = .ok (.invokestatic 83, 3) := by decide +kernel
theorem dX10_source_4 : decode cX10_source 4 = .ok (.ifCond .eq 13, 3) := by decide +kernel
theorem dX10_source_7 : decode cX10_source 7 = .ok (.aload_n 0, 1) := by decide +kernel
theorem dX10_source_8 : decode cX10_source 8 = .ok (.getfield 14, 3) := by decide +kernel
theorem dX10_source_11 : decode cX10_source 11 = .ok (.invokevirtual 87, 3) := by decide +kernel
theorem dX10_source_14 : decode cX10_source 14 = .ok (.ifCond .eq 5, 3) := by decide +kernel
theorem dX10_source_17 : decode cX10_source 17 = .ok (.iconst (-1), 1) := by decide +kernel
theorem dX10_source_18 : decode cX10_source 18 = .ok (.ireturn, 1) := by decide +kernel
theorem dX10_source_19 : decode cX10_source 19 = .ok (.aload_n 0, 1) := by decide +kernel
theorem dX10_source_20 : decode cX10_source 20 = .ok (.getfield 24, 3) := by decide +kernel
theorem dX10_source_23 : decode cX10_source 23 = .ok (.lload_n 2, 1) := by decide +kernel
theorem dX10_source_24 : decode cX10_source 24 = .ok (.invokevirtual 91, 3) := by decide +kernel
theorem dX10_source_27 : decode cX10_source 27 = .ok (.istore 4, 2) := by decide +kernel
theorem dX10_source_29 : decode cX10_source 29 = .ok (.iload 4, 2) := by decide +kernel
theorem dX10_source_31 : decode cX10_source 31 = .ok (.iconst (-1), 1) := by decide +kernel
theorem dX10_source_32 : decode cX10_source 32 = .ok (.if_icmp .ne 5, 3) := by decide +kernel
theorem dX10_source_35 : decode cX10_source 35 = .ok (.iconst (-1), 1) := by decide +kernel
theorem dX10_source_36 : decode cX10_source 36 = .ok (.ireturn, 1) := by decide +kernel
theorem dX10_source_37 : decode cX10_source 37 = .ok (.aload_n 0, 1) := by decide +kernel
theorem dX10_source_38 : decode cX10_source 38 = .ok (.iconst 0, 1) := by decide +kernel
theorem dX10_source_39 : decode cX10_source 39 = .ok (.iload 4, 2) := by decide +kernel
theorem dX10_source_41 : decode cX10_source 41 = .ok (.iload_n 1, 1) := by decide +kernel
theorem dX10_source_42 : decode cX10_source 42 = .ok (.invokevirtual 95, 3) := by decide +kernel
theorem dX10_source_45 : decode cX10_source 45 = .ok (.istore 5, 2) := by decide +kernel
theorem dX10_source_47 : decode cX10_source 47 = .ok (.aload_n 0, 1) := by decide +kernel
theorem dX10_source_48 : decode cX10_source 48 = .ok (.getfield 24, 3) := by decide +kernel
theorem dX10_source_51 : decode cX10_source 51 = .ok (.iload 4, 2) := by decide +kernel
theorem dX10_source_53 : decode cX10_source 53 = .ok (.iload_n 1, 1) := by decide +kernel
theorem dX10_source_54 : decode cX10_source 54 = .ok (.invokevirtual 99, 3) := by decide +kernel
theorem dX10_source_57 : decode cX10_source 57 = .ok (.aload_n 0, 1) := by decide +kernel
theorem dX10_source_58 : decode cX10_source 58 = .ok (.iload 5, 2) := by decide +kernel
theorem dX10_source_60 : decode cX10_source 60 = .ok (.invokevirtual 102, 3) := by decide +kernel
theorem dX10_source_63 : decode cX10_source 63 = .ok (.iload 4, 2) := by decide +kernel
theorem dX10_source_65 : decode cX10_source 65 = .ok (.ireturn, 1) := by decide +kernel
/-! SealLine.source(IJ)I -/
theorem eX10_source {d mc ms : Nat} {w : qW} {Q : Option Value → qW → Prop} {q : Nat} {x0 : Int32} {x1 : Int64} (h : AW (mX10_source, d, mc, ms, none, Q) 0 [some (.ref q), some (.int x0), some (.long x1), none, none, none] [] w 0 0) : CT mX10_source d mc ms [.ref q, .int x0, .long x1] w Q := CT_of (by decide +kernel) rfl (Nat.le_of_ble_eq_true rfl) h
def bX10_source_0 (G : Nat × Nat × Nat × Option (Nat × (Nat → Int32)) × (Option Value → qW → Prop)) : qK := (s_iload 1 (AW (mX10_source, G) 1))
theorem oX10_source_0 (G : Nat × Nat × Nat × Option (Nat × (Nat → Int32)) × (Option Value → qW → Prop)) : qImp (bX10_source_0 G) (AW (mX10_source, G) 0) := (r_iload_n dX10_source_0 rfl qImp.rf)
def bX10_source_4 (G : Nat × Nat × Nat × Option (Nat × (Nat → Int32)) × (Option Value → qW → Prop)) : qK := (s_if_eq (AW (mX10_source, G) 17) (s_aload 0 (s_getfield 10 0 (AW (mX10_source, G) 11))))
theorem oX10_source_4 (G : Nat × Nat × Nat × Option (Nat × (Nat → Int32)) × (Option Value → qW → Prop)) : qImp (bX10_source_4 G) (AW (mX10_source, G) 4) := (r_if_eq (tgt := 17) dX10_source_4 rfl qImp.rf (r_aload_n dX10_source_7 rfl (r_getfield dX10_source_8 fgX10_14 qImp.rf)))
def bX10_source_14 (G : Nat × Nat × Nat × Option (Nat × (Nat → Int32)) × (Option Value → qW → Prop)) : qK := (s_if_eq (AW (mX10_source, G) 19) (AW (mX10_source, G) 17))
theorem oX10_source_14 (G : Nat × Nat × Nat × Option (Nat × (Nat → Int32)) × (Option Value → qW → Prop)) : qImp (bX10_source_14 G) (AW (mX10_source, G) 14) := (r_if_eq (tgt := 19) dX10_source_14 rfl qImp.rf qImp.rf)
def bX10_source_17 (G : Nat × Nat × Nat × Option (Nat × (Nat → Int32)) × (Option Value → qW → Prop)) : qK := (s_iconst (-1) (s_ireturn (mX10_source, G)))
theorem oX10_source_17 (G : Nat × Nat × Nat × Option (Nat × (Nat → Int32)) × (Option Value → qW → Prop)) : qImp (bX10_source_17 G) (AW (mX10_source, G) 17) := (r_iconst dX10_source_17 rfl (r_ireturn dX10_source_18 rfl))
def bX10_source_19 (G : Nat × Nat × Nat × Option (Nat × (Nat → Int32)) × (Option Value → qW → Prop)) : qK := (s_aload 0 (s_getfield 10 2 (s_lload 2 (AW (mX10_source, G) 24))))
theorem oX10_source_19 (G : Nat × Nat × Nat × Option (Nat × (Nat → Int32)) × (Option Value → qW → Prop)) : qImp (bX10_source_19 G) (AW (mX10_source, G) 19) := (r_aload_n dX10_source_19 rfl (r_getfield dX10_source_20 fgX10_24 (r_lload_n dX10_source_23 rfl qImp.rf)))
def bX10_source_27 (G : Nat × Nat × Nat × Option (Nat × (Nat → Int32)) × (Option Value → qW → Prop)) : qK := (s_istore 4 3 (s_iload 4 (s_iconst (-1) (s_ic_ne (AW (mX10_source, G) 37) (s_iconst (-1) (s_ireturn (mX10_source, G)))))))
theorem oX10_source_27 (G : Nat × Nat × Nat × Option (Nat × (Nat → Int32)) × (Option Value → qW → Prop)) : qImp (bX10_source_27 G) (AW (mX10_source, G) 27) := (r_istore dX10_source_27 (Or.inr rfl) (Nat.le_of_ble_eq_true rfl) (r_iload dX10_source_29 (r_iconst dX10_source_31 rfl (r_ic_ne (tgt := 37) dX10_source_32 rfl qImp.rf (r_iconst dX10_source_35 rfl (r_ireturn dX10_source_36 rfl))))))
def bX10_source_37 (G : Nat × Nat × Nat × Option (Nat × (Nat → Int32)) × (Option Value → qW → Prop)) : qK := (s_aload 0 (s_iconst 0 (s_iload 4 (s_iload 1 (AW (mX10_source, G) 42)))))
theorem oX10_source_37 (G : Nat × Nat × Nat × Option (Nat × (Nat → Int32)) × (Option Value → qW → Prop)) : qImp (bX10_source_37 G) (AW (mX10_source, G) 37) := (r_aload_n dX10_source_37 rfl (r_iconst dX10_source_38 rfl (r_iload dX10_source_39 (r_iload_n dX10_source_41 rfl qImp.rf))))
def bX10_source_45 (G : Nat × Nat × Nat × Option (Nat × (Nat → Int32)) × (Option Value → qW → Prop)) : qK := (s_istore 5 4 (s_aload 0 (s_getfield 10 2 (s_iload 4 (s_iload 1 (AW (mX10_source, G) 54))))))
theorem oX10_source_45 (G : Nat × Nat × Nat × Option (Nat × (Nat → Int32)) × (Option Value → qW → Prop)) : qImp (bX10_source_45 G) (AW (mX10_source, G) 45) := (r_istore dX10_source_45 (Or.inr rfl) (Nat.le_of_ble_eq_true rfl) (r_aload_n dX10_source_47 rfl (r_getfield dX10_source_48 fgX10_24 (r_iload dX10_source_51 (r_iload_n dX10_source_53 rfl qImp.rf)))))
def bX10_source_57 (G : Nat × Nat × Nat × Option (Nat × (Nat → Int32)) × (Option Value → qW → Prop)) : qK := (s_aload 0 (s_iload 5 (AW (mX10_source, G) 60)))
theorem oX10_source_57 (G : Nat × Nat × Nat × Option (Nat × (Nat → Int32)) × (Option Value → qW → Prop)) : qImp (bX10_source_57 G) (AW (mX10_source, G) 57) := (r_aload_n dX10_source_57 rfl (r_iload dX10_source_58 qImp.rf))
def bX10_source_63 (G : Nat × Nat × Nat × Option (Nat × (Nat → Int32)) × (Option Value → qW → Prop)) : qK := (s_iload 4 (s_ireturn (mX10_source, G)))
theorem oX10_source_63 (G : Nat × Nat × Nat × Option (Nat × (Nat → Int32)) × (Option Value → qW → Prop)) : qImp (bX10_source_63 G) (AW (mX10_source, G) 63) := (r_iload dX10_source_63 (r_ireturn dX10_source_65 rfl))
theorem kX10_source_1 {G : Nat × Nat × Nat × Option (Nat × (Nat → Int32)) × (Option Value → qW → Prop)} {L : qL} {w : qW} {kc ks : Nat} {rest : List Value}  {x0 : Int32} {d mc ms : Nat} {Q : Option Value → qW → Prop} (hC : CT mX10_isHand d mc ms [.int x0] w Q) (hst : rest.length ≤ 4) (hdp : d + 1 ≤ G.1) (hmc : kc + mc ≤ G.2.1 ∧ ks + ms ≤ G.2.2.1) (k : ∀ r w', Q r w' → AW (mX10_source, G) 4 L (r.toList ++ rest) w' (kc + mc) (ks + ms)) : AW (mX10_source, G) 1 L (.int x0 :: rest) w kc ks := a_callS [.int x0] rest dX10_source_1 tX10_isHand lk338 hC rfl hst hdp hmc k
theorem kX10_source_11 {G : Nat × Nat × Nat × Option (Nat × (Nat → Int32)) × (Option Value → qW → Prop)} {L : qL} {w : qW} {kc ks : Nat} {rest : List Value} {q : Nat}  {d mc ms : Nat} {Q : Option Value → qW → Prop} (hC : CT mX8_isFull d mc ms [.ref q] w Q) (hq : qci w q = some 8) (hst : rest.length ≤ 4) (hdp : d + 1 ≤ G.1) (hmc : kc + mc ≤ G.2.1 ∧ ks + ms ≤ G.2.2.1) (k : ∀ r w', Q r w' → AW (mX10_source, G) 14 L (r.toList ++ rest) w' (kc + mc) (ks + ms)) : AW (mX10_source, G) 11 L (.ref q :: rest) w kc ks := a_callV [] rest dX10_source_11 vX8_isFull lk341 hC hq rfl rfl hst hdp hmc k
theorem kX10_source_24 {G : Nat × Nat × Nat × Option (Nat × (Nat → Int32)) × (Option Value → qW → Prop)} {L : qL} {w : qW} {kc ks : Nat} {rest : List Value} {q : Nat} {x0 : Int64} {d mc ms : Nat} {Q : Option Value → qW → Prop} (hC : CT mX7_numberOrNew d mc ms [.ref q, .long x0] w Q) (hq : qci w q = some 7) (hst : rest.length ≤ 4) (hdp : d + 1 ≤ G.1) (hmc : kc + mc ≤ G.2.1 ∧ ks + ms ≤ G.2.2.1) (k : ∀ r w', Q r w' → AW (mX10_source, G) 27 L (r.toList ++ rest) w' (kc + mc) (ks + ms)) : AW (mX10_source, G) 24 L (.long x0 :: .ref q :: rest) w kc ks := a_callV [.long x0] rest dX10_source_24 vX7_numberOrNew lk345 hC hq rfl rfl hst hdp hmc k
theorem kX10_source_42 {G : Nat × Nat × Nat × Option (Nat × (Nat → Int32)) × (Option Value → qW → Prop)} {L : qL} {w : qW} {kc ks : Nat} {rest : List Value} {q : Nat} {x0 : Int32} {x1 : Int32} {x2 : Int32} {d mc ms : Nat} {Q : Option Value → qW → Prop} (hC : CT mX10_addNote d mc ms [.ref q, .int x0, .int x1, .int x2] w Q) (hq : qci w q = some 10) (hst : rest.length ≤ 4) (hdp : d + 1 ≤ G.1) (hmc : kc + mc ≤ G.2.1 ∧ ks + ms ≤ G.2.2.1) (k : ∀ r w', Q r w' → AW (mX10_source, G) 45 L (r.toList ++ rest) w' (kc + mc) (ks + ms)) : AW (mX10_source, G) 42 L (.int x2 :: .int x1 :: .int x0 :: .ref q :: rest) w kc ks := a_callV [.int x0, .int x1, .int x2] rest dX10_source_42 vX10_addNote lk357 hC hq rfl rfl hst hdp hmc k
theorem kX10_source_54 {G : Nat × Nat × Nat × Option (Nat × (Nat → Int32)) × (Option Value → qW → Prop)} {L : qL} {w : qW} {kc ks : Nat} {rest : List Value} {q : Nat} {x0 : Int32} {x1 : Int32} {d mc ms : Nat} {Q : Option Value → qW → Prop} (hC : CT mX7_addMaker d mc ms [.ref q, .int x0, .int x1] w Q) (hq : qci w q = some 7) (hst : rest.length ≤ 4) (hdp : d + 1 ≤ G.1) (hmc : kc + mc ≤ G.2.1 ∧ ks + ms ≤ G.2.2.1) (k : ∀ r w', Q r w' → AW (mX10_source, G) 57 L (r.toList ++ rest) w' (kc + mc) (ks + ms)) : AW (mX10_source, G) 54 L (.int x1 :: .int x0 :: .ref q :: rest) w kc ks := a_callV [.int x0, .int x1] rest dX10_source_54 vX7_addMaker lk374 hC hq rfl rfl hst hdp hmc k
theorem kX10_source_60 {G : Nat × Nat × Nat × Option (Nat × (Nat → Int32)) × (Option Value → qW → Prop)} {L : qL} {w : qW} {kc ks : Nat} {rest : List Value} {q : Nat} {x0 : Int32} {d mc ms : Nat} {Q : Option Value → qW → Prop} (hC : CT mX10_settle d mc ms [.ref q, .int x0] w Q) (hq : qci w q = some 10) (hst : rest.length ≤ 4) (hdp : d + 1 ≤ G.1) (hmc : kc + mc ≤ G.2.1 ∧ ks + ms ≤ G.2.2.1) (k : ∀ r w', Q r w' → AW (mX10_source, G) 63 L (r.toList ++ rest) w' (kc + mc) (ks + ms)) : AW (mX10_source, G) 60 L (.int x0 :: .ref q :: rest) w kc ks := a_callV [.int x0] rest dX10_source_60 vX10_settle lk387 hC hq rfl rfl hst hdp hmc k
theorem dX10_areInputs_0 : decode cX10_areInputs 0 = .ok (.aload_n 0, 1) := by decide +kernel
theorem dX10_areInputs_1 : decode cX10_areInputs 1 = .ok (.getfield 24, 3) := by decide +kernel
theorem dX10_areInputs_4 : decode cX10_areInputs 4 = .ok (.iload_n 1, 1) := by decide +kernel
theorem dX10_areInputs_5 : decode cX10_areInputs 5 = .ok (.invokevirtual 167, 3) := by decide +kernel
theorem dX10_areInputs_8 : decode cX10_areInputs 8 = .ok (.ifCond .ne 5, 3) := by decide +kernel
theorem dX10_areInputs_11 : decode cX10_areInputs 11 = .ok (.iconst 0, 1) := by decide +kernel
theorem dX10_areInputs_12 : decode cX10_areInputs 12 = .ok (.ireturn, 1) := by decide +kernel
theorem dX10_areInputs_13 : decode cX10_areInputs 13 = .ok (.iload_n 2, 1) := by decide +kernel
theorem dX10_areInputs_14 : decode cX10_areInputs 14 = .ok (.iconst (-1), 1) := by decide +kernel
theorem dX10_areInputs_15 : decode cX10_areInputs 15 = .ok (.if_icmp .ne 14, 3) := by decide +kernel
theorem dX10_areInputs_18 : decode cX10_areInputs 18 = .ok (.iload_n 3, 1) := by decide +kernel
theorem dX10_areInputs_19 : decode cX10_areInputs 19 = .ok (.iconst (-1), 1) := by decide +kernel
theorem dX10_areInputs_20 : decode cX10_areInputs 20 = .ok (.if_icmp .ne 7, 3) := by decide +kernel
theorem dX10_areInputs_23 : decode cX10_areInputs 23 = .ok (.iconst 1, 1) := by decide +kernel
theorem dX10_areInputs_24 : decode cX10_areInputs 24 = .ok (.goto 4, 3) := by decide +kernel
theorem dX10_areInputs_27 : decode cX10_areInputs 27 = .ok (.iconst 0, 1) := by decide +kernel
theorem dX10_areInputs_28 : decode cX10_areInputs 28 = .ok (.ireturn, 1) := by decide +kernel
theorem dX10_areInputs_29 : decode cX10_areInputs 29 = .ok (.aload_n 0, 1) := by decide +kernel
theorem dX10_areInputs_30 : decode cX10_areInputs 30 = .ok (.getfield 24, 3) := by decide +kernel
theorem dX10_areInputs_33 : decode cX10_areInputs 33 = .ok (.iload_n 2, 1) := by decide +kernel
theorem dX10_areInputs_34 : decode cX10_areInputs 34 = .ok (.invokevirtual 167, 3) := by decide +kernel
theorem dX10_areInputs_37 : decode cX10_areInputs 37 = .ok (.ifCond .eq 23, 3) := by decide +kernel
theorem dX10_areInputs_40 : decode cX10_areInputs 40 = .ok (.iload_n 3, 1) := by decide +kernel
theorem dX10_areInputs_41 : decode cX10_areInputs 41 = .ok (.iconst (-1), 1) := by decide +kernel
theorem dX10_areInputs_42 : decode cX10_areInputs 42 = .ok (.if_icmp .eq 14, 3) := by decide +kernel
theorem dX10_areInputs_45 : decode cX10_areInputs 45 = .ok (.aload_n 0, 1) := by decide +kernel
theorem dX10_areInputs_46 : decode cX10_areInputs 46 = .ok (.getfield 24, 3) := by decide +kernel
theorem dX10_areInputs_49 : decode cX10_areInputs 49 = .ok (.iload_n 3, 1) := by decide +kernel
theorem dX10_areInputs_50 : decode cX10_areInputs 50 = .ok (.invokevirtual 167, 3) := by decide +kernel
theorem dX10_areInputs_53 : decode cX10_areInputs 53 = .ok (.ifCond .eq 7, 3) := by decide +kernel
theorem dX10_areInputs_56 : decode cX10_areInputs 56 = .ok (.iconst 1, 1) := by decide +kernel
theorem dX10_areInputs_57 : decode cX10_areInputs 57 = .ok (.goto 4, 3) := by decide +kernel
theorem dX10_areInputs_60 : decode cX10_areInputs 60 = .ok (.iconst 0, 1) := by decide +kernel
theorem dX10_areInputs_61 : decode cX10_areInputs 61 = .ok (.ireturn, 1) := by decide +kernel
/-! SealLine.areInputs(III)Z -/
theorem eX10_areInputs {d mc ms : Nat} {w : qW} {Q : Option Value → qW → Prop} {q : Nat} {x0 : Int32} {x1 : Int32} {x2 : Int32} (h : AW (mX10_areInputs, d, mc, ms, none, Q) 0 [some (.ref q), some (.int x0), some (.int x1), some (.int x2)] [] w 0 0) : CT mX10_areInputs d mc ms [.ref q, .int x0, .int x1, .int x2] w Q := CT_of (by decide +kernel) rfl (Nat.le_of_ble_eq_true rfl) h
def bX10_areInputs_0 (G : Nat × Nat × Nat × Option (Nat × (Nat → Int32)) × (Option Value → qW → Prop)) : qK := (s_aload 0 (s_getfield 10 2 (s_iload 1 (AW (mX10_areInputs, G) 5))))
theorem oX10_areInputs_0 (G : Nat × Nat × Nat × Option (Nat × (Nat → Int32)) × (Option Value → qW → Prop)) : qImp (bX10_areInputs_0 G) (AW (mX10_areInputs, G) 0) := (r_aload_n dX10_areInputs_0 rfl (r_getfield dX10_areInputs_1 fgX10_24 (r_iload_n dX10_areInputs_4 rfl qImp.rf)))
def bX10_areInputs_8 (G : Nat × Nat × Nat × Option (Nat × (Nat → Int32)) × (Option Value → qW → Prop)) : qK := (s_if_ne (AW (mX10_areInputs, G) 13) (s_iconst 0 (s_zreturn (mX10_areInputs, G))))
theorem oX10_areInputs_8 (G : Nat × Nat × Nat × Option (Nat × (Nat → Int32)) × (Option Value → qW → Prop)) : qImp (bX10_areInputs_8 G) (AW (mX10_areInputs, G) 8) := (r_if_ne (tgt := 13) dX10_areInputs_8 rfl qImp.rf (r_iconst dX10_areInputs_11 rfl (r_zreturn dX10_areInputs_12 rfl)))
def bX10_areInputs_13 (G : Nat × Nat × Nat × Option (Nat × (Nat → Int32)) × (Option Value → qW → Prop)) : qK := (s_iload 2 (s_iconst (-1) (s_ic_ne (AW (mX10_areInputs, G) 29) (s_iload 3 (s_iconst (-1) (s_ic_ne (AW (mX10_areInputs, G) 27) (s_iconst 1 (AW (mX10_areInputs, G) 28))))))))
theorem oX10_areInputs_13 (G : Nat × Nat × Nat × Option (Nat × (Nat → Int32)) × (Option Value → qW → Prop)) : qImp (bX10_areInputs_13 G) (AW (mX10_areInputs, G) 13) := (r_iload_n dX10_areInputs_13 rfl (r_iconst dX10_areInputs_14 rfl (r_ic_ne (tgt := 29) dX10_areInputs_15 rfl qImp.rf (r_iload_n dX10_areInputs_18 rfl (r_iconst dX10_areInputs_19 rfl (r_ic_ne (tgt := 27) dX10_areInputs_20 rfl qImp.rf (r_iconst dX10_areInputs_23 rfl (r_goto (tgt := 28) dX10_areInputs_24 rfl qImp.rf))))))))
def bX10_areInputs_27 (G : Nat × Nat × Nat × Option (Nat × (Nat → Int32)) × (Option Value → qW → Prop)) : qK := (s_iconst 0 (AW (mX10_areInputs, G) 28))
theorem oX10_areInputs_27 (G : Nat × Nat × Nat × Option (Nat × (Nat → Int32)) × (Option Value → qW → Prop)) : qImp (bX10_areInputs_27 G) (AW (mX10_areInputs, G) 27) := (r_iconst dX10_areInputs_27 rfl qImp.rf)
def bX10_areInputs_28 (G : Nat × Nat × Nat × Option (Nat × (Nat → Int32)) × (Option Value → qW → Prop)) : qK := (s_zreturn (mX10_areInputs, G))
theorem oX10_areInputs_28 (G : Nat × Nat × Nat × Option (Nat × (Nat → Int32)) × (Option Value → qW → Prop)) : qImp (bX10_areInputs_28 G) (AW (mX10_areInputs, G) 28) := (r_zreturn dX10_areInputs_28 rfl)
def bX10_areInputs_29 (G : Nat × Nat × Nat × Option (Nat × (Nat → Int32)) × (Option Value → qW → Prop)) : qK := (s_aload 0 (s_getfield 10 2 (s_iload 2 (AW (mX10_areInputs, G) 34))))
theorem oX10_areInputs_29 (G : Nat × Nat × Nat × Option (Nat × (Nat → Int32)) × (Option Value → qW → Prop)) : qImp (bX10_areInputs_29 G) (AW (mX10_areInputs, G) 29) := (r_aload_n dX10_areInputs_29 rfl (r_getfield dX10_areInputs_30 fgX10_24 (r_iload_n dX10_areInputs_33 rfl qImp.rf)))
def bX10_areInputs_37 (G : Nat × Nat × Nat × Option (Nat × (Nat → Int32)) × (Option Value → qW → Prop)) : qK := (s_if_eq (AW (mX10_areInputs, G) 60) (s_iload 3 (s_iconst (-1) (s_ic_eq (AW (mX10_areInputs, G) 56) (s_aload 0 (s_getfield 10 2 (s_iload 3 (AW (mX10_areInputs, G) 50))))))))
theorem oX10_areInputs_37 (G : Nat × Nat × Nat × Option (Nat × (Nat → Int32)) × (Option Value → qW → Prop)) : qImp (bX10_areInputs_37 G) (AW (mX10_areInputs, G) 37) := (r_if_eq (tgt := 60) dX10_areInputs_37 rfl qImp.rf (r_iload_n dX10_areInputs_40 rfl (r_iconst dX10_areInputs_41 rfl (r_ic_eq (tgt := 56) dX10_areInputs_42 rfl qImp.rf (r_aload_n dX10_areInputs_45 rfl (r_getfield dX10_areInputs_46 fgX10_24 (r_iload_n dX10_areInputs_49 rfl qImp.rf)))))))
def bX10_areInputs_53 (G : Nat × Nat × Nat × Option (Nat × (Nat → Int32)) × (Option Value → qW → Prop)) : qK := (s_if_eq (AW (mX10_areInputs, G) 60) (AW (mX10_areInputs, G) 56))
theorem oX10_areInputs_53 (G : Nat × Nat × Nat × Option (Nat × (Nat → Int32)) × (Option Value → qW → Prop)) : qImp (bX10_areInputs_53 G) (AW (mX10_areInputs, G) 53) := (r_if_eq (tgt := 60) dX10_areInputs_53 rfl qImp.rf qImp.rf)
def bX10_areInputs_56 (G : Nat × Nat × Nat × Option (Nat × (Nat → Int32)) × (Option Value → qW → Prop)) : qK := (s_iconst 1 (AW (mX10_areInputs, G) 61))
theorem oX10_areInputs_56 (G : Nat × Nat × Nat × Option (Nat × (Nat → Int32)) × (Option Value → qW → Prop)) : qImp (bX10_areInputs_56 G) (AW (mX10_areInputs, G) 56) := (r_iconst dX10_areInputs_56 rfl (r_goto (tgt := 61) dX10_areInputs_57 rfl qImp.rf))
def bX10_areInputs_60 (G : Nat × Nat × Nat × Option (Nat × (Nat → Int32)) × (Option Value → qW → Prop)) : qK := (s_iconst 0 (AW (mX10_areInputs, G) 61))
theorem oX10_areInputs_60 (G : Nat × Nat × Nat × Option (Nat × (Nat → Int32)) × (Option Value → qW → Prop)) : qImp (bX10_areInputs_60 G) (AW (mX10_areInputs, G) 60) := (r_iconst dX10_areInputs_60 rfl qImp.rf)
def bX10_areInputs_61 (G : Nat × Nat × Nat × Option (Nat × (Nat → Int32)) × (Option Value → qW → Prop)) : qK := (s_zreturn (mX10_areInputs, G))
theorem oX10_areInputs_61 (G : Nat × Nat × Nat × Option (Nat × (Nat → Int32)) × (Option Value → qW → Prop)) : qImp (bX10_areInputs_61 G) (AW (mX10_areInputs, G) 61) := (r_zreturn dX10_areInputs_61 rfl)
theorem kX10_areInputs_5 {G : Nat × Nat × Nat × Option (Nat × (Nat → Int32)) × (Option Value → qW → Prop)} {L : qL} {w : qW} {kc ks : Nat} {rest : List Value} {q : Nat} {x0 : Int32} {d mc ms : Nat} {Q : Option Value → qW → Prop} (hC : CT mX7_has d mc ms [.ref q, .int x0] w Q) (hq : qci w q = some 7) (hst : rest.length ≤ 4) (hdp : d + 1 ≤ G.1) (hmc : kc + mc ≤ G.2.1 ∧ ks + ms ≤ G.2.2.1) (k : ∀ r w', Q r w' → AW (mX10_areInputs, G) 8 L (r.toList ++ rest) w' (kc + mc) (ks + ms)) : AW (mX10_areInputs, G) 5 L (.int x0 :: .ref q :: rest) w kc ks := a_callV [.int x0] rest dX10_areInputs_5 vX7_has lk443 hC hq rfl rfl hst hdp hmc k
theorem kX10_areInputs_34 {G : Nat × Nat × Nat × Option (Nat × (Nat → Int32)) × (Option Value → qW → Prop)} {L : qL} {w : qW} {kc ks : Nat} {rest : List Value} {q : Nat} {x0 : Int32} {d mc ms : Nat} {Q : Option Value → qW → Prop} (hC : CT mX7_has d mc ms [.ref q, .int x0] w Q) (hq : qci w q = some 7) (hst : rest.length ≤ 4) (hdp : d + 1 ≤ G.1) (hmc : kc + mc ≤ G.2.1 ∧ ks + ms ≤ G.2.2.1) (k : ∀ r w', Q r w' → AW (mX10_areInputs, G) 37 L (r.toList ++ rest) w' (kc + mc) (ks + ms)) : AW (mX10_areInputs, G) 34 L (.int x0 :: .ref q :: rest) w kc ks := a_callV [.int x0] rest dX10_areInputs_34 vX7_has lk443 hC hq rfl rfl hst hdp hmc k
theorem kX10_areInputs_50 {G : Nat × Nat × Nat × Option (Nat × (Nat → Int32)) × (Option Value → qW → Prop)} {L : qL} {w : qW} {kc ks : Nat} {rest : List Value} {q : Nat} {x0 : Int32} {d mc ms : Nat} {Q : Option Value → qW → Prop} (hC : CT mX7_has d mc ms [.ref q, .int x0] w Q) (hq : qci w q = some 7) (hst : rest.length ≤ 4) (hdp : d + 1 ≤ G.1) (hmc : kc + mc ≤ G.2.1 ∧ ks + ms ≤ G.2.2.1) (k : ∀ r w', Q r w' → AW (mX10_areInputs, G) 53 L (r.toList ++ rest) w' (kc + mc) (ks + ms)) : AW (mX10_areInputs, G) 50 L (.int x0 :: .ref q :: rest) w kc ks := a_callV [.int x0] rest dX10_areInputs_50 vX7_has lk443 hC hq rfl rfl hst hdp hmc k
theorem dX10_isInRowOfOne_0 : decode cX10_isInRowOfOne 0 = .ok (.aload_n 0, 1) := by decide +kernel
theorem dX10_isInRowOfOne_1 : decode cX10_isInRowOfOne 1 = .ok (.getfield 24, 3) := by decide +kernel
theorem dX10_isInRowOfOne_4 : decode cX10_isInRowOfOne 4 = .ok (.iload_n 2, 1) := by decide +kernel
theorem dX10_isInRowOfOne_5 : decode cX10_isInRowOfOne 5 = .ok (.iload_n 1, 1) := by decide +kernel
theorem dX10_isInRowOfOne_6 : decode cX10_isInRowOfOne 6 = .ok (.invokevirtual 264, 3) := by decide +kernel
theorem dX10_isInRowOfOne_9 : decode cX10_isInRowOfOne 9 = .ok (.ifCond .ne 28, 3) := by decide +kernel
theorem dX10_isInRowOfOne_12 : decode cX10_isInRowOfOne 12 = .ok (.aload_n 0, 1) := by decide +kernel
theorem dX10_isInRowOfOne_13 : decode cX10_isInRowOfOne 13 = .ok (.getfield 24, 3) := by decide +kernel
theorem dX10_isInRowOfOne_16 : decode cX10_isInRowOfOne 16 = .ok (.iload_n 3, 1) := by decide +kernel
theorem dX10_isInRowOfOne_17 : decode cX10_isInRowOfOne 17 = .ok (.iload_n 1, 1) := by decide +kernel
theorem dX10_isInRowOfOne_18 : decode cX10_isInRowOfOne 18 = .ok (.invokevirtual 264, 3) := by decide +kernel
theorem dX10_isInRowOfOne_21 : decode cX10_isInRowOfOne 21 = .ok (.ifCond .ne 16, 3) := by decide +kernel
theorem dX10_isInRowOfOne_24 : decode cX10_isInRowOfOne 24 = .ok (.aload_n 0, 1) := by decide +kernel
theorem dX10_isInRowOfOne_25 : decode cX10_isInRowOfOne 25 = .ok (.getfield 24, 3) := by decide +kernel
theorem dX10_isInRowOfOne_28 : decode cX10_isInRowOfOne 28 = .ok (.iload 4, 2) := by decide +kernel
theorem dX10_isInRowOfOne_30 : decode cX10_isInRowOfOne 30 = .ok (.iload_n 1, 1) := by decide +kernel
theorem dX10_isInRowOfOne_31 : decode cX10_isInRowOfOne 31 = .ok (.invokevirtual 264, 3) := by decide +kernel
theorem dX10_isInRowOfOne_34 : decode cX10_isInRowOfOne 34 = .ok (.ifCond .eq 7, 3) := by decide +kernel
theorem dX10_isInRowOfOne_37 : decode cX10_isInRowOfOne 37 = .ok (.iconst 1, 1) := by decide +kernel
theorem dX10_isInRowOfOne_38 : decode cX10_isInRowOfOne 38 = .ok (.goto 4, 3) := by decide +kernel
theorem dX10_isInRowOfOne_41 : decode cX10_isInRowOfOne 41 = .ok (.iconst 0, 1) := by decide +kernel
theorem dX10_isInRowOfOne_42 : decode cX10_isInRowOfOne 42 = .ok (.ireturn, 1) := by decide +kernel
/-! SealLine.isInRowOfOne(IIII)Z -/
theorem eX10_isInRowOfOne {d mc ms : Nat} {w : qW} {Q : Option Value → qW → Prop} {q : Nat} {x0 : Int32} {x1 : Int32} {x2 : Int32} {x3 : Int32} (h : AW (mX10_isInRowOfOne, d, mc, ms, none, Q) 0 [some (.ref q), some (.int x0), some (.int x1), some (.int x2), some (.int x3)] [] w 0 0) : CT mX10_isInRowOfOne d mc ms [.ref q, .int x0, .int x1, .int x2, .int x3] w Q := CT_of (by decide +kernel) rfl (Nat.le_of_ble_eq_true rfl) h
def bX10_isInRowOfOne_0 (G : Nat × Nat × Nat × Option (Nat × (Nat → Int32)) × (Option Value → qW → Prop)) : qK := (s_aload 0 (s_getfield 10 2 (s_iload 2 (s_iload 1 (AW (mX10_isInRowOfOne, G) 6)))))
theorem oX10_isInRowOfOne_0 (G : Nat × Nat × Nat × Option (Nat × (Nat → Int32)) × (Option Value → qW → Prop)) : qImp (bX10_isInRowOfOne_0 G) (AW (mX10_isInRowOfOne, G) 0) := (r_aload_n dX10_isInRowOfOne_0 rfl (r_getfield dX10_isInRowOfOne_1 fgX10_24 (r_iload_n dX10_isInRowOfOne_4 rfl (r_iload_n dX10_isInRowOfOne_5 rfl qImp.rf))))
def bX10_isInRowOfOne_9 (G : Nat × Nat × Nat × Option (Nat × (Nat → Int32)) × (Option Value → qW → Prop)) : qK := (s_if_ne (AW (mX10_isInRowOfOne, G) 37) (s_aload 0 (s_getfield 10 2 (s_iload 3 (s_iload 1 (AW (mX10_isInRowOfOne, G) 18))))))
theorem oX10_isInRowOfOne_9 (G : Nat × Nat × Nat × Option (Nat × (Nat → Int32)) × (Option Value → qW → Prop)) : qImp (bX10_isInRowOfOne_9 G) (AW (mX10_isInRowOfOne, G) 9) := (r_if_ne (tgt := 37) dX10_isInRowOfOne_9 rfl qImp.rf (r_aload_n dX10_isInRowOfOne_12 rfl (r_getfield dX10_isInRowOfOne_13 fgX10_24 (r_iload_n dX10_isInRowOfOne_16 rfl (r_iload_n dX10_isInRowOfOne_17 rfl qImp.rf)))))
def bX10_isInRowOfOne_21 (G : Nat × Nat × Nat × Option (Nat × (Nat → Int32)) × (Option Value → qW → Prop)) : qK := (s_if_ne (AW (mX10_isInRowOfOne, G) 37) (s_aload 0 (s_getfield 10 2 (s_iload 4 (s_iload 1 (AW (mX10_isInRowOfOne, G) 31))))))
theorem oX10_isInRowOfOne_21 (G : Nat × Nat × Nat × Option (Nat × (Nat → Int32)) × (Option Value → qW → Prop)) : qImp (bX10_isInRowOfOne_21 G) (AW (mX10_isInRowOfOne, G) 21) := (r_if_ne (tgt := 37) dX10_isInRowOfOne_21 rfl qImp.rf (r_aload_n dX10_isInRowOfOne_24 rfl (r_getfield dX10_isInRowOfOne_25 fgX10_24 (r_iload dX10_isInRowOfOne_28 (r_iload_n dX10_isInRowOfOne_30 rfl qImp.rf)))))
def bX10_isInRowOfOne_34 (G : Nat × Nat × Nat × Option (Nat × (Nat → Int32)) × (Option Value → qW → Prop)) : qK := (s_if_eq (AW (mX10_isInRowOfOne, G) 41) (AW (mX10_isInRowOfOne, G) 37))
theorem oX10_isInRowOfOne_34 (G : Nat × Nat × Nat × Option (Nat × (Nat → Int32)) × (Option Value → qW → Prop)) : qImp (bX10_isInRowOfOne_34 G) (AW (mX10_isInRowOfOne, G) 34) := (r_if_eq (tgt := 41) dX10_isInRowOfOne_34 rfl qImp.rf qImp.rf)
def bX10_isInRowOfOne_37 (G : Nat × Nat × Nat × Option (Nat × (Nat → Int32)) × (Option Value → qW → Prop)) : qK := (s_iconst 1 (AW (mX10_isInRowOfOne, G) 42))
theorem oX10_isInRowOfOne_37 (G : Nat × Nat × Nat × Option (Nat × (Nat → Int32)) × (Option Value → qW → Prop)) : qImp (bX10_isInRowOfOne_37 G) (AW (mX10_isInRowOfOne, G) 37) := (r_iconst dX10_isInRowOfOne_37 rfl (r_goto (tgt := 42) dX10_isInRowOfOne_38 rfl qImp.rf))
def bX10_isInRowOfOne_41 (G : Nat × Nat × Nat × Option (Nat × (Nat → Int32)) × (Option Value → qW → Prop)) : qK := (s_iconst 0 (AW (mX10_isInRowOfOne, G) 42))
theorem oX10_isInRowOfOne_41 (G : Nat × Nat × Nat × Option (Nat × (Nat → Int32)) × (Option Value → qW → Prop)) : qImp (bX10_isInRowOfOne_41 G) (AW (mX10_isInRowOfOne, G) 41) := (r_iconst dX10_isInRowOfOne_41 rfl qImp.rf)
def bX10_isInRowOfOne_42 (G : Nat × Nat × Nat × Option (Nat × (Nat → Int32)) × (Option Value → qW → Prop)) : qK := (s_zreturn (mX10_isInRowOfOne, G))
theorem oX10_isInRowOfOne_42 (G : Nat × Nat × Nat × Option (Nat × (Nat → Int32)) × (Option Value → qW → Prop)) : qImp (bX10_isInRowOfOne_42 G) (AW (mX10_isInRowOfOne, G) 42) := (r_zreturn dX10_isInRowOfOne_42 rfl)
theorem kX10_isInRowOfOne_6 {G : Nat × Nat × Nat × Option (Nat × (Nat → Int32)) × (Option Value → qW → Prop)} {L : qL} {w : qW} {kc ks : Nat} {rest : List Value} {q : Nat} {x0 : Int32} {x1 : Int32} {d mc ms : Nat} {Q : Option Value → qW → Prop} (hC : CT mX7_rowHas d mc ms [.ref q, .int x0, .int x1] w Q) (hq : qci w q = some 7) (hst : rest.length ≤ 4) (hdp : d + 1 ≤ G.1) (hmc : kc + mc ≤ G.2.1 ∧ ks + ms ≤ G.2.2.1) (k : ∀ r w', Q r w' → AW (mX10_isInRowOfOne, G) 9 L (r.toList ++ rest) w' (kc + mc) (ks + ms)) : AW (mX10_isInRowOfOne, G) 6 L (.int x1 :: .int x0 :: .ref q :: rest) w kc ks := a_callV [.int x0, .int x1] rest dX10_isInRowOfOne_6 vX7_rowHas lk449 hC hq rfl rfl hst hdp hmc k
theorem kX10_isInRowOfOne_18 {G : Nat × Nat × Nat × Option (Nat × (Nat → Int32)) × (Option Value → qW → Prop)} {L : qL} {w : qW} {kc ks : Nat} {rest : List Value} {q : Nat} {x0 : Int32} {x1 : Int32} {d mc ms : Nat} {Q : Option Value → qW → Prop} (hC : CT mX7_rowHas d mc ms [.ref q, .int x0, .int x1] w Q) (hq : qci w q = some 7) (hst : rest.length ≤ 4) (hdp : d + 1 ≤ G.1) (hmc : kc + mc ≤ G.2.1 ∧ ks + ms ≤ G.2.2.1) (k : ∀ r w', Q r w' → AW (mX10_isInRowOfOne, G) 21 L (r.toList ++ rest) w' (kc + mc) (ks + ms)) : AW (mX10_isInRowOfOne, G) 18 L (.int x1 :: .int x0 :: .ref q :: rest) w kc ks := a_callV [.int x0, .int x1] rest dX10_isInRowOfOne_18 vX7_rowHas lk449 hC hq rfl rfl hst hdp hmc k
theorem kX10_isInRowOfOne_31 {G : Nat × Nat × Nat × Option (Nat × (Nat → Int32)) × (Option Value → qW → Prop)} {L : qL} {w : qW} {kc ks : Nat} {rest : List Value} {q : Nat} {x0 : Int32} {x1 : Int32} {d mc ms : Nat} {Q : Option Value → qW → Prop} (hC : CT mX7_rowHas d mc ms [.ref q, .int x0, .int x1] w Q) (hq : qci w q = some 7) (hst : rest.length ≤ 4) (hdp : d + 1 ≤ G.1) (hmc : kc + mc ≤ G.2.1 ∧ ks + ms ≤ G.2.2.1) (k : ∀ r w', Q r w' → AW (mX10_isInRowOfOne, G) 34 L (r.toList ++ rest) w' (kc + mc) (ks + ms)) : AW (mX10_isInRowOfOne, G) 31 L (.int x1 :: .int x0 :: .ref q :: rest) w kc ks := a_callV [.int x0, .int x1] rest dX10_isInRowOfOne_31 vX7_rowHas lk449 hC hq rfl rfl hst hdp hmc k
theorem dX10_stirred_0 : decode cX10_stirred 0 = .ok (.lload_n 1, 1) := by decide +kernel
theorem dX10_stirred_1 : decode cX10_stirred 1 = .ok (.aload_n 0, 1) := by decide +kernel
theorem dX10_stirred_2 : decode cX10_stirred 2 = .ok (.getfield 24, 3) := by decide +kernel
theorem dX10_stirred_5 : decode cX10_stirred 5 = .ok (.iload_n 3, 1) := by decide +kernel
theorem dX10_stirred_6 : decode cX10_stirred 6 = .ok (.invokevirtual 237, 3) := by decide +kernel
theorem dX10_stirred_9 : decode cX10_stirred 9 = .ok (.lxor, 1) := by decide +kernel
theorem dX10_stirred_10 : decode cX10_stirred 10 = .ok (.ldc2_w 271, 3) := by decide +kernel
theorem dX10_stirred_13 : decode cX10_stirred 13 = .ok (.lmul, 1) := by decide +kernel
theorem dX10_stirred_14 : decode cX10_stirred 14 = .ok (.ldc2_w 273, 3) := by decide +kernel
theorem dX10_stirred_17 : decode cX10_stirred 17 = .ok (.ladd, 1) := by decide +kernel
theorem dX10_stirred_18 : decode cX10_stirred 18 = .ok (.lreturn, 1) := by decide +kernel
/-! SealLine.stirred(JI)J -/
theorem eX10_stirred {d mc ms : Nat} {w : qW} {Q : Option Value → qW → Prop} {q : Nat} {x0 : Int64} {x1 : Int32} (h : AW (mX10_stirred, d, mc, ms, none, Q) 0 [some (.ref q), some (.long x0), none, some (.int x1)] [] w 0 0) : CT mX10_stirred d mc ms [.ref q, .long x0, .int x1] w Q := CT_of (by decide +kernel) rfl (Nat.le_of_ble_eq_true rfl) h
def bX10_stirred_0 (G : Nat × Nat × Nat × Option (Nat × (Nat → Int32)) × (Option Value → qW → Prop)) : qK := (s_lload 1 (s_aload 0 (s_getfield 10 2 (s_iload 3 (AW (mX10_stirred, G) 6)))))
theorem oX10_stirred_0 (G : Nat × Nat × Nat × Option (Nat × (Nat → Int32)) × (Option Value → qW → Prop)) : qImp (bX10_stirred_0 G) (AW (mX10_stirred, G) 0) := (r_lload_n dX10_stirred_0 rfl (r_aload_n dX10_stirred_1 rfl (r_getfield dX10_stirred_2 fgX10_24 (r_iload_n dX10_stirred_5 rfl qImp.rf))))
def bX10_stirred_9 (G : Nat × Nat × Nat × Option (Nat × (Nat → Int32)) × (Option Value → qW → Prop)) : qK := (s_lxor (s_lconst 6364136223846793005 (s_lmul (s_lconst 1442695040888963407 (s_ladd (s_lreturn (mX10_stirred, G)))))))
theorem oX10_stirred_9 (G : Nat × Nat × Nat × Option (Nat × (Nat → Int32)) × (Option Value → qW → Prop)) : qImp (bX10_stirred_9 G) (AW (mX10_stirred, G) 9) := (r_lxor dX10_stirred_9 (r_ldc2 dX10_stirred_10 lk465 (r_lmul dX10_stirred_13 (r_ldc2 dX10_stirred_14 lk466 (r_ladd dX10_stirred_17 (r_lreturn dX10_stirred_18 rfl))))))
theorem kX10_stirred_6 {G : Nat × Nat × Nat × Option (Nat × (Nat → Int32)) × (Option Value → qW → Prop)} {L : qL} {w : qW} {kc ks : Nat} {rest : List Value} {q : Nat} {x0 : Int32} {d mc ms : Nat} {Q : Option Value → qW → Prop} (hC : CT mX7_hashOf d mc ms [.ref q, .int x0] w Q) (hq : qci w q = some 7) (hst : rest.length ≤ 4) (hdp : d + 1 ≤ G.1) (hmc : kc + mc ≤ G.2.1 ∧ ks + ms ≤ G.2.2.1) (k : ∀ r w', Q r w' → AW (mX10_stirred, G) 9 L (r.toList ++ rest) w' (kc + mc) (ks + ms)) : AW (mX10_stirred, G) 6 L (.int x0 :: .ref q :: rest) w kc ks := a_callV [.int x0] rest dX10_stirred_6 vX7_hashOf lk461 hC hq rfl rfl hst hdp hmc k
theorem dX10_mixed_0 : decode cX10_mixed 0 = .ok (.aload_n 0, 1) := by decide +kernel
theorem dX10_mixed_1 : decode cX10_mixed 1 = .ok (.iload_n 1, 1) := by decide +kernel
theorem dX10_mixed_2 : decode cX10_mixed 2 = .ok (.i2l, 1) := by decide +kernel
theorem dX10_mixed_3 : decode cX10_mixed 3 = .ok (.lconst 1, 1) := by decide +kernel
theorem dX10_mixed_4 : decode cX10_mixed 4 = .ok (.ladd, 1) := by decide +kernel
theorem dX10_mixed_5 : decode cX10_mixed 5 = .ok (.iload_n 2, 1) := by decide +kernel
theorem dX10_mixed_6 : decode cX10_mixed 6 = .ok (.invokevirtual 267, 3) := by decide +kernel
theorem dX10_mixed_9 : decode cX10_mixed 9 = .ok (.lstore 5, 2) := by decide +kernel
theorem dX10_mixed_11 : decode cX10_mixed 11 = .ok (.iload_n 3, 1) := by decide +kernel
theorem dX10_mixed_12 : decode cX10_mixed 12 = .ok (.iconst (-1), 1) := by decide +kernel
theorem dX10_mixed_13 : decode cX10_mixed 13 = .ok (.if_icmp .eq 12, 3) := by decide +kernel
theorem dX10_mixed_16 : decode cX10_mixed 16 = .ok (.aload_n 0, 1) := by decide +kernel
theorem dX10_mixed_17 : decode cX10_mixed 17 = .ok (.lload 5, 2) := by decide +kernel
theorem dX10_mixed_19 : decode cX10_mixed 19 = .ok (.iload_n 3, 1) := by decide +kernel
theorem dX10_mixed_20 : decode cX10_mixed 20 = .ok (.invokevirtual 267, 3) := by decide +kernel
theorem dX10_mixed_23 : decode cX10_mixed 23 = .ok (.lstore 5, 2) := by decide +kernel
theorem dX10_mixed_25 : decode cX10_mixed 25 = .ok (.iload 4, 2) := by decide +kernel
theorem dX10_mixed_27 : decode cX10_mixed 27 = .ok (.iconst (-1), 1) := by decide +kernel
theorem dX10_mixed_28 : decode cX10_mixed 28 = .ok (.if_icmp .eq 13, 3) := by decide +kernel
theorem dX10_mixed_31 : decode cX10_mixed 31 = .ok (.aload_n 0, 1) := by decide +kernel
theorem dX10_mixed_32 : decode cX10_mixed 32 = .ok (.lload 5, 2) := by decide +kernel
theorem dX10_mixed_34 : decode cX10_mixed 34 = .ok (.iload 4, 2) := by decide +kernel
theorem dX10_mixed_36 : decode cX10_mixed 36 = .ok (.invokevirtual 267, 3) := by decide +kernel
theorem dX10_mixed_39 : decode cX10_mixed 39 = .ok (.lstore 5, 2) := by decide +kernel
theorem dX10_mixed_41 : decode cX10_mixed 41 = .ok (.lload 5, 2) := by decide +kernel
theorem dX10_mixed_43 : decode cX10_mixed 43 = .ok (.lreturn, 1) := by decide +kernel
/-! SealLine.mixed(IIII)J -/
theorem eX10_mixed {d mc ms : Nat} {w : qW} {Q : Option Value → qW → Prop} {q : Nat} {x0 : Int32} {x1 : Int32} {x2 : Int32} {x3 : Int32} (h : AW (mX10_mixed, d, mc, ms, none, Q) 0 [some (.ref q), some (.int x0), some (.int x1), some (.int x2), some (.int x3), none, none] [] w 0 0) : CT mX10_mixed d mc ms [.ref q, .int x0, .int x1, .int x2, .int x3] w Q := CT_of (by decide +kernel) rfl (Nat.le_of_ble_eq_true rfl) h
def bX10_mixed_0 (G : Nat × Nat × Nat × Option (Nat × (Nat → Int32)) × (Option Value → qW → Prop)) : qK := (s_aload 0 (s_iload 1 (s_i2l (s_lconst 1 (s_ladd (s_iload 2 (AW (mX10_mixed, G) 6)))))))
theorem oX10_mixed_0 (G : Nat × Nat × Nat × Option (Nat × (Nat → Int32)) × (Option Value → qW → Prop)) : qImp (bX10_mixed_0 G) (AW (mX10_mixed, G) 0) := (r_aload_n dX10_mixed_0 rfl (r_iload_n dX10_mixed_1 rfl (r_i2l dX10_mixed_2 (r_lconst dX10_mixed_3 rfl (r_ladd dX10_mixed_4 (r_iload_n dX10_mixed_5 rfl qImp.rf))))))
def bX10_mixed_9 (G : Nat × Nat × Nat × Option (Nat × (Nat → Int32)) × (Option Value → qW → Prop)) : qK := (s_lstore 5 4 (s_iload 3 (s_iconst (-1) (s_ic_eq (AW (mX10_mixed, G) 25) (s_aload 0 (s_lload 5 (s_iload 3 (AW (mX10_mixed, G) 20))))))))
theorem oX10_mixed_9 (G : Nat × Nat × Nat × Option (Nat × (Nat → Int32)) × (Option Value → qW → Prop)) : qImp (bX10_mixed_9 G) (AW (mX10_mixed, G) 9) := (r_lstore dX10_mixed_9 (Or.inr rfl) (Nat.le_of_ble_eq_true rfl) (r_iload_n dX10_mixed_11 rfl (r_iconst dX10_mixed_12 rfl (r_ic_eq (tgt := 25) dX10_mixed_13 rfl qImp.rf (r_aload_n dX10_mixed_16 rfl (r_lload dX10_mixed_17 (r_iload_n dX10_mixed_19 rfl qImp.rf)))))))
def bX10_mixed_23 (G : Nat × Nat × Nat × Option (Nat × (Nat → Int32)) × (Option Value → qW → Prop)) : qK := (s_lstore 5 4 (AW (mX10_mixed, G) 25))
theorem oX10_mixed_23 (G : Nat × Nat × Nat × Option (Nat × (Nat → Int32)) × (Option Value → qW → Prop)) : qImp (bX10_mixed_23 G) (AW (mX10_mixed, G) 23) := (r_lstore dX10_mixed_23 (Or.inr rfl) (Nat.le_of_ble_eq_true rfl) qImp.rf)
def bX10_mixed_25 (G : Nat × Nat × Nat × Option (Nat × (Nat → Int32)) × (Option Value → qW → Prop)) : qK := (s_iload 4 (s_iconst (-1) (s_ic_eq (AW (mX10_mixed, G) 41) (s_aload 0 (s_lload 5 (s_iload 4 (AW (mX10_mixed, G) 36)))))))
theorem oX10_mixed_25 (G : Nat × Nat × Nat × Option (Nat × (Nat → Int32)) × (Option Value → qW → Prop)) : qImp (bX10_mixed_25 G) (AW (mX10_mixed, G) 25) := (r_iload dX10_mixed_25 (r_iconst dX10_mixed_27 rfl (r_ic_eq (tgt := 41) dX10_mixed_28 rfl qImp.rf (r_aload_n dX10_mixed_31 rfl (r_lload dX10_mixed_32 (r_iload dX10_mixed_34 qImp.rf))))))
def bX10_mixed_39 (G : Nat × Nat × Nat × Option (Nat × (Nat → Int32)) × (Option Value → qW → Prop)) : qK := (s_lstore 5 4 (AW (mX10_mixed, G) 41))
theorem oX10_mixed_39 (G : Nat × Nat × Nat × Option (Nat × (Nat → Int32)) × (Option Value → qW → Prop)) : qImp (bX10_mixed_39 G) (AW (mX10_mixed, G) 39) := (r_lstore dX10_mixed_39 (Or.inr rfl) (Nat.le_of_ble_eq_true rfl) qImp.rf)
def bX10_mixed_41 (G : Nat × Nat × Nat × Option (Nat × (Nat → Int32)) × (Option Value → qW → Prop)) : qK := (s_lload 5 (s_lreturn (mX10_mixed, G)))
theorem oX10_mixed_41 (G : Nat × Nat × Nat × Option (Nat × (Nat → Int32)) × (Option Value → qW → Prop)) : qImp (bX10_mixed_41 G) (AW (mX10_mixed, G) 41) := (r_lload dX10_mixed_41 (r_lreturn dX10_mixed_43 rfl))
theorem kX10_mixed_6 {G : Nat × Nat × Nat × Option (Nat × (Nat → Int32)) × (Option Value → qW → Prop)} {L : qL} {w : qW} {kc ks : Nat} {rest : List Value} {q : Nat} {x0 : Int64} {x1 : Int32} {d mc ms : Nat} {Q : Option Value → qW → Prop} (hC : CT mX10_stirred d mc ms [.ref q, .long x0, .int x1] w Q) (hq : qci w q = some 10) (hst : rest.length ≤ 4) (hdp : d + 1 ≤ G.1) (hmc : kc + mc ≤ G.2.1 ∧ ks + ms ≤ G.2.2.1) (k : ∀ r w', Q r w' → AW (mX10_mixed, G) 9 L (r.toList ++ rest) w' (kc + mc) (ks + ms)) : AW (mX10_mixed, G) 6 L (.int x1 :: .long x0 :: .ref q :: rest) w kc ks := a_callV [.long x0, .int x1] rest dX10_mixed_6 vX10_stirred lk457 hC hq rfl rfl hst hdp hmc k
theorem kX10_mixed_20 {G : Nat × Nat × Nat × Option (Nat × (Nat → Int32)) × (Option Value → qW → Prop)} {L : qL} {w : qW} {kc ks : Nat} {rest : List Value} {q : Nat} {x0 : Int64} {x1 : Int32} {d mc ms : Nat} {Q : Option Value → qW → Prop} (hC : CT mX10_stirred d mc ms [.ref q, .long x0, .int x1] w Q) (hq : qci w q = some 10) (hst : rest.length ≤ 4) (hdp : d + 1 ≤ G.1) (hmc : kc + mc ≤ G.2.1 ∧ ks + ms ≤ G.2.2.1) (k : ∀ r w', Q r w' → AW (mX10_mixed, G) 23 L (r.toList ++ rest) w' (kc + mc) (ks + ms)) : AW (mX10_mixed, G) 20 L (.int x1 :: .long x0 :: .ref q :: rest) w kc ks := a_callV [.long x0, .int x1] rest dX10_mixed_20 vX10_stirred lk457 hC hq rfl rfl hst hdp hmc k
theorem kX10_mixed_36 {G : Nat × Nat × Nat × Option (Nat × (Nat → Int32)) × (Option Value → qW → Prop)} {L : qL} {w : qW} {kc ks : Nat} {rest : List Value} {q : Nat} {x0 : Int64} {x1 : Int32} {d mc ms : Nat} {Q : Option Value → qW → Prop} (hC : CT mX10_stirred d mc ms [.ref q, .long x0, .int x1] w Q) (hq : qci w q = some 10) (hst : rest.length ≤ 4) (hdp : d + 1 ≤ G.1) (hmc : kc + mc ≤ G.2.1 ∧ ks + ms ≤ G.2.2.1) (k : ∀ r w', Q r w' → AW (mX10_mixed, G) 39 L (r.toList ++ rest) w' (kc + mc) (ks + ms)) : AW (mX10_mixed, G) 36 L (.int x1 :: .long x0 :: .ref q :: rest) w kc ks := a_callV [.long x0, .int x1] rest dX10_mixed_36 vX10_stirred lk457 hC hq rfl rfl hst hdp hmc k
theorem dX10_build_0 : decode cX10_build 0 = .ok (.iload_n 1, 1) := by decide +kernel
theorem dX10_build_1 : decode cX10_build 1 = .ok (.invokestatic 83, 3) := by decide +kernel
theorem dX10_build_4 : decode cX10_build 4 = .ok (.ifCond .eq 32, 3) := by decide +kernel
theorem dX10_build_7 : decode cX10_build 7 = .ok (.iload_n 2, 1) := by decide +kernel
theorem dX10_build_8 : decode cX10_build 8 = .ok (.invokestatic 106, 3) := by decide +kernel
theorem dX10_build_11 : decode cX10_build 11 = .ok (.ifCond .eq 25, 3) := by decide +kernel
theorem dX10_build_14 : decode cX10_build 14 = .ok (.aload_n 0, 1) := by decide +kernel
theorem dX10_build_15 : decode cX10_build 15 = .ok (.iload_n 3, 1) := by decide +kernel
theorem dX10_build_16 : decode cX10_build 16 = .ok (.iload 4, 2) := by decide +kernel
theorem dX10_build_18 : decode cX10_build 18 = .ok (.iload 5, 2) := by decide +kernel
theorem dX10_build_20 : decode cX10_build 20 = .ok (.invokevirtual 109, 3) := by decide +kernel
theorem dX10_build_23 : decode cX10_build 23 = .ok (.ifCond .eq 13, 3) := by decide +kernel
theorem dX10_build_26 : decode cX10_build 26 = .ok (.aload_n 0, 1) := by decide +kernel
theorem dX10_build_27 : decode cX10_build 27 = .ok (.getfield 14, 3) := by decide +kernel
theorem dX10_build_30 : decode cX10_build 30 = .ok (.invokevirtual 87, 3) := by decide +kernel
theorem dX10_build_33 : decode cX10_build 33 = .ok (.ifCond .eq 5, 3) := by decide +kernel
theorem dX10_build_36 : decode cX10_build 36 = .ok (.iconst (-1), 1) := by decide +kernel
theorem dX10_build_37 : decode cX10_build 37 = .ok (.ireturn, 1) := by decide +kernel
theorem dX10_build_38 : decode cX10_build 38 = .ok (.aload_n 0, 1) := by decide +kernel
theorem dX10_build_39 : decode cX10_build 39 = .ok (.getfield 24, 3) := by decide +kernel
theorem dX10_build_42 : decode cX10_build 42 = .ok (.lload 6, 2) := by decide +kernel
theorem dX10_build_44 : decode cX10_build 44 = .ok (.invokevirtual 113, 3) := by decide +kernel
theorem dX10_build_47 : decode cX10_build 47 = .ok (.istore 8, 2) := by decide +kernel
theorem dX10_build_49 : decode cX10_build 49 = .ok (.iload 8, 2) := by decide +kernel
theorem dX10_build_51 : decode cX10_build 51 = .ok (.iconst (-1), 1) := by decide +kernel
theorem dX10_build_52 : decode cX10_build 52 = .ok (.if_icmp .eq 19, 3) := by decide +kernel
theorem dX10_build_55 : decode cX10_build 55 = .ok (.aload_n 0, 1) := by decide +kernel
theorem dX10_build_56 : decode cX10_build 56 = .ok (.iload 8, 2) := by decide +kernel
theorem dX10_build_58 : decode cX10_build 58 = .ok (.iload_n 3, 1) := by decide +kernel
theorem dX10_build_59 : decode cX10_build 59 = .ok (.iload 4, 2) := by decide +kernel
theorem dX10_build_61 : decode cX10_build 61 = .ok (.iload 5, 2) := by decide +kernel
theorem dX10_build_63 : decode cX10_build 63 = .ok (.invokevirtual 116, 3) := by decide +kernel
theorem dX10_build_66 : decode cX10_build 66 = .ok (.ifCond .eq 5, 3) := by decide +kernel
theorem dX10_build_69 : decode cX10_build 69 = .ok (.iconst (-1), 1) := by decide +kernel
theorem dX10_build_70 : decode cX10_build 70 = .ok (.ireturn, 1) := by decide +kernel
theorem dX10_build_71 : decode cX10_build 71 = .ok (.aload_n 0, 1) := by decide +kernel
theorem dX10_build_72 : decode cX10_build 72 = .ok (.getfield 24, 3) := by decide +kernel
theorem dX10_build_75 : decode cX10_build 75 = .ok (.lload 6, 2) := by decide +kernel
theorem dX10_build_77 : decode cX10_build 77 = .ok (.invokevirtual 91, 3) := by decide +kernel
theorem dX10_build_80 : decode cX10_build 80 = .ok (.istore 9, 2) := by decide +kernel
theorem dX10_build_82 : decode cX10_build 82 = .ok (.iload 9, 2) := by decide +kernel
theorem dX10_build_84 : decode cX10_build 84 = .ok (.iconst (-1), 1) := by decide +kernel
theorem dX10_build_85 : decode cX10_build 85 = .ok (.if_icmp .ne 5, 3) := by decide +kernel
theorem dX10_build_88 : decode cX10_build 88 = .ok (.iconst (-1), 1) := by decide +kernel
theorem dX10_build_89 : decode cX10_build 89 = .ok (.ireturn, 1) := by decide +kernel
theorem dX10_build_90 : decode cX10_build 90 = .ok (.lload 6, 2) := by decide +kernel
theorem dX10_build_92 : decode cX10_build 92 = .ok (.aload_n 0, 1) := by decide +kernel
theorem dX10_build_93 : decode cX10_build 93 = .ok (.iload_n 2, 1) := by decide +kernel
theorem dX10_build_94 : decode cX10_build 94 = .ok (.iload_n 3, 1) := by decide +kernel
theorem dX10_build_95 : decode cX10_build 95 = .ok (.iload 4, 2) := by decide +kernel
theorem dX10_build_97 : decode cX10_build 97 = .ok (.iload 5, 2) := by decide +kernel
theorem dX10_build_99 : decode cX10_build 99 = .ok (.invokevirtual 120, 3) := by decide +kernel
theorem dX10_build_102 : decode cX10_build 102 = .ok (.lcmp, 1) := by decide +kernel
theorem dX10_build_103 : decode cX10_build 103 = .ok (.ifCond .ne 7, 3) := by decide +kernel
theorem dX10_build_106 : decode cX10_build 106 = .ok (.iconst 1, 1) := by decide +kernel
theorem dX10_build_107 : decode cX10_build 107 = .ok (.goto 4, 3) := by decide +kernel
theorem dX10_build_110 : decode cX10_build 110 = .ok (.iconst 0, 1) := by decide +kernel
theorem dX10_build_111 : decode cX10_build 111 = .ok (.istore 10, 2) := by decide +kernel
theorem dX10_build_113 : decode cX10_build 113 = .ok (.aload_n 0, 1) := by decide +kernel
theorem dX10_build_114 : decode cX10_build 114 = .ok (.iconst 1, 1) := by decide +kernel
theorem dX10_build_115 : decode cX10_build 115 = .ok (.iload 9, 2) := by decide +kernel
theorem dX10_build_117 : decode cX10_build 117 = .ok (.iload_n 1, 1) := by decide +kernel
theorem dX10_build_118 : decode cX10_build 118 = .ok (.invokevirtual 95, 3) := by decide +kernel
theorem dX10_build_121 : decode cX10_build 121 = .ok (.istore 11, 2) := by decide +kernel
theorem dX10_build_123 : decode cX10_build 123 = .ok (.aload_n 0, 1) := by decide +kernel
theorem dX10_build_124 : decode cX10_build 124 = .ok (.getfield 14, 3) := by decide +kernel
theorem dX10_build_127 : decode cX10_build 127 = .ok (.iload 11, 2) := by decide +kernel
theorem dX10_build_129 : decode cX10_build 129 = .ok (.iconst 3, 1) := by decide +kernel
theorem dX10_build_130 : decode cX10_build 130 = .ok (.iload_n 2, 1) := by decide +kernel
theorem dX10_build_131 : decode cX10_build 131 = .ok (.invokevirtual 124, 3) := by decide +kernel
theorem dX10_build_134 : decode cX10_build 134 = .ok (.aload_n 0, 1) := by decide +kernel
theorem dX10_build_135 : decode cX10_build 135 = .ok (.getfield 14, 3) := by decide +kernel
theorem dX10_build_138 : decode cX10_build 138 = .ok (.iload 11, 2) := by decide +kernel
theorem dX10_build_140 : decode cX10_build 140 = .ok (.iconst 4, 1) := by decide +kernel
theorem dX10_build_141 : decode cX10_build 141 = .ok (.iload_n 3, 1) := by decide +kernel
theorem dX10_build_142 : decode cX10_build 142 = .ok (.invokevirtual 124, 3) := by decide +kernel
theorem dX10_build_145 : decode cX10_build 145 = .ok (.aload_n 0, 1) := by decide +kernel
theorem dX10_build_146 : decode cX10_build 146 = .ok (.getfield 14, 3) := by decide +kernel
theorem dX10_build_149 : decode cX10_build 149 = .ok (.iload 11, 2) := by decide +kernel
theorem dX10_build_151 : decode cX10_build 151 = .ok (.iconst 5, 1) := by decide +kernel
theorem dX10_build_152 : decode cX10_build 152 = .ok (.iload 4, 2) := by decide +kernel
theorem dX10_build_154 : decode cX10_build 154 = .ok (.invokevirtual 124, 3) := by decide +kernel
theorem dX10_build_157 : decode cX10_build 157 = .ok (.aload_n 0, 1) := by decide +kernel
theorem dX10_build_158 : decode cX10_build 158 = .ok (.getfield 14, 3) := by decide +kernel
theorem dX10_build_161 : decode cX10_build 161 = .ok (.iload 11, 2) := by decide +kernel
theorem dX10_build_163 : decode cX10_build 163 = .ok (.bipush 6, 2) := by decide +kernel
theorem dX10_build_165 : decode cX10_build 165 = .ok (.iload 5, 2) := by decide +kernel
theorem dX10_build_167 : decode cX10_build 167 = .ok (.invokevirtual 124, 3) := by decide +kernel
theorem dX10_build_170 : decode cX10_build 170 = .ok (.aload_n 0, 1) := by decide +kernel
theorem dX10_build_171 : decode cX10_build 171 = .ok (.getfield 14, 3) := by decide +kernel
theorem dX10_build_174 : decode cX10_build 174 = .ok (.iload 11, 2) := by decide +kernel
theorem dX10_build_176 : decode cX10_build 176 = .ok (.bipush 7, 2) := by decide +kernel
theorem dX10_build_178 : decode cX10_build 178 = .ok (.iload 10, 2) := by decide +kernel
theorem dX10_build_180 : decode cX10_build 180 = .ok (.invokestatic 128, 3) := by decide +kernel
theorem dX10_build_183 : decode cX10_build 183 = .ok (.invokevirtual 124, 3) := by decide +kernel
theorem dX10_build_186 : decode cX10_build 186 = .ok (.aload_n 0, 1) := by decide +kernel
theorem dX10_build_187 : decode cX10_build 187 = .ok (.getfield 24, 3) := by decide +kernel
theorem dX10_build_190 : decode cX10_build 190 = .ok (.iload 9, 2) := by decide +kernel
theorem dX10_build_192 : decode cX10_build 192 = .ok (.iload_n 1, 1) := by decide +kernel
theorem dX10_build_193 : decode cX10_build 193 = .ok (.invokevirtual 99, 3) := by decide +kernel
theorem dX10_build_196 : decode cX10_build 196 = .ok (.iload 10, 2) := by decide +kernel
theorem dX10_build_198 : decode cX10_build 198 = .ok (.ifCond .eq 13, 3) := by decide +kernel
theorem dX10_build_201 : decode cX10_build 201 = .ok (.aload_n 0, 1) := by decide +kernel
theorem dX10_build_202 : decode cX10_build 202 = .ok (.getfield 24, 3) := by decide +kernel
theorem dX10_build_205 : decode cX10_build 205 = .ok (.iload 9, 2) := by decide +kernel
theorem dX10_build_207 : decode cX10_build 207 = .ok (.iload_n 1, 1) := by decide +kernel
theorem dX10_build_208 : decode cX10_build 208 = .ok (.invokevirtual 132, 3) := by decide +kernel
theorem dX10_build_211 : decode cX10_build 211 = .ok (.aload_n 0, 1) := by decide +kernel
theorem dX10_build_212 : decode cX10_build 212 = .ok (.getfield 24, 3) := by decide +kernel
theorem dX10_build_215 : decode cX10_build 215 = .ok (.iload 9, 2) := by decide +kernel
theorem dX10_build_217 : decode cX10_build 217 = .ok (.iload_n 3, 1) := by decide +kernel
theorem dX10_build_218 : decode cX10_build 218 = .ok (.invokevirtual 135, 3) := by decide +kernel
theorem dX10_build_221 : decode cX10_build 221 = .ok (.aload_n 0, 1) := by decide +kernel
theorem dX10_build_222 : decode cX10_build 222 = .ok (.getfield 24, 3) := by decide +kernel
theorem dX10_build_225 : decode cX10_build 225 = .ok (.iload 9, 2) := by decide +kernel
theorem dX10_build_227 : decode cX10_build 227 = .ok (.iload 4, 2) := by decide +kernel
theorem dX10_build_229 : decode cX10_build 229 = .ok (.invokevirtual 135, 3) := by decide +kernel
theorem dX10_build_232 : decode cX10_build 232 = .ok (.aload_n 0, 1) := by decide +kernel
theorem dX10_build_233 : decode cX10_build 233 = .ok (.getfield 24, 3) := by decide +kernel
theorem dX10_build_236 : decode cX10_build 236 = .ok (.iload 9, 2) := by decide +kernel
theorem dX10_build_238 : decode cX10_build 238 = .ok (.iload 5, 2) := by decide +kernel
theorem dX10_build_240 : decode cX10_build 240 = .ok (.invokevirtual 135, 3) := by decide +kernel
theorem dX10_build_243 : decode cX10_build 243 = .ok (.aload_n 0, 1) := by decide +kernel
theorem dX10_build_244 : decode cX10_build 244 = .ok (.iload 11, 2) := by decide +kernel
theorem dX10_build_246 : decode cX10_build 246 = .ok (.invokevirtual 102, 3) := by decide +kernel
theorem dX10_build_249 : decode cX10_build 249 = .ok (.iload 9, 2) := by decide +kernel
theorem dX10_build_251 : decode cX10_build 251 = .ok (.ireturn, 1) := by decide +kernel
/-! SealLine.build(IIIIIJ)I -/
theorem eX10_build {d mc ms : Nat} {w : qW} {Q : Option Value → qW → Prop} {q : Nat} {x0 : Int32} {x1 : Int32} {x2 : Int32} {x3 : Int32} {x4 : Int32} {x5 : Int64} (h : AW (mX10_build, d, mc, ms, none, Q) 0 [some (.ref q), some (.int x0), some (.int x1), some (.int x2), some (.int x3), some (.int x4), some (.long x5), none, none, none, none, none] [] w 0 0) : CT mX10_build d mc ms [.ref q, .int x0, .int x1, .int x2, .int x3, .int x4, .long x5] w Q := CT_of (by decide +kernel) rfl (Nat.le_of_ble_eq_true rfl) h
def bX10_build_0 (G : Nat × Nat × Nat × Option (Nat × (Nat → Int32)) × (Option Value → qW → Prop)) : qK := (s_iload 1 (AW (mX10_build, G) 1))
theorem oX10_build_0 (G : Nat × Nat × Nat × Option (Nat × (Nat → Int32)) × (Option Value → qW → Prop)) : qImp (bX10_build_0 G) (AW (mX10_build, G) 0) := (r_iload_n dX10_build_0 rfl qImp.rf)
def bX10_build_4 (G : Nat × Nat × Nat × Option (Nat × (Nat → Int32)) × (Option Value → qW → Prop)) : qK := (s_if_eq (AW (mX10_build, G) 36) (s_iload 2 (AW (mX10_build, G) 8)))
theorem oX10_build_4 (G : Nat × Nat × Nat × Option (Nat × (Nat → Int32)) × (Option Value → qW → Prop)) : qImp (bX10_build_4 G) (AW (mX10_build, G) 4) := (r_if_eq (tgt := 36) dX10_build_4 rfl qImp.rf (r_iload_n dX10_build_7 rfl qImp.rf))
def bX10_build_11 (G : Nat × Nat × Nat × Option (Nat × (Nat → Int32)) × (Option Value → qW → Prop)) : qK := (s_if_eq (AW (mX10_build, G) 36) (s_aload 0 (s_iload 3 (s_iload 4 (s_iload 5 (AW (mX10_build, G) 20))))))
theorem oX10_build_11 (G : Nat × Nat × Nat × Option (Nat × (Nat → Int32)) × (Option Value → qW → Prop)) : qImp (bX10_build_11 G) (AW (mX10_build, G) 11) := (r_if_eq (tgt := 36) dX10_build_11 rfl qImp.rf (r_aload_n dX10_build_14 rfl (r_iload_n dX10_build_15 rfl (r_iload dX10_build_16 (r_iload dX10_build_18 qImp.rf)))))
def bX10_build_23 (G : Nat × Nat × Nat × Option (Nat × (Nat → Int32)) × (Option Value → qW → Prop)) : qK := (s_if_eq (AW (mX10_build, G) 36) (s_aload 0 (s_getfield 10 0 (AW (mX10_build, G) 30))))
theorem oX10_build_23 (G : Nat × Nat × Nat × Option (Nat × (Nat → Int32)) × (Option Value → qW → Prop)) : qImp (bX10_build_23 G) (AW (mX10_build, G) 23) := (r_if_eq (tgt := 36) dX10_build_23 rfl qImp.rf (r_aload_n dX10_build_26 rfl (r_getfield dX10_build_27 fgX10_14 qImp.rf)))
def bX10_build_33 (G : Nat × Nat × Nat × Option (Nat × (Nat → Int32)) × (Option Value → qW → Prop)) : qK := (s_if_eq (AW (mX10_build, G) 38) (AW (mX10_build, G) 36))
theorem oX10_build_33 (G : Nat × Nat × Nat × Option (Nat × (Nat → Int32)) × (Option Value → qW → Prop)) : qImp (bX10_build_33 G) (AW (mX10_build, G) 33) := (r_if_eq (tgt := 38) dX10_build_33 rfl qImp.rf qImp.rf)
def bX10_build_36 (G : Nat × Nat × Nat × Option (Nat × (Nat → Int32)) × (Option Value → qW → Prop)) : qK := (s_iconst (-1) (s_ireturn (mX10_build, G)))
theorem oX10_build_36 (G : Nat × Nat × Nat × Option (Nat × (Nat → Int32)) × (Option Value → qW → Prop)) : qImp (bX10_build_36 G) (AW (mX10_build, G) 36) := (r_iconst dX10_build_36 rfl (r_ireturn dX10_build_37 rfl))
def bX10_build_38 (G : Nat × Nat × Nat × Option (Nat × (Nat → Int32)) × (Option Value → qW → Prop)) : qK := (s_aload 0 (s_getfield 10 2 (s_lload 6 (AW (mX10_build, G) 44))))
theorem oX10_build_38 (G : Nat × Nat × Nat × Option (Nat × (Nat → Int32)) × (Option Value → qW → Prop)) : qImp (bX10_build_38 G) (AW (mX10_build, G) 38) := (r_aload_n dX10_build_38 rfl (r_getfield dX10_build_39 fgX10_24 (r_lload dX10_build_42 qImp.rf)))
def bX10_build_47 (G : Nat × Nat × Nat × Option (Nat × (Nat → Int32)) × (Option Value → qW → Prop)) : qK := (s_istore 8 7 (s_iload 8 (s_iconst (-1) (s_ic_eq (AW (mX10_build, G) 71) (s_aload 0 (s_iload 8 (s_iload 3 (s_iload 4 (s_iload 5 (AW (mX10_build, G) 63))))))))))
theorem oX10_build_47 (G : Nat × Nat × Nat × Option (Nat × (Nat → Int32)) × (Option Value → qW → Prop)) : qImp (bX10_build_47 G) (AW (mX10_build, G) 47) := (r_istore dX10_build_47 (Or.inr rfl) (Nat.le_of_ble_eq_true rfl) (r_iload dX10_build_49 (r_iconst dX10_build_51 rfl (r_ic_eq (tgt := 71) dX10_build_52 rfl qImp.rf (r_aload_n dX10_build_55 rfl (r_iload dX10_build_56 (r_iload_n dX10_build_58 rfl (r_iload dX10_build_59 (r_iload dX10_build_61 qImp.rf)))))))))
def bX10_build_66 (G : Nat × Nat × Nat × Option (Nat × (Nat → Int32)) × (Option Value → qW → Prop)) : qK := (s_if_eq (AW (mX10_build, G) 71) (s_iconst (-1) (s_ireturn (mX10_build, G))))
theorem oX10_build_66 (G : Nat × Nat × Nat × Option (Nat × (Nat → Int32)) × (Option Value → qW → Prop)) : qImp (bX10_build_66 G) (AW (mX10_build, G) 66) := (r_if_eq (tgt := 71) dX10_build_66 rfl qImp.rf (r_iconst dX10_build_69 rfl (r_ireturn dX10_build_70 rfl)))
def bX10_build_71 (G : Nat × Nat × Nat × Option (Nat × (Nat → Int32)) × (Option Value → qW → Prop)) : qK := (s_aload 0 (s_getfield 10 2 (s_lload 6 (AW (mX10_build, G) 77))))
theorem oX10_build_71 (G : Nat × Nat × Nat × Option (Nat × (Nat → Int32)) × (Option Value → qW → Prop)) : qImp (bX10_build_71 G) (AW (mX10_build, G) 71) := (r_aload_n dX10_build_71 rfl (r_getfield dX10_build_72 fgX10_24 (r_lload dX10_build_75 qImp.rf)))
def bX10_build_80 (G : Nat × Nat × Nat × Option (Nat × (Nat → Int32)) × (Option Value → qW → Prop)) : qK := (s_istore 9 8 (s_iload 9 (s_iconst (-1) (s_ic_ne (AW (mX10_build, G) 90) (s_iconst (-1) (s_ireturn (mX10_build, G)))))))
theorem oX10_build_80 (G : Nat × Nat × Nat × Option (Nat × (Nat → Int32)) × (Option Value → qW → Prop)) : qImp (bX10_build_80 G) (AW (mX10_build, G) 80) := (r_istore dX10_build_80 (Or.inr rfl) (Nat.le_of_ble_eq_true rfl) (r_iload dX10_build_82 (r_iconst dX10_build_84 rfl (r_ic_ne (tgt := 90) dX10_build_85 rfl qImp.rf (r_iconst dX10_build_88 rfl (r_ireturn dX10_build_89 rfl))))))
def bX10_build_90 (G : Nat × Nat × Nat × Option (Nat × (Nat → Int32)) × (Option Value → qW → Prop)) : qK := (s_lload 6 (s_aload 0 (s_iload 2 (s_iload 3 (s_iload 4 (s_iload 5 (AW (mX10_build, G) 99)))))))
theorem oX10_build_90 (G : Nat × Nat × Nat × Option (Nat × (Nat → Int32)) × (Option Value → qW → Prop)) : qImp (bX10_build_90 G) (AW (mX10_build, G) 90) := (r_lload dX10_build_90 (r_aload_n dX10_build_92 rfl (r_iload_n dX10_build_93 rfl (r_iload_n dX10_build_94 rfl (r_iload dX10_build_95 (r_iload dX10_build_97 qImp.rf))))))
def bX10_build_102 (G : Nat × Nat × Nat × Option (Nat × (Nat → Int32)) × (Option Value → qW → Prop)) : qK := (s_lcmp (s_if_ne (AW (mX10_build, G) 110) (s_iconst 1 (AW (mX10_build, G) 111))))
theorem oX10_build_102 (G : Nat × Nat × Nat × Option (Nat × (Nat → Int32)) × (Option Value → qW → Prop)) : qImp (bX10_build_102 G) (AW (mX10_build, G) 102) := (r_lcmp dX10_build_102 (r_if_ne (tgt := 110) dX10_build_103 rfl qImp.rf (r_iconst dX10_build_106 rfl (r_goto (tgt := 111) dX10_build_107 rfl qImp.rf))))
def bX10_build_110 (G : Nat × Nat × Nat × Option (Nat × (Nat → Int32)) × (Option Value → qW → Prop)) : qK := (s_iconst 0 (AW (mX10_build, G) 111))
theorem oX10_build_110 (G : Nat × Nat × Nat × Option (Nat × (Nat → Int32)) × (Option Value → qW → Prop)) : qImp (bX10_build_110 G) (AW (mX10_build, G) 110) := (r_iconst dX10_build_110 rfl qImp.rf)
def bX10_build_111 (G : Nat × Nat × Nat × Option (Nat × (Nat → Int32)) × (Option Value → qW → Prop)) : qK := (s_istore 10 9 (s_aload 0 (s_iconst 1 (s_iload 9 (s_iload 1 (AW (mX10_build, G) 118))))))
theorem oX10_build_111 (G : Nat × Nat × Nat × Option (Nat × (Nat → Int32)) × (Option Value → qW → Prop)) : qImp (bX10_build_111 G) (AW (mX10_build, G) 111) := (r_istore dX10_build_111 (Or.inr rfl) (Nat.le_of_ble_eq_true rfl) (r_aload_n dX10_build_113 rfl (r_iconst dX10_build_114 rfl (r_iload dX10_build_115 (r_iload_n dX10_build_117 rfl qImp.rf)))))
def bX10_build_121 (G : Nat × Nat × Nat × Option (Nat × (Nat → Int32)) × (Option Value → qW → Prop)) : qK := (s_istore 11 10 (s_aload 0 (s_getfield 10 0 (s_iload 11 (s_iconst 3 (s_iload 2 (AW (mX10_build, G) 131)))))))
theorem oX10_build_121 (G : Nat × Nat × Nat × Option (Nat × (Nat → Int32)) × (Option Value → qW → Prop)) : qImp (bX10_build_121 G) (AW (mX10_build, G) 121) := (r_istore dX10_build_121 (Or.inr rfl) (Nat.le_of_ble_eq_true rfl) (r_aload_n dX10_build_123 rfl (r_getfield dX10_build_124 fgX10_14 (r_iload dX10_build_127 (r_iconst dX10_build_129 rfl (r_iload_n dX10_build_130 rfl qImp.rf))))))
def bX10_build_134 (G : Nat × Nat × Nat × Option (Nat × (Nat → Int32)) × (Option Value → qW → Prop)) : qK := (s_aload 0 (s_getfield 10 0 (s_iload 11 (s_iconst 4 (s_iload 3 (AW (mX10_build, G) 142))))))
theorem oX10_build_134 (G : Nat × Nat × Nat × Option (Nat × (Nat → Int32)) × (Option Value → qW → Prop)) : qImp (bX10_build_134 G) (AW (mX10_build, G) 134) := (r_aload_n dX10_build_134 rfl (r_getfield dX10_build_135 fgX10_14 (r_iload dX10_build_138 (r_iconst dX10_build_140 rfl (r_iload_n dX10_build_141 rfl qImp.rf)))))
def bX10_build_145 (G : Nat × Nat × Nat × Option (Nat × (Nat → Int32)) × (Option Value → qW → Prop)) : qK := (s_aload 0 (s_getfield 10 0 (s_iload 11 (s_iconst 5 (s_iload 4 (AW (mX10_build, G) 154))))))
theorem oX10_build_145 (G : Nat × Nat × Nat × Option (Nat × (Nat → Int32)) × (Option Value → qW → Prop)) : qImp (bX10_build_145 G) (AW (mX10_build, G) 145) := (r_aload_n dX10_build_145 rfl (r_getfield dX10_build_146 fgX10_14 (r_iload dX10_build_149 (r_iconst dX10_build_151 rfl (r_iload dX10_build_152 qImp.rf)))))
def bX10_build_157 (G : Nat × Nat × Nat × Option (Nat × (Nat → Int32)) × (Option Value → qW → Prop)) : qK := (s_aload 0 (s_getfield 10 0 (s_iload 11 (s_iconst 6 (s_iload 5 (AW (mX10_build, G) 167))))))
theorem oX10_build_157 (G : Nat × Nat × Nat × Option (Nat × (Nat → Int32)) × (Option Value → qW → Prop)) : qImp (bX10_build_157 G) (AW (mX10_build, G) 157) := (r_aload_n dX10_build_157 rfl (r_getfield dX10_build_158 fgX10_14 (r_iload dX10_build_161 (r_bipush dX10_build_163 rfl (r_iload dX10_build_165 qImp.rf)))))
def bX10_build_170 (G : Nat × Nat × Nat × Option (Nat × (Nat → Int32)) × (Option Value → qW → Prop)) : qK := (s_aload 0 (s_getfield 10 0 (s_iload 11 (s_iconst 7 (s_iload 10 (AW (mX10_build, G) 180))))))
theorem oX10_build_170 (G : Nat × Nat × Nat × Option (Nat × (Nat → Int32)) × (Option Value → qW → Prop)) : qImp (bX10_build_170 G) (AW (mX10_build, G) 170) := (r_aload_n dX10_build_170 rfl (r_getfield dX10_build_171 fgX10_14 (r_iload dX10_build_174 (r_bipush dX10_build_176 rfl (r_iload dX10_build_178 qImp.rf)))))
def bX10_build_186 (G : Nat × Nat × Nat × Option (Nat × (Nat → Int32)) × (Option Value → qW → Prop)) : qK := (s_aload 0 (s_getfield 10 2 (s_iload 9 (s_iload 1 (AW (mX10_build, G) 193)))))
theorem oX10_build_186 (G : Nat × Nat × Nat × Option (Nat × (Nat → Int32)) × (Option Value → qW → Prop)) : qImp (bX10_build_186 G) (AW (mX10_build, G) 186) := (r_aload_n dX10_build_186 rfl (r_getfield dX10_build_187 fgX10_24 (r_iload dX10_build_190 (r_iload_n dX10_build_192 rfl qImp.rf))))
def bX10_build_196 (G : Nat × Nat × Nat × Option (Nat × (Nat → Int32)) × (Option Value → qW → Prop)) : qK := (s_iload 10 (s_if_eq (AW (mX10_build, G) 211) (s_aload 0 (s_getfield 10 2 (s_iload 9 (s_iload 1 (AW (mX10_build, G) 208)))))))
theorem oX10_build_196 (G : Nat × Nat × Nat × Option (Nat × (Nat → Int32)) × (Option Value → qW → Prop)) : qImp (bX10_build_196 G) (AW (mX10_build, G) 196) := (r_iload dX10_build_196 (r_if_eq (tgt := 211) dX10_build_198 rfl qImp.rf (r_aload_n dX10_build_201 rfl (r_getfield dX10_build_202 fgX10_24 (r_iload dX10_build_205 (r_iload_n dX10_build_207 rfl qImp.rf))))))
def bX10_build_211 (G : Nat × Nat × Nat × Option (Nat × (Nat → Int32)) × (Option Value → qW → Prop)) : qK := (s_aload 0 (s_getfield 10 2 (s_iload 9 (s_iload 3 (AW (mX10_build, G) 218)))))
theorem oX10_build_211 (G : Nat × Nat × Nat × Option (Nat × (Nat → Int32)) × (Option Value → qW → Prop)) : qImp (bX10_build_211 G) (AW (mX10_build, G) 211) := (r_aload_n dX10_build_211 rfl (r_getfield dX10_build_212 fgX10_24 (r_iload dX10_build_215 (r_iload_n dX10_build_217 rfl qImp.rf))))
def bX10_build_221 (G : Nat × Nat × Nat × Option (Nat × (Nat → Int32)) × (Option Value → qW → Prop)) : qK := (s_aload 0 (s_getfield 10 2 (s_iload 9 (s_iload 4 (AW (mX10_build, G) 229)))))
theorem oX10_build_221 (G : Nat × Nat × Nat × Option (Nat × (Nat → Int32)) × (Option Value → qW → Prop)) : qImp (bX10_build_221 G) (AW (mX10_build, G) 221) := (r_aload_n dX10_build_221 rfl (r_getfield dX10_build_222 fgX10_24 (r_iload dX10_build_225 (r_iload dX10_build_227 qImp.rf))))
def bX10_build_232 (G : Nat × Nat × Nat × Option (Nat × (Nat → Int32)) × (Option Value → qW → Prop)) : qK := (s_aload 0 (s_getfield 10 2 (s_iload 9 (s_iload 5 (AW (mX10_build, G) 240)))))
theorem oX10_build_232 (G : Nat × Nat × Nat × Option (Nat × (Nat → Int32)) × (Option Value → qW → Prop)) : qImp (bX10_build_232 G) (AW (mX10_build, G) 232) := (r_aload_n dX10_build_232 rfl (r_getfield dX10_build_233 fgX10_24 (r_iload dX10_build_236 (r_iload dX10_build_238 qImp.rf))))
def bX10_build_243 (G : Nat × Nat × Nat × Option (Nat × (Nat → Int32)) × (Option Value → qW → Prop)) : qK := (s_aload 0 (s_iload 11 (AW (mX10_build, G) 246)))
theorem oX10_build_243 (G : Nat × Nat × Nat × Option (Nat × (Nat → Int32)) × (Option Value → qW → Prop)) : qImp (bX10_build_243 G) (AW (mX10_build, G) 243) := (r_aload_n dX10_build_243 rfl (r_iload dX10_build_244 qImp.rf))
def bX10_build_249 (G : Nat × Nat × Nat × Option (Nat × (Nat → Int32)) × (Option Value → qW → Prop)) : qK := (s_iload 9 (s_ireturn (mX10_build, G)))
theorem oX10_build_249 (G : Nat × Nat × Nat × Option (Nat × (Nat → Int32)) × (Option Value → qW → Prop)) : qImp (bX10_build_249 G) (AW (mX10_build, G) 249) := (r_iload dX10_build_249 (r_ireturn dX10_build_251 rfl))
theorem kX10_build_1 {G : Nat × Nat × Nat × Option (Nat × (Nat → Int32)) × (Option Value → qW → Prop)} {L : qL} {w : qW} {kc ks : Nat} {rest : List Value}  {x0 : Int32} {d mc ms : Nat} {Q : Option Value → qW → Prop} (hC : CT mX10_isHand d mc ms [.int x0] w Q) (hst : rest.length ≤ 4) (hdp : d + 1 ≤ G.1) (hmc : kc + mc ≤ G.2.1 ∧ ks + ms ≤ G.2.2.1) (k : ∀ r w', Q r w' → AW (mX10_build, G) 4 L (r.toList ++ rest) w' (kc + mc) (ks + ms)) : AW (mX10_build, G) 1 L (.int x0 :: rest) w kc ks := a_callS [.int x0] rest dX10_build_1 tX10_isHand lk338 hC rfl hst hdp hmc k
theorem kX10_build_8 {G : Nat × Nat × Nat × Option (Nat × (Nat → Int32)) × (Option Value → qW → Prop)} {L : qL} {w : qW} {kc ks : Nat} {rest : List Value}  {x0 : Int32} {d mc ms : Nat} {Q : Option Value → qW → Prop} (hC : CT mX10_isTool d mc ms [.int x0] w Q) (hst : rest.length ≤ 4) (hdp : d + 1 ≤ G.1) (hmc : kc + mc ≤ G.2.1 ∧ ks + ms ≤ G.2.2.1) (k : ∀ r w', Q r w' → AW (mX10_build, G) 11 L (r.toList ++ rest) w' (kc + mc) (ks + ms)) : AW (mX10_build, G) 8 L (.int x0 :: rest) w kc ks := a_callS [.int x0] rest dX10_build_8 tX10_isTool lk436 hC rfl hst hdp hmc k
theorem kX10_build_20 {G : Nat × Nat × Nat × Option (Nat × (Nat → Int32)) × (Option Value → qW → Prop)} {L : qL} {w : qW} {kc ks : Nat} {rest : List Value} {q : Nat} {x0 : Int32} {x1 : Int32} {x2 : Int32} {d mc ms : Nat} {Q : Option Value → qW → Prop} (hC : CT mX10_areInputs d mc ms [.ref q, .int x0, .int x1, .int x2] w Q) (hq : qci w q = some 10) (hst : rest.length ≤ 4) (hdp : d + 1 ≤ G.1) (hmc : kc + mc ≤ G.2.1 ∧ ks + ms ≤ G.2.2.1) (k : ∀ r w', Q r w' → AW (mX10_build, G) 23 L (r.toList ++ rest) w' (kc + mc) (ks + ms)) : AW (mX10_build, G) 20 L (.int x2 :: .int x1 :: .int x0 :: .ref q :: rest) w kc ks := a_callV [.int x0, .int x1, .int x2] rest dX10_build_20 vX10_areInputs lk439 hC hq rfl rfl hst hdp hmc k
theorem kX10_build_30 {G : Nat × Nat × Nat × Option (Nat × (Nat → Int32)) × (Option Value → qW → Prop)} {L : qL} {w : qW} {kc ks : Nat} {rest : List Value} {q : Nat}  {d mc ms : Nat} {Q : Option Value → qW → Prop} (hC : CT mX8_isFull d mc ms [.ref q] w Q) (hq : qci w q = some 8) (hst : rest.length ≤ 4) (hdp : d + 1 ≤ G.1) (hmc : kc + mc ≤ G.2.1 ∧ ks + ms ≤ G.2.2.1) (k : ∀ r w', Q r w' → AW (mX10_build, G) 33 L (r.toList ++ rest) w' (kc + mc) (ks + ms)) : AW (mX10_build, G) 30 L (.ref q :: rest) w kc ks := a_callV [] rest dX10_build_30 vX8_isFull lk341 hC hq rfl rfl hst hdp hmc k
theorem kX10_build_44 {G : Nat × Nat × Nat × Option (Nat × (Nat → Int32)) × (Option Value → qW → Prop)} {L : qL} {w : qW} {kc ks : Nat} {rest : List Value} {q : Nat} {x0 : Int64} {d mc ms : Nat} {Q : Option Value → qW → Prop} (hC : CT mX7_numberOf d mc ms [.ref q, .long x0] w Q) (hq : qci w q = some 7) (hst : rest.length ≤ 4) (hdp : d + 1 ≤ G.1) (hmc : kc + mc ≤ G.2.1 ∧ ks + ms ≤ G.2.2.1) (k : ∀ r w', Q r w' → AW (mX10_build, G) 47 L (r.toList ++ rest) w' (kc + mc) (ks + ms)) : AW (mX10_build, G) 44 L (.long x0 :: .ref q :: rest) w kc ks := a_callV [.long x0] rest dX10_build_44 vX7_numberOf lk444 hC hq rfl rfl hst hdp hmc k
theorem kX10_build_63 {G : Nat × Nat × Nat × Option (Nat × (Nat → Int32)) × (Option Value → qW → Prop)} {L : qL} {w : qW} {kc ks : Nat} {rest : List Value} {q : Nat} {x0 : Int32} {x1 : Int32} {x2 : Int32} {x3 : Int32} {d mc ms : Nat} {Q : Option Value → qW → Prop} (hC : CT mX10_isInRowOfOne d mc ms [.ref q, .int x0, .int x1, .int x2, .int x3] w Q) (hq : qci w q = some 10) (hst : rest.length ≤ 4) (hdp : d + 1 ≤ G.1) (hmc : kc + mc ≤ G.2.1 ∧ ks + ms ≤ G.2.2.1) (k : ∀ r w', Q r w' → AW (mX10_build, G) 66 L (r.toList ++ rest) w' (kc + mc) (ks + ms)) : AW (mX10_build, G) 63 L (.int x3 :: .int x2 :: .int x1 :: .int x0 :: .ref q :: rest) w kc ks := a_callV [.int x0, .int x1, .int x2, .int x3] rest dX10_build_63 vX10_isInRowOfOne lk445 hC hq rfl rfl hst hdp hmc k
theorem kX10_build_77 {G : Nat × Nat × Nat × Option (Nat × (Nat → Int32)) × (Option Value → qW → Prop)} {L : qL} {w : qW} {kc ks : Nat} {rest : List Value} {q : Nat} {x0 : Int64} {d mc ms : Nat} {Q : Option Value → qW → Prop} (hC : CT mX7_numberOrNew d mc ms [.ref q, .long x0] w Q) (hq : qci w q = some 7) (hst : rest.length ≤ 4) (hdp : d + 1 ≤ G.1) (hmc : kc + mc ≤ G.2.1 ∧ ks + ms ≤ G.2.2.1) (k : ∀ r w', Q r w' → AW (mX10_build, G) 80 L (r.toList ++ rest) w' (kc + mc) (ks + ms)) : AW (mX10_build, G) 77 L (.long x0 :: .ref q :: rest) w kc ks := a_callV [.long x0] rest dX10_build_77 vX7_numberOrNew lk345 hC hq rfl rfl hst hdp hmc k
theorem kX10_build_99 {G : Nat × Nat × Nat × Option (Nat × (Nat → Int32)) × (Option Value → qW → Prop)} {L : qL} {w : qW} {kc ks : Nat} {rest : List Value} {q : Nat} {x0 : Int32} {x1 : Int32} {x2 : Int32} {x3 : Int32} {d mc ms : Nat} {Q : Option Value → qW → Prop} (hC : CT mX10_mixed d mc ms [.ref q, .int x0, .int x1, .int x2, .int x3] w Q) (hq : qci w q = some 10) (hst : rest.length ≤ 4) (hdp : d + 1 ≤ G.1) (hmc : kc + mc ≤ G.2.1 ∧ ks + ms ≤ G.2.2.1) (k : ∀ r w', Q r w' → AW (mX10_build, G) 102 L (r.toList ++ rest) w' (kc + mc) (ks + ms)) : AW (mX10_build, G) 99 L (.int x3 :: .int x2 :: .int x1 :: .int x0 :: .ref q :: rest) w kc ks := a_callV [.int x0, .int x1, .int x2, .int x3] rest dX10_build_99 vX10_mixed lk453 hC hq rfl rfl hst hdp hmc k
theorem kX10_build_118 {G : Nat × Nat × Nat × Option (Nat × (Nat → Int32)) × (Option Value → qW → Prop)} {L : qL} {w : qW} {kc ks : Nat} {rest : List Value} {q : Nat} {x0 : Int32} {x1 : Int32} {x2 : Int32} {d mc ms : Nat} {Q : Option Value → qW → Prop} (hC : CT mX10_addNote d mc ms [.ref q, .int x0, .int x1, .int x2] w Q) (hq : qci w q = some 10) (hst : rest.length ≤ 4) (hdp : d + 1 ≤ G.1) (hmc : kc + mc ≤ G.2.1 ∧ ks + ms ≤ G.2.2.1) (k : ∀ r w', Q r w' → AW (mX10_build, G) 121 L (r.toList ++ rest) w' (kc + mc) (ks + ms)) : AW (mX10_build, G) 118 L (.int x2 :: .int x1 :: .int x0 :: .ref q :: rest) w kc ks := a_callV [.int x0, .int x1, .int x2] rest dX10_build_118 vX10_addNote lk357 hC hq rfl rfl hst hdp hmc k
theorem kX10_build_131 {G : Nat × Nat × Nat × Option (Nat × (Nat → Int32)) × (Option Value → qW → Prop)} {L : qL} {w : qW} {kc ks : Nat} {rest : List Value} {q : Nat} {x0 : Int32} {x1 : Int32} {x2 : Int32} {d mc ms : Nat} {Q : Option Value → qW → Prop} (hC : CT mX8_set d mc ms [.ref q, .int x0, .int x1, .int x2] w Q) (hq : qci w q = some 8) (hst : rest.length ≤ 4) (hdp : d + 1 ≤ G.1) (hmc : kc + mc ≤ G.2.1 ∧ ks + ms ≤ G.2.2.1) (k : ∀ r w', Q r w' → AW (mX10_build, G) 134 L (r.toList ++ rest) w' (kc + mc) (ks + ms)) : AW (mX10_build, G) 131 L (.int x2 :: .int x1 :: .int x0 :: .ref q :: rest) w kc ks := a_callV [.int x0, .int x1, .int x2] rest dX10_build_131 vX8_set lk366 hC hq rfl rfl hst hdp hmc k
theorem kX10_build_142 {G : Nat × Nat × Nat × Option (Nat × (Nat → Int32)) × (Option Value → qW → Prop)} {L : qL} {w : qW} {kc ks : Nat} {rest : List Value} {q : Nat} {x0 : Int32} {x1 : Int32} {x2 : Int32} {d mc ms : Nat} {Q : Option Value → qW → Prop} (hC : CT mX8_set d mc ms [.ref q, .int x0, .int x1, .int x2] w Q) (hq : qci w q = some 8) (hst : rest.length ≤ 4) (hdp : d + 1 ≤ G.1) (hmc : kc + mc ≤ G.2.1 ∧ ks + ms ≤ G.2.2.1) (k : ∀ r w', Q r w' → AW (mX10_build, G) 145 L (r.toList ++ rest) w' (kc + mc) (ks + ms)) : AW (mX10_build, G) 142 L (.int x2 :: .int x1 :: .int x0 :: .ref q :: rest) w kc ks := a_callV [.int x0, .int x1, .int x2] rest dX10_build_142 vX8_set lk366 hC hq rfl rfl hst hdp hmc k
theorem kX10_build_154 {G : Nat × Nat × Nat × Option (Nat × (Nat → Int32)) × (Option Value → qW → Prop)} {L : qL} {w : qW} {kc ks : Nat} {rest : List Value} {q : Nat} {x0 : Int32} {x1 : Int32} {x2 : Int32} {d mc ms : Nat} {Q : Option Value → qW → Prop} (hC : CT mX8_set d mc ms [.ref q, .int x0, .int x1, .int x2] w Q) (hq : qci w q = some 8) (hst : rest.length ≤ 4) (hdp : d + 1 ≤ G.1) (hmc : kc + mc ≤ G.2.1 ∧ ks + ms ≤ G.2.2.1) (k : ∀ r w', Q r w' → AW (mX10_build, G) 157 L (r.toList ++ rest) w' (kc + mc) (ks + ms)) : AW (mX10_build, G) 154 L (.int x2 :: .int x1 :: .int x0 :: .ref q :: rest) w kc ks := a_callV [.int x0, .int x1, .int x2] rest dX10_build_154 vX8_set lk366 hC hq rfl rfl hst hdp hmc k
theorem kX10_build_167 {G : Nat × Nat × Nat × Option (Nat × (Nat → Int32)) × (Option Value → qW → Prop)} {L : qL} {w : qW} {kc ks : Nat} {rest : List Value} {q : Nat} {x0 : Int32} {x1 : Int32} {x2 : Int32} {d mc ms : Nat} {Q : Option Value → qW → Prop} (hC : CT mX8_set d mc ms [.ref q, .int x0, .int x1, .int x2] w Q) (hq : qci w q = some 8) (hst : rest.length ≤ 4) (hdp : d + 1 ≤ G.1) (hmc : kc + mc ≤ G.2.1 ∧ ks + ms ≤ G.2.2.1) (k : ∀ r w', Q r w' → AW (mX10_build, G) 170 L (r.toList ++ rest) w' (kc + mc) (ks + ms)) : AW (mX10_build, G) 167 L (.int x2 :: .int x1 :: .int x0 :: .ref q :: rest) w kc ks := a_callV [.int x0, .int x1, .int x2] rest dX10_build_167 vX8_set lk366 hC hq rfl rfl hst hdp hmc k
theorem kX10_build_180 {G : Nat × Nat × Nat × Option (Nat × (Nat → Int32)) × (Option Value → qW → Prop)} {L : qL} {w : qW} {kc ks : Nat} {rest : List Value}  {x0 : Int32} {d mc ms : Nat} {Q : Option Value → qW → Prop} (hC : CT mX10_bit d mc ms [.int x0] w Q) (hst : rest.length ≤ 4) (hdp : d + 1 ≤ G.1) (hmc : kc + mc ≤ G.2.1 ∧ ks + ms ≤ G.2.2.1) (k : ∀ r w', Q r w' → AW (mX10_build, G) 183 L (r.toList ++ rest) w' (kc + mc) (ks + ms)) : AW (mX10_build, G) 180 L (.int x0 :: rest) w kc ks := a_callS [.int x0] rest dX10_build_180 tX10_bit lk467 hC rfl hst hdp hmc k
theorem kX10_build_183 {G : Nat × Nat × Nat × Option (Nat × (Nat → Int32)) × (Option Value → qW → Prop)} {L : qL} {w : qW} {kc ks : Nat} {rest : List Value} {q : Nat} {x0 : Int32} {x1 : Int32} {x2 : Int32} {d mc ms : Nat} {Q : Option Value → qW → Prop} (hC : CT mX8_set d mc ms [.ref q, .int x0, .int x1, .int x2] w Q) (hq : qci w q = some 8) (hst : rest.length ≤ 4) (hdp : d + 1 ≤ G.1) (hmc : kc + mc ≤ G.2.1 ∧ ks + ms ≤ G.2.2.1) (k : ∀ r w', Q r w' → AW (mX10_build, G) 186 L (r.toList ++ rest) w' (kc + mc) (ks + ms)) : AW (mX10_build, G) 183 L (.int x2 :: .int x1 :: .int x0 :: .ref q :: rest) w kc ks := a_callV [.int x0, .int x1, .int x2] rest dX10_build_183 vX8_set lk366 hC hq rfl rfl hst hdp hmc k
theorem kX10_build_193 {G : Nat × Nat × Nat × Option (Nat × (Nat → Int32)) × (Option Value → qW → Prop)} {L : qL} {w : qW} {kc ks : Nat} {rest : List Value} {q : Nat} {x0 : Int32} {x1 : Int32} {d mc ms : Nat} {Q : Option Value → qW → Prop} (hC : CT mX7_addMaker d mc ms [.ref q, .int x0, .int x1] w Q) (hq : qci w q = some 7) (hst : rest.length ≤ 4) (hdp : d + 1 ≤ G.1) (hmc : kc + mc ≤ G.2.1 ∧ ks + ms ≤ G.2.2.1) (k : ∀ r w', Q r w' → AW (mX10_build, G) 196 L (r.toList ++ rest) w' (kc + mc) (ks + ms)) : AW (mX10_build, G) 193 L (.int x1 :: .int x0 :: .ref q :: rest) w kc ks := a_callV [.int x0, .int x1] rest dX10_build_193 vX7_addMaker lk374 hC hq rfl rfl hst hdp hmc k
theorem kX10_build_208 {G : Nat × Nat × Nat × Option (Nat × (Nat → Int32)) × (Option Value → qW → Prop)} {L : qL} {w : qW} {kc ks : Nat} {rest : List Value} {q : Nat} {x0 : Int32} {x1 : Int32} {d mc ms : Nat} {Q : Option Value → qW → Prop} (hC : CT mX7_addBuilder d mc ms [.ref q, .int x0, .int x1] w Q) (hq : qci w q = some 7) (hst : rest.length ≤ 4) (hdp : d + 1 ≤ G.1) (hmc : kc + mc ≤ G.2.1 ∧ ks + ms ≤ G.2.2.1) (k : ∀ r w', Q r w' → AW (mX10_build, G) 211 L (r.toList ++ rest) w' (kc + mc) (ks + ms)) : AW (mX10_build, G) 208 L (.int x1 :: .int x0 :: .ref q :: rest) w kc ks := a_callV [.int x0, .int x1] rest dX10_build_208 vX7_addBuilder lk470 hC hq rfl rfl hst hdp hmc k
theorem kX10_build_218 {G : Nat × Nat × Nat × Option (Nat × (Nat → Int32)) × (Option Value → qW → Prop)} {L : qL} {w : qW} {kc ks : Nat} {rest : List Value} {q : Nat} {x0 : Int32} {x1 : Int32} {d mc ms : Nat} {Q : Option Value → qW → Prop} (hC : CT mX7_addInput d mc ms [.ref q, .int x0, .int x1] w Q) (hq : qci w q = some 7) (hst : rest.length ≤ 4) (hdp : d + 1 ≤ G.1) (hmc : kc + mc ≤ G.2.1 ∧ ks + ms ≤ G.2.2.1) (k : ∀ r w', Q r w' → AW (mX10_build, G) 221 L (r.toList ++ rest) w' (kc + mc) (ks + ms)) : AW (mX10_build, G) 218 L (.int x1 :: .int x0 :: .ref q :: rest) w kc ks := a_callV [.int x0, .int x1] rest dX10_build_218 vX7_addInput lk474 hC hq rfl rfl hst hdp hmc k
theorem kX10_build_229 {G : Nat × Nat × Nat × Option (Nat × (Nat → Int32)) × (Option Value → qW → Prop)} {L : qL} {w : qW} {kc ks : Nat} {rest : List Value} {q : Nat} {x0 : Int32} {x1 : Int32} {d mc ms : Nat} {Q : Option Value → qW → Prop} (hC : CT mX7_addInput d mc ms [.ref q, .int x0, .int x1] w Q) (hq : qci w q = some 7) (hst : rest.length ≤ 4) (hdp : d + 1 ≤ G.1) (hmc : kc + mc ≤ G.2.1 ∧ ks + ms ≤ G.2.2.1) (k : ∀ r w', Q r w' → AW (mX10_build, G) 232 L (r.toList ++ rest) w' (kc + mc) (ks + ms)) : AW (mX10_build, G) 229 L (.int x1 :: .int x0 :: .ref q :: rest) w kc ks := a_callV [.int x0, .int x1] rest dX10_build_229 vX7_addInput lk474 hC hq rfl rfl hst hdp hmc k
theorem kX10_build_240 {G : Nat × Nat × Nat × Option (Nat × (Nat → Int32)) × (Option Value → qW → Prop)} {L : qL} {w : qW} {kc ks : Nat} {rest : List Value} {q : Nat} {x0 : Int32} {x1 : Int32} {d mc ms : Nat} {Q : Option Value → qW → Prop} (hC : CT mX7_addInput d mc ms [.ref q, .int x0, .int x1] w Q) (hq : qci w q = some 7) (hst : rest.length ≤ 4) (hdp : d + 1 ≤ G.1) (hmc : kc + mc ≤ G.2.1 ∧ ks + ms ≤ G.2.2.1) (k : ∀ r w', Q r w' → AW (mX10_build, G) 243 L (r.toList ++ rest) w' (kc + mc) (ks + ms)) : AW (mX10_build, G) 240 L (.int x1 :: .int x0 :: .ref q :: rest) w kc ks := a_callV [.int x0, .int x1] rest dX10_build_240 vX7_addInput lk474 hC hq rfl rfl hst hdp hmc k
theorem kX10_build_246 {G : Nat × Nat × Nat × Option (Nat × (Nat → Int32)) × (Option Value → qW → Prop)} {L : qL} {w : qW} {kc ks : Nat} {rest : List Value} {q : Nat} {x0 : Int32} {d mc ms : Nat} {Q : Option Value → qW → Prop} (hC : CT mX10_settle d mc ms [.ref q, .int x0] w Q) (hq : qci w q = some 10) (hst : rest.length ≤ 4) (hdp : d + 1 ≤ G.1) (hmc : kc + mc ≤ G.2.1 ∧ ks + ms ≤ G.2.2.1) (k : ∀ r w', Q r w' → AW (mX10_build, G) 249 L (r.toList ++ rest) w' (kc + mc) (ks + ms)) : AW (mX10_build, G) 246 L (.int x0 :: .ref q :: rest) w kc ks := a_callV [.int x0] rest dX10_build_246 vX10_settle lk387 hC hq rfl rfl hst hdp hmc k
theorem dX10_mix_0 : decode cX10_mix 0 = .ok (.iload_n 1, 1) := by decide +kernel
theorem dX10_mix_1 : decode cX10_mix 1 = .ok (.invokestatic 106, 3) := by decide +kernel
theorem dX10_mix_4 : decode cX10_mix 4 = .ok (.ifCond .eq 26, 3) := by decide +kernel
theorem dX10_mix_7 : decode cX10_mix 7 = .ok (.aload_n 0, 1) := by decide +kernel
theorem dX10_mix_8 : decode cX10_mix 8 = .ok (.iload_n 2, 1) := by decide +kernel
theorem dX10_mix_9 : decode cX10_mix 9 = .ok (.iload_n 3, 1) := by decide +kernel
theorem dX10_mix_10 : decode cX10_mix 10 = .ok (.iload 4, 2) := by decide +kernel
theorem dX10_mix_12 : decode cX10_mix 12 = .ok (.invokevirtual 109, 3) := by decide +kernel
theorem dX10_mix_15 : decode cX10_mix 15 = .ok (.ifCond .eq 15, 3) := by decide +kernel
theorem dX10_mix_18 : decode cX10_mix 18 = .ok (.aload_n 0, 1) := by decide +kernel
theorem dX10_mix_19 : decode cX10_mix 19 = .ok (.iload_n 1, 1) := by decide +kernel
theorem dX10_mix_20 : decode cX10_mix 20 = .ok (.iload_n 2, 1) := by decide +kernel
theorem dX10_mix_21 : decode cX10_mix 21 = .ok (.iload_n 3, 1) := by decide +kernel
theorem dX10_mix_22 : decode cX10_mix 22 = .ok (.iload 4, 2) := by decide +kernel
theorem dX10_mix_24 : decode cX10_mix 24 = .ok (.invokevirtual 120, 3) := by decide +kernel
theorem dX10_mix_27 : decode cX10_mix 27 = .ok (.goto 4, 3) := by decide +kernel
theorem dX10_mix_30 : decode cX10_mix 30 = .ok (.lconst 0, 1) := by decide +kernel
theorem dX10_mix_31 : decode cX10_mix 31 = .ok (.lreturn, 1) := by decide +kernel
/-! SealLine.mix(IIII)J -/
theorem eX10_mix {d mc ms : Nat} {w : qW} {Q : Option Value → qW → Prop} {q : Nat} {x0 : Int32} {x1 : Int32} {x2 : Int32} {x3 : Int32} (h : AW (mX10_mix, d, mc, ms, none, Q) 0 [some (.ref q), some (.int x0), some (.int x1), some (.int x2), some (.int x3)] [] w 0 0) : CT mX10_mix d mc ms [.ref q, .int x0, .int x1, .int x2, .int x3] w Q := CT_of (by decide +kernel) rfl (Nat.le_of_ble_eq_true rfl) h
def bX10_mix_0 (G : Nat × Nat × Nat × Option (Nat × (Nat → Int32)) × (Option Value → qW → Prop)) : qK := (s_iload 1 (AW (mX10_mix, G) 1))
theorem oX10_mix_0 (G : Nat × Nat × Nat × Option (Nat × (Nat → Int32)) × (Option Value → qW → Prop)) : qImp (bX10_mix_0 G) (AW (mX10_mix, G) 0) := (r_iload_n dX10_mix_0 rfl qImp.rf)
def bX10_mix_4 (G : Nat × Nat × Nat × Option (Nat × (Nat → Int32)) × (Option Value → qW → Prop)) : qK := (s_if_eq (AW (mX10_mix, G) 30) (s_aload 0 (s_iload 2 (s_iload 3 (s_iload 4 (AW (mX10_mix, G) 12))))))
theorem oX10_mix_4 (G : Nat × Nat × Nat × Option (Nat × (Nat → Int32)) × (Option Value → qW → Prop)) : qImp (bX10_mix_4 G) (AW (mX10_mix, G) 4) := (r_if_eq (tgt := 30) dX10_mix_4 rfl qImp.rf (r_aload_n dX10_mix_7 rfl (r_iload_n dX10_mix_8 rfl (r_iload_n dX10_mix_9 rfl (r_iload dX10_mix_10 qImp.rf)))))
def bX10_mix_15 (G : Nat × Nat × Nat × Option (Nat × (Nat → Int32)) × (Option Value → qW → Prop)) : qK := (s_if_eq (AW (mX10_mix, G) 30) (s_aload 0 (s_iload 1 (s_iload 2 (s_iload 3 (s_iload 4 (AW (mX10_mix, G) 24)))))))
theorem oX10_mix_15 (G : Nat × Nat × Nat × Option (Nat × (Nat → Int32)) × (Option Value → qW → Prop)) : qImp (bX10_mix_15 G) (AW (mX10_mix, G) 15) := (r_if_eq (tgt := 30) dX10_mix_15 rfl qImp.rf (r_aload_n dX10_mix_18 rfl (r_iload_n dX10_mix_19 rfl (r_iload_n dX10_mix_20 rfl (r_iload_n dX10_mix_21 rfl (r_iload dX10_mix_22 qImp.rf))))))
def bX10_mix_27 (G : Nat × Nat × Nat × Option (Nat × (Nat → Int32)) × (Option Value → qW → Prop)) : qK := (AW (mX10_mix, G) 31)
theorem oX10_mix_27 (G : Nat × Nat × Nat × Option (Nat × (Nat → Int32)) × (Option Value → qW → Prop)) : qImp (bX10_mix_27 G) (AW (mX10_mix, G) 27) := (r_goto (tgt := 31) dX10_mix_27 rfl qImp.rf)
def bX10_mix_30 (G : Nat × Nat × Nat × Option (Nat × (Nat → Int32)) × (Option Value → qW → Prop)) : qK := (s_lconst 0 (AW (mX10_mix, G) 31))
theorem oX10_mix_30 (G : Nat × Nat × Nat × Option (Nat × (Nat → Int32)) × (Option Value → qW → Prop)) : qImp (bX10_mix_30 G) (AW (mX10_mix, G) 30) := (r_lconst dX10_mix_30 rfl qImp.rf)
def bX10_mix_31 (G : Nat × Nat × Nat × Option (Nat × (Nat → Int32)) × (Option Value → qW → Prop)) : qK := (s_lreturn (mX10_mix, G))
theorem oX10_mix_31 (G : Nat × Nat × Nat × Option (Nat × (Nat → Int32)) × (Option Value → qW → Prop)) : qImp (bX10_mix_31 G) (AW (mX10_mix, G) 31) := (r_lreturn dX10_mix_31 rfl)
theorem kX10_mix_1 {G : Nat × Nat × Nat × Option (Nat × (Nat → Int32)) × (Option Value → qW → Prop)} {L : qL} {w : qW} {kc ks : Nat} {rest : List Value}  {x0 : Int32} {d mc ms : Nat} {Q : Option Value → qW → Prop} (hC : CT mX10_isTool d mc ms [.int x0] w Q) (hst : rest.length ≤ 4) (hdp : d + 1 ≤ G.1) (hmc : kc + mc ≤ G.2.1 ∧ ks + ms ≤ G.2.2.1) (k : ∀ r w', Q r w' → AW (mX10_mix, G) 4 L (r.toList ++ rest) w' (kc + mc) (ks + ms)) : AW (mX10_mix, G) 1 L (.int x0 :: rest) w kc ks := a_callS [.int x0] rest dX10_mix_1 tX10_isTool lk436 hC rfl hst hdp hmc k
theorem kX10_mix_12 {G : Nat × Nat × Nat × Option (Nat × (Nat → Int32)) × (Option Value → qW → Prop)} {L : qL} {w : qW} {kc ks : Nat} {rest : List Value} {q : Nat} {x0 : Int32} {x1 : Int32} {x2 : Int32} {d mc ms : Nat} {Q : Option Value → qW → Prop} (hC : CT mX10_areInputs d mc ms [.ref q, .int x0, .int x1, .int x2] w Q) (hq : qci w q = some 10) (hst : rest.length ≤ 4) (hdp : d + 1 ≤ G.1) (hmc : kc + mc ≤ G.2.1 ∧ ks + ms ≤ G.2.2.1) (k : ∀ r w', Q r w' → AW (mX10_mix, G) 15 L (r.toList ++ rest) w' (kc + mc) (ks + ms)) : AW (mX10_mix, G) 12 L (.int x2 :: .int x1 :: .int x0 :: .ref q :: rest) w kc ks := a_callV [.int x0, .int x1, .int x2] rest dX10_mix_12 vX10_areInputs lk439 hC hq rfl rfl hst hdp hmc k
theorem kX10_mix_24 {G : Nat × Nat × Nat × Option (Nat × (Nat → Int32)) × (Option Value → qW → Prop)} {L : qL} {w : qW} {kc ks : Nat} {rest : List Value} {q : Nat} {x0 : Int32} {x1 : Int32} {x2 : Int32} {x3 : Int32} {d mc ms : Nat} {Q : Option Value → qW → Prop} (hC : CT mX10_mixed d mc ms [.ref q, .int x0, .int x1, .int x2, .int x3] w Q) (hq : qci w q = some 10) (hst : rest.length ≤ 4) (hdp : d + 1 ≤ G.1) (hmc : kc + mc ≤ G.2.1 ∧ ks + ms ≤ G.2.2.1) (k : ∀ r w', Q r w' → AW (mX10_mix, G) 27 L (r.toList ++ rest) w' (kc + mc) (ks + ms)) : AW (mX10_mix, G) 24 L (.int x3 :: .int x2 :: .int x1 :: .int x0 :: .ref q :: rest) w kc ks := a_callV [.int x0, .int x1, .int x2, .int x3] rest dX10_mix_24 vX10_mixed lk453 hC hq rfl rfl hst hdp hmc k
