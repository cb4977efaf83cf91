theorem dX9_init_0 : decode cX9_init 0 = .ok (.aload_n 0, 1) := by decide +kernel
theorem dX9_init_1 : decode cX9_init 1 = .ok (.invokespecial 3, 3) := by decide +kernel
theorem dX9_init_4 : decode cX9_init 4 = .ok (.aload_n 0, 1) := by decide +kernel
theorem dX9_init_5 : decode cX9_init 5 = .ok (.bipush 100, 2) := by decide +kernel
theorem dX9_init_7 : decode cX9_init 7 = .ok (.newarray .int, 2) := by decide +kernel
theorem dX9_init_9 : decode cX9_init 9 = .ok (.putfield 9, 3) := by decide +kernel
theorem dX9_init_12 : decode cX9_init 12 = .ok (.aload_n 0, 1) := by decide +kernel
theorem dX9_init_13 : decode cX9_init 13 = .ok (.iconst 0, 1) := by decide +kernel
theorem dX9_init_14 : decode cX9_init 14 = .ok (.putfield 15, 3) := by decide +kernel
theorem dX9_init_17 : decode cX9_init 17 = .ok (.aload_n 0, 1) := by decide +kernel
theorem dX9_init_18 : decode cX9_init 18 = .ok (.bipush 100, 2) := by decide +kernel
theorem dX9_init_20 : decode cX9_init 20 = .ok (.newarray .int, 2) := by decide +kernel
theorem dX9_init_22 : decode cX9_init 22 = .ok (.putfield 19, 3) := by decide +kernel
theorem dX9_init_25 : decode cX9_init 25 = .ok (.aload_n 0, 1) := by decide +kernel
theorem dX9_init_26 : decode cX9_init 26 = .ok (.iconst 0, 1) := by decide +kernel
theorem dX9_init_27 : decode cX9_init 27 = .ok (.putfield 22, 3) := by decide +kernel
theorem dX9_init_30 : decode cX9_init 30 = .ok (.aload_n 0, 1) := by decide +kernel
theorem dX9_init_31 : decode cX9_init 31 = .ok (.iconst 0, 1) := by decide +kernel
theorem dX9_init_32 : decode cX9_init 32 = .ok (.putfield 25, 3) := by decide +kernel
theorem dX9_init_35 : decode cX9_init 35 = .ok (.aload_n 0, 1) := by decide +kernel
theorem dX9_init_36 : decode cX9_init 36 = .ok (.iconst 0, 1) := by decide +kernel
theorem dX9_init_37 : decode cX9_init 37 = .ok (.putfield 28, 3) := by decide +kernel
theorem dX9_init_40 : decode cX9_init 40 = .ok (.aload_n 0, 1) := by decide +kernel
theorem dX9_init_41 : decode cX9_init 41 = .ok (.iconst 0, 1) := by decide +kernel
theorem dX9_init_42 : decode cX9_init 42 = .ok (.putfield 31, 3) := by decide +kernel
theorem dX9_init_45 : decode cX9_init 45 = .ok (.aload_n 0, 1) := by decide +kernel
theorem dX9_init_46 : decode cX9_init 46 = .ok (.iconst 0, 1) := by decide +kernel
theorem dX9_init_47 : decode cX9_init 47 = .ok (.putfield 34, 3) := by decide +kernel
theorem dX9_init_50 : decode cX9_init 50 = .ok (.return_, 1) := by decide +kernel
/-! SealLine$Tape.<init>()V -/
theorem eX9_init {d mc ms : Nat} {w : qW} {Q : Option Value → qW → Prop} {q : Nat} (h : AW (mX9_init, d, mc, ms, none, Q) 0 [some (.ref q)] [] w 0 0) : CT mX9_init d mc ms [.ref q] w Q := CT_of (by decide +kernel) rfl (Nat.le_of_ble_eq_true rfl) h
def bX9_init_0 (G : Nat × Nat × Nat × Option (Nat × (Nat → Int32)) × (Option Value → qW → Prop)) : qK := (s_aload 0 (s_oinit (mX9_init, G) (s_aload 0 (s_iconst 100 (s_newI (mX9_init, G) 0 (s_putR 9 0 (s_aload 0 (s_iconst 0 (s_putI 9 1 (s_aload 0 (s_iconst 100 (s_newI (mX9_init, G) 0 (s_putR 9 2 (s_aload 0 (s_iconst 0 (s_putI 9 3 (s_aload 0 (s_iconst 0 (s_putI 9 4 (s_aload 0 (s_iconst 0 (s_putI 9 5 (s_aload 0 (s_iconst 0 (s_putI 9 6 (s_aload 0 (s_iconst 0 (s_putI 9 7 (s_vreturn (mX9_init, G))))))))))))))))))))))))))))))
theorem oX9_init_0 (G : Nat × Nat × Nat × Option (Nat × (Nat → Int32)) × (Option Value → qW → Prop)) : qImp (bX9_init_0 G) (AW (mX9_init, G) 0) := (r_aload_n dX9_init_0 rfl (r_oinit dX9_init_1 lk208 lk86 lk87 (r_aload_n dX9_init_4 rfl (r_bipush dX9_init_5 rfl (r_newI0 dX9_init_7 lk113 (r_putRF dX9_init_9 fpX9_9 (fun q hq => by cases hq; rfl) rfl (fun q hq => by cases hq; rfl) (fun _ => rfl) (fun _ => rfl) (r_aload_n dX9_init_12 rfl (r_iconst dX9_init_13 rfl (r_putI dX9_init_14 fpX9_15 (fun q hq => by cases hq; rfl) (r_aload_n dX9_init_17 rfl (r_bipush dX9_init_18 rfl (r_newI0 dX9_init_20 lk113 (r_putRF dX9_init_22 fpX9_19 (fun q hq => by cases hq; rfl) rfl (fun q hq => by cases hq; rfl) (fun _ => rfl) (fun _ => rfl) (r_aload_n dX9_init_25 rfl (r_iconst dX9_init_26 rfl (r_putI dX9_init_27 fpX9_22 (fun q hq => by cases hq; rfl) (r_aload_n dX9_init_30 rfl (r_iconst dX9_init_31 rfl (r_putI dX9_init_32 fpX9_25 (fun q hq => by cases hq; rfl) (r_aload_n dX9_init_35 rfl (r_iconst dX9_init_36 rfl (r_putI dX9_init_37 fpX9_28 (fun q hq => by cases hq; rfl) (r_aload_n dX9_init_40 rfl (r_iconst dX9_init_41 rfl (r_putI dX9_init_42 fpX9_31 (fun q hq => by cases hq; rfl) (r_aload_n dX9_init_45 rfl (r_iconst dX9_init_46 rfl (r_putI dX9_init_47 fpX9_34 (fun q hq => by cases hq; rfl) (r_vreturn dX9_init_50 rfl)))))))))))))))))))))))))))))
theorem dX9_size_0 : decode cX9_size 0 = .ok (.aload_n 0, 1) := by decide +kernel
theorem dX9_size_1 : decode cX9_size 1 = .ok (.getfield 15, 3) := by decide +kernel
theorem dX9_size_4 : decode cX9_size 4 = .ok (.ireturn, 1) := by decide +kernel
/-! SealLine$Tape.size()I -/
theorem eX9_size {d mc ms : Nat} {w : qW} {Q : Option Value → qW → Prop} {q : Nat} (h : AW (mX9_size, d, mc, ms, none, Q) 0 [some (.ref q)] [] w 0 0) : CT mX9_size d mc ms [.ref q] w Q := CT_of (by decide +kernel) rfl (Nat.le_of_ble_eq_true rfl) h
def bX9_size_0 (G : Nat × Nat × Nat × Option (Nat × (Nat → Int32)) × (Option Value → qW → Prop)) : qK := (s_aload 0 (s_getfield 9 1 (s_ireturn (mX9_size, G))))
theorem oX9_size_0 (G : Nat × Nat × Nat × Option (Nat × (Nat → Int32)) × (Option Value → qW → Prop)) : qImp (bX9_size_0 G) (AW (mX9_size, G) 0) := (r_aload_n dX9_size_0 rfl (r_getfield dX9_size_1 fgX9_15 (r_ireturn dX9_size_4 rfl)))
theorem dX9_add_0 : decode cX9_add 0 = .ok (.iconst 0, 1) := by decide +kernel
theorem dX9_add_1 : decode cX9_add 1 = .ok (.istore_n 2, 1) := by decide +kernel
theorem dX9_add_2 : decode cX9_add 2 = .ok (.bipush 24, 2) := by decide +kernel
theorem dX9_add_4 : decode cX9_add 4 = .ok (.istore_n 3, 1) := by decide +kernel
theorem dX9_add_5 : decode cX9_add 5 = .ok (.iload_n 3, 1) := by decide +kernel
theorem dX9_add_6 : decode cX9_add 6 = .ok (.ifCond .lt 30, 3) := by decide +kernel
theorem dX9_add_9 : decode cX9_add 9 = .ok (.iload_n 2, 1) := by decide +kernel
theorem dX9_add_10 : decode cX9_add 10 = .ok (.iload_n 1, 1) := by decide +kernel
theorem dX9_add_11 : decode cX9_add 11 = .ok (.iload_n 3, 1) := by decide +kernel
theorem dX9_add_12 : decode cX9_add 12 = .ok (.iushr, 1) := by decide +kernel
theorem dX9_add_13 : decode cX9_add 13 = .ok (.sipush 255, 3) := by decide +kernel
theorem dX9_add_16 : decode cX9_add 16 = .ok (.iand, 1) := by decide +kernel
theorem dX9_add_17 : decode cX9_add 17 = .ok (.ifCond .eq 7, 3) := by decide +kernel
theorem dX9_add_20 : decode cX9_add 20 = .ok (.iconst 1, 1) := by decide +kernel
theorem dX9_add_21 : decode cX9_add 21 = .ok (.goto 4, 3) := by decide +kernel
theorem dX9_add_24 : decode cX9_add 24 = .ok (.iconst 0, 1) := by decide +kernel
theorem dX9_add_25 : decode cX9_add 25 = .ok (.invokestatic 37, 3) := by decide +kernel
theorem dX9_add_28 : decode cX9_add 28 = .ok (.iadd, 1) := by decide +kernel
theorem dX9_add_29 : decode cX9_add 29 = .ok (.istore_n 2, 1) := by decide +kernel
theorem dX9_add_30 : decode cX9_add 30 = .ok (.iinc 3 (-8), 3) := by decide +kernel
theorem dX9_add_33 : decode cX9_add 33 = .ok (.goto (-28), 3) := by decide +kernel
theorem dX9_add_36 : decode cX9_add 36 = .ok (.aload_n 0, 1) := by decide +kernel
theorem dX9_add_37 : decode cX9_add 37 = .ok (.getfield 15, 3) := by decide +kernel
theorem dX9_add_40 : decode cX9_add 40 = .ok (.iload_n 2, 1) := by decide +kernel
theorem dX9_add_41 : decode cX9_add 41 = .ok (.iadd, 1) := by decide +kernel
theorem dX9_add_42 : decode cX9_add 42 = .ok (.bipush 100, 2) := by decide +kernel
theorem dX9_add_44 : decode cX9_add 44 = .ok (.if_icmp .le 5, 3) := by decide +kernel
theorem dX9_add_47 : decode cX9_add 47 = .ok (.iconst (-1), 1) := by decide +kernel
theorem dX9_add_48 : decode cX9_add 48 = .ok (.ireturn, 1) := by decide +kernel
theorem dX9_add_49 : decode cX9_add 49 = .ok (.bipush 24, 2) := by decide +kernel
theorem dX9_add_51 : decode cX9_add 51 = .ok (.istore_n 3, 1) := by decide +kernel
theorem dX9_add_52 : decode cX9_add 52 = .ok (.iload_n 3, 1) := by decide +kernel
theorem dX9_add_53 : decode cX9_add 53 = .ok (.ifCond .lt 53, 3) := by decide +kernel
theorem dX9_add_56 : decode cX9_add 56 = .ok (.iload_n 1, 1) := by decide +kernel
theorem dX9_add_57 : decode cX9_add 57 = .ok (.iload_n 3, 1) := by decide +kernel
theorem dX9_add_58 : decode cX9_add 58 = .ok (.iushr, 1) := by decide +kernel
theorem dX9_add_59 : decode cX9_add 59 = .ok (.sipush 255, 3) := by decide +kernel
theorem dX9_add_62 : decode cX9_add 62 = .ok (.iand, 1) := by decide +kernel
theorem dX9_add_63 : decode cX9_add 63 = .ok (.istore 4, 2) := by decide +kernel
theorem dX9_add_65 : decode cX9_add 65 = .ok (.iload 4, 2) := by decide +kernel
theorem dX9_add_67 : decode cX9_add 67 = .ok (.ifCond .eq 33, 3) := by decide +kernel
theorem dX9_add_70 : decode cX9_add 70 = .ok (.aload_n 0, 1) := by decide +kernel
theorem dX9_add_71 : decode cX9_add 71 = .ok (.getfield 15, 3) := by decide +kernel
theorem dX9_add_74 : decode cX9_add 74 = .ok (.bipush 100, 2) := by decide +kernel
theorem dX9_add_76 : decode cX9_add 76 = .ok (.if_icmp .ge 24, 3) := by decide +kernel
theorem dX9_add_79 : decode cX9_add 79 = .ok (.aload_n 0, 1) := by decide +kernel
theorem dX9_add_80 : decode cX9_add 80 = .ok (.getfield 9, 3) := by decide +kernel
theorem dX9_add_83 : decode cX9_add 83 = .ok (.aload_n 0, 1) := by decide +kernel
theorem dX9_add_84 : decode cX9_add 84 = .ok (.getfield 15, 3) := by decide +kernel
theorem dX9_add_87 : decode cX9_add 87 = .ok (.iload 4, 2) := by decide +kernel
theorem dX9_add_89 : decode cX9_add 89 = .ok (.iastore, 1) := by decide +kernel
theorem dX9_add_90 : decode cX9_add 90 = .ok (.aload_n 0, 1) := by decide +kernel
theorem dX9_add_91 : decode cX9_add 91 = .ok (.dup, 1) := by decide +kernel
theorem dX9_add_92 : decode cX9_add 92 = .ok (.getfield 15, 3) := by decide +kernel
theorem dX9_add_95 : decode cX9_add 95 = .ok (.iconst 1, 1) := by decide +kernel
theorem dX9_add_96 : decode cX9_add 96 = .ok (.iadd, 1) := by decide +kernel
theorem dX9_add_97 : decode cX9_add 97 = .ok (.putfield 15, 3) := by decide +kernel
theorem dX9_add_100 : decode cX9_add 100 = .ok (.iinc 3 (-8), 3) := by decide +kernel
theorem dX9_add_103 : decode cX9_add 103 = .ok (.goto (-51), 3) := by decide +kernel
theorem dX9_add_106 : decode cX9_add 106 = .ok (.aload_n 0, 1) := by decide +kernel
theorem dX9_add_107 : decode cX9_add 107 = .ok (.getfield 15, 3) := by decide +kernel
theorem dX9_add_110 : decode cX9_add 110 = .ok (.ireturn, 1) := by decide +kernel
/-! SealLine$Tape.add(I)I -/
theorem eX9_add {d mc ms : Nat} {w : qW} {Q : Option Value → qW → Prop} {q : Nat} {x0 : Int32} (h : AW (mX9_add, d, mc, ms, none, Q) 0 [some (.ref q), some (.int x0), none, none, none] [] w 0 0) : CT mX9_add d mc ms [.ref q, .int x0] w Q := CT_of (by decide +kernel) rfl (Nat.le_of_ble_eq_true rfl) h
def bX9_add_0 (G : Nat × Nat × Nat × Option (Nat × (Nat → Int32)) × (Option Value → qW → Prop)) : qK := (s_iconst 0 (s_istore 2 1 (s_iconst 24 (s_istore 3 2 (AW (mX9_add, G) 5)))))
theorem oX9_add_0 (G : Nat × Nat × Nat × Option (Nat × (Nat → Int32)) × (Option Value → qW → Prop)) : qImp (bX9_add_0 G) (AW (mX9_add, G) 0) := (r_iconst dX9_add_0 rfl (r_istore_n dX9_add_1 rfl (Or.inr rfl) (Nat.le_of_ble_eq_true rfl) (r_bipush dX9_add_2 rfl (r_istore_n dX9_add_4 rfl (Or.inr rfl) (Nat.le_of_ble_eq_true rfl) qImp.rf))))
def bX9_add_5 (G : Nat × Nat × Nat × Option (Nat × (Nat → Int32)) × (Option Value → qW → Prop)) : qK := (s_iload 3 (s_if_lt (AW (mX9_add, G) 36) (s_iload 2 (s_iload 1 (s_iload 3 (s_iushr (s_iconst 255 (s_iand (s_if_eq (AW (mX9_add, G) 24) (s_iconst 1 (AW (mX9_add, G) 25)))))))))))
theorem oX9_add_5 (G : Nat × Nat × Nat × Option (Nat × (Nat → Int32)) × (Option Value → qW → Prop)) : qImp (bX9_add_5 G) (AW (mX9_add, G) 5) := (r_iload_n dX9_add_5 rfl (r_if_lt (tgt := 36) dX9_add_6 rfl qImp.rf (r_iload_n dX9_add_9 rfl (r_iload_n dX9_add_10 rfl (r_iload_n dX9_add_11 rfl (r_iushr dX9_add_12 (r_sipush dX9_add_13 rfl (r_iand dX9_add_16 (r_if_eq (tgt := 24) dX9_add_17 rfl qImp.rf (r_iconst dX9_add_20 rfl (r_goto (tgt := 25) dX9_add_21 rfl qImp.rf)))))))))))
def bX9_add_24 (G : Nat × Nat × Nat × Option (Nat × (Nat → Int32)) × (Option Value → qW → Prop)) : qK := (s_iconst 0 (AW (mX9_add, G) 25))
theorem oX9_add_24 (G : Nat × Nat × Nat × Option (Nat × (Nat → Int32)) × (Option Value → qW → Prop)) : qImp (bX9_add_24 G) (AW (mX9_add, G) 24) := (r_iconst dX9_add_24 rfl qImp.rf)
def bX9_add_28 (G : Nat × Nat × Nat × Option (Nat × (Nat → Int32)) × (Option Value → qW → Prop)) : qK := (s_iadd (s_istore 2 1 (s_iinc 3 2 (-8) (AW (mX9_add, G) 5))))
theorem oX9_add_28 (G : Nat × Nat × Nat × Option (Nat × (Nat → Int32)) × (Option Value → qW → Prop)) : qImp (bX9_add_28 G) (AW (mX9_add, G) 28) := (r_iadd dX9_add_28 (r_istore_n dX9_add_29 rfl (Or.inr rfl) (Nat.le_of_ble_eq_true rfl) (r_iinc dX9_add_30 rfl (Or.inr rfl) (Nat.le_of_ble_eq_true rfl) (r_goto (tgt := 5) dX9_add_33 rfl qImp.rf))))
def bX9_add_36 (G : Nat × Nat × Nat × Option (Nat × (Nat → Int32)) × (Option Value → qW → Prop)) : qK := (s_aload 0 (s_getfield 9 1 (s_iload 2 (s_iadd (s_iconst 100 (s_ic_le (AW (mX9_add, G) 49) (s_iconst (-1) (s_ireturn (mX9_add, G)))))))))
theorem oX9_add_36 (G : Nat × Nat × Nat × Option (Nat × (Nat → Int32)) × (Option Value → qW → Prop)) : qImp (bX9_add_36 G) (AW (mX9_add, G) 36) := (r_aload_n dX9_add_36 rfl (r_getfield dX9_add_37 fgX9_15 (r_iload_n dX9_add_40 rfl (r_iadd dX9_add_41 (r_bipush dX9_add_42 rfl (r_ic_le (tgt := 49) dX9_add_44 rfl qImp.rf (r_iconst dX9_add_47 rfl (r_ireturn dX9_add_48 rfl))))))))
def bX9_add_49 (G : Nat × Nat × Nat × Option (Nat × (Nat → Int32)) × (Option Value → qW → Prop)) : qK := (s_iconst 24 (s_istore 3 2 (AW (mX9_add, G) 52)))
theorem oX9_add_49 (G : Nat × Nat × Nat × Option (Nat × (Nat → Int32)) × (Option Value → qW → Prop)) : qImp (bX9_add_49 G) (AW (mX9_add, G) 49) := (r_bipush dX9_add_49 rfl (r_istore_n dX9_add_51 rfl (Or.inr rfl) (Nat.le_of_ble_eq_true rfl) qImp.rf))
def bX9_add_52 (G : Nat × Nat × Nat × Option (Nat × (Nat → Int32)) × (Option Value → qW → Prop)) : qK := (s_iload 3 (s_if_lt (AW (mX9_add, G) 106) (s_iload 1 (s_iload 3 (s_iushr (s_iconst 255 (s_iand (s_istore 4 3 (s_iload 4 (s_if_eq (AW (mX9_add, G) 100) (s_aload 0 (s_getfield 9 1 (s_iconst 100 (s_ic_ge (AW (mX9_add, G) 100) (s_aload 0 (s_getfield 9 0 (s_aload 0 (s_getfield 9 1 (s_iload 4 (s_iastore (s_aload 0 (s_dup (s_getfield 9 1 (s_iconst 1 (s_iadd (s_putI 9 1 (AW (mX9_add, G) 100)))))))))))))))))))))))))))
theorem oX9_add_52 (G : Nat × Nat × Nat × Option (Nat × (Nat → Int32)) × (Option Value → qW → Prop)) : qImp (bX9_add_52 G) (AW (mX9_add, G) 52) := (r_iload_n dX9_add_52 rfl (r_if_lt (tgt := 106) dX9_add_53 rfl qImp.rf (r_iload_n dX9_add_56 rfl (r_iload_n dX9_add_57 rfl (r_iushr dX9_add_58 (r_sipush dX9_add_59 rfl (r_iand dX9_add_62 (r_istore dX9_add_63 (Or.inr rfl) (Nat.le_of_ble_eq_true rfl) (r_iload dX9_add_65 (r_if_eq (tgt := 100) dX9_add_67 rfl qImp.rf (r_aload_n dX9_add_70 rfl (r_getfield dX9_add_71 fgX9_15 (r_bipush dX9_add_74 rfl (r_ic_ge (tgt := 100) dX9_add_76 rfl qImp.rf (r_aload_n dX9_add_79 rfl (r_getfield dX9_add_80 fgX9_9 (r_aload_n dX9_add_83 rfl (r_getfield dX9_add_84 fgX9_15 (r_iload dX9_add_87 (r_iastore dX9_add_89 (r_aload_n dX9_add_90 rfl (r_dup dX9_add_91 (r_getfield dX9_add_92 fgX9_15 (r_iconst dX9_add_95 rfl (r_iadd dX9_add_96 (r_putI dX9_add_97 fpX9_15 (fun q hq => by cases hq; rfl) qImp.rf))))))))))))))))))))))))))
def bX9_add_100 (G : Nat × Nat × Nat × Option (Nat × (Nat → Int32)) × (Option Value → qW → Prop)) : qK := (s_iinc 3 2 (-8) (AW (mX9_add, G) 52))
theorem oX9_add_100 (G : Nat × Nat × Nat × Option (Nat × (Nat → Int32)) × (Option Value → qW → Prop)) : qImp (bX9_add_100 G) (AW (mX9_add, G) 100) := (r_iinc dX9_add_100 rfl (Or.inr rfl) (Nat.le_of_ble_eq_true rfl) (r_goto (tgt := 52) dX9_add_103 rfl qImp.rf))
def bX9_add_106 (G : Nat × Nat × Nat × Option (Nat × (Nat → Int32)) × (Option Value → qW → Prop)) : qK := (s_aload 0 (s_getfield 9 1 (s_ireturn (mX9_add, G))))
theorem oX9_add_106 (G : Nat × Nat × Nat × Option (Nat × (Nat → Int32)) × (Option Value → qW → Prop)) : qImp (bX9_add_106 G) (AW (mX9_add, G) 106) := (r_aload_n dX9_add_106 rfl (r_getfield dX9_add_107 fgX9_15 (r_ireturn dX9_add_110 rfl)))
theorem kX9_add_25 {G : Nat × Nat × Nat × Option (Nat × (Nat → Int32)) × (Option Value → qW → Prop)} {L : qL} {w : qW} {kc ks : Nat} {rest : List Value}  {x0 : Int32} {d mc ms : Nat} {Q : Option Value → qW → Prop} (hC : CT mX10_bit d mc ms [.int x0] w Q) (hst : rest.length ≤ 4) (hdp : d + 1 ≤ G.1) (hmc : kc + mc ≤ G.2.1 ∧ ks + ms ≤ G.2.2.1) (k : ∀ r w', Q r w' → AW (mX9_add, G) 28 L (r.toList ++ rest) w' (kc + mc) (ks + ms)) : AW (mX9_add, G) 25 L (.int x0 :: rest) w kc ks := a_callSN [.int x0] rest dX9_add_25 tX10_bit lnX9_37 hC rfl hst hdp hmc k
theorem dX9_cut_0 : decode cX9_cut 0 = .ok (.iload_n 1, 1) := by decide +kernel
theorem dX9_cut_1 : decode cX9_cut 1 = .ok (.ifCond .lt 11, 3) := by decide +kernel
theorem dX9_cut_4 : decode cX9_cut 4 = .ok (.iload_n 1, 1) := by decide +kernel
theorem dX9_cut_5 : decode cX9_cut 5 = .ok (.aload_n 0, 1) := by decide +kernel
theorem dX9_cut_6 : decode cX9_cut 6 = .ok (.getfield 15, 3) := by decide +kernel
theorem dX9_cut_9 : decode cX9_cut 9 = .ok (.if_icmp .le 5, 3) := by decide +kernel
theorem dX9_cut_12 : decode cX9_cut 12 = .ok (.iconst 0, 1) := by decide +kernel
theorem dX9_cut_13 : decode cX9_cut 13 = .ok (.ireturn, 1) := by decide +kernel
theorem dX9_cut_14 : decode cX9_cut 14 = .ok (.aload_n 0, 1) := by decide +kernel
theorem dX9_cut_15 : decode cX9_cut 15 = .ok (.iload_n 1, 1) := by decide +kernel
theorem dX9_cut_16 : decode cX9_cut 16 = .ok (.putfield 15, 3) := by decide +kernel
theorem dX9_cut_19 : decode cX9_cut 19 = .ok (.iconst 1, 1) := by decide +kernel
theorem dX9_cut_20 : decode cX9_cut 20 = .ok (.ireturn, 1) := by decide +kernel
/-! SealLine$Tape.cut(I)Z -/
theorem eX9_cut {d mc ms : Nat} {w : qW} {Q : Option Value → qW → Prop} {q : Nat} {x0 : Int32} (h : AW (mX9_cut, d, mc, ms, none, Q) 0 [some (.ref q), some (.int x0)] [] w 0 0) : CT mX9_cut d mc ms [.ref q, .int x0] w Q := CT_of (by decide +kernel) rfl (Nat.le_of_ble_eq_true rfl) h
def bX9_cut_0 (G : Nat × Nat × Nat × Option (Nat × (Nat → Int32)) × (Option Value → qW → Prop)) : qK := (s_iload 1 (s_if_lt (AW (mX9_cut, G) 12) (s_iload 1 (s_aload 0 (s_getfield 9 1 (s_ic_le (AW (mX9_cut, G) 14) (AW (mX9_cut, G) 12)))))))
theorem oX9_cut_0 (G : Nat × Nat × Nat × Option (Nat × (Nat → Int32)) × (Option Value → qW → Prop)) : qImp (bX9_cut_0 G) (AW (mX9_cut, G) 0) := (r_iload_n dX9_cut_0 rfl (r_if_lt (tgt := 12) dX9_cut_1 rfl qImp.rf (r_iload_n dX9_cut_4 rfl (r_aload_n dX9_cut_5 rfl (r_getfield dX9_cut_6 fgX9_15 (r_ic_le (tgt := 14) dX9_cut_9 rfl qImp.rf qImp.rf))))))
def bX9_cut_12 (G : Nat × Nat × Nat × Option (Nat × (Nat → Int32)) × (Option Value → qW → Prop)) : qK := (s_iconst 0 (s_zreturn (mX9_cut, G)))
theorem oX9_cut_12 (G : Nat × Nat × Nat × Option (Nat × (Nat → Int32)) × (Option Value → qW → Prop)) : qImp (bX9_cut_12 G) (AW (mX9_cut, G) 12) := (r_iconst dX9_cut_12 rfl (r_zreturn dX9_cut_13 rfl))
def bX9_cut_14 (G : Nat × Nat × Nat × Option (Nat × (Nat → Int32)) × (Option Value → qW → Prop)) : qK := (s_aload 0 (s_iload 1 (s_putI 9 1 (s_iconst 1 (s_zreturn (mX9_cut, G))))))
theorem oX9_cut_14 (G : Nat × Nat × Nat × Option (Nat × (Nat → Int32)) × (Option Value → qW → Prop)) : qImp (bX9_cut_14 G) (AW (mX9_cut, G) 14) := (r_aload_n dX9_cut_14 rfl (r_iload_n dX9_cut_15 rfl (r_putI dX9_cut_16 fpX9_15 (fun q hq => by cases hq; rfl) (r_iconst dX9_cut_19 rfl (r_zreturn dX9_cut_20 rfl)))))
theorem dX9_isDigit_0 : decode cX9_isDigit 0 = .ok (.iload_n 0, 1) := by decide +kernel
theorem dX9_isDigit_1 : decode cX9_isDigit 1 = .ok (.bipush 48, 2) := by decide +kernel
theorem dX9_isDigit_3 : decode cX9_isDigit 3 = .ok (.if_icmp .lt 13, 3) := by decide +kernel
theorem dX9_isDigit_6 : decode cX9_isDigit 6 = .ok (.iload_n 0, 1) := by decide +kernel
theorem dX9_isDigit_7 : decode cX9_isDigit 7 = .ok (.bipush 57, 2) := by decide +kernel
theorem dX9_isDigit_9 : decode cX9_isDigit 9 = .ok (.if_icmp .gt 7, 3) := by decide +kernel
theorem dX9_isDigit_12 : decode cX9_isDigit 12 = .ok (.iconst 1, 1) := by decide +kernel
theorem dX9_isDigit_13 : decode cX9_isDigit 13 = .ok (.goto 4, 3) := by decide +kernel
theorem dX9_isDigit_16 : decode cX9_isDigit 16 = .ok (.iconst 0, 1) := by decide +kernel
theorem dX9_isDigit_17 : decode cX9_isDigit 17 = .ok (.ireturn, 1) := by decide +kernel
/-! SealLine$Tape.isDigit(I)Z -/
theorem eX9_isDigit {d mc ms : Nat} {w : qW} {Q : Option Value → qW → Prop} {x0 : Int32} (h : AW (mX9_isDigit, d, mc, ms, none, Q) 0 [some (.int x0)] [] w 0 0) : CT mX9_isDigit d mc ms [.int x0] w Q := CT_of (by decide +kernel) rfl (Nat.le_of_ble_eq_true rfl) h
def bX9_isDigit_0 (G : Nat × Nat × Nat × Option (Nat × (Nat → Int32)) × (Option Value → qW → Prop)) : qK := (s_iload 0 (s_iconst 48 (s_ic_lt (AW (mX9_isDigit, G) 16) (s_iload 0 (s_iconst 57 (s_ic_gt (AW (mX9_isDigit, G) 16) (s_iconst 1 (AW (mX9_isDigit, G) 17))))))))
theorem oX9_isDigit_0 (G : Nat × Nat × Nat × Option (Nat × (Nat → Int32)) × (Option Value → qW → Prop)) : qImp (bX9_isDigit_0 G) (AW (mX9_isDigit, G) 0) := (r_iload_n dX9_isDigit_0 rfl (r_bipush dX9_isDigit_1 rfl (r_ic_lt (tgt := 16) dX9_isDigit_3 rfl qImp.rf (r_iload_n dX9_isDigit_6 rfl (r_bipush dX9_isDigit_7 rfl (r_ic_gt (tgt := 16) dX9_isDigit_9 rfl qImp.rf (r_iconst dX9_isDigit_12 rfl (r_goto (tgt := 17) dX9_isDigit_13 rfl qImp.rf))))))))
def bX9_isDigit_16 (G : Nat × Nat × Nat × Option (Nat × (Nat → Int32)) × (Option Value → qW → Prop)) : qK := (s_iconst 0 (AW (mX9_isDigit, G) 17))
theorem oX9_isDigit_16 (G : Nat × Nat × Nat × Option (Nat × (Nat → Int32)) × (Option Value → qW → Prop)) : qImp (bX9_isDigit_16 G) (AW (mX9_isDigit, G) 16) := (r_iconst dX9_isDigit_16 rfl qImp.rf)
def bX9_isDigit_17 (G : Nat × Nat × Nat × Option (Nat × (Nat → Int32)) × (Option Value → qW → Prop)) : qK := (s_zreturn (mX9_isDigit, G))
theorem oX9_isDigit_17 (G : Nat × Nat × Nat × Option (Nat × (Nat → Int32)) × (Option Value → qW → Prop)) : qImp (bX9_isDigit_17 G) (AW (mX9_isDigit, G) 17) := (r_zreturn dX9_isDigit_17 rfl)
theorem dX9_lengthenNumber_0 : decode cX9_lengthenNumber 0 = .ok (.aload_n 0, 1) := by decide +kernel
theorem dX9_lengthenNumber_1 : decode cX9_lengthenNumber 1 = .ok (.getfield 22, 3) := by decide +kernel
theorem dX9_lengthenNumber_4 : decode cX9_lengthenNumber 4 = .ok (.ifCond .le 47, 3) := by decide +kernel
theorem dX9_lengthenNumber_7 : decode cX9_lengthenNumber 7 = .ok (.aload_n 0, 1) := by decide +kernel
theorem dX9_lengthenNumber_8 : decode cX9_lengthenNumber 8 = .ok (.getfield 22, 3) := by decide +kernel
theorem dX9_lengthenNumber_11 : decode cX9_lengthenNumber 11 = .ok (.bipush 100, 2) := by decide +kernel
theorem dX9_lengthenNumber_13 : decode cX9_lengthenNumber 13 = .ok (.if_icmp .gt 38, 3) := by decide +kernel
theorem dX9_lengthenNumber_16 : decode cX9_lengthenNumber 16 = .ok (.aload_n 0, 1) := by decide +kernel
theorem dX9_lengthenNumber_17 : decode cX9_lengthenNumber 17 = .ok (.getfield 19, 3) := by decide +kernel
theorem dX9_lengthenNumber_20 : decode cX9_lengthenNumber 20 = .ok (.aload_n 0, 1) := by decide +kernel
theorem dX9_lengthenNumber_21 : decode cX9_lengthenNumber 21 = .ok (.getfield 22, 3) := by decide +kernel
theorem dX9_lengthenNumber_24 : decode cX9_lengthenNumber 24 = .ok (.iconst 1, 1) := by decide +kernel
theorem dX9_lengthenNumber_25 : decode cX9_lengthenNumber 25 = .ok (.isub, 1) := by decide +kernel
theorem dX9_lengthenNumber_26 : decode cX9_lengthenNumber 26 = .ok (.iaload, 1) := by decide +kernel
theorem dX9_lengthenNumber_27 : decode cX9_lengthenNumber 27 = .ok (.bipush 100, 2) := by decide +kernel
theorem dX9_lengthenNumber_29 : decode cX9_lengthenNumber 29 = .ok (.irem, 1) := by decide +kernel
theorem dX9_lengthenNumber_30 : decode cX9_lengthenNumber 30 = .ok (.istore_n 2, 1) := by decide +kernel
theorem dX9_lengthenNumber_31 : decode cX9_lengthenNumber 31 = .ok (.aload_n 0, 1) := by decide +kernel
theorem dX9_lengthenNumber_32 : decode cX9_lengthenNumber 32 = .ok (.getfield 19, 3) := by decide +kernel
theorem dX9_lengthenNumber_35 : decode cX9_lengthenNumber 35 = .ok (.aload_n 0, 1) := by decide +kernel
theorem dX9_lengthenNumber_36 : decode cX9_lengthenNumber 36 = .ok (.getfield 22, 3) := by decide +kernel
theorem dX9_lengthenNumber_39 : decode cX9_lengthenNumber 39 = .ok (.iconst 1, 1) := by decide +kernel
theorem dX9_lengthenNumber_40 : decode cX9_lengthenNumber 40 = .ok (.isub, 1) := by decide +kernel
theorem dX9_lengthenNumber_41 : decode cX9_lengthenNumber 41 = .ok (.dup2, 1) := by decide +kernel
theorem dX9_lengthenNumber_42 : decode cX9_lengthenNumber 42 = .ok (.iaload, 1) := by decide +kernel
theorem dX9_lengthenNumber_43 : decode cX9_lengthenNumber 43 = .ok (.bipush 9, 2) := by decide +kernel
theorem dX9_lengthenNumber_45 : decode cX9_lengthenNumber 45 = .ok (.iload_n 2, 1) := by decide +kernel
theorem dX9_lengthenNumber_46 : decode cX9_lengthenNumber 46 = .ok (.imul, 1) := by decide +kernel
theorem dX9_lengthenNumber_47 : decode cX9_lengthenNumber 47 = .ok (.iload_n 1, 1) := by decide +kernel
theorem dX9_lengthenNumber_48 : decode cX9_lengthenNumber 48 = .ok (.iadd, 1) := by decide +kernel
theorem dX9_lengthenNumber_49 : decode cX9_lengthenNumber 49 = .ok (.iadd, 1) := by decide +kernel
theorem dX9_lengthenNumber_50 : decode cX9_lengthenNumber 50 = .ok (.iastore, 1) := by decide +kernel
theorem dX9_lengthenNumber_51 : decode cX9_lengthenNumber 51 = .ok (.return_, 1) := by decide +kernel
/-! SealLine$Tape.lengthenNumber(I)V -/
theorem eX9_lengthenNumber {d mc ms : Nat} {w : qW} {Q : Option Value → qW → Prop} {q : Nat} {x0 : Int32} (h : AW (mX9_lengthenNumber, d, mc, ms, none, Q) 0 [some (.ref q), some (.int x0), none] [] w 0 0) : CT mX9_lengthenNumber d mc ms [.ref q, .int x0] w Q := CT_of (by decide +kernel) rfl (Nat.le_of_ble_eq_true rfl) h
def bX9_lengthenNumber_0 (G : Nat × Nat × Nat × Option (Nat × (Nat → Int32)) × (Option Value → qW → Prop)) : qK := (s_aload 0 (s_getfield 9 3 (s_if_le (AW (mX9_lengthenNumber, G) 51) (s_aload 0 (s_getfield 9 3 (s_iconst 100 (s_ic_gt (AW (mX9_lengthenNumber, G) 51) (s_aload 0 (s_getfield 9 2 (s_aload 0 (s_getfield 9 3 (s_iconst 1 (s_isub (s_iaload (mX9_lengthenNumber, G) (s_iconst 100 (s_irem (s_istore 2 1 (s_aload 0 (s_getfield 9 2 (s_aload 0 (s_getfield 9 3 (s_iconst 1 (s_isub (s_dup2 (s_iaload (mX9_lengthenNumber, G) (s_iconst 9 (s_iload 2 (s_imul (s_iload 1 (s_iadd (s_iadd (s_iastore (AW (mX9_lengthenNumber, G) 51)))))))))))))))))))))))))))))))))
theorem oX9_lengthenNumber_0 (G : Nat × Nat × Nat × Option (Nat × (Nat → Int32)) × (Option Value → qW → Prop)) : qImp (bX9_lengthenNumber_0 G) (AW (mX9_lengthenNumber, G) 0) := (r_aload_n dX9_lengthenNumber_0 rfl (r_getfield dX9_lengthenNumber_1 fgX9_22 (r_if_le (tgt := 51) dX9_lengthenNumber_4 rfl qImp.rf (r_aload_n dX9_lengthenNumber_7 rfl (r_getfield dX9_lengthenNumber_8 fgX9_22 (r_bipush dX9_lengthenNumber_11 rfl (r_ic_gt (tgt := 51) dX9_lengthenNumber_13 rfl qImp.rf (r_aload_n dX9_lengthenNumber_16 rfl (r_getfield dX9_lengthenNumber_17 fgX9_19 (r_aload_n dX9_lengthenNumber_20 rfl (r_getfield dX9_lengthenNumber_21 fgX9_22 (r_iconst dX9_lengthenNumber_24 rfl (r_isub dX9_lengthenNumber_25 (r_iaload dX9_lengthenNumber_26 (r_bipush dX9_lengthenNumber_27 rfl (r_irem dX9_lengthenNumber_29 (r_istore_n dX9_lengthenNumber_30 rfl (Or.inr rfl) (Nat.le_of_ble_eq_true rfl) (r_aload_n dX9_lengthenNumber_31 rfl (r_getfield dX9_lengthenNumber_32 fgX9_19 (r_aload_n dX9_lengthenNumber_35 rfl (r_getfield dX9_lengthenNumber_36 fgX9_22 (r_iconst dX9_lengthenNumber_39 rfl (r_isub dX9_lengthenNumber_40 (r_dup2 dX9_lengthenNumber_41 (r_iaload dX9_lengthenNumber_42 (r_bipush dX9_lengthenNumber_43 rfl (r_iload_n dX9_lengthenNumber_45 rfl (r_imul dX9_lengthenNumber_46 (r_iload_n dX9_lengthenNumber_47 rfl (r_iadd dX9_lengthenNumber_48 (r_iadd dX9_lengthenNumber_49 (r_iastore dX9_lengthenNumber_50 qImp.rf))))))))))))))))))))))))))))))))
def bX9_lengthenNumber_51 (G : Nat × Nat × Nat × Option (Nat × (Nat → Int32)) × (Option Value → qW → Prop)) : qK := (s_vreturn (mX9_lengthenNumber, G))
theorem oX9_lengthenNumber_51 (G : Nat × Nat × Nat × Option (Nat × (Nat → Int32)) × (Option Value → qW → Prop)) : qImp (bX9_lengthenNumber_51 G) (AW (mX9_lengthenNumber, G) 51) := (r_vreturn dX9_lengthenNumber_51 rfl)
theorem dX9_addStep_0 : decode cX9_addStep 0 = .ok (.aload_n 0, 1) := by decide +kernel
theorem dX9_addStep_1 : decode cX9_addStep 1 = .ok (.getfield 22, 3) := by decide +kernel
theorem dX9_addStep_4 : decode cX9_addStep 4 = .ok (.bipush 100, 2) := by decide +kernel
theorem dX9_addStep_6 : decode cX9_addStep 6 = .ok (.if_icmp .ge 23, 3) := by decide +kernel
theorem dX9_addStep_9 : decode cX9_addStep 9 = .ok (.aload_n 0, 1) := by decide +kernel
theorem dX9_addStep_10 : decode cX9_addStep 10 = .ok (.getfield 19, 3) := by decide +kernel
theorem dX9_addStep_13 : decode cX9_addStep 13 = .ok (.aload_n 0, 1) := by decide +kernel
theorem dX9_addStep_14 : decode cX9_addStep 14 = .ok (.getfield 22, 3) := by decide +kernel
theorem dX9_addStep_17 : decode cX9_addStep 17 = .ok (.iload_n 1, 1) := by decide +kernel
theorem dX9_addStep_18 : decode cX9_addStep 18 = .ok (.iastore, 1) := by decide +kernel
theorem dX9_addStep_19 : decode cX9_addStep 19 = .ok (.aload_n 0, 1) := by decide +kernel
theorem dX9_addStep_20 : decode cX9_addStep 20 = .ok (.dup, 1) := by decide +kernel
theorem dX9_addStep_21 : decode cX9_addStep 21 = .ok (.getfield 22, 3) := by decide +kernel
theorem dX9_addStep_24 : decode cX9_addStep 24 = .ok (.iconst 1, 1) := by decide +kernel
theorem dX9_addStep_25 : decode cX9_addStep 25 = .ok (.iadd, 1) := by decide +kernel
theorem dX9_addStep_26 : decode cX9_addStep 26 = .ok (.putfield 22, 3) := by decide +kernel
theorem dX9_addStep_29 : decode cX9_addStep 29 = .ok (.return_, 1) := by decide +kernel
/-! SealLine$Tape.addStep(I)V -/
theorem eX9_addStep {d mc ms : Nat} {w : qW} {Q : Option Value → qW → Prop} {q : Nat} {x0 : Int32} (h : AW (mX9_addStep, d, mc, ms, none, Q) 0 [some (.ref q), some (.int x0)] [] w 0 0) : CT mX9_addStep d mc ms [.ref q, .int x0] w Q := CT_of (by decide +kernel) rfl (Nat.le_of_ble_eq_true rfl) h
def bX9_addStep_0 (G : Nat × Nat × Nat × Option (Nat × (Nat → Int32)) × (Option Value → qW → Prop)) : qK := (s_aload 0 (s_getfield 9 3 (s_iconst 100 (s_ic_ge (AW (mX9_addStep, G) 29) (s_aload 0 (s_getfield 9 2 (s_aload 0 (s_getfield 9 3 (s_iload 1 (s_iastore (s_aload 0 (s_dup (s_getfield 9 3 (s_iconst 1 (s_iadd (s_putI 9 3 (AW (mX9_addStep, G) 29)))))))))))))))))
theorem oX9_addStep_0 (G : Nat × Nat × Nat × Option (Nat × (Nat → Int32)) × (Option Value → qW → Prop)) : qImp (bX9_addStep_0 G) (AW (mX9_addStep, G) 0) := (r_aload_n dX9_addStep_0 rfl (r_getfield dX9_addStep_1 fgX9_22 (r_bipush dX9_addStep_4 rfl (r_ic_ge (tgt := 29) dX9_addStep_6 rfl qImp.rf (r_aload_n dX9_addStep_9 rfl (r_getfield dX9_addStep_10 fgX9_19 (r_aload_n dX9_addStep_13 rfl (r_getfield dX9_addStep_14 fgX9_22 (r_iload_n dX9_addStep_17 rfl (r_iastore dX9_addStep_18 (r_aload_n dX9_addStep_19 rfl (r_dup dX9_addStep_20 (r_getfield dX9_addStep_21 fgX9_22 (r_iconst dX9_addStep_24 rfl (r_iadd dX9_addStep_25 (r_putI dX9_addStep_26 fpX9_22 (fun q hq => by cases hq; rfl) qImp.rf))))))))))))))))
def bX9_addStep_29 (G : Nat × Nat × Nat × Option (Nat × (Nat → Int32)) × (Option Value → qW → Prop)) : qK := (s_vreturn (mX9_addStep, G))
theorem oX9_addStep_29 (G : Nat × Nat × Nat × Option (Nat × (Nat → Int32)) × (Option Value → qW → Prop)) : qImp (bX9_addStep_29 G) (AW (mX9_addStep, G) 29) := (r_vreturn dX9_addStep_29 rfl)
theorem dX9_takeUnit_0 : decode cX9_takeUnit 0 = .ok (.iload_n 1, 1) := by decide +kernel
theorem dX9_takeUnit_1 : decode cX9_takeUnit 1 = .ok (.bipush 40, 2) := by decide +kernel
theorem dX9_takeUnit_3 : decode cX9_takeUnit 3 = .ok (.if_icmp .ne 29, 3) := by decide +kernel
theorem dX9_takeUnit_6 : decode cX9_takeUnit 6 = .ok (.aload_n 0, 1) := by decide +kernel
theorem dX9_takeUnit_7 : decode cX9_takeUnit 7 = .ok (.getfield 28, 3) := by decide +kernel
theorem dX9_takeUnit_10 : decode cX9_takeUnit 10 = .ok (.bipush 8, 2) := by decide +kernel
theorem dX9_takeUnit_12 : decode cX9_takeUnit 12 = .ok (.if_icmp .ge 20, 3) := by decide +kernel
theorem dX9_takeUnit_15 : decode cX9_takeUnit 15 = .ok (.aload_n 0, 1) := by decide +kernel
theorem dX9_takeUnit_16 : decode cX9_takeUnit 16 = .ok (.dup, 1) := by decide +kernel
theorem dX9_takeUnit_17 : decode cX9_takeUnit 17 = .ok (.getfield 28, 3) := by decide +kernel
theorem dX9_takeUnit_20 : decode cX9_takeUnit 20 = .ok (.iconst 1, 1) := by decide +kernel
theorem dX9_takeUnit_21 : decode cX9_takeUnit 21 = .ok (.iadd, 1) := by decide +kernel
theorem dX9_takeUnit_22 : decode cX9_takeUnit 22 = .ok (.putfield 28, 3) := by decide +kernel
theorem dX9_takeUnit_25 : decode cX9_takeUnit 25 = .ok (.aload_n 0, 1) := by decide +kernel
theorem dX9_takeUnit_26 : decode cX9_takeUnit 26 = .ok (.iload_n 1, 1) := by decide +kernel
theorem dX9_takeUnit_27 : decode cX9_takeUnit 27 = .ok (.invokevirtual 72, 3) := by decide +kernel
theorem dX9_takeUnit_30 : decode cX9_takeUnit 30 = .ok (.iconst 1, 1) := by decide +kernel
theorem dX9_takeUnit_31 : decode cX9_takeUnit 31 = .ok (.ireturn, 1) := by decide +kernel
theorem dX9_takeUnit_32 : decode cX9_takeUnit 32 = .ok (.aload_n 0, 1) := by decide +kernel
theorem dX9_takeUnit_33 : decode cX9_takeUnit 33 = .ok (.iload_n 1, 1) := by decide +kernel
theorem dX9_takeUnit_34 : decode cX9_takeUnit 34 = .ok (.bipush 116, 2) := by decide +kernel
theorem dX9_takeUnit_36 : decode cX9_takeUnit 36 = .ok (.if_icmp .ne 7, 3) := by decide +kernel
theorem dX9_takeUnit_39 : decode cX9_takeUnit 39 = .ok (.iconst 0, 1) := by decide +kernel
theorem dX9_takeUnit_40 : decode cX9_takeUnit 40 = .ok (.goto 24, 3) := by decide +kernel
theorem dX9_takeUnit_43 : decode cX9_takeUnit 43 = .ok (.iload_n 1, 1) := by decide +kernel
theorem dX9_takeUnit_44 : decode cX9_takeUnit 44 = .ok (.bipush 114, 2) := by decide +kernel
theorem dX9_takeUnit_46 : decode cX9_takeUnit 46 = .ok (.if_icmp .ne 7, 3) := by decide +kernel
theorem dX9_takeUnit_49 : decode cX9_takeUnit 49 = .ok (.iconst 1, 1) := by decide +kernel
theorem dX9_takeUnit_50 : decode cX9_takeUnit 50 = .ok (.goto 14, 3) := by decide +kernel
theorem dX9_takeUnit_53 : decode cX9_takeUnit 53 = .ok (.iload_n 1, 1) := by decide +kernel
theorem dX9_takeUnit_54 : decode cX9_takeUnit 54 = .ok (.bipush 98, 2) := by decide +kernel
theorem dX9_takeUnit_56 : decode cX9_takeUnit 56 = .ok (.if_icmp .ne 7, 3) := by decide +kernel
theorem dX9_takeUnit_59 : decode cX9_takeUnit 59 = .ok (.iconst 2, 1) := by decide +kernel
theorem dX9_takeUnit_60 : decode cX9_takeUnit 60 = .ok (.goto 4, 3) := by decide +kernel
theorem dX9_takeUnit_63 : decode cX9_takeUnit 63 = .ok (.iconst (-1), 1) := by decide +kernel
theorem dX9_takeUnit_64 : decode cX9_takeUnit 64 = .ok (.putfield 31, 3) := by decide +kernel
theorem dX9_takeUnit_67 : decode cX9_takeUnit 67 = .ok (.aload_n 0, 1) := by decide +kernel
theorem dX9_takeUnit_68 : decode cX9_takeUnit 68 = .ok (.iconst 1, 1) := by decide +kernel
theorem dX9_takeUnit_69 : decode cX9_takeUnit 69 = .ok (.putfield 25, 3) := by decide +kernel
theorem dX9_takeUnit_72 : decode cX9_takeUnit 72 = .ok (.aload_n 0, 1) := by decide +kernel
theorem dX9_takeUnit_73 : decode cX9_takeUnit 73 = .ok (.getfield 31, 3) := by decide +kernel
theorem dX9_takeUnit_76 : decode cX9_takeUnit 76 = .ok (.iconst (-1), 1) := by decide +kernel
theorem dX9_takeUnit_77 : decode cX9_takeUnit 77 = .ok (.if_icmp .eq 7, 3) := by decide +kernel
theorem dX9_takeUnit_80 : decode cX9_takeUnit 80 = .ok (.iconst 1, 1) := by decide +kernel
theorem dX9_takeUnit_81 : decode cX9_takeUnit 81 = .ok (.goto 4, 3) := by decide +kernel
theorem dX9_takeUnit_84 : decode cX9_takeUnit 84 = .ok (.iconst 0, 1) := by decide +kernel
theorem dX9_takeUnit_85 : decode cX9_takeUnit 85 = .ok (.ireturn, 1) := by decide +kernel
/-! SealLine$Tape.takeUnit(I)Z -/
theorem eX9_takeUnit {d mc ms : Nat} {w : qW} {Q : Option Value → qW → Prop} {q : Nat} {x0 : Int32} (h : AW (mX9_takeUnit, d, mc, ms, none, Q) 0 [some (.ref q), some (.int x0)] [] w 0 0) : CT mX9_takeUnit d mc ms [.ref q, .int x0] w Q := CT_of (by decide +kernel) rfl (Nat.le_of_ble_eq_true rfl) h
def bX9_takeUnit_0 (G : Nat × Nat × Nat × Option (Nat × (Nat → Int32)) × (Option Value → qW → Prop)) : qK := (s_iload 1 (s_iconst 40 (s_ic_ne (AW (mX9_takeUnit, G) 32) (s_aload 0 (s_getfield 9 5 (s_iconst 8 (s_ic_ge (AW (mX9_takeUnit, G) 32) (s_aload 0 (s_dup (s_getfield 9 5 (s_iconst 1 (s_iadd (s_putI 9 5 (s_aload 0 (s_iload 1 (AW (mX9_takeUnit, G) 27))))))))))))))))
theorem oX9_takeUnit_0 (G : Nat × Nat × Nat × Option (Nat × (Nat → Int32)) × (Option Value → qW → Prop)) : qImp (bX9_takeUnit_0 G) (AW (mX9_takeUnit, G) 0) := (r_iload_n dX9_takeUnit_0 rfl (r_bipush dX9_takeUnit_1 rfl (r_ic_ne (tgt := 32) dX9_takeUnit_3 rfl qImp.rf (r_aload_n dX9_takeUnit_6 rfl (r_getfield dX9_takeUnit_7 fgX9_28 (r_bipush dX9_takeUnit_10 rfl (r_ic_ge (tgt := 32) dX9_takeUnit_12 rfl qImp.rf (r_aload_n dX9_takeUnit_15 rfl (r_dup dX9_takeUnit_16 (r_getfield dX9_takeUnit_17 fgX9_28 (r_iconst dX9_takeUnit_20 rfl (r_iadd dX9_takeUnit_21 (r_putI dX9_takeUnit_22 fpX9_28 (fun q hq => by cases hq; rfl) (r_aload_n dX9_takeUnit_25 rfl (r_iload_n dX9_takeUnit_26 rfl qImp.rf)))))))))))))))
def bX9_takeUnit_30 (G : Nat × Nat × Nat × Option (Nat × (Nat → Int32)) × (Option Value → qW → Prop)) : qK := (s_iconst 1 (s_zreturn (mX9_takeUnit, G)))
theorem oX9_takeUnit_30 (G : Nat × Nat × Nat × Option (Nat × (Nat → Int32)) × (Option Value → qW → Prop)) : qImp (bX9_takeUnit_30 G) (AW (mX9_takeUnit, G) 30) := (r_iconst dX9_takeUnit_30 rfl (r_zreturn dX9_takeUnit_31 rfl))
def bX9_takeUnit_32 (G : Nat × Nat × Nat × Option (Nat × (Nat → Int32)) × (Option Value → qW → Prop)) : qK := (s_aload 0 (s_iload 1 (s_iconst 116 (s_ic_ne (AW (mX9_takeUnit, G) 43) (s_iconst 0 (AW (mX9_takeUnit, G) 64))))))
theorem oX9_takeUnit_32 (G : Nat × Nat × Nat × Option (Nat × (Nat → Int32)) × (Option Value → qW → Prop)) : qImp (bX9_takeUnit_32 G) (AW (mX9_takeUnit, G) 32) := (r_aload_n dX9_takeUnit_32 rfl (r_iload_n dX9_takeUnit_33 rfl (r_bipush dX9_takeUnit_34 rfl (r_ic_ne (tgt := 43) dX9_takeUnit_36 rfl qImp.rf (r_iconst dX9_takeUnit_39 rfl (r_goto (tgt := 64) dX9_takeUnit_40 rfl qImp.rf))))))
def bX9_takeUnit_43 (G : Nat × Nat × Nat × Option (Nat × (Nat → Int32)) × (Option Value → qW → Prop)) : qK := (s_iload 1 (s_iconst 114 (s_ic_ne (AW (mX9_takeUnit, G) 53) (s_iconst 1 (AW (mX9_takeUnit, G) 64)))))
theorem oX9_takeUnit_43 (G : Nat × Nat × Nat × Option (Nat × (Nat → Int32)) × (Option Value → qW → Prop)) : qImp (bX9_takeUnit_43 G) (AW (mX9_takeUnit, G) 43) := (r_iload_n dX9_takeUnit_43 rfl (r_bipush dX9_takeUnit_44 rfl (r_ic_ne (tgt := 53) dX9_takeUnit_46 rfl qImp.rf (r_iconst dX9_takeUnit_49 rfl (r_goto (tgt := 64) dX9_takeUnit_50 rfl qImp.rf)))))
def bX9_takeUnit_53 (G : Nat × Nat × Nat × Option (Nat × (Nat → Int32)) × (Option Value → qW → Prop)) : qK := (s_iload 1 (s_iconst 98 (s_ic_ne (AW (mX9_takeUnit, G) 63) (s_iconst 2 (AW (mX9_takeUnit, G) 64)))))
theorem oX9_takeUnit_53 (G : Nat × Nat × Nat × Option (Nat × (Nat → Int32)) × (Option Value → qW → Prop)) : qImp (bX9_takeUnit_53 G) (AW (mX9_takeUnit, G) 53) := (r_iload_n dX9_takeUnit_53 rfl (r_bipush dX9_takeUnit_54 rfl (r_ic_ne (tgt := 63) dX9_takeUnit_56 rfl qImp.rf (r_iconst dX9_takeUnit_59 rfl (r_goto (tgt := 64) dX9_takeUnit_60 rfl qImp.rf)))))
def bX9_takeUnit_63 (G : Nat × Nat × Nat × Option (Nat × (Nat → Int32)) × (Option Value → qW → Prop)) : qK := (s_iconst (-1) (AW (mX9_takeUnit, G) 64))
theorem oX9_takeUnit_63 (G : Nat × Nat × Nat × Option (Nat × (Nat → Int32)) × (Option Value → qW → Prop)) : qImp (bX9_takeUnit_63 G) (AW (mX9_takeUnit, G) 63) := (r_iconst dX9_takeUnit_63 rfl qImp.rf)
def bX9_takeUnit_64 (G : Nat × Nat × Nat × Option (Nat × (Nat → Int32)) × (Option Value → qW → Prop)) : qK := (s_putI 9 6 (s_aload 0 (s_iconst 1 (s_putI 9 4 (s_aload 0 (s_getfield 9 6 (s_iconst (-1) (s_ic_eq (AW (mX9_takeUnit, G) 84) (s_iconst 1 (AW (mX9_takeUnit, G) 85))))))))))
theorem oX9_takeUnit_64 (G : Nat × Nat × Nat × Option (Nat × (Nat → Int32)) × (Option Value → qW → Prop)) : qImp (bX9_takeUnit_64 G) (AW (mX9_takeUnit, G) 64) := (r_putI dX9_takeUnit_64 fpX9_31 (fun q hq => by cases hq; rfl) (r_aload_n dX9_takeUnit_67 rfl (r_iconst dX9_takeUnit_68 rfl (r_putI dX9_takeUnit_69 fpX9_25 (fun q hq => by cases hq; rfl) (r_aload_n dX9_takeUnit_72 rfl (r_getfield dX9_takeUnit_73 fgX9_31 (r_iconst dX9_takeUnit_76 rfl (r_ic_eq (tgt := 84) dX9_takeUnit_77 rfl qImp.rf (r_iconst dX9_takeUnit_80 rfl (r_goto (tgt := 85) dX9_takeUnit_81 rfl qImp.rf))))))))))
def bX9_takeUnit_84 (G : Nat × Nat × Nat × Option (Nat × (Nat → Int32)) × (Option Value → qW → Prop)) : qK := (s_iconst 0 (AW (mX9_takeUnit, G) 85))
theorem oX9_takeUnit_84 (G : Nat × Nat × Nat × Option (Nat × (Nat → Int32)) × (Option Value → qW → Prop)) : qImp (bX9_takeUnit_84 G) (AW (mX9_takeUnit, G) 84) := (r_iconst dX9_takeUnit_84 rfl qImp.rf)
def bX9_takeUnit_85 (G : Nat × Nat × Nat × Option (Nat × (Nat → Int32)) × (Option Value → qW → Prop)) : qK := (s_zreturn (mX9_takeUnit, G))
theorem oX9_takeUnit_85 (G : Nat × Nat × Nat × Option (Nat × (Nat → Int32)) × (Option Value → qW → Prop)) : qImp (bX9_takeUnit_85 G) (AW (mX9_takeUnit, G) 85) := (r_zreturn dX9_takeUnit_85 rfl)
theorem kX9_takeUnit_27 {G : Nat × Nat × Nat × Option (Nat × (Nat → Int32)) × (Option Value → qW → Prop)} {L : qL} {w : qW} {kc ks : Nat} {rest : List Value} {q : Nat} {x0 : Int32} {d mc ms : Nat} {Q : Option Value → qW → Prop} (hC : CT mX9_addStep d mc ms [.ref q, .int x0] w Q) (hq : qci w q = some 9) (hst : rest.length ≤ 4) (hdp : d + 1 ≤ G.1) (hmc : kc + mc ≤ G.2.1 ∧ ks + ms ≤ G.2.2.1) (k : ∀ r w', Q r w' → AW (mX9_takeUnit, G) 30 L (r.toList ++ rest) w' (kc + mc) (ks + ms)) : AW (mX9_takeUnit, G) 27 L (.int x0 :: .ref q :: rest) w kc ks := a_callV [.int x0] rest dX9_takeUnit_27 vX9_addStep lk546 hC hq rfl rfl hst hdp hmc k
theorem dX9_takeSign_0 : decode cX9_takeSign 0 = .ok (.aload_n 0, 1) := by decide +kernel
theorem dX9_takeSign_1 : decode cX9_takeSign 1 = .ok (.iload_n 1, 1) := by decide +kernel
theorem dX9_takeSign_2 : decode cX9_takeSign 2 = .ok (.bipush 61, 2) := by decide +kernel
theorem dX9_takeSign_4 : decode cX9_takeSign 4 = .ok (.if_icmp .ne 7, 3) := by decide +kernel
theorem dX9_takeSign_7 : decode cX9_takeSign 7 = .ok (.iconst 0, 1) := by decide +kernel
theorem dX9_takeSign_8 : decode cX9_takeSign 8 = .ok (.goto 24, 3) := by decide +kernel
theorem dX9_takeSign_11 : decode cX9_takeSign 11 = .ok (.iload_n 1, 1) := by decide +kernel
theorem dX9_takeSign_12 : decode cX9_takeSign 12 = .ok (.bipush 60, 2) := by decide +kernel
theorem dX9_takeSign_14 : decode cX9_takeSign 14 = .ok (.if_icmp .ne 7, 3) := by decide +kernel
theorem dX9_takeSign_17 : decode cX9_takeSign 17 = .ok (.iconst 1, 1) := by decide +kernel
theorem dX9_takeSign_18 : decode cX9_takeSign 18 = .ok (.goto 14, 3) := by decide +kernel
theorem dX9_takeSign_21 : decode cX9_takeSign 21 = .ok (.iload_n 1, 1) := by decide +kernel
theorem dX9_takeSign_22 : decode cX9_takeSign 22 = .ok (.bipush 62, 2) := by decide +kernel
theorem dX9_takeSign_24 : decode cX9_takeSign 24 = .ok (.if_icmp .ne 7, 3) := by decide +kernel
theorem dX9_takeSign_27 : decode cX9_takeSign 27 = .ok (.iconst 2, 1) := by decide +kernel
theorem dX9_takeSign_28 : decode cX9_takeSign 28 = .ok (.goto 4, 3) := by decide +kernel
theorem dX9_takeSign_31 : decode cX9_takeSign 31 = .ok (.iconst (-1), 1) := by decide +kernel
theorem dX9_takeSign_32 : decode cX9_takeSign 32 = .ok (.putfield 34, 3) := by decide +kernel
theorem dX9_takeSign_35 : decode cX9_takeSign 35 = .ok (.aload_n 0, 1) := by decide +kernel
theorem dX9_takeSign_36 : decode cX9_takeSign 36 = .ok (.iconst 2, 1) := by decide +kernel
theorem dX9_takeSign_37 : decode cX9_takeSign 37 = .ok (.putfield 25, 3) := by decide +kernel
theorem dX9_takeSign_40 : decode cX9_takeSign 40 = .ok (.aload_n 0, 1) := by decide +kernel
theorem dX9_takeSign_41 : decode cX9_takeSign 41 = .ok (.getfield 34, 3) := by decide +kernel
theorem dX9_takeSign_44 : decode cX9_takeSign 44 = .ok (.iconst (-1), 1) := by decide +kernel
theorem dX9_takeSign_45 : decode cX9_takeSign 45 = .ok (.if_icmp .eq 7, 3) := by decide +kernel
theorem dX9_takeSign_48 : decode cX9_takeSign 48 = .ok (.iconst 1, 1) := by decide +kernel
theorem dX9_takeSign_49 : decode cX9_takeSign 49 = .ok (.goto 4, 3) := by decide +kernel
theorem dX9_takeSign_52 : decode cX9_takeSign 52 = .ok (.iconst 0, 1) := by decide +kernel
theorem dX9_takeSign_53 : decode cX9_takeSign 53 = .ok (.ireturn, 1) := by decide +kernel
/-! SealLine$Tape.takeSign(I)Z -/
theorem eX9_takeSign {d mc ms : Nat} {w : qW} {Q : Option Value → qW → Prop} {q : Nat} {x0 : Int32} (h : AW (mX9_takeSign, d, mc, ms, none, Q) 0 [some (.ref q), some (.int x0)] [] w 0 0) : CT mX9_takeSign d mc ms [.ref q, .int x0] w Q := CT_of (by decide +kernel) rfl (Nat.le_of_ble_eq_true rfl) h
def bX9_takeSign_0 (G : Nat × Nat × Nat × Option (Nat × (Nat → Int32)) × (Option Value → qW → Prop)) : qK := (s_aload 0 (s_iload 1 (s_iconst 61 (s_ic_ne (AW (mX9_takeSign, G) 11) (s_iconst 0 (AW (mX9_takeSign, G) 32))))))
theorem oX9_takeSign_0 (G : Nat × Nat × Nat × Option (Nat × (Nat → Int32)) × (Option Value → qW → Prop)) : qImp (bX9_takeSign_0 G) (AW (mX9_takeSign, G) 0) := (r_aload_n dX9_takeSign_0 rfl (r_iload_n dX9_takeSign_1 rfl (r_bipush dX9_takeSign_2 rfl (r_ic_ne (tgt := 11) dX9_takeSign_4 rfl qImp.rf (r_iconst dX9_takeSign_7 rfl (r_goto (tgt := 32) dX9_takeSign_8 rfl qImp.rf))))))
def bX9_takeSign_11 (G : Nat × Nat × Nat × Option (Nat × (Nat → Int32)) × (Option Value → qW → Prop)) : qK := (s_iload 1 (s_iconst 60 (s_ic_ne (AW (mX9_takeSign, G) 21) (s_iconst 1 (AW (mX9_takeSign, G) 32)))))
theorem oX9_takeSign_11 (G : Nat × Nat × Nat × Option (Nat × (Nat → Int32)) × (Option Value → qW → Prop)) : qImp (bX9_takeSign_11 G) (AW (mX9_takeSign, G) 11) := (r_iload_n dX9_takeSign_11 rfl (r_bipush dX9_takeSign_12 rfl (r_ic_ne (tgt := 21) dX9_takeSign_14 rfl qImp.rf (r_iconst dX9_takeSign_17 rfl (r_goto (tgt := 32) dX9_takeSign_18 rfl qImp.rf)))))
def bX9_takeSign_21 (G : Nat × Nat × Nat × Option (Nat × (Nat → Int32)) × (Option Value → qW → Prop)) : qK := (s_iload 1 (s_iconst 62 (s_ic_ne (AW (mX9_takeSign, G) 31) (s_iconst 2 (AW (mX9_takeSign, G) 32)))))
theorem oX9_takeSign_21 (G : Nat × Nat × Nat × Option (Nat × (Nat → Int32)) × (Option Value → qW → Prop)) : qImp (bX9_takeSign_21 G) (AW (mX9_takeSign, G) 21) := (r_iload_n dX9_takeSign_21 rfl (r_bipush dX9_takeSign_22 rfl (r_ic_ne (tgt := 31) dX9_takeSign_24 rfl qImp.rf (r_iconst dX9_takeSign_27 rfl (r_goto (tgt := 32) dX9_takeSign_28 rfl qImp.rf)))))
def bX9_takeSign_31 (G : Nat × Nat × Nat × Option (Nat × (Nat → Int32)) × (Option Value → qW → Prop)) : qK := (s_iconst (-1) (AW (mX9_takeSign, G) 32))
theorem oX9_takeSign_31 (G : Nat × Nat × Nat × Option (Nat × (Nat → Int32)) × (Option Value → qW → Prop)) : qImp (bX9_takeSign_31 G) (AW (mX9_takeSign, G) 31) := (r_iconst dX9_takeSign_31 rfl qImp.rf)
def bX9_takeSign_32 (G : Nat × Nat × Nat × Option (Nat × (Nat → Int32)) × (Option Value → qW → Prop)) : qK := (s_putI 9 7 (s_aload 0 (s_iconst 2 (s_putI 9 4 (s_aload 0 (s_getfield 9 7 (s_iconst (-1) (s_ic_eq (AW (mX9_takeSign, G) 52) (s_iconst 1 (AW (mX9_takeSign, G) 53))))))))))
theorem oX9_takeSign_32 (G : Nat × Nat × Nat × Option (Nat × (Nat → Int32)) × (Option Value → qW → Prop)) : qImp (bX9_takeSign_32 G) (AW (mX9_takeSign, G) 32) := (r_putI dX9_takeSign_32 fpX9_34 (fun q hq => by cases hq; rfl) (r_aload_n dX9_takeSign_35 rfl (r_iconst dX9_takeSign_36 rfl (r_putI dX9_takeSign_37 fpX9_25 (fun q hq => by cases hq; rfl) (r_aload_n dX9_takeSign_40 rfl (r_getfield dX9_takeSign_41 fgX9_34 (r_iconst dX9_takeSign_44 rfl (r_ic_eq (tgt := 52) dX9_takeSign_45 rfl qImp.rf (r_iconst dX9_takeSign_48 rfl (r_goto (tgt := 53) dX9_takeSign_49 rfl qImp.rf))))))))))
def bX9_takeSign_52 (G : Nat × Nat × Nat × Option (Nat × (Nat → Int32)) × (Option Value → qW → Prop)) : qK := (s_iconst 0 (AW (mX9_takeSign, G) 53))
theorem oX9_takeSign_52 (G : Nat × Nat × Nat × Option (Nat × (Nat → Int32)) × (Option Value → qW → Prop)) : qImp (bX9_takeSign_52 G) (AW (mX9_takeSign, G) 52) := (r_iconst dX9_takeSign_52 rfl qImp.rf)
def bX9_takeSign_53 (G : Nat × Nat × Nat × Option (Nat × (Nat → Int32)) × (Option Value → qW → Prop)) : qK := (s_zreturn (mX9_takeSign, G))
theorem oX9_takeSign_53 (G : Nat × Nat × Nat × Option (Nat × (Nat → Int32)) × (Option Value → qW → Prop)) : qImp (bX9_takeSign_53 G) (AW (mX9_takeSign, G) 53) := (r_zreturn dX9_takeSign_53 rfl)
theorem dX9_takeDigit_0 : decode cX9_takeDigit 0 = .ok (.iload_n 1, 1) := by decide +kernel
theorem dX9_takeDigit_1 : decode cX9_takeDigit 1 = .ok (.invokestatic 51, 3) := by decide +kernel
theorem dX9_takeDigit_4 : decode cX9_takeDigit 4 = .ok (.ifCond .ne 5, 3) := by decide +kernel
theorem dX9_takeDigit_7 : decode cX9_takeDigit 7 = .ok (.iconst 0, 1) := by decide +kernel
theorem dX9_takeDigit_8 : decode cX9_takeDigit 8 = .ok (.ireturn, 1) := by decide +kernel
theorem dX9_takeDigit_9 : decode cX9_takeDigit 9 = .ok (.aload_n 0, 1) := by decide +kernel
theorem dX9_takeDigit_10 : decode cX9_takeDigit 10 = .ok (.aload_n 0, 1) := by decide +kernel
theorem dX9_takeDigit_11 : decode cX9_takeDigit 11 = .ok (.getfield 31, 3) := by decide +kernel
theorem dX9_takeDigit_14 : decode cX9_takeDigit 14 = .ok (.aload_n 0, 1) := by decide +kernel
theorem dX9_takeDigit_15 : decode cX9_takeDigit 15 = .ok (.getfield 34, 3) := by decide +kernel
theorem dX9_takeDigit_18 : decode cX9_takeDigit 18 = .ok (.iload_n 1, 1) := by decide +kernel
theorem dX9_takeDigit_19 : decode cX9_takeDigit 19 = .ok (.bipush 48, 2) := by decide +kernel
theorem dX9_takeDigit_21 : decode cX9_takeDigit 21 = .ok (.isub, 1) := by decide +kernel
theorem dX9_takeDigit_22 : decode cX9_takeDigit 22 = .ok (.invokestatic 75, 3) := by decide +kernel
theorem dX9_takeDigit_25 : decode cX9_takeDigit 25 = .ok (.invokevirtual 72, 3) := by decide +kernel
theorem dX9_takeDigit_28 : decode cX9_takeDigit 28 = .ok (.aload_n 0, 1) := by decide +kernel
theorem dX9_takeDigit_29 : decode cX9_takeDigit 29 = .ok (.iconst 3, 1) := by decide +kernel
theorem dX9_takeDigit_30 : decode cX9_takeDigit 30 = .ok (.putfield 25, 3) := by decide +kernel
theorem dX9_takeDigit_33 : decode cX9_takeDigit 33 = .ok (.iconst 1, 1) := by decide +kernel
theorem dX9_takeDigit_34 : decode cX9_takeDigit 34 = .ok (.ireturn, 1) := by decide +kernel
/-! SealLine$Tape.takeDigit(I)Z -/
theorem eX9_takeDigit {d mc ms : Nat} {w : qW} {Q : Option Value → qW → Prop} {q : Nat} {x0 : Int32} (h : AW (mX9_takeDigit, d, mc, ms, none, Q) 0 [some (.ref q), some (.int x0)] [] w 0 0) : CT mX9_takeDigit d mc ms [.ref q, .int x0] w Q := CT_of (by decide +kernel) rfl (Nat.le_of_ble_eq_true rfl) h
def bX9_takeDigit_0 (G : Nat × Nat × Nat × Option (Nat × (Nat → Int32)) × (Option Value → qW → Prop)) : qK := (s_iload 1 (AW (mX9_takeDigit, G) 1))
theorem oX9_takeDigit_0 (G : Nat × Nat × Nat × Option (Nat × (Nat → Int32)) × (Option Value → qW → Prop)) : qImp (bX9_takeDigit_0 G) (AW (mX9_takeDigit, G) 0) := (r_iload_n dX9_takeDigit_0 rfl qImp.rf)
def bX9_takeDigit_4 (G : Nat × Nat × Nat × Option (Nat × (Nat → Int32)) × (Option Value → qW → Prop)) : qK := (s_if_ne (AW (mX9_takeDigit, G) 9) (s_iconst 0 (s_zreturn (mX9_takeDigit, G))))
theorem oX9_takeDigit_4 (G : Nat × Nat × Nat × Option (Nat × (Nat → Int32)) × (Option Value → qW → Prop)) : qImp (bX9_takeDigit_4 G) (AW (mX9_takeDigit, G) 4) := (r_if_ne (tgt := 9) dX9_takeDigit_4 rfl qImp.rf (r_iconst dX9_takeDigit_7 rfl (r_zreturn dX9_takeDigit_8 rfl)))
def bX9_takeDigit_9 (G : Nat × Nat × Nat × Option (Nat × (Nat → Int32)) × (Option Value → qW → Prop)) : qK := (s_aload 0 (s_aload 0 (s_getfield 9 6 (s_aload 0 (s_getfield 9 7 (s_iload 1 (s_iconst 48 (s_isub (AW (mX9_takeDigit, G) 22)))))))))
theorem oX9_takeDigit_9 (G : Nat × Nat × Nat × Option (Nat × (Nat → Int32)) × (Option Value → qW → Prop)) : qImp (bX9_takeDigit_9 G) (AW (mX9_takeDigit, G) 9) := (r_aload_n dX9_takeDigit_9 rfl (r_aload_n dX9_takeDigit_10 rfl (r_getfield dX9_takeDigit_11 fgX9_31 (r_aload_n dX9_takeDigit_14 rfl (r_getfield dX9_takeDigit_15 fgX9_34 (r_iload_n dX9_takeDigit_18 rfl (r_bipush dX9_takeDigit_19 rfl (r_isub dX9_takeDigit_21 qImp.rf))))))))
def bX9_takeDigit_28 (G : Nat × Nat × Nat × Option (Nat × (Nat → Int32)) × (Option Value → qW → Prop)) : qK := (s_aload 0 (s_iconst 3 (s_putI 9 4 (s_iconst 1 (s_zreturn (mX9_takeDigit, G))))))
theorem oX9_takeDigit_28 (G : Nat × Nat × Nat × Option (Nat × (Nat → Int32)) × (Option Value → qW → Prop)) : qImp (bX9_takeDigit_28 G) (AW (mX9_takeDigit, G) 28) := (r_aload_n dX9_takeDigit_28 rfl (r_iconst dX9_takeDigit_29 rfl (r_putI dX9_takeDigit_30 fpX9_25 (fun q hq => by cases hq; rfl) (r_iconst dX9_takeDigit_33 rfl (r_zreturn dX9_takeDigit_34 rfl)))))
theorem kX9_takeDigit_1 {G : Nat × Nat × Nat × Option (Nat × (Nat → Int32)) × (Option Value → qW → Prop)} {L : qL} {w : qW} {kc ks : Nat} {rest : List Value}  {x0 : Int32} {d mc ms : Nat} {Q : Option Value → qW → Prop} (hC : CT mX9_isDigit d mc ms [.int x0] w Q) (hst : rest.length ≤ 4) (hdp : d + 1 ≤ G.1) (hmc : kc + mc ≤ G.2.1 ∧ ks + ms ≤ G.2.2.1) (k : ∀ r w', Q r w' → AW (mX9_takeDigit, G) 4 L (r.toList ++ rest) w' (kc + mc) (ks + ms)) : AW (mX9_takeDigit, G) 1 L (.int x0 :: rest) w kc ks := a_callS [.int x0] rest dX9_takeDigit_1 tX9_isDigit lk535 hC rfl hst hdp hmc k
theorem kX9_takeDigit_22 {G : Nat × Nat × Nat × Option (Nat × (Nat → Int32)) × (Option Value → qW → Prop)} {L : qL} {w : qW} {kc ks : Nat} {rest : List Value}  {x0 : Int32} {x1 : Int32} {x2 : Int32} {d mc ms : Nat} {Q : Option Value → qW → Prop} (hC : CT mX6_test d mc ms [.int x0, .int x1, .int x2] w Q) (hst : rest.length ≤ 4) (hdp : d + 1 ≤ G.1) (hmc : kc + mc ≤ G.2.1 ∧ ks + ms ≤ G.2.2.1) (k : ∀ r w', Q r w' → AW (mX9_takeDigit, G) 25 L (r.toList ++ rest) w' (kc + mc) (ks + ms)) : AW (mX9_takeDigit, G) 22 L (.int x2 :: .int x1 :: .int x0 :: rest) w kc ks := a_callS [.int x0, .int x1, .int x2] rest dX9_takeDigit_22 tX6_test lk558 hC rfl hst hdp hmc k
theorem kX9_takeDigit_25 {G : Nat × Nat × Nat × Option (Nat × (Nat → Int32)) × (Option Value → qW → Prop)} {L : qL} {w : qW} {kc ks : Nat} {rest : List Value} {q : Nat} {x0 : Int32} {d mc ms : Nat} {Q : Option Value → qW → Prop} (hC : CT mX9_addStep d mc ms [.ref q, .int x0] w Q) (hq : qci w q = some 9) (hst : rest.length ≤ 4) (hdp : d + 1 ≤ G.1) (hmc : kc + mc ≤ G.2.1 ∧ ks + ms ≤ G.2.2.1) (k : ∀ r w', Q r w' → AW (mX9_takeDigit, G) 28 L (r.toList ++ rest) w' (kc + mc) (ks + ms)) : AW (mX9_takeDigit, G) 25 L (.int x0 :: .ref q :: rest) w kc ks := a_callV [.int x0] rest dX9_takeDigit_25 vX9_addStep lk546 hC hq rfl rfl hst hdp hmc k
theorem dX9_takeJoin_0 : decode cX9_takeJoin 0 = .ok (.iload_n 1, 1) := by decide +kernel
theorem dX9_takeJoin_1 : decode cX9_takeJoin 1 = .ok (.bipush 41, 2) := by decide +kernel
theorem dX9_takeJoin_3 : decode cX9_takeJoin 3 = .ok (.if_icmp .ne 23, 3) := by decide +kernel
theorem dX9_takeJoin_6 : decode cX9_takeJoin 6 = .ok (.aload_n 0, 1) := by decide +kernel
theorem dX9_takeJoin_7 : decode cX9_takeJoin 7 = .ok (.getfield 28, 3) := by decide +kernel
theorem dX9_takeJoin_10 : decode cX9_takeJoin 10 = .ok (.ifCond .le 16, 3) := by decide +kernel
theorem dX9_takeJoin_13 : decode cX9_takeJoin 13 = .ok (.aload_n 0, 1) := by decide +kernel
theorem dX9_takeJoin_14 : decode cX9_takeJoin 14 = .ok (.dup, 1) := by decide +kernel
theorem dX9_takeJoin_15 : decode cX9_takeJoin 15 = .ok (.getfield 28, 3) := by decide +kernel
theorem dX9_takeJoin_18 : decode cX9_takeJoin 18 = .ok (.iconst 1, 1) := by decide +kernel
theorem dX9_takeJoin_19 : decode cX9_takeJoin 19 = .ok (.isub, 1) := by decide +kernel
theorem dX9_takeJoin_20 : decode cX9_takeJoin 20 = .ok (.putfield 28, 3) := by decide +kernel
theorem dX9_takeJoin_23 : decode cX9_takeJoin 23 = .ok (.goto 25, 3) := by decide +kernel
theorem dX9_takeJoin_26 : decode cX9_takeJoin 26 = .ok (.iload_n 1, 1) := by decide +kernel
theorem dX9_takeJoin_27 : decode cX9_takeJoin 27 = .ok (.bipush 38, 2) := by decide +kernel
theorem dX9_takeJoin_29 : decode cX9_takeJoin 29 = .ok (.if_icmp .eq 9, 3) := by decide +kernel
theorem dX9_takeJoin_32 : decode cX9_takeJoin 32 = .ok (.iload_n 1, 1) := by decide +kernel
theorem dX9_takeJoin_33 : decode cX9_takeJoin 33 = .ok (.bipush 124, 2) := by decide +kernel
theorem dX9_takeJoin_35 : decode cX9_takeJoin 35 = .ok (.if_icmp .ne 11, 3) := by decide +kernel
theorem dX9_takeJoin_38 : decode cX9_takeJoin 38 = .ok (.aload_n 0, 1) := by decide +kernel
theorem dX9_takeJoin_39 : decode cX9_takeJoin 39 = .ok (.iconst 0, 1) := by decide +kernel
theorem dX9_takeJoin_40 : decode cX9_takeJoin 40 = .ok (.putfield 25, 3) := by decide +kernel
theorem dX9_takeJoin_43 : decode cX9_takeJoin 43 = .ok (.goto 5, 3) := by decide +kernel
theorem dX9_takeJoin_46 : decode cX9_takeJoin 46 = .ok (.iconst 0, 1) := by decide +kernel
theorem dX9_takeJoin_47 : decode cX9_takeJoin 47 = .ok (.ireturn, 1) := by decide +kernel
theorem dX9_takeJoin_48 : decode cX9_takeJoin 48 = .ok (.aload_n 0, 1) := by decide +kernel
theorem dX9_takeJoin_49 : decode cX9_takeJoin 49 = .ok (.iload_n 1, 1) := by decide +kernel
theorem dX9_takeJoin_50 : decode cX9_takeJoin 50 = .ok (.invokevirtual 72, 3) := by decide +kernel
theorem dX9_takeJoin_53 : decode cX9_takeJoin 53 = .ok (.iconst 1, 1) := by decide +kernel
theorem dX9_takeJoin_54 : decode cX9_takeJoin 54 = .ok (.ireturn, 1) := by decide +kernel
/-! SealLine$Tape.takeJoin(I)Z -/
theorem eX9_takeJoin {d mc ms : Nat} {w : qW} {Q : Option Value → qW → Prop} {q : Nat} {x0 : Int32} (h : AW (mX9_takeJoin, d, mc, ms, none, Q) 0 [some (.ref q), some (.int x0)] [] w 0 0) : CT mX9_takeJoin d mc ms [.ref q, .int x0] w Q := CT_of (by decide +kernel) rfl (Nat.le_of_ble_eq_true rfl) h
def bX9_takeJoin_0 (G : Nat × Nat × Nat × Option (Nat × (Nat → Int32)) × (Option Value → qW → Prop)) : qK := (s_iload 1 (s_iconst 41 (s_ic_ne (AW (mX9_takeJoin, G) 26) (s_aload 0 (s_getfield 9 5 (s_if_le (AW (mX9_takeJoin, G) 26) (s_aload 0 (s_dup (s_getfield 9 5 (s_iconst 1 (s_isub (s_putI 9 5 (AW (mX9_takeJoin, G) 48)))))))))))))
theorem oX9_takeJoin_0 (G : Nat × Nat × Nat × Option (Nat × (Nat → Int32)) × (Option Value → qW → Prop)) : qImp (bX9_takeJoin_0 G) (AW (mX9_takeJoin, G) 0) := (r_iload_n dX9_takeJoin_0 rfl (r_bipush dX9_takeJoin_1 rfl (r_ic_ne (tgt := 26) dX9_takeJoin_3 rfl qImp.rf (r_aload_n dX9_takeJoin_6 rfl (r_getfield dX9_takeJoin_7 fgX9_28 (r_if_le (tgt := 26) dX9_takeJoin_10 rfl qImp.rf (r_aload_n dX9_takeJoin_13 rfl (r_dup dX9_takeJoin_14 (r_getfield dX9_takeJoin_15 fgX9_28 (r_iconst dX9_takeJoin_18 rfl (r_isub dX9_takeJoin_19 (r_putI dX9_takeJoin_20 fpX9_28 (fun q hq => by cases hq; rfl) (r_goto (tgt := 48) dX9_takeJoin_23 rfl qImp.rf)))))))))))))
def bX9_takeJoin_26 (G : Nat × Nat × Nat × Option (Nat × (Nat → Int32)) × (Option Value → qW → Prop)) : qK := (s_iload 1 (s_iconst 38 (s_ic_eq (AW (mX9_takeJoin, G) 38) (s_iload 1 (s_iconst 124 (s_ic_ne (AW (mX9_takeJoin, G) 46) (AW (mX9_takeJoin, G) 38)))))))
theorem oX9_takeJoin_26 (G : Nat × Nat × Nat × Option (Nat × (Nat → Int32)) × (Option Value → qW → Prop)) : qImp (bX9_takeJoin_26 G) (AW (mX9_takeJoin, G) 26) := (r_iload_n dX9_takeJoin_26 rfl (r_bipush dX9_takeJoin_27 rfl (r_ic_eq (tgt := 38) dX9_takeJoin_29 rfl qImp.rf (r_iload_n dX9_takeJoin_32 rfl (r_bipush dX9_takeJoin_33 rfl (r_ic_ne (tgt := 46) dX9_takeJoin_35 rfl qImp.rf qImp.rf))))))
def bX9_takeJoin_38 (G : Nat × Nat × Nat × Option (Nat × (Nat → Int32)) × (Option Value → qW → Prop)) : qK := (s_aload 0 (s_iconst 0 (s_putI 9 4 (AW (mX9_takeJoin, G) 48))))
theorem oX9_takeJoin_38 (G : Nat × Nat × Nat × Option (Nat × (Nat → Int32)) × (Option Value → qW → Prop)) : qImp (bX9_takeJoin_38 G) (AW (mX9_takeJoin, G) 38) := (r_aload_n dX9_takeJoin_38 rfl (r_iconst dX9_takeJoin_39 rfl (r_putI dX9_takeJoin_40 fpX9_25 (fun q hq => by cases hq; rfl) (r_goto (tgt := 48) dX9_takeJoin_43 rfl qImp.rf))))
def bX9_takeJoin_46 (G : Nat × Nat × Nat × Option (Nat × (Nat → Int32)) × (Option Value → qW → Prop)) : qK := (s_iconst 0 (s_zreturn (mX9_takeJoin, G)))
theorem oX9_takeJoin_46 (G : Nat × Nat × Nat × Option (Nat × (Nat → Int32)) × (Option Value → qW → Prop)) : qImp (bX9_takeJoin_46 G) (AW (mX9_takeJoin, G) 46) := (r_iconst dX9_takeJoin_46 rfl (r_zreturn dX9_takeJoin_47 rfl))
def bX9_takeJoin_48 (G : Nat × Nat × Nat × Option (Nat × (Nat → Int32)) × (Option Value → qW → Prop)) : qK := (s_aload 0 (s_iload 1 (AW (mX9_takeJoin, G) 50)))
theorem oX9_takeJoin_48 (G : Nat × Nat × Nat × Option (Nat × (Nat → Int32)) × (Option Value → qW → Prop)) : qImp (bX9_takeJoin_48 G) (AW (mX9_takeJoin, G) 48) := (r_aload_n dX9_takeJoin_48 rfl (r_iload_n dX9_takeJoin_49 rfl qImp.rf))
def bX9_takeJoin_53 (G : Nat × Nat × Nat × Option (Nat × (Nat → Int32)) × (Option Value → qW → Prop)) : qK := (s_iconst 1 (s_zreturn (mX9_takeJoin, G)))
theorem oX9_takeJoin_53 (G : Nat × Nat × Nat × Option (Nat × (Nat → Int32)) × (Option Value → qW → Prop)) : qImp (bX9_takeJoin_53 G) (AW (mX9_takeJoin, G) 53) := (r_iconst dX9_takeJoin_53 rfl (r_zreturn dX9_takeJoin_54 rfl))
theorem kX9_takeJoin_50 {G : Nat × Nat × Nat × Option (Nat × (Nat → Int32)) × (Option Value → qW → Prop)} {L : qL} {w : qW} {kc ks : Nat} {rest : List Value} {q : Nat} {x0 : Int32} {d mc ms : Nat} {Q : Option Value → qW → Prop} (hC : CT mX9_addStep d mc ms [.ref q, .int x0] w Q) (hq : qci w q = some 9) (hst : rest.length ≤ 4) (hdp : d + 1 ≤ G.1) (hmc : kc + mc ≤ G.2.1 ∧ ks + ms ≤ G.2.2.1) (k : ∀ r w', Q r w' → AW (mX9_takeJoin, G) 53 L (r.toList ++ rest) w' (kc + mc) (ks + ms)) : AW (mX9_takeJoin, G) 50 L (.int x0 :: .ref q :: rest) w kc ks := a_callV [.int x0] rest dX9_takeJoin_50 vX9_addStep lk546 hC hq rfl rfl hst hdp hmc k
theorem dX9_take_0 : decode cX9_take 0 = .ok (.aload_n 0, 1) := by decide +kernel
theorem dX9_take_1 : decode cX9_take 1 = .ok (.getfield 25, 3) := by decide +kernel
theorem dX9_take_4 : decode cX9_take 4 = .ok (.iconst 3, 1) := by decide +kernel
theorem dX9_take_5 : decode cX9_take 5 = .ok (.if_icmp .ne 25, 3) := by decide +kernel
theorem dX9_take_8 : decode cX9_take 8 = .ok (.aload_n 0, 1) := by decide +kernel
theorem dX9_take_9 : decode cX9_take 9 = .ok (.iconst 4, 1) := by decide +kernel
theorem dX9_take_10 : decode cX9_take 10 = .ok (.putfield 25, 3) := by decide +kernel
theorem dX9_take_13 : decode cX9_take 13 = .ok (.iload_n 1, 1) := by decide +kernel
theorem dX9_take_14 : decode cX9_take 14 = .ok (.invokestatic 51, 3) := by decide +kernel
theorem dX9_take_17 : decode cX9_take 17 = .ok (.ifCond .eq 13, 3) := by decide +kernel
theorem dX9_take_20 : decode cX9_take 20 = .ok (.aload_n 0, 1) := by decide +kernel
theorem dX9_take_21 : decode cX9_take 21 = .ok (.iload_n 1, 1) := by decide +kernel
theorem dX9_take_22 : decode cX9_take 22 = .ok (.bipush 48, 2) := by decide +kernel
theorem dX9_take_24 : decode cX9_take 24 = .ok (.isub, 1) := by decide +kernel
theorem dX9_take_25 : decode cX9_take 25 = .ok (.invokevirtual 54, 3) := by decide +kernel
theorem dX9_take_28 : decode cX9_take 28 = .ok (.iconst 1, 1) := by decide +kernel
theorem dX9_take_29 : decode cX9_take 29 = .ok (.ireturn, 1) := by decide +kernel
theorem dX9_take_30 : decode cX9_take 30 = .ok (.iload_n 1, 1) := by decide +kernel
theorem dX9_take_31 : decode cX9_take 31 = .ok (.bipush 32, 2) := by decide +kernel
theorem dX9_take_33 : decode cX9_take 33 = .ok (.if_icmp .ne 5, 3) := by decide +kernel
theorem dX9_take_36 : decode cX9_take 36 = .ok (.iconst 1, 1) := by decide +kernel
theorem dX9_take_37 : decode cX9_take 37 = .ok (.ireturn, 1) := by decide +kernel
theorem dX9_take_38 : decode cX9_take 38 = .ok (.aload_n 0, 1) := by decide +kernel
theorem dX9_take_39 : decode cX9_take 39 = .ok (.getfield 25, 3) := by decide +kernel
theorem dX9_take_42 : decode cX9_take 42 = .ok (.tableswitch 44 0 2 #[26, 32, 38], 26) := by decide +kernel
theorem dX9_take_68 : decode cX9_take 68 = .ok (.aload_n 0, 1) := by decide +kernel
theorem dX9_take_69 : decode cX9_take 69 = .ok (.iload_n 1, 1) := by decide +kernel
theorem dX9_take_70 : decode cX9_take 70 = .ok (.invokevirtual 58, 3) := by decide +kernel
theorem dX9_take_73 : decode cX9_take 73 = .ok (.ireturn, 1) := by decide +kernel
theorem dX9_take_74 : decode cX9_take 74 = .ok (.aload_n 0, 1) := by decide +kernel
theorem dX9_take_75 : decode cX9_take 75 = .ok (.iload_n 1, 1) := by decide +kernel
theorem dX9_take_76 : decode cX9_take 76 = .ok (.invokevirtual 61, 3) := by decide +kernel
theorem dX9_take_79 : decode cX9_take 79 = .ok (.ireturn, 1) := by decide +kernel
theorem dX9_take_80 : decode cX9_take 80 = .ok (.aload_n 0, 1) := by decide +kernel
theorem dX9_take_81 : decode cX9_take 81 = .ok (.iload_n 1, 1) := by decide +kernel
theorem dX9_take_82 : decode cX9_take 82 = .ok (.invokevirtual 64, 3) := by decide +kernel
theorem dX9_take_85 : decode cX9_take 85 = .ok (.ireturn, 1) := by decide +kernel
theorem dX9_take_86 : decode cX9_take 86 = .ok (.aload_n 0, 1) := by decide +kernel
theorem dX9_take_87 : decode cX9_take 87 = .ok (.iload_n 1, 1) := by decide +kernel
theorem dX9_take_88 : decode cX9_take 88 = .ok (.invokevirtual 67, 3) := by decide +kernel
theorem dX9_take_91 : decode cX9_take 91 = .ok (.ireturn, 1) := by decide +kernel
/-! SealLine$Tape.take(I)Z -/
theorem eX9_take {d mc ms : Nat} {w : qW} {Q : Option Value → qW → Prop} {q : Nat} {x0 : Int32} (h : AW (mX9_take, d, mc, ms, none, Q) 0 [some (.ref q), some (.int x0)] [] w 0 0) : CT mX9_take d mc ms [.ref q, .int x0] w Q := CT_of (by decide +kernel) rfl (Nat.le_of_ble_eq_true rfl) h
def bX9_take_0 (G : Nat × Nat × Nat × Option (Nat × (Nat → Int32)) × (Option Value → qW → Prop)) : qK := (s_aload 0 (s_getfield 9 4 (s_iconst 3 (s_ic_ne (AW (mX9_take, G) 30) (s_aload 0 (s_iconst 4 (s_putI 9 4 (s_iload 1 (AW (mX9_take, G) 14)))))))))
theorem oX9_take_0 (G : Nat × Nat × Nat × Option (Nat × (Nat → Int32)) × (Option Value → qW → Prop)) : qImp (bX9_take_0 G) (AW (mX9_take, G) 0) := (r_aload_n dX9_take_0 rfl (r_getfield dX9_take_1 fgX9_25 (r_iconst dX9_take_4 rfl (r_ic_ne (tgt := 30) dX9_take_5 rfl qImp.rf (r_aload_n dX9_take_8 rfl (r_iconst dX9_take_9 rfl (r_putI dX9_take_10 fpX9_25 (fun q hq => by cases hq; rfl) (r_iload_n dX9_take_13 rfl qImp.rf))))))))
def bX9_take_17 (G : Nat × Nat × Nat × Option (Nat × (Nat → Int32)) × (Option Value → qW → Prop)) : qK := (s_if_eq (AW (mX9_take, G) 30) (s_aload 0 (s_iload 1 (s_iconst 48 (s_isub (AW (mX9_take, G) 25))))))
theorem oX9_take_17 (G : Nat × Nat × Nat × Option (Nat × (Nat → Int32)) × (Option Value → qW → Prop)) : qImp (bX9_take_17 G) (AW (mX9_take, G) 17) := (r_if_eq (tgt := 30) dX9_take_17 rfl qImp.rf (r_aload_n dX9_take_20 rfl (r_iload_n dX9_take_21 rfl (r_bipush dX9_take_22 rfl (r_isub dX9_take_24 qImp.rf)))))
def bX9_take_28 (G : Nat × Nat × Nat × Option (Nat × (Nat → Int32)) × (Option Value → qW → Prop)) : qK := (s_iconst 1 (s_zreturn (mX9_take, G)))
theorem oX9_take_28 (G : Nat × Nat × Nat × Option (Nat × (Nat → Int32)) × (Option Value → qW → Prop)) : qImp (bX9_take_28 G) (AW (mX9_take, G) 28) := (r_iconst dX9_take_28 rfl (r_zreturn dX9_take_29 rfl))
def bX9_take_30 (G : Nat × Nat × Nat × Option (Nat × (Nat → Int32)) × (Option Value → qW → Prop)) : qK := (s_iload 1 (s_iconst 32 (s_ic_ne (AW (mX9_take, G) 38) (s_iconst 1 (s_zreturn (mX9_take, G))))))
theorem oX9_take_30 (G : Nat × Nat × Nat × Option (Nat × (Nat → Int32)) × (Option Value → qW → Prop)) : qImp (bX9_take_30 G) (AW (mX9_take, G) 30) := (r_iload_n dX9_take_30 rfl (r_bipush dX9_take_31 rfl (r_ic_ne (tgt := 38) dX9_take_33 rfl qImp.rf (r_iconst dX9_take_36 rfl (r_zreturn dX9_take_37 rfl)))))
def bX9_take_38 (G : Nat × Nat × Nat × Option (Nat × (Nat → Int32)) × (Option Value → qW → Prop)) : qK := (s_aload 0 (s_getfield 9 4 (AW (mX9_take, G) 42)))
theorem oX9_take_38 (G : Nat × Nat × Nat × Option (Nat × (Nat → Int32)) × (Option Value → qW → Prop)) : qImp (bX9_take_38 G) (AW (mX9_take, G) 38) := (r_aload_n dX9_take_38 rfl (r_getfield dX9_take_39 fgX9_25 qImp.rf))
def bX9_take_68 (G : Nat × Nat × Nat × Option (Nat × (Nat → Int32)) × (Option Value → qW → Prop)) : qK := (s_aload 0 (s_iload 1 (AW (mX9_take, G) 70)))
theorem oX9_take_68 (G : Nat × Nat × Nat × Option (Nat × (Nat → Int32)) × (Option Value → qW → Prop)) : qImp (bX9_take_68 G) (AW (mX9_take, G) 68) := (r_aload_n dX9_take_68 rfl (r_iload_n dX9_take_69 rfl qImp.rf))
def bX9_take_73 (G : Nat × Nat × Nat × Option (Nat × (Nat → Int32)) × (Option Value → qW → Prop)) : qK := (s_zreturn (mX9_take, G))
theorem oX9_take_73 (G : Nat × Nat × Nat × Option (Nat × (Nat → Int32)) × (Option Value → qW → Prop)) : qImp (bX9_take_73 G) (AW (mX9_take, G) 73) := (r_zreturn dX9_take_73 rfl)
def bX9_take_74 (G : Nat × Nat × Nat × Option (Nat × (Nat → Int32)) × (Option Value → qW → Prop)) : qK := (s_aload 0 (s_iload 1 (AW (mX9_take, G) 76)))
theorem oX9_take_74 (G : Nat × Nat × Nat × Option (Nat × (Nat → Int32)) × (Option Value → qW → Prop)) : qImp (bX9_take_74 G) (AW (mX9_take, G) 74) := (r_aload_n dX9_take_74 rfl (r_iload_n dX9_take_75 rfl qImp.rf))
def bX9_take_79 (G : Nat × Nat × Nat × Option (Nat × (Nat → Int32)) × (Option Value → qW → Prop)) : qK := (s_zreturn (mX9_take, G))
theorem oX9_take_79 (G : Nat × Nat × Nat × Option (Nat × (Nat → Int32)) × (Option Value → qW → Prop)) : qImp (bX9_take_79 G) (AW (mX9_take, G) 79) := (r_zreturn dX9_take_79 rfl)
def bX9_take_80 (G : Nat × Nat × Nat × Option (Nat × (Nat → Int32)) × (Option Value → qW → Prop)) : qK := (s_aload 0 (s_iload 1 (AW (mX9_take, G) 82)))
theorem oX9_take_80 (G : Nat × Nat × Nat × Option (Nat × (Nat → Int32)) × (Option Value → qW → Prop)) : qImp (bX9_take_80 G) (AW (mX9_take, G) 80) := (r_aload_n dX9_take_80 rfl (r_iload_n dX9_take_81 rfl qImp.rf))
def bX9_take_85 (G : Nat × Nat × Nat × Option (Nat × (Nat → Int32)) × (Option Value → qW → Prop)) : qK := (s_zreturn (mX9_take, G))
theorem oX9_take_85 (G : Nat × Nat × Nat × Option (Nat × (Nat → Int32)) × (Option Value → qW → Prop)) : qImp (bX9_take_85 G) (AW (mX9_take, G) 85) := (r_zreturn dX9_take_85 rfl)
def bX9_take_86 (G : Nat × Nat × Nat × Option (Nat × (Nat → Int32)) × (Option Value → qW → Prop)) : qK := (s_aload 0 (s_iload 1 (AW (mX9_take, G) 88)))
theorem oX9_take_86 (G : Nat × Nat × Nat × Option (Nat × (Nat → Int32)) × (Option Value → qW → Prop)) : qImp (bX9_take_86 G) (AW (mX9_take, G) 86) := (r_aload_n dX9_take_86 rfl (r_iload_n dX9_take_87 rfl qImp.rf))
def bX9_take_91 (G : Nat × Nat × Nat × Option (Nat × (Nat → Int32)) × (Option Value → qW → Prop)) : qK := (s_zreturn (mX9_take, G))
theorem oX9_take_91 (G : Nat × Nat × Nat × Option (Nat × (Nat → Int32)) × (Option Value → qW → Prop)) : qImp (bX9_take_91 G) (AW (mX9_take, G) 91) := (r_zreturn dX9_take_91 rfl)
theorem kX9_take_14 {G : Nat × Nat × Nat × Option (Nat × (Nat → Int32)) × (Option Value → qW → Prop)} {L : qL} {w : qW} {kc ks : Nat} {rest : List Value}  {x0 : Int32} {d mc ms : Nat} {Q : Option Value → qW → Prop} (hC : CT mX9_isDigit d mc ms [.int x0] w Q) (hst : rest.length ≤ 4) (hdp : d + 1 ≤ G.1) (hmc : kc + mc ≤ G.2.1 ∧ ks + ms ≤ G.2.2.1) (k : ∀ r w', Q r w' → AW (mX9_take, G) 17 L (r.toList ++ rest) w' (kc + mc) (ks + ms)) : AW (mX9_take, G) 14 L (.int x0 :: rest) w kc ks := a_callS [.int x0] rest dX9_take_14 tX9_isDigit lk535 hC rfl hst hdp hmc k
theorem kX9_take_25 {G : Nat × Nat × Nat × Option (Nat × (Nat → Int32)) × (Option Value → qW → Prop)} {L : qL} {w : qW} {kc ks : Nat} {rest : List Value} {q : Nat} {x0 : Int32} {d mc ms : Nat} {Q : Option Value → qW → Prop} (hC : CT mX9_lengthenNumber d mc ms [.ref q, .int x0] w Q) (hq : qci w q = some 9) (hst : rest.length ≤ 4) (hdp : d + 1 ≤ G.1) (hmc : kc + mc ≤ G.2.1 ∧ ks + ms ≤ G.2.2.1) (k : ∀ r w', Q r w' → AW (mX9_take, G) 28 L (r.toList ++ rest) w' (kc + mc) (ks + ms)) : AW (mX9_take, G) 25 L (.int x0 :: .ref q :: rest) w kc ks := a_callV [.int x0] rest dX9_take_25 vX9_lengthenNumber lk538 hC hq rfl rfl hst hdp hmc k
theorem kX9_take_70 {G : Nat × Nat × Nat × Option (Nat × (Nat → Int32)) × (Option Value → qW → Prop)} {L : qL} {w : qW} {kc ks : Nat} {rest : List Value} {q : Nat} {x0 : Int32} {d mc ms : Nat} {Q : Option Value → qW → Prop} (hC : CT mX9_takeUnit d mc ms [.ref q, .int x0] w Q) (hq : qci w q = some 9) (hst : rest.length ≤ 4) (hdp : d + 1 ≤ G.1) (hmc : kc + mc ≤ G.2.1 ∧ ks + ms ≤ G.2.2.1) (k : ∀ r w', Q r w' → AW (mX9_take, G) 73 L (r.toList ++ rest) w' (kc + mc) (ks + ms)) : AW (mX9_take, G) 70 L (.int x0 :: .ref q :: rest) w kc ks := a_callV [.int x0] rest dX9_take_70 vX9_takeUnit lk542 hC hq rfl rfl hst hdp hmc k
theorem kX9_take_76 {G : Nat × Nat × Nat × Option (Nat × (Nat → Int32)) × (Option Value → qW → Prop)} {L : qL} {w : qW} {kc ks : Nat} {rest : List Value} {q : Nat} {x0 : Int32} {d mc ms : Nat} {Q : Option Value → qW → Prop} (hC : CT mX9_takeSign d mc ms [.ref q, .int x0] w Q) (hq : qci w q = some 9) (hst : rest.length ≤ 4) (hdp : d + 1 ≤ G.1) (hmc : kc + mc ≤ G.2.1 ∧ ks + ms ≤ G.2.2.1) (k : ∀ r w', Q r w' → AW (mX9_take, G) 79 L (r.toList ++ rest) w' (kc + mc) (ks + ms)) : AW (mX9_take, G) 76 L (.int x0 :: .ref q :: rest) w kc ks := a_callV [.int x0] rest dX9_take_76 vX9_takeSign lk550 hC hq rfl rfl hst hdp hmc k
theorem kX9_take_82 {G : Nat × Nat × Nat × Option (Nat × (Nat → Int32)) × (Option Value → qW → Prop)} {L : qL} {w : qW} {kc ks : Nat} {rest : List Value} {q : Nat} {x0 : Int32} {d mc ms : Nat} {Q : Option Value → qW → Prop} (hC : CT mX9_takeDigit d mc ms [.ref q, .int x0] w Q) (hq : qci w q = some 9) (hst : rest.length ≤ 4) (hdp : d + 1 ≤ G.1) (hmc : kc + mc ≤ G.2.1 ∧ ks + ms ≤ G.2.2.1) (k : ∀ r w', Q r w' → AW (mX9_take, G) 85 L (r.toList ++ rest) w' (kc + mc) (ks + ms)) : AW (mX9_take, G) 82 L (.int x0 :: .ref q :: rest) w kc ks := a_callV [.int x0] rest dX9_take_82 vX9_takeDigit lk554 hC hq rfl rfl hst hdp hmc k
theorem kX9_take_88 {G : Nat × Nat × Nat × Option (Nat × (Nat → Int32)) × (Option Value → qW → Prop)} {L : qL} {w : qW} {kc ks : Nat} {rest : List Value} {q : Nat} {x0 : Int32} {d mc ms : Nat} {Q : Option Value → qW → Prop} (hC : CT mX9_takeJoin d mc ms [.ref q, .int x0] w Q) (hq : qci w q = some 9) (hst : rest.length ≤ 4) (hdp : d + 1 ≤ G.1) (hmc : kc + mc ≤ G.2.1 ∧ ks + ms ≤ G.2.2.1) (k : ∀ r w', Q r w' → AW (mX9_take, G) 91 L (r.toList ++ rest) w' (kc + mc) (ks + ms)) : AW (mX9_take, G) 88 L (.int x0 :: .ref q :: rest) w kc ks := a_callV [.int x0] rest dX9_take_88 vX9_takeJoin lk561 hC hq rfl rfl hst hdp hmc k
theorem dX9_firstFault_0 : decode cX9_firstFault 0 = .ok (.aload_n 0, 1) := by decide +kernel
theorem dX9_firstFault_1 : decode cX9_firstFault 1 = .ok (.iconst 0, 1) := by decide +kernel
theorem dX9_firstFault_2 : decode cX9_firstFault 2 = .ok (.putfield 22, 3) := by decide +kernel
theorem dX9_firstFault_5 : decode cX9_firstFault 5 = .ok (.aload_n 0, 1) := by decide +kernel
theorem dX9_firstFault_6 : decode cX9_firstFault 6 = .ok (.iconst 0, 1) := by decide +kernel
theorem dX9_firstFault_7 : decode cX9_firstFault 7 = .ok (.putfield 25, 3) := by decide +kernel
theorem dX9_firstFault_10 : decode cX9_firstFault 10 = .ok (.aload_n 0, 1) := by decide +kernel
theorem dX9_firstFault_11 : decode cX9_firstFault 11 = .ok (.iconst 0, 1) := by decide +kernel
theorem dX9_firstFault_12 : decode cX9_firstFault 12 = .ok (.putfield 28, 3) := by decide +kernel
theorem dX9_firstFault_15 : decode cX9_firstFault 15 = .ok (.iconst 0, 1) := by decide +kernel
theorem dX9_firstFault_16 : decode cX9_firstFault 16 = .ok (.istore_n 1, 1) := by decide +kernel
theorem dX9_firstFault_17 : decode cX9_firstFault 17 = .ok (.iload_n 1, 1) := by decide +kernel
theorem dX9_firstFault_18 : decode cX9_firstFault 18 = .ok (.aload_n 0, 1) := by decide +kernel
theorem dX9_firstFault_19 : decode cX9_firstFault 19 = .ok (.getfield 15, 3) := by decide +kernel
theorem dX9_firstFault_22 : decode cX9_firstFault 22 = .ok (.if_icmp .ge 24, 3) := by decide +kernel
theorem dX9_firstFault_25 : decode cX9_firstFault 25 = .ok (.aload_n 0, 1) := by decide +kernel
theorem dX9_firstFault_26 : decode cX9_firstFault 26 = .ok (.aload_n 0, 1) := by decide +kernel
theorem dX9_firstFault_27 : decode cX9_firstFault 27 = .ok (.getfield 9, 3) := by decide +kernel
theorem dX9_firstFault_30 : decode cX9_firstFault 30 = .ok (.iload_n 1, 1) := by decide +kernel
theorem dX9_firstFault_31 : decode cX9_firstFault 31 = .ok (.iaload, 1) := by decide +kernel
theorem dX9_firstFault_32 : decode cX9_firstFault 32 = .ok (.invokevirtual 41, 3) := by decide +kernel
theorem dX9_firstFault_35 : decode cX9_firstFault 35 = .ok (.ifCond .ne 5, 3) := by decide +kernel
theorem dX9_firstFault_38 : decode cX9_firstFault 38 = .ok (.iload_n 1, 1) := by decide +kernel
theorem dX9_firstFault_39 : decode cX9_firstFault 39 = .ok (.ireturn, 1) := by decide +kernel
theorem dX9_firstFault_40 : decode cX9_firstFault 40 = .ok (.iinc 1 1, 3) := by decide +kernel
theorem dX9_firstFault_43 : decode cX9_firstFault 43 = .ok (.goto (-26), 3) := by decide +kernel
theorem dX9_firstFault_46 : decode cX9_firstFault 46 = .ok (.aload_n 0, 1) := by decide +kernel
theorem dX9_firstFault_47 : decode cX9_firstFault 47 = .ok (.getfield 28, 3) := by decide +kernel
theorem dX9_firstFault_50 : decode cX9_firstFault 50 = .ok (.ifCond .ne 23, 3) := by decide +kernel
theorem dX9_firstFault_53 : decode cX9_firstFault 53 = .ok (.aload_n 0, 1) := by decide +kernel
theorem dX9_firstFault_54 : decode cX9_firstFault 54 = .ok (.getfield 25, 3) := by decide +kernel
theorem dX9_firstFault_57 : decode cX9_firstFault 57 = .ok (.iconst 3, 1) := by decide +kernel
theorem dX9_firstFault_58 : decode cX9_firstFault 58 = .ok (.if_icmp .eq 11, 3) := by decide +kernel
theorem dX9_firstFault_61 : decode cX9_firstFault 61 = .ok (.aload_n 0, 1) := by decide +kernel
theorem dX9_firstFault_62 : decode cX9_firstFault 62 = .ok (.getfield 25, 3) := by decide +kernel
theorem dX9_firstFault_65 : decode cX9_firstFault 65 = .ok (.iconst 4, 1) := by decide +kernel
theorem dX9_firstFault_66 : decode cX9_firstFault 66 = .ok (.if_icmp .ne 7, 3) := by decide +kernel
theorem dX9_firstFault_69 : decode cX9_firstFault 69 = .ok (.iconst 1, 1) := by decide +kernel
theorem dX9_firstFault_70 : decode cX9_firstFault 70 = .ok (.goto 4, 3) := by decide +kernel
theorem dX9_firstFault_73 : decode cX9_firstFault 73 = .ok (.iconst 0, 1) := by decide +kernel
theorem dX9_firstFault_74 : decode cX9_firstFault 74 = .ok (.istore_n 1, 1) := by decide +kernel
theorem dX9_firstFault_75 : decode cX9_firstFault 75 = .ok (.iload_n 1, 1) := by decide +kernel
theorem dX9_firstFault_76 : decode cX9_firstFault 76 = .ok (.ifCond .eq 7, 3) := by decide +kernel
theorem dX9_firstFault_79 : decode cX9_firstFault 79 = .ok (.iconst (-1), 1) := by decide +kernel
theorem dX9_firstFault_80 : decode cX9_firstFault 80 = .ok (.goto 7, 3) := by decide +kernel
theorem dX9_firstFault_83 : decode cX9_firstFault 83 = .ok (.aload_n 0, 1) := by decide +kernel
theorem dX9_firstFault_84 : decode cX9_firstFault 84 = .ok (.getfield 15, 3) := by decide +kernel
theorem dX9_firstFault_87 : decode cX9_firstFault 87 = .ok (.ireturn, 1) := by decide +kernel
/-! SealLine$Tape.firstFault()I -/
theorem eX9_firstFault {d mc ms : Nat} {w : qW} {Q : Option Value → qW → Prop} {q : Nat} (h : AW (mX9_firstFault, d, mc, ms, none, Q) 0 [some (.ref q), none] [] w 0 0) : CT mX9_firstFault d mc ms [.ref q] w Q := CT_of (by decide +kernel) rfl (Nat.le_of_ble_eq_true rfl) h
def bX9_firstFault_0 (G : Nat × Nat × Nat × Option (Nat × (Nat → Int32)) × (Option Value → qW → Prop)) : qK := (s_aload 0 (s_iconst 0 (s_putI 9 3 (s_aload 0 (s_iconst 0 (s_putI 9 4 (s_aload 0 (s_iconst 0 (s_putI 9 5 (s_iconst 0 (s_istore 1 0 (AW (mX9_firstFault, G) 17))))))))))))
theorem oX9_firstFault_0 (G : Nat × Nat × Nat × Option (Nat × (Nat → Int32)) × (Option Value → qW → Prop)) : qImp (bX9_firstFault_0 G) (AW (mX9_firstFault, G) 0) := (r_aload_n dX9_firstFault_0 rfl (r_iconst dX9_firstFault_1 rfl (r_putI dX9_firstFault_2 fpX9_22 (fun q hq => by cases hq; rfl) (r_aload_n dX9_firstFault_5 rfl (r_iconst dX9_firstFault_6 rfl (r_putI dX9_firstFault_7 fpX9_25 (fun q hq => by cases hq; rfl) (r_aload_n dX9_firstFault_10 rfl (r_iconst dX9_firstFault_11 rfl (r_putI dX9_firstFault_12 fpX9_28 (fun q hq => by cases hq; rfl) (r_iconst dX9_firstFault_15 rfl (r_istore_n dX9_firstFault_16 rfl (Or.inr rfl) (Nat.le_of_ble_eq_true rfl) qImp.rf)))))))))))
def bX9_firstFault_17 (G : Nat × Nat × Nat × Option (Nat × (Nat → Int32)) × (Option Value → qW → Prop)) : qK := (s_iload 1 (s_aload 0 (s_getfield 9 1 (s_ic_ge (AW (mX9_firstFault, G) 46) (s_aload 0 (s_aload 0 (s_getfield 9 0 (s_iload 1 (s_iaload (mX9_firstFault, G) (AW (mX9_firstFault, G) 32))))))))))
theorem oX9_firstFault_17 (G : Nat × Nat × Nat × Option (Nat × (Nat → Int32)) × (Option Value → qW → Prop)) : qImp (bX9_firstFault_17 G) (AW (mX9_firstFault, G) 17) := (r_iload_n dX9_firstFault_17 rfl (r_aload_n dX9_firstFault_18 rfl (r_getfield dX9_firstFault_19 fgX9_15 (r_ic_ge (tgt := 46) dX9_firstFault_22 rfl qImp.rf (r_aload_n dX9_firstFault_25 rfl (r_aload_n dX9_firstFault_26 rfl (r_getfield dX9_firstFault_27 fgX9_9 (r_iload_n dX9_firstFault_30 rfl (r_iaload dX9_firstFault_31 qImp.rf)))))))))
def bX9_firstFault_35 (G : Nat × Nat × Nat × Option (Nat × (Nat → Int32)) × (Option Value → qW → Prop)) : qK := (s_if_ne (AW (mX9_firstFault, G) 40) (s_iload 1 (s_ireturn (mX9_firstFault, G))))
theorem oX9_firstFault_35 (G : Nat × Nat × Nat × Option (Nat × (Nat → Int32)) × (Option Value → qW → Prop)) : qImp (bX9_firstFault_35 G) (AW (mX9_firstFault, G) 35) := (r_if_ne (tgt := 40) dX9_firstFault_35 rfl qImp.rf (r_iload_n dX9_firstFault_38 rfl (r_ireturn dX9_firstFault_39 rfl)))
def bX9_firstFault_40 (G : Nat × Nat × Nat × Option (Nat × (Nat → Int32)) × (Option Value → qW → Prop)) : qK := (s_iinc 1 0 1 (AW (mX9_firstFault, G) 17))
theorem oX9_firstFault_40 (G : Nat × Nat × Nat × Option (Nat × (Nat → Int32)) × (Option Value → qW → Prop)) : qImp (bX9_firstFault_40 G) (AW (mX9_firstFault, G) 40) := (r_iinc dX9_firstFault_40 rfl (Or.inr rfl) (Nat.le_of_ble_eq_true rfl) (r_goto (tgt := 17) dX9_firstFault_43 rfl qImp.rf))
def bX9_firstFault_46 (G : Nat × Nat × Nat × Option (Nat × (Nat → Int32)) × (Option Value → qW → Prop)) : qK := (s_aload 0 (s_getfield 9 5 (s_if_ne (AW (mX9_firstFault, G) 73) (s_aload 0 (s_getfield 9 4 (s_iconst 3 (s_ic_eq (AW (mX9_firstFault, G) 69) (s_aload 0 (s_getfield 9 4 (s_iconst 4 (s_ic_ne (AW (mX9_firstFault, G) 73) (AW (mX9_firstFault, G) 69))))))))))))
theorem oX9_firstFault_46 (G : Nat × Nat × Nat × Option (Nat × (Nat → Int32)) × (Option Value → qW → Prop)) : qImp (bX9_firstFault_46 G) (AW (mX9_firstFault, G) 46) := (r_aload_n dX9_firstFault_46 rfl (r_getfield dX9_firstFault_47 fgX9_28 (r_if_ne (tgt := 73) dX9_firstFault_50 rfl qImp.rf (r_aload_n dX9_firstFault_53 rfl (r_getfield dX9_firstFault_54 fgX9_25 (r_iconst dX9_firstFault_57 rfl (r_ic_eq (tgt := 69) dX9_firstFault_58 rfl qImp.rf (r_aload_n dX9_firstFault_61 rfl (r_getfield dX9_firstFault_62 fgX9_25 (r_iconst dX9_firstFault_65 rfl (r_ic_ne (tgt := 73) dX9_firstFault_66 rfl qImp.rf qImp.rf)))))))))))
def bX9_firstFault_69 (G : Nat × Nat × Nat × Option (Nat × (Nat → Int32)) × (Option Value → qW → Prop)) : qK := (s_iconst 1 (AW (mX9_firstFault, G) 74))
theorem oX9_firstFault_69 (G : Nat × Nat × Nat × Option (Nat × (Nat → Int32)) × (Option Value → qW → Prop)) : qImp (bX9_firstFault_69 G) (AW (mX9_firstFault, G) 69) := (r_iconst dX9_firstFault_69 rfl (r_goto (tgt := 74) dX9_firstFault_70 rfl qImp.rf))
def bX9_firstFault_73 (G : Nat × Nat × Nat × Option (Nat × (Nat → Int32)) × (Option Value → qW → Prop)) : qK := (s_iconst 0 (AW (mX9_firstFault, G) 74))
theorem oX9_firstFault_73 (G : Nat × Nat × Nat × Option (Nat × (Nat → Int32)) × (Option Value → qW → Prop)) : qImp (bX9_firstFault_73 G) (AW (mX9_firstFault, G) 73) := (r_iconst dX9_firstFault_73 rfl qImp.rf)
def bX9_firstFault_74 (G : Nat × Nat × Nat × Option (Nat × (Nat → Int32)) × (Option Value → qW → Prop)) : qK := (s_istore 1 0 (s_iload 1 (s_if_eq (AW (mX9_firstFault, G) 83) (s_iconst (-1) (AW (mX9_firstFault, G) 87)))))
theorem oX9_firstFault_74 (G : Nat × Nat × Nat × Option (Nat × (Nat → Int32)) × (Option Value → qW → Prop)) : qImp (bX9_firstFault_74 G) (AW (mX9_firstFault, G) 74) := (r_istore_n dX9_firstFault_74 rfl (Or.inr rfl) (Nat.le_of_ble_eq_true rfl) (r_iload_n dX9_firstFault_75 rfl (r_if_eq (tgt := 83) dX9_firstFault_76 rfl qImp.rf (r_iconst dX9_firstFault_79 rfl (r_goto (tgt := 87) dX9_firstFault_80 rfl qImp.rf)))))
def bX9_firstFault_83 (G : Nat × Nat × Nat × Option (Nat × (Nat → Int32)) × (Option Value → qW → Prop)) : qK := (s_aload 0 (s_getfield 9 1 (AW (mX9_firstFault, G) 87)))
theorem oX9_firstFault_83 (G : Nat × Nat × Nat × Option (Nat × (Nat → Int32)) × (Option Value → qW → Prop)) : qImp (bX9_firstFault_83 G) (AW (mX9_firstFault, G) 83) := (r_aload_n dX9_firstFault_83 rfl (r_getfield dX9_firstFault_84 fgX9_15 qImp.rf))
def bX9_firstFault_87 (G : Nat × Nat × Nat × Option (Nat × (Nat → Int32)) × (Option Value → qW → Prop)) : qK := (s_ireturn (mX9_firstFault, G))
theorem oX9_firstFault_87 (G : Nat × Nat × Nat × Option (Nat × (Nat → Int32)) × (Option Value → qW → Prop)) : qImp (bX9_firstFault_87 G) (AW (mX9_firstFault, G) 87) := (r_ireturn dX9_firstFault_87 rfl)
theorem kX9_firstFault_32 {G : Nat × Nat × Nat × Option (Nat × (Nat → Int32)) × (Option Value → qW → Prop)} {L : qL} {w : qW} {kc ks : Nat} {rest : List Value} {q : Nat} {x0 : Int32} {d mc ms : Nat} {Q : Option Value → qW → Prop} (hC : CT mX9_take d mc ms [.ref q, .int x0] w Q) (hq : qci w q = some 9) (hst : rest.length ≤ 4) (hdp : d + 1 ≤ G.1) (hmc : kc + mc ≤ G.2.1 ∧ ks + ms ≤ G.2.2.1) (k : ∀ r w', Q r w' → AW (mX9_firstFault, G) 35 L (r.toList ++ rest) w' (kc + mc) (ks + ms)) : AW (mX9_firstFault, G) 32 L (.int x0 :: .ref q :: rest) w kc ks := a_callV [.int x0] rest dX9_firstFault_32 vX9_take lk531 hC hq rfl rfl hst hdp hmc k
theorem dX9_readSteps_0 : decode cX9_readSteps 0 = .ok (.aload_n 0, 1) := by decide +kernel
theorem dX9_readSteps_1 : decode cX9_readSteps 1 = .ok (.getfield 19, 3) := by decide +kernel
theorem dX9_readSteps_4 : decode cX9_readSteps 4 = .ok (.aload_n 0, 1) := by decide +kernel
theorem dX9_readSteps_5 : decode cX9_readSteps 5 = .ok (.getfield 22, 3) := by decide +kernel
theorem dX9_readSteps_8 : decode cX9_readSteps 8 = .ok (.invokestatic 45, 3) := by decide +kernel
theorem dX9_readSteps_11 : decode cX9_readSteps 11 = .ok (.areturn, 1) := by decide +kernel
/-! SealLine$Tape.readSteps()[I -/
theorem eX9_readSteps {d mc ms : Nat} {w : qW} {Q : Option Value → qW → Prop} {q : Nat} (h : AW (mX9_readSteps, d, mc, ms, none, Q) 0 [some (.ref q)] [] w 0 0) : CT mX9_readSteps d mc ms [.ref q] w Q := CT_of (by decide +kernel) rfl (Nat.le_of_ble_eq_true rfl) h
def bX9_readSteps_0 (G : Nat × Nat × Nat × Option (Nat × (Nat → Int32)) × (Option Value → qW → Prop)) : qK := (s_aload 0 (s_getfield 9 2 (s_aload 0 (s_getfield 9 3 (AW (mX9_readSteps, G) 8)))))
theorem oX9_readSteps_0 (G : Nat × Nat × Nat × Option (Nat × (Nat → Int32)) × (Option Value → qW → Prop)) : qImp (bX9_readSteps_0 G) (AW (mX9_readSteps, G) 0) := (r_aload_n dX9_readSteps_0 rfl (r_getfield dX9_readSteps_1 fgX9_19 (r_aload_n dX9_readSteps_4 rfl (r_getfield dX9_readSteps_5 fgX9_22 qImp.rf))))
def bX9_readSteps_11 (G : Nat × Nat × Nat × Option (Nat × (Nat → Int32)) × (Option Value → qW → Prop)) : qK := (s_areturn (mX9_readSteps, G))
theorem oX9_readSteps_11 (G : Nat × Nat × Nat × Option (Nat × (Nat → Int32)) × (Option Value → qW → Prop)) : qImp (bX9_readSteps_11 G) (AW (mX9_readSteps, G) 11) := (r_areturn dX9_readSteps_11 rfl (Or.inr ⟨_, rfl⟩))
theorem kX9_readSteps_8 {G : Nat × Nat × Nat × Option (Nat × (Nat → Int32)) × (Option Value → qW → Prop)} {L : qL} {w : qW} {kc ks : Nat} {rest : List Value}  {x0 : Nat} {x1 : Int32} {d mc ms : Nat} {Q : Option Value → qW → Prop} (hC : CT mJ7_copyOf_59c91 d mc ms [.ref x0, .int x1] w Q) (hst : rest.length ≤ 4) (hdp : d + 1 ≤ G.1) (hmc : kc + mc ≤ G.2.1 ∧ ks + ms ≤ G.2.2.1) (k : ∀ r w', Q r w' → AW (mX9_readSteps, G) 11 L (r.toList ++ rest) w' (kc + mc) (ks + ms)) : AW (mX9_readSteps, G) 8 L (.int x1 :: .ref x0 :: rest) w kc ks := a_callS [.ref x0, .int x1] rest dX9_readSteps_8 tJ7_copyOf_59c91 lk573 hC rfl hst hdp hmc k
