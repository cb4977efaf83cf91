theorem dX4_init_0 : decode cX4_init 0 = .ok (.aload_n 0, 1) := by decide +kernel
theorem dX4_init_1 : decode cX4_init 1 = .ok (.invokespecial 3, 3) := by decide +kernel
theorem dX4_init_4 : decode cX4_init 4 = .ok (.aload_n 0, 1) := by decide +kernel
theorem dX4_init_5 : decode cX4_init 5 = .ok (.bipush 100, 2) := by decide +kernel
theorem dX4_init_7 : decode cX4_init 7 = .ok (.newarray .int, 2) := by decide +kernel
theorem dX4_init_9 : decode cX4_init 9 = .ok (.putfield 9, 3) := by decide +kernel
theorem dX4_init_12 : decode cX4_init 12 = .ok (.aload_n 0, 1) := by decide +kernel
theorem dX4_init_13 : decode cX4_init 13 = .ok (.iconst 0, 1) := by decide +kernel
theorem dX4_init_14 : decode cX4_init 14 = .ok (.putfield 15, 3) := by decide +kernel
theorem dX4_init_17 : decode cX4_init 17 = .ok (.return_, 1) := by decide +kernel
/-! SealLine$Queue.<init>()V -/
theorem eX4_init {d mc ms : Nat} {w : qW} {Q : Option Value → qW → Prop} {q : Nat} (h : AW (mX4_init, d, mc, ms, none, Q) 0 [some (.ref q)] [] w 0 0) : CT mX4_init d mc ms [.ref q] w Q := CT_of (by decide +kernel) rfl (Nat.le_of_ble_eq_true rfl) h
def bX4_init_0 (G : Nat × Nat × Nat × Option (Nat × (Nat → Int32)) × (Option Value → qW → Prop)) : qK := (s_aload 0 (s_oinit (mX4_init, G) (s_aload 0 (s_iconst 100 (s_newI (mX4_init, G) 0 (s_putR 4 0 (s_aload 0 (s_iconst 0 (s_putI 4 1 (s_vreturn (mX4_init, G)))))))))))
theorem oX4_init_0 (G : Nat × Nat × Nat × Option (Nat × (Nat → Int32)) × (Option Value → qW → Prop)) : qImp (bX4_init_0 G) (AW (mX4_init, G) 0) := (r_aload_n dX4_init_0 rfl (r_oinit dX4_init_1 lk239 lk86 lk87 (r_aload_n dX4_init_4 rfl (r_bipush dX4_init_5 rfl (r_newI0 dX4_init_7 lk113 (r_putRF dX4_init_9 fpX4_9 (fun q hq => by cases hq; rfl) rfl (fun q hq => by cases hq; rfl) (fun _ => rfl) (fun _ => rfl) (r_aload_n dX4_init_12 rfl (r_iconst dX4_init_13 rfl (r_putI dX4_init_14 fpX4_15 (fun q hq => by cases hq; rfl) (r_vreturn dX4_init_17 rfl))))))))))
theorem dX4_size_0 : decode cX4_size 0 = .ok (.aload_n 0, 1) := by decide +kernel
theorem dX4_size_1 : decode cX4_size 1 = .ok (.getfield 15, 3) := by decide +kernel
theorem dX4_size_4 : decode cX4_size 4 = .ok (.ireturn, 1) := by decide +kernel
/-! SealLine$Queue.size()I -/
theorem eX4_size {d mc ms : Nat} {w : qW} {Q : Option Value → qW → Prop} {q : Nat} (h : AW (mX4_size, d, mc, ms, none, Q) 0 [some (.ref q)] [] w 0 0) : CT mX4_size d mc ms [.ref q] w Q := CT_of (by decide +kernel) rfl (Nat.le_of_ble_eq_true rfl) h
def bX4_size_0 (G : Nat × Nat × Nat × Option (Nat × (Nat → Int32)) × (Option Value → qW → Prop)) : qK := (s_aload 0 (s_getfield 4 1 (s_ireturn (mX4_size, G))))
theorem oX4_size_0 (G : Nat × Nat × Nat × Option (Nat × (Nat → Int32)) × (Option Value → qW → Prop)) : qImp (bX4_size_0 G) (AW (mX4_size, G) 0) := (r_aload_n dX4_size_0 rfl (r_getfield dX4_size_1 fgX4_15 (r_ireturn dX4_size_4 rfl)))
theorem dX4_first_0 : decode cX4_first 0 = .ok (.aload_n 0, 1) := by decide +kernel
theorem dX4_first_1 : decode cX4_first 1 = .ok (.getfield 15, 3) := by decide +kernel
theorem dX4_first_4 : decode cX4_first 4 = .ok (.ifCond .le 12, 3) := by decide +kernel
theorem dX4_first_7 : decode cX4_first 7 = .ok (.aload_n 0, 1) := by decide +kernel
theorem dX4_first_8 : decode cX4_first 8 = .ok (.getfield 9, 3) := by decide +kernel
theorem dX4_first_11 : decode cX4_first 11 = .ok (.iconst 0, 1) := by decide +kernel
theorem dX4_first_12 : decode cX4_first 12 = .ok (.iaload, 1) := by decide +kernel
theorem dX4_first_13 : decode cX4_first 13 = .ok (.goto 4, 3) := by decide +kernel
theorem dX4_first_16 : decode cX4_first 16 = .ok (.iconst (-1), 1) := by decide +kernel
theorem dX4_first_17 : decode cX4_first 17 = .ok (.ireturn, 1) := by decide +kernel
/-! SealLine$Queue.first()I -/
theorem eX4_first {d mc ms : Nat} {w : qW} {Q : Option Value → qW → Prop} {q : Nat} (h : AW (mX4_first, d, mc, ms, none, Q) 0 [some (.ref q)] [] w 0 0) : CT mX4_first d mc ms [.ref q] w Q := CT_of (by decide +kernel) rfl (Nat.le_of_ble_eq_true rfl) h
def bX4_first_0 (G : Nat × Nat × Nat × Option (Nat × (Nat → Int32)) × (Option Value → qW → Prop)) : qK := (s_aload 0 (s_getfield 4 1 (s_if_le (AW (mX4_first, G) 16) (s_aload 0 (s_getfield 4 0 (s_iconst 0 (s_iaload (mX4_first, G) (AW (mX4_first, G) 17))))))))
theorem oX4_first_0 (G : Nat × Nat × Nat × Option (Nat × (Nat → Int32)) × (Option Value → qW → Prop)) : qImp (bX4_first_0 G) (AW (mX4_first, G) 0) := (r_aload_n dX4_first_0 rfl (r_getfield dX4_first_1 fgX4_15 (r_if_le (tgt := 16) dX4_first_4 rfl qImp.rf (r_aload_n dX4_first_7 rfl (r_getfield dX4_first_8 fgX4_9 (r_iconst dX4_first_11 rfl (r_iaload dX4_first_12 (r_goto (tgt := 17) dX4_first_13 rfl qImp.rf))))))))
def bX4_first_16 (G : Nat × Nat × Nat × Option (Nat × (Nat → Int32)) × (Option Value → qW → Prop)) : qK := (s_iconst (-1) (AW (mX4_first, G) 17))
theorem oX4_first_16 (G : Nat × Nat × Nat × Option (Nat × (Nat → Int32)) × (Option Value → qW → Prop)) : qImp (bX4_first_16 G) (AW (mX4_first, G) 16) := (r_iconst dX4_first_16 rfl qImp.rf)
def bX4_first_17 (G : Nat × Nat × Nat × Option (Nat × (Nat → Int32)) × (Option Value → qW → Prop)) : qK := (s_ireturn (mX4_first, G))
theorem oX4_first_17 (G : Nat × Nat × Nat × Option (Nat × (Nat → Int32)) × (Option Value → qW → Prop)) : qImp (bX4_first_17 G) (AW (mX4_first, G) 17) := (r_ireturn dX4_first_17 rfl)
theorem dX4_placeOf_0 : decode cX4_placeOf 0 = .ok (.iconst 0, 1) := by decide +kernel
theorem dX4_placeOf_1 : decode cX4_placeOf 1 = .ok (.istore_n 2, 1) := by decide +kernel
theorem dX4_placeOf_2 : decode cX4_placeOf 2 = .ok (.iload_n 2, 1) := by decide +kernel
theorem dX4_placeOf_3 : decode cX4_placeOf 3 = .ok (.aload_n 0, 1) := by decide +kernel
theorem dX4_placeOf_4 : decode cX4_placeOf 4 = .ok (.getfield 15, 3) := by decide +kernel
theorem dX4_placeOf_7 : decode cX4_placeOf 7 = .ok (.if_icmp .ge 21, 3) := by decide +kernel
theorem dX4_placeOf_10 : decode cX4_placeOf 10 = .ok (.aload_n 0, 1) := by decide +kernel
theorem dX4_placeOf_11 : decode cX4_placeOf 11 = .ok (.getfield 9, 3) := by decide +kernel
theorem dX4_placeOf_14 : decode cX4_placeOf 14 = .ok (.iload_n 2, 1) := by decide +kernel
theorem dX4_placeOf_15 : decode cX4_placeOf 15 = .ok (.iaload, 1) := by decide +kernel
theorem dX4_placeOf_16 : decode cX4_placeOf 16 = .ok (.iload_n 1, 1) := by decide +kernel
theorem dX4_placeOf_17 : decode cX4_placeOf 17 = .ok (.if_icmp .ne 5, 3) := by decide +kernel
theorem dX4_placeOf_20 : decode cX4_placeOf 20 = .ok (.iload_n 2, 1) := by decide +kernel
theorem dX4_placeOf_21 : decode cX4_placeOf 21 = .ok (.ireturn, 1) := by decide +kernel
theorem dX4_placeOf_22 : decode cX4_placeOf 22 = .ok (.iinc 2 1, 3) := by decide +kernel
theorem dX4_placeOf_25 : decode cX4_placeOf 25 = .ok (.goto (-23), 3) := by decide +kernel
theorem dX4_placeOf_28 : decode cX4_placeOf 28 = .ok (.iconst (-1), 1) := by decide +kernel
theorem dX4_placeOf_29 : decode cX4_placeOf 29 = .ok (.ireturn, 1) := by decide +kernel
/-! SealLine$Queue.placeOf(I)I -/
theorem eX4_placeOf {d mc ms : Nat} {w : qW} {Q : Option Value → qW → Prop} {q : Nat} {x0 : Int32} (h : AW (mX4_placeOf, d, mc, ms, none, Q) 0 [some (.ref q), some (.int x0), none] [] w 0 0) : CT mX4_placeOf d mc ms [.ref q, .int x0] w Q := CT_of (by decide +kernel) rfl (Nat.le_of_ble_eq_true rfl) h
def bX4_placeOf_0 (G : Nat × Nat × Nat × Option (Nat × (Nat → Int32)) × (Option Value → qW → Prop)) : qK := (s_iconst 0 (s_istore 2 1 (AW (mX4_placeOf, G) 2)))
theorem oX4_placeOf_0 (G : Nat × Nat × Nat × Option (Nat × (Nat → Int32)) × (Option Value → qW → Prop)) : qImp (bX4_placeOf_0 G) (AW (mX4_placeOf, G) 0) := (r_iconst dX4_placeOf_0 rfl (r_istore_n dX4_placeOf_1 rfl (Or.inr rfl) (Nat.le_of_ble_eq_true rfl) qImp.rf))
def bX4_placeOf_2 (G : Nat × Nat × Nat × Option (Nat × (Nat → Int32)) × (Option Value → qW → Prop)) : qK := (s_iload 2 (s_aload 0 (s_getfield 4 1 (s_ic_ge (AW (mX4_placeOf, G) 28) (s_aload 0 (s_getfield 4 0 (s_iload 2 (s_iaload (mX4_placeOf, G) (s_iload 1 (s_ic_ne (AW (mX4_placeOf, G) 22) (s_iload 2 (s_ireturn (mX4_placeOf, G)))))))))))))
theorem oX4_placeOf_2 (G : Nat × Nat × Nat × Option (Nat × (Nat → Int32)) × (Option Value → qW → Prop)) : qImp (bX4_placeOf_2 G) (AW (mX4_placeOf, G) 2) := (r_iload_n dX4_placeOf_2 rfl (r_aload_n dX4_placeOf_3 rfl (r_getfield dX4_placeOf_4 fgX4_15 (r_ic_ge (tgt := 28) dX4_placeOf_7 rfl qImp.rf (r_aload_n dX4_placeOf_10 rfl (r_getfield dX4_placeOf_11 fgX4_9 (r_iload_n dX4_placeOf_14 rfl (r_iaload dX4_placeOf_15 (r_iload_n dX4_placeOf_16 rfl (r_ic_ne (tgt := 22) dX4_placeOf_17 rfl qImp.rf (r_iload_n dX4_placeOf_20 rfl (r_ireturn dX4_placeOf_21 rfl))))))))))))
def bX4_placeOf_22 (G : Nat × Nat × Nat × Option (Nat × (Nat → Int32)) × (Option Value → qW → Prop)) : qK := (s_iinc 2 1 1 (AW (mX4_placeOf, G) 2))
theorem oX4_placeOf_22 (G : Nat × Nat × Nat × Option (Nat × (Nat → Int32)) × (Option Value → qW → Prop)) : qImp (bX4_placeOf_22 G) (AW (mX4_placeOf, G) 22) := (r_iinc dX4_placeOf_22 rfl (Or.inr rfl) (Nat.le_of_ble_eq_true rfl) (r_goto (tgt := 2) dX4_placeOf_25 rfl qImp.rf))
def bX4_placeOf_28 (G : Nat × Nat × Nat × Option (Nat × (Nat → Int32)) × (Option Value → qW → Prop)) : qK := (s_iconst (-1) (s_ireturn (mX4_placeOf, G)))
theorem oX4_placeOf_28 (G : Nat × Nat × Nat × Option (Nat × (Nat → Int32)) × (Option Value → qW → Prop)) : qImp (bX4_placeOf_28 G) (AW (mX4_placeOf, G) 28) := (r_iconst dX4_placeOf_28 rfl (r_ireturn dX4_placeOf_29 rfl))
theorem dX4_add_0 : decode cX4_add 0 = .ok (.aload_n 0, 1) := by decide +kernel
theorem dX4_add_1 : decode cX4_add 1 = .ok (.getfield 15, 3) := by decide +kernel
theorem dX4_add_4 : decode cX4_add 4 = .ok (.bipush 100, 2) := by decide +kernel
theorem dX4_add_6 : decode cX4_add 6 = .ok (.if_icmp .ge 12, 3) := by decide +kernel
theorem dX4_add_9 : decode cX4_add 9 = .ok (.aload_n 0, 1) := by decide +kernel
theorem dX4_add_10 : decode cX4_add 10 = .ok (.iload_n 1, 1) := by decide +kernel
theorem dX4_add_11 : decode cX4_add 11 = .ok (.invokevirtual 19, 3) := by decide +kernel
theorem dX4_add_14 : decode cX4_add 14 = .ok (.iconst (-1), 1) := by decide +kernel
theorem dX4_add_15 : decode cX4_add 15 = .ok (.if_icmp .eq 5, 3) := by decide +kernel
theorem dX4_add_18 : decode cX4_add 18 = .ok (.iconst (-1), 1) := by decide +kernel
theorem dX4_add_19 : decode cX4_add 19 = .ok (.ireturn, 1) := by decide +kernel
theorem dX4_add_20 : decode cX4_add 20 = .ok (.aload_n 0, 1) := by decide +kernel
theorem dX4_add_21 : decode cX4_add 21 = .ok (.getfield 9, 3) := by decide +kernel
theorem dX4_add_24 : decode cX4_add 24 = .ok (.aload_n 0, 1) := by decide +kernel
theorem dX4_add_25 : decode cX4_add 25 = .ok (.getfield 15, 3) := by decide +kernel
theorem dX4_add_28 : decode cX4_add 28 = .ok (.iload_n 1, 1) := by decide +kernel
theorem dX4_add_29 : decode cX4_add 29 = .ok (.iastore, 1) := by decide +kernel
theorem dX4_add_30 : decode cX4_add 30 = .ok (.aload_n 0, 1) := by decide +kernel
theorem dX4_add_31 : decode cX4_add 31 = .ok (.dup, 1) := by decide +kernel
theorem dX4_add_32 : decode cX4_add 32 = .ok (.getfield 15, 3) := by decide +kernel
theorem dX4_add_35 : decode cX4_add 35 = .ok (.iconst 1, 1) := by decide +kernel
theorem dX4_add_36 : decode cX4_add 36 = .ok (.iadd, 1) := by decide +kernel
theorem dX4_add_37 : decode cX4_add 37 = .ok (.putfield 15, 3) := by decide +kernel
theorem dX4_add_40 : decode cX4_add 40 = .ok (.aload_n 0, 1) := by decide +kernel
theorem dX4_add_41 : decode cX4_add 41 = .ok (.getfield 15, 3) := by decide +kernel
theorem dX4_add_44 : decode cX4_add 44 = .ok (.iconst 1, 1) := by decide +kernel
theorem dX4_add_45 : decode cX4_add 45 = .ok (.isub, 1) := by decide +kernel
theorem dX4_add_46 : decode cX4_add 46 = .ok (.ireturn, 1) := by decide +kernel
/-! SealLine$Queue.add(I)I -/
theorem eX4_add {d mc ms : Nat} {w : qW} {Q : Option Value → qW → Prop} {q : Nat} {x0 : Int32} (h : AW (mX4_add, d, mc, ms, none, Q) 0 [some (.ref q), some (.int x0)] [] w 0 0) : CT mX4_add d mc ms [.ref q, .int x0] w Q := CT_of (by decide +kernel) rfl (Nat.le_of_ble_eq_true rfl) h
def bX4_add_0 (G : Nat × Nat × Nat × Option (Nat × (Nat → Int32)) × (Option Value → qW → Prop)) : qK := (s_aload 0 (s_getfield 4 1 (s_iconst 100 (s_ic_ge (AW (mX4_add, G) 18) (s_aload 0 (s_iload 1 (AW (mX4_add, G) 11)))))))
theorem oX4_add_0 (G : Nat × Nat × Nat × Option (Nat × (Nat → Int32)) × (Option Value → qW → Prop)) : qImp (bX4_add_0 G) (AW (mX4_add, G) 0) := (r_aload_n dX4_add_0 rfl (r_getfield dX4_add_1 fgX4_15 (r_bipush dX4_add_4 rfl (r_ic_ge (tgt := 18) dX4_add_6 rfl qImp.rf (r_aload_n dX4_add_9 rfl (r_iload_n dX4_add_10 rfl qImp.rf))))))
def bX4_add_14 (G : Nat × Nat × Nat × Option (Nat × (Nat → Int32)) × (Option Value → qW → Prop)) : qK := (s_iconst (-1) (s_ic_eq (AW (mX4_add, G) 20) (AW (mX4_add, G) 18)))
theorem oX4_add_14 (G : Nat × Nat × Nat × Option (Nat × (Nat → Int32)) × (Option Value → qW → Prop)) : qImp (bX4_add_14 G) (AW (mX4_add, G) 14) := (r_iconst dX4_add_14 rfl (r_ic_eq (tgt := 20) dX4_add_15 rfl qImp.rf qImp.rf))
def bX4_add_18 (G : Nat × Nat × Nat × Option (Nat × (Nat → Int32)) × (Option Value → qW → Prop)) : qK := (s_iconst (-1) (s_ireturn (mX4_add, G)))
theorem oX4_add_18 (G : Nat × Nat × Nat × Option (Nat × (Nat → Int32)) × (Option Value → qW → Prop)) : qImp (bX4_add_18 G) (AW (mX4_add, G) 18) := (r_iconst dX4_add_18 rfl (r_ireturn dX4_add_19 rfl))
def bX4_add_20 (G : Nat × Nat × Nat × Option (Nat × (Nat → Int32)) × (Option Value → qW → Prop)) : qK := (s_aload 0 (s_getfield 4 0 (s_aload 0 (s_getfield 4 1 (s_iload 1 (s_iastore (s_aload 0 (s_dup (s_getfield 4 1 (s_iconst 1 (s_iadd (s_putI 4 1 (s_aload 0 (s_getfield 4 1 (s_iconst 1 (s_isub (s_ireturn (mX4_add, G))))))))))))))))))
theorem oX4_add_20 (G : Nat × Nat × Nat × Option (Nat × (Nat → Int32)) × (Option Value → qW → Prop)) : qImp (bX4_add_20 G) (AW (mX4_add, G) 20) := (r_aload_n dX4_add_20 rfl (r_getfield dX4_add_21 fgX4_9 (r_aload_n dX4_add_24 rfl (r_getfield dX4_add_25 fgX4_15 (r_iload_n dX4_add_28 rfl (r_iastore dX4_add_29 (r_aload_n dX4_add_30 rfl (r_dup dX4_add_31 (r_getfield dX4_add_32 fgX4_15 (r_iconst dX4_add_35 rfl (r_iadd dX4_add_36 (r_putI dX4_add_37 fpX4_15 (fun q hq => by cases hq; rfl) (r_aload_n dX4_add_40 rfl (r_getfield dX4_add_41 fgX4_15 (r_iconst dX4_add_44 rfl (r_isub dX4_add_45 (r_ireturn dX4_add_46 rfl)))))))))))))))))
theorem kX4_add_11 {G : Nat × Nat × Nat × Option (Nat × (Nat → Int32)) × (Option Value → qW → Prop)} {L : qL} {w : qW} {kc ks : Nat} {rest : List Value} {q : Nat} {x0 : Int32} {d mc ms : Nat} {Q : Option Value → qW → Prop} (hC : CT mX4_placeOf d mc ms [.ref q, .int x0] w Q) (hq : qci w q = some 4) (hst : rest.length ≤ 4) (hdp : d + 1 ≤ G.1) (hmc : kc + mc ≤ G.2.1 ∧ ks + ms ≤ G.2.2.1) (k : ∀ r w', Q r w' → AW (mX4_add, G) 14 L (r.toList ++ rest) w' (kc + mc) (ks + ms)) : AW (mX4_add, G) 11 L (.int x0 :: .ref q :: rest) w kc ks := a_callV [.int x0] rest dX4_add_11 vX4_placeOf lk601 hC hq rfl rfl hst hdp hmc k
theorem dX4_removeFirst_0 : decode cX4_removeFirst 0 = .ok (.aload_n 0, 1) := by decide +kernel
theorem dX4_removeFirst_1 : decode cX4_removeFirst 1 = .ok (.invokevirtual 23, 3) := by decide +kernel
theorem dX4_removeFirst_4 : decode cX4_removeFirst 4 = .ok (.istore_n 1, 1) := by decide +kernel
theorem dX4_removeFirst_5 : decode cX4_removeFirst 5 = .ok (.aload_n 0, 1) := by decide +kernel
theorem dX4_removeFirst_6 : decode cX4_removeFirst 6 = .ok (.getfield 15, 3) := by decide +kernel
theorem dX4_removeFirst_9 : decode cX4_removeFirst 9 = .ok (.ifCond .le 30, 3) := by decide +kernel
theorem dX4_removeFirst_12 : decode cX4_removeFirst 12 = .ok (.aload_n 0, 1) := by decide +kernel
theorem dX4_removeFirst_13 : decode cX4_removeFirst 13 = .ok (.dup, 1) := by decide +kernel
theorem dX4_removeFirst_14 : decode cX4_removeFirst 14 = .ok (.getfield 15, 3) := by decide +kernel
theorem dX4_removeFirst_17 : decode cX4_removeFirst 17 = .ok (.iconst 1, 1) := by decide +kernel
theorem dX4_removeFirst_18 : decode cX4_removeFirst 18 = .ok (.isub, 1) := by decide +kernel
theorem dX4_removeFirst_19 : decode cX4_removeFirst 19 = .ok (.putfield 15, 3) := by decide +kernel
theorem dX4_removeFirst_22 : decode cX4_removeFirst 22 = .ok (.aload_n 0, 1) := by decide +kernel
theorem dX4_removeFirst_23 : decode cX4_removeFirst 23 = .ok (.getfield 9, 3) := by decide +kernel
theorem dX4_removeFirst_26 : decode cX4_removeFirst 26 = .ok (.iconst 1, 1) := by decide +kernel
theorem dX4_removeFirst_27 : decode cX4_removeFirst 27 = .ok (.aload_n 0, 1) := by decide +kernel
theorem dX4_removeFirst_28 : decode cX4_removeFirst 28 = .ok (.getfield 9, 3) := by decide +kernel
theorem dX4_removeFirst_31 : decode cX4_removeFirst 31 = .ok (.iconst 0, 1) := by decide +kernel
theorem dX4_removeFirst_32 : decode cX4_removeFirst 32 = .ok (.aload_n 0, 1) := by decide +kernel
theorem dX4_removeFirst_33 : decode cX4_removeFirst 33 = .ok (.getfield 15, 3) := by decide +kernel
theorem dX4_removeFirst_36 : decode cX4_removeFirst 36 = .ok (.invokestatic 27, 3) := by decide +kernel
theorem dX4_removeFirst_39 : decode cX4_removeFirst 39 = .ok (.iload_n 1, 1) := by decide +kernel
theorem dX4_removeFirst_40 : decode cX4_removeFirst 40 = .ok (.ireturn, 1) := by decide +kernel
/-! SealLine$Queue.removeFirst()I -/
theorem eX4_removeFirst {d mc ms : Nat} {w : qW} {Q : Option Value → qW → Prop} {q : Nat} (h : AW (mX4_removeFirst, d, mc, ms, none, Q) 0 [some (.ref q), none] [] w 0 0) : CT mX4_removeFirst d mc ms [.ref q] w Q := CT_of (by decide +kernel) rfl (Nat.le_of_ble_eq_true rfl) h
def bX4_removeFirst_0 (G : Nat × Nat × Nat × Option (Nat × (Nat → Int32)) × (Option Value → qW → Prop)) : qK := (s_aload 0 (AW (mX4_removeFirst, G) 1))
theorem oX4_removeFirst_0 (G : Nat × Nat × Nat × Option (Nat × (Nat → Int32)) × (Option Value → qW → Prop)) : qImp (bX4_removeFirst_0 G) (AW (mX4_removeFirst, G) 0) := (r_aload_n dX4_removeFirst_0 rfl qImp.rf)
def bX4_removeFirst_4 (G : Nat × Nat × Nat × Option (Nat × (Nat → Int32)) × (Option Value → qW → Prop)) : qK := (s_istore 1 0 (s_aload 0 (s_getfield 4 1 (s_if_le (AW (mX4_removeFirst, G) 39) (s_aload 0 (s_dup (s_getfield 4 1 (s_iconst 1 (s_isub (s_putI 4 1 (s_aload 0 (s_getfield 4 0 (s_iconst 1 (s_aload 0 (s_getfield 4 0 (s_iconst 0 (s_aload 0 (s_getfield 4 1 (AW (mX4_removeFirst, G) 36)))))))))))))))))))
theorem oX4_removeFirst_4 (G : Nat × Nat × Nat × Option (Nat × (Nat → Int32)) × (Option Value → qW → Prop)) : qImp (bX4_removeFirst_4 G) (AW (mX4_removeFirst, G) 4) := (r_istore_n dX4_removeFirst_4 rfl (Or.inr rfl) (Nat.le_of_ble_eq_true rfl) (r_aload_n dX4_removeFirst_5 rfl (r_getfield dX4_removeFirst_6 fgX4_15 (r_if_le (tgt := 39) dX4_removeFirst_9 rfl qImp.rf (r_aload_n dX4_removeFirst_12 rfl (r_dup dX4_removeFirst_13 (r_getfield dX4_removeFirst_14 fgX4_15 (r_iconst dX4_removeFirst_17 rfl (r_isub dX4_removeFirst_18 (r_putI dX4_removeFirst_19 fpX4_15 (fun q hq => by cases hq; rfl) (r_aload_n dX4_removeFirst_22 rfl (r_getfield dX4_removeFirst_23 fgX4_9 (r_iconst dX4_removeFirst_26 rfl (r_aload_n dX4_removeFirst_27 rfl (r_getfield dX4_removeFirst_28 fgX4_9 (r_iconst dX4_removeFirst_31 rfl (r_aload_n dX4_removeFirst_32 rfl (r_getfield dX4_removeFirst_33 fgX4_15 qImp.rf))))))))))))))))))
def bX4_removeFirst_39 (G : Nat × Nat × Nat × Option (Nat × (Nat → Int32)) × (Option Value → qW → Prop)) : qK := (s_iload 1 (s_ireturn (mX4_removeFirst, G)))
theorem oX4_removeFirst_39 (G : Nat × Nat × Nat × Option (Nat × (Nat → Int32)) × (Option Value → qW → Prop)) : qImp (bX4_removeFirst_39 G) (AW (mX4_removeFirst, G) 39) := (r_iload_n dX4_removeFirst_39 rfl (r_ireturn dX4_removeFirst_40 rfl))
theorem kX4_removeFirst_1 {G : Nat × Nat × Nat × Option (Nat × (Nat → Int32)) × (Option Value → qW → Prop)} {L : qL} {w : qW} {kc ks : Nat} {rest : List Value} {q : Nat}  {d mc ms : Nat} {Q : Option Value → qW → Prop} (hC : CT mX4_first d mc ms [.ref q] w Q) (hq : qci w q = some 4) (hst : rest.length ≤ 4) (hdp : d + 1 ≤ G.1) (hmc : kc + mc ≤ G.2.1 ∧ ks + ms ≤ G.2.2.1) (k : ∀ r w', Q r w' → AW (mX4_removeFirst, G) 4 L (r.toList ++ rest) w' (kc + mc) (ks + ms)) : AW (mX4_removeFirst, G) 1 L (.ref q :: rest) w kc ks := a_callV [] rest dX4_removeFirst_1 vX4_first lk613 hC hq rfl rfl hst hdp hmc k
theorem kX4_removeFirst_36 {G : Nat × Nat × Nat × Option (Nat × (Nat → Int32)) × (Option Value → qW → Prop)} {L : qL} {w : qW} {kc ks : Nat} {rest : List Value} {p0 p1 n0 n1 : Nat} {f0 f1 : Nat → Int32} {sp dp n : Int32} (ha0 : qgI w p0 0 = some (n0, f0)) (ha1 : qgI w p1 0 = some (n1, f1)) (h1 : ¬ sp < 0) (h2 : ¬ dp < 0) (h3 : ¬ n < 0) (h4 : sp.toNatClampNeg + n.toNatClampNeg ≤ n0) (h5 : dp.toNatClampNeg + n.toNatClampNeg ≤ n1) (hst : rest.length ≤ 4) (hdp : 1 ≤ G.1) (k : AW (mX4_removeFirst, G) 39 L rest (qsI w p1 (va_cpy f0 f1 sp.toNatClampNeg dp.toNatClampNeg n.toNatClampNeg)) kc ks) : AW (mX4_removeFirst, G) 36 L (.int n :: .int dp :: .ref p1 :: .int sp :: .ref p0 :: rest) w kc ks := a_copy dX4_removeFirst_36 lk617 lk588 lk587 lk77 ha0 ha1 h1 h2 h3 h4 h5 hst hdp k
