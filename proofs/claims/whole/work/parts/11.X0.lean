theorem dX0_init_0 : decode cX0_init 0 = .ok (.aload_n 0, 1) := by decide +kernel
theorem dX0_init_1 : decode cX0_init 1 = .ok (.invokespecial 3, 3) := by decide +kernel
theorem dX0_init_4 : decode cX0_init 4 = .ok (.aload_n 0, 1) := by decide +kernel
theorem dX0_init_5 : decode cX0_init 5 = .ok (.lconst 0, 1) := by decide +kernel
theorem dX0_init_6 : decode cX0_init 6 = .ok (.putfield 9, 3) := by decide +kernel
theorem dX0_init_9 : decode cX0_init 9 = .ok (.aload_n 0, 1) := by decide +kernel
theorem dX0_init_10 : decode cX0_init 10 = .ok (.lconst 0, 1) := by decide +kernel
theorem dX0_init_11 : decode cX0_init 11 = .ok (.putfield 15, 3) := by decide +kernel
theorem dX0_init_14 : decode cX0_init 14 = .ok (.return_, 1) := by decide +kernel
/-! SealLine$FileSet.<init>()V -/
theorem eX0_init {d mc ms : Nat} {w : qW} {Q : Option Value → qW → Prop} {q : Nat} (h : AW (mX0_init, d, mc, ms, none, Q) 0 [some (.ref q)] [] w 0 0) : CT mX0_init d mc ms [.ref q] w Q := CT_of (by decide +kernel) rfl (Nat.le_of_ble_eq_true rfl) h
def bX0_init_0 (G : Nat × Nat × Nat × Option (Nat × (Nat → Int32)) × (Option Value → qW → Prop)) : qK := (s_aload 0 (s_oinit (mX0_init, G) (s_aload 0 (s_lconst 0 (s_putL 0 0 (s_aload 0 (s_lconst 0 (s_putL 0 1 (s_vreturn (mX0_init, G))))))))))
theorem oX0_init_0 (G : Nat × Nat × Nat × Option (Nat × (Nat → Int32)) × (Option Value → qW → Prop)) : qImp (bX0_init_0 G) (AW (mX0_init, G) 0) := (r_aload_n dX0_init_0 rfl (r_oinit dX0_init_1 lk126 lk86 lk87 (r_aload_n dX0_init_4 rfl (r_lconst dX0_init_5 rfl (r_putL dX0_init_6 fpX0_9 (fun q hq => by cases hq; rfl) (r_aload_n dX0_init_9 rfl (r_lconst dX0_init_10 rfl (r_putL dX0_init_11 fpX0_15 (fun q hq => by cases hq; rfl) (r_vreturn dX0_init_14 rfl)))))))))
theorem dX0_empty_0 : decode cX0_empty 0 = .ok (.aload_n 0, 1) := by decide +kernel
theorem dX0_empty_1 : decode cX0_empty 1 = .ok (.lconst 0, 1) := by decide +kernel
theorem dX0_empty_2 : decode cX0_empty 2 = .ok (.putfield 9, 3) := by decide +kernel
theorem dX0_empty_5 : decode cX0_empty 5 = .ok (.aload_n 0, 1) := by decide +kernel
theorem dX0_empty_6 : decode cX0_empty 6 = .ok (.lconst 0, 1) := by decide +kernel
theorem dX0_empty_7 : decode cX0_empty 7 = .ok (.putfield 15, 3) := by decide +kernel
theorem dX0_empty_10 : decode cX0_empty 10 = .ok (.return_, 1) := by decide +kernel
/-! SealLine$FileSet.empty()V -/
theorem eX0_empty {d mc ms : Nat} {w : qW} {Q : Option Value → qW → Prop} {q : Nat} (h : AW (mX0_empty, d, mc, ms, none, Q) 0 [some (.ref q)] [] w 0 0) : CT mX0_empty d mc ms [.ref q] w Q := CT_of (by decide +kernel) rfl (Nat.le_of_ble_eq_true rfl) h
def bX0_empty_0 (G : Nat × Nat × Nat × Option (Nat × (Nat → Int32)) × (Option Value → qW → Prop)) : qK := (s_aload 0 (s_lconst 0 (s_putL 0 0 (s_aload 0 (s_lconst 0 (s_putL 0 1 (s_vreturn (mX0_empty, G))))))))
theorem oX0_empty_0 (G : Nat × Nat × Nat × Option (Nat × (Nat → Int32)) × (Option Value → qW → Prop)) : qImp (bX0_empty_0 G) (AW (mX0_empty, G) 0) := (r_aload_n dX0_empty_0 rfl (r_lconst dX0_empty_1 rfl (r_putL dX0_empty_2 fpX0_9 (fun q hq => by cases hq; rfl) (r_aload_n dX0_empty_5 rfl (r_lconst dX0_empty_6 rfl (r_putL dX0_empty_7 fpX0_15 (fun q hq => by cases hq; rfl) (r_vreturn dX0_empty_10 rfl)))))))
theorem dX0_add_0 : decode cX0_add 0 = .ok (.iload_n 1, 1) := by decide +kernel
theorem dX0_add_1 : decode cX0_add 1 = .ok (.ifCond .lt 24, 3) := by decide +kernel
theorem dX0_add_4 : decode cX0_add 4 = .ok (.iload_n 1, 1) := by decide +kernel
theorem dX0_add_5 : decode cX0_add 5 = .ok (.bipush 64, 2) := by decide +kernel
theorem dX0_add_7 : decode cX0_add 7 = .ok (.if_icmp .ge 18, 3) := by decide +kernel
theorem dX0_add_10 : decode cX0_add 10 = .ok (.aload_n 0, 1) := by decide +kernel
theorem dX0_add_11 : decode cX0_add 11 = .ok (.dup, 1) := by decide +kernel
theorem dX0_add_12 : decode cX0_add 12 = .ok (.getfield 9, 3) := by decide +kernel
theorem dX0_add_15 : decode cX0_add 15 = .ok (.lconst 1, 1) := by decide +kernel
theorem dX0_add_16 : decode cX0_add 16 = .ok (.iload_n 1, 1) := by decide +kernel
theorem dX0_add_17 : decode cX0_add 17 = .ok (.lshl, 1) := by decide +kernel
theorem dX0_add_18 : decode cX0_add 18 = .ok (.lor, 1) := by decide +kernel
theorem dX0_add_19 : decode cX0_add 19 = .ok (.putfield 9, 3) := by decide +kernel
theorem dX0_add_22 : decode cX0_add 22 = .ok (.goto 30, 3) := by decide +kernel
theorem dX0_add_25 : decode cX0_add 25 = .ok (.iload_n 1, 1) := by decide +kernel
theorem dX0_add_26 : decode cX0_add 26 = .ok (.bipush 64, 2) := by decide +kernel
theorem dX0_add_28 : decode cX0_add 28 = .ok (.if_icmp .lt 24, 3) := by decide +kernel
theorem dX0_add_31 : decode cX0_add 31 = .ok (.iload_n 1, 1) := by decide +kernel
theorem dX0_add_32 : decode cX0_add 32 = .ok (.bipush 100, 2) := by decide +kernel
theorem dX0_add_34 : decode cX0_add 34 = .ok (.if_icmp .ge 18, 3) := by decide +kernel
theorem dX0_add_37 : decode cX0_add 37 = .ok (.aload_n 0, 1) := by decide +kernel
theorem dX0_add_38 : decode cX0_add 38 = .ok (.dup, 1) := by decide +kernel
theorem dX0_add_39 : decode cX0_add 39 = .ok (.getfield 15, 3) := by decide +kernel
theorem dX0_add_42 : decode cX0_add 42 = .ok (.lconst 1, 1) := by decide +kernel
theorem dX0_add_43 : decode cX0_add 43 = .ok (.iload_n 1, 1) := by decide +kernel
theorem dX0_add_44 : decode cX0_add 44 = .ok (.bipush 64, 2) := by decide +kernel
theorem dX0_add_46 : decode cX0_add 46 = .ok (.isub, 1) := by decide +kernel
theorem dX0_add_47 : decode cX0_add 47 = .ok (.lshl, 1) := by decide +kernel
theorem dX0_add_48 : decode cX0_add 48 = .ok (.lor, 1) := by decide +kernel
theorem dX0_add_49 : decode cX0_add 49 = .ok (.putfield 15, 3) := by decide +kernel
theorem dX0_add_52 : decode cX0_add 52 = .ok (.return_, 1) := by decide +kernel
/-! SealLine$FileSet.add(I)V -/
theorem eX0_add {d mc ms : Nat} {w : qW} {Q : Option Value → qW → Prop} {q : Nat} {x0 : Int32} (h : AW (mX0_add, d, mc, ms, none, Q) 0 [some (.ref q), some (.int x0)] [] w 0 0) : CT mX0_add d mc ms [.ref q, .int x0] w Q := CT_of (by decide +kernel) rfl (Nat.le_of_ble_eq_true rfl) h
def bX0_add_0 (G : Nat × Nat × Nat × Option (Nat × (Nat → Int32)) × (Option Value → qW → Prop)) : qK := (s_iload 1 (s_if_lt (AW (mX0_add, G) 25) (s_iload 1 (s_iconst 64 (s_ic_ge (AW (mX0_add, G) 25) (s_aload 0 (s_dup (s_getfield 0 0 (s_lconst 1 (s_iload 1 (s_lshl (s_lor (s_putL 0 0 (AW (mX0_add, G) 52))))))))))))))
theorem oX0_add_0 (G : Nat × Nat × Nat × Option (Nat × (Nat → Int32)) × (Option Value → qW → Prop)) : qImp (bX0_add_0 G) (AW (mX0_add, G) 0) := (r_iload_n dX0_add_0 rfl (r_if_lt (tgt := 25) dX0_add_1 rfl qImp.rf (r_iload_n dX0_add_4 rfl (r_bipush dX0_add_5 rfl (r_ic_ge (tgt := 25) dX0_add_7 rfl qImp.rf (r_aload_n dX0_add_10 rfl (r_dup dX0_add_11 (r_getfield dX0_add_12 fgX0_9 (r_lconst dX0_add_15 rfl (r_iload_n dX0_add_16 rfl (r_lshl dX0_add_17 (r_lor dX0_add_18 (r_putL dX0_add_19 fpX0_9 (fun q hq => by cases hq; rfl) (r_goto (tgt := 52) dX0_add_22 rfl qImp.rf))))))))))))))
def bX0_add_25 (G : Nat × Nat × Nat × Option (Nat × (Nat → Int32)) × (Option Value → qW → Prop)) : qK := (s_iload 1 (s_iconst 64 (s_ic_lt (AW (mX0_add, G) 52) (s_iload 1 (s_iconst 100 (s_ic_ge (AW (mX0_add, G) 52) (s_aload 0 (s_dup (s_getfield 0 1 (s_lconst 1 (s_iload 1 (s_iconst 64 (s_isub (s_lshl (s_lor (s_putL 0 1 (AW (mX0_add, G) 52)))))))))))))))))
theorem oX0_add_25 (G : Nat × Nat × Nat × Option (Nat × (Nat → Int32)) × (Option Value → qW → Prop)) : qImp (bX0_add_25 G) (AW (mX0_add, G) 25) := (r_iload_n dX0_add_25 rfl (r_bipush dX0_add_26 rfl (r_ic_lt (tgt := 52) dX0_add_28 rfl qImp.rf (r_iload_n dX0_add_31 rfl (r_bipush dX0_add_32 rfl (r_ic_ge (tgt := 52) dX0_add_34 rfl qImp.rf (r_aload_n dX0_add_37 rfl (r_dup dX0_add_38 (r_getfield dX0_add_39 fgX0_15 (r_lconst dX0_add_42 rfl (r_iload_n dX0_add_43 rfl (r_bipush dX0_add_44 rfl (r_isub dX0_add_46 (r_lshl dX0_add_47 (r_lor dX0_add_48 (r_putL dX0_add_49 fpX0_15 (fun q hq => by cases hq; rfl) qImp.rf))))))))))))))))
def bX0_add_52 (G : Nat × Nat × Nat × Option (Nat × (Nat → Int32)) × (Option Value → qW → Prop)) : qK := (s_vreturn (mX0_add, G))
theorem oX0_add_52 (G : Nat × Nat × Nat × Option (Nat × (Nat → Int32)) × (Option Value → qW → Prop)) : qImp (bX0_add_52 G) (AW (mX0_add, G) 52) := (r_vreturn dX0_add_52 rfl)
theorem dX0_addAll_0 : decode cX0_addAll 0 = .ok (.aload_n 0, 1) := by decide +kernel
theorem dX0_addAll_1 : decode cX0_addAll 1 = .ok (.dup, 1) := by decide +kernel
theorem dX0_addAll_2 : decode cX0_addAll 2 = .ok (.getfield 9, 3) := by decide +kernel
theorem dX0_addAll_5 : decode cX0_addAll 5 = .ok (.aload_n 1, 1) := by decide +kernel
theorem dX0_addAll_6 : decode cX0_addAll 6 = .ok (.getfield 9, 3) := by decide +kernel
theorem dX0_addAll_9 : decode cX0_addAll 9 = .ok (.lor, 1) := by decide +kernel
theorem dX0_addAll_10 : decode cX0_addAll 10 = .ok (.putfield 9, 3) := by decide +kernel
theorem dX0_addAll_13 : decode cX0_addAll 13 = .ok (.aload_n 0, 1) := by decide +kernel
theorem dX0_addAll_14 : decode cX0_addAll 14 = .ok (.dup, 1) := by decide +kernel
theorem dX0_addAll_15 : decode cX0_addAll 15 = .ok (.getfield 15, 3) := by decide +kernel
theorem dX0_addAll_18 : decode cX0_addAll 18 = .ok (.aload_n 1, 1) := by decide +kernel
theorem dX0_addAll_19 : decode cX0_addAll 19 = .ok (.getfield 15, 3) := by decide +kernel
theorem dX0_addAll_22 : decode cX0_addAll 22 = .ok (.lor, 1) := by decide +kernel
theorem dX0_addAll_23 : decode cX0_addAll 23 = .ok (.putfield 15, 3) := by decide +kernel
theorem dX0_addAll_26 : decode cX0_addAll 26 = .ok (.return_, 1) := by decide +kernel
/-! SealLine$FileSet.addAll(LSealLine$FileSet;)V -/
theorem eX0_addAll {d mc ms : Nat} {w : qW} {Q : Option Value → qW → Prop} {q : Nat} {x0 : Nat} (h : AW (mX0_addAll, d, mc, ms, none, Q) 0 [some (.ref q), some (.ref x0)] [] w 0 0) : CT mX0_addAll d mc ms [.ref q, .ref x0] w Q := CT_of (by decide +kernel) rfl (Nat.le_of_ble_eq_true rfl) h
def bX0_addAll_0 (G : Nat × Nat × Nat × Option (Nat × (Nat → Int32)) × (Option Value → qW → Prop)) : qK := (s_aload 0 (s_dup (s_getfield 0 0 (s_aload 1 (s_getfield 0 0 (s_lor (s_putL 0 0 (s_aload 0 (s_dup (s_getfield 0 1 (s_aload 1 (s_getfield 0 1 (s_lor (s_putL 0 1 (s_vreturn (mX0_addAll, G))))))))))))))))
theorem oX0_addAll_0 (G : Nat × Nat × Nat × Option (Nat × (Nat → Int32)) × (Option Value → qW → Prop)) : qImp (bX0_addAll_0 G) (AW (mX0_addAll, G) 0) := (r_aload_n dX0_addAll_0 rfl (r_dup dX0_addAll_1 (r_getfield dX0_addAll_2 fgX0_9 (r_aload_n dX0_addAll_5 rfl (r_getfield dX0_addAll_6 fgX0_9 (r_lor dX0_addAll_9 (r_putL dX0_addAll_10 fpX0_9 (fun q hq => by cases hq; rfl) (r_aload_n dX0_addAll_13 rfl (r_dup dX0_addAll_14 (r_getfield dX0_addAll_15 fgX0_15 (r_aload_n dX0_addAll_18 rfl (r_getfield dX0_addAll_19 fgX0_15 (r_lor dX0_addAll_22 (r_putL dX0_addAll_23 fpX0_15 (fun q hq => by cases hq; rfl) (r_vreturn dX0_addAll_26 rfl)))))))))))))))
theorem dX0_has_0 : decode cX0_has 0 = .ok (.iload_n 1, 1) := by decide +kernel
theorem dX0_has_1 : decode cX0_has 1 = .ok (.ifCond .lt 9, 3) := by decide +kernel
theorem dX0_has_4 : decode cX0_has 4 = .ok (.iload_n 1, 1) := by decide +kernel
theorem dX0_has_5 : decode cX0_has 5 = .ok (.bipush 100, 2) := by decide +kernel
theorem dX0_has_7 : decode cX0_has 7 = .ok (.if_icmp .lt 5, 3) := by decide +kernel
theorem dX0_has_10 : decode cX0_has 10 = .ok (.iconst 0, 1) := by decide +kernel
theorem dX0_has_11 : decode cX0_has 11 = .ok (.ireturn, 1) := by decide +kernel
theorem dX0_has_12 : decode cX0_has 12 = .ok (.iload_n 1, 1) := by decide +kernel
theorem dX0_has_13 : decode cX0_has 13 = .ok (.bipush 64, 2) := by decide +kernel
theorem dX0_has_15 : decode cX0_has 15 = .ok (.if_icmp .ge 24, 3) := by decide +kernel
theorem dX0_has_18 : decode cX0_has 18 = .ok (.aload_n 0, 1) := by decide +kernel
theorem dX0_has_19 : decode cX0_has 19 = .ok (.getfield 9, 3) := by decide +kernel
theorem dX0_has_22 : decode cX0_has 22 = .ok (.iload_n 1, 1) := by decide +kernel
theorem dX0_has_23 : decode cX0_has 23 = .ok (.lushr, 1) := by decide +kernel
theorem dX0_has_24 : decode cX0_has 24 = .ok (.lconst 1, 1) := by decide +kernel
theorem dX0_has_25 : decode cX0_has 25 = .ok (.land, 1) := by decide +kernel
theorem dX0_has_26 : decode cX0_has 26 = .ok (.lconst 0, 1) := by decide +kernel
theorem dX0_has_27 : decode cX0_has 27 = .ok (.lcmp, 1) := by decide +kernel
theorem dX0_has_28 : decode cX0_has 28 = .ok (.ifCond .eq 7, 3) := by decide +kernel
theorem dX0_has_31 : decode cX0_has 31 = .ok (.iconst 1, 1) := by decide +kernel
theorem dX0_has_32 : decode cX0_has 32 = .ok (.goto 28, 3) := by decide +kernel
theorem dX0_has_35 : decode cX0_has 35 = .ok (.iconst 0, 1) := by decide +kernel
theorem dX0_has_36 : decode cX0_has 36 = .ok (.goto 24, 3) := by decide +kernel
theorem dX0_has_39 : decode cX0_has 39 = .ok (.aload_n 0, 1) := by decide +kernel
theorem dX0_has_40 : decode cX0_has 40 = .ok (.getfield 15, 3) := by decide +kernel
theorem dX0_has_43 : decode cX0_has 43 = .ok (.iload_n 1, 1) := by decide +kernel
theorem dX0_has_44 : decode cX0_has 44 = .ok (.bipush 64, 2) := by decide +kernel
theorem dX0_has_46 : decode cX0_has 46 = .ok (.isub, 1) := by decide +kernel
theorem dX0_has_47 : decode cX0_has 47 = .ok (.lushr, 1) := by decide +kernel
theorem dX0_has_48 : decode cX0_has 48 = .ok (.lconst 1, 1) := by decide +kernel
theorem dX0_has_49 : decode cX0_has 49 = .ok (.land, 1) := by decide +kernel
theorem dX0_has_50 : decode cX0_has 50 = .ok (.lconst 0, 1) := by decide +kernel
theorem dX0_has_51 : decode cX0_has 51 = .ok (.lcmp, 1) := by decide +kernel
theorem dX0_has_52 : decode cX0_has 52 = .ok (.ifCond .eq 7, 3) := by decide +kernel
theorem dX0_has_55 : decode cX0_has 55 = .ok (.iconst 1, 1) := by decide +kernel
theorem dX0_has_56 : decode cX0_has 56 = .ok (.goto 4, 3) := by decide +kernel
theorem dX0_has_59 : decode cX0_has 59 = .ok (.iconst 0, 1) := by decide +kernel
theorem dX0_has_60 : decode cX0_has 60 = .ok (.ireturn, 1) := by decide +kernel
/-! SealLine$FileSet.has(I)Z -/
theorem eX0_has {d mc ms : Nat} {w : qW} {Q : Option Value → qW → Prop} {q : Nat} {x0 : Int32} (h : AW (mX0_has, d, mc, ms, none, Q) 0 [some (.ref q), some (.int x0)] [] w 0 0) : CT mX0_has d mc ms [.ref q, .int x0] w Q := CT_of (by decide +kernel) rfl (Nat.le_of_ble_eq_true rfl) h
def bX0_has_0 (G : Nat × Nat × Nat × Option (Nat × (Nat → Int32)) × (Option Value → qW → Prop)) : qK := (s_iload 1 (s_if_lt (AW (mX0_has, G) 10) (s_iload 1 (s_iconst 100 (s_ic_lt (AW (mX0_has, G) 12) (AW (mX0_has, G) 10))))))
theorem oX0_has_0 (G : Nat × Nat × Nat × Option (Nat × (Nat → Int32)) × (Option Value → qW → Prop)) : qImp (bX0_has_0 G) (AW (mX0_has, G) 0) := (r_iload_n dX0_has_0 rfl (r_if_lt (tgt := 10) dX0_has_1 rfl qImp.rf (r_iload_n dX0_has_4 rfl (r_bipush dX0_has_5 rfl (r_ic_lt (tgt := 12) dX0_has_7 rfl qImp.rf qImp.rf)))))
def bX0_has_10 (G : Nat × Nat × Nat × Option (Nat × (Nat → Int32)) × (Option Value → qW → Prop)) : qK := (s_iconst 0 (s_zreturn (mX0_has, G)))
theorem oX0_has_10 (G : Nat × Nat × Nat × Option (Nat × (Nat → Int32)) × (Option Value → qW → Prop)) : qImp (bX0_has_10 G) (AW (mX0_has, G) 10) := (r_iconst dX0_has_10 rfl (r_zreturn dX0_has_11 rfl))
def bX0_has_12 (G : Nat × Nat × Nat × Option (Nat × (Nat → Int32)) × (Option Value → qW → Prop)) : qK := (s_iload 1 (s_iconst 64 (s_ic_ge (AW (mX0_has, G) 39) (s_aload 0 (s_getfield 0 0 (s_iload 1 (s_lushr (s_lconst 1 (s_land (s_lconst 0 (s_lcmp (s_if_eq (AW (mX0_has, G) 35) (s_iconst 1 (AW (mX0_has, G) 60))))))))))))))
theorem oX0_has_12 (G : Nat × Nat × Nat × Option (Nat × (Nat → Int32)) × (Option Value → qW → Prop)) : qImp (bX0_has_12 G) (AW (mX0_has, G) 12) := (r_iload_n dX0_has_12 rfl (r_bipush dX0_has_13 rfl (r_ic_ge (tgt := 39) dX0_has_15 rfl qImp.rf (r_aload_n dX0_has_18 rfl (r_getfield dX0_has_19 fgX0_9 (r_iload_n dX0_has_22 rfl (r_lushr dX0_has_23 (r_lconst dX0_has_24 rfl (r_land dX0_has_25 (r_lconst dX0_has_26 rfl (r_lcmp dX0_has_27 (r_if_eq (tgt := 35) dX0_has_28 rfl qImp.rf (r_iconst dX0_has_31 rfl (r_goto (tgt := 60) dX0_has_32 rfl qImp.rf))))))))))))))
def bX0_has_35 (G : Nat × Nat × Nat × Option (Nat × (Nat → Int32)) × (Option Value → qW → Prop)) : qK := (s_iconst 0 (AW (mX0_has, G) 60))
theorem oX0_has_35 (G : Nat × Nat × Nat × Option (Nat × (Nat → Int32)) × (Option Value → qW → Prop)) : qImp (bX0_has_35 G) (AW (mX0_has, G) 35) := (r_iconst dX0_has_35 rfl (r_goto (tgt := 60) dX0_has_36 rfl qImp.rf))
def bX0_has_39 (G : Nat × Nat × Nat × Option (Nat × (Nat → Int32)) × (Option Value → qW → Prop)) : qK := (s_aload 0 (s_getfield 0 1 (s_iload 1 (s_iconst 64 (s_isub (s_lushr (s_lconst 1 (s_land (s_lconst 0 (s_lcmp (s_if_eq (AW (mX0_has, G) 59) (s_iconst 1 (AW (mX0_has, G) 60)))))))))))))
theorem oX0_has_39 (G : Nat × Nat × Nat × Option (Nat × (Nat → Int32)) × (Option Value → qW → Prop)) : qImp (bX0_has_39 G) (AW (mX0_has, G) 39) := (r_aload_n dX0_has_39 rfl (r_getfield dX0_has_40 fgX0_15 (r_iload_n dX0_has_43 rfl (r_bipush dX0_has_44 rfl (r_isub dX0_has_46 (r_lushr dX0_has_47 (r_lconst dX0_has_48 rfl (r_land dX0_has_49 (r_lconst dX0_has_50 rfl (r_lcmp dX0_has_51 (r_if_eq (tgt := 59) dX0_has_52 rfl qImp.rf (r_iconst dX0_has_55 rfl (r_goto (tgt := 60) dX0_has_56 rfl qImp.rf)))))))))))))
def bX0_has_59 (G : Nat × Nat × Nat × Option (Nat × (Nat → Int32)) × (Option Value → qW → Prop)) : qK := (s_iconst 0 (AW (mX0_has, G) 60))
theorem oX0_has_59 (G : Nat × Nat × Nat × Option (Nat × (Nat → Int32)) × (Option Value → qW → Prop)) : qImp (bX0_has_59 G) (AW (mX0_has, G) 59) := (r_iconst dX0_has_59 rfl qImp.rf)
def bX0_has_60 (G : Nat × Nat × Nat × Option (Nat × (Nat → Int32)) × (Option Value → qW → Prop)) : qK := (s_zreturn (mX0_has, G))
theorem oX0_has_60 (G : Nat × Nat × Nat × Option (Nat × (Nat → Int32)) × (Option Value → qW → Prop)) : qImp (bX0_has_60 G) (AW (mX0_has, G) 60) := (r_zreturn dX0_has_60 rfl)
theorem dX0_meets_0 : decode cX0_meets 0 = .ok (.aload_n 0, 1) := by decide +kernel
theorem dX0_meets_1 : decode cX0_meets 1 = .ok (.getfield 9, 3) := by decide +kernel
theorem dX0_meets_4 : decode cX0_meets 4 = .ok (.aload_n 1, 1) := by decide +kernel
theorem dX0_meets_5 : decode cX0_meets 5 = .ok (.getfield 9, 3) := by decide +kernel
theorem dX0_meets_8 : decode cX0_meets 8 = .ok (.land, 1) := by decide +kernel
theorem dX0_meets_9 : decode cX0_meets 9 = .ok (.lconst 0, 1) := by decide +kernel
theorem dX0_meets_10 : decode cX0_meets 10 = .ok (.lcmp, 1) := by decide +kernel
theorem dX0_meets_11 : decode cX0_meets 11 = .ok (.ifCond .ne 17, 3) := by decide +kernel
theorem dX0_meets_14 : decode cX0_meets 14 = .ok (.aload_n 0, 1) := by decide +kernel
theorem dX0_meets_15 : decode cX0_meets 15 = .ok (.getfield 15, 3) := by decide +kernel
theorem dX0_meets_18 : decode cX0_meets 18 = .ok (.aload_n 1, 1) := by decide +kernel
theorem dX0_meets_19 : decode cX0_meets 19 = .ok (.getfield 15, 3) := by decide +kernel
theorem dX0_meets_22 : decode cX0_meets 22 = .ok (.land, 1) := by decide +kernel
theorem dX0_meets_23 : decode cX0_meets 23 = .ok (.lconst 0, 1) := by decide +kernel
theorem dX0_meets_24 : decode cX0_meets 24 = .ok (.lcmp, 1) := by decide +kernel
theorem dX0_meets_25 : decode cX0_meets 25 = .ok (.ifCond .eq 7, 3) := by decide +kernel
theorem dX0_meets_28 : decode cX0_meets 28 = .ok (.iconst 1, 1) := by decide +kernel
theorem dX0_meets_29 : decode cX0_meets 29 = .ok (.goto 4, 3) := by decide +kernel
theorem dX0_meets_32 : decode cX0_meets 32 = .ok (.iconst 0, 1) := by decide +kernel
theorem dX0_meets_33 : decode cX0_meets 33 = .ok (.ireturn, 1) := by decide +kernel
/-! SealLine$FileSet.meets(LSealLine$FileSet;)Z -/
theorem eX0_meets {d mc ms : Nat} {w : qW} {Q : Option Value → qW → Prop} {q : Nat} {x0 : Nat} (h : AW (mX0_meets, d, mc, ms, none, Q) 0 [some (.ref q), some (.ref x0)] [] w 0 0) : CT mX0_meets d mc ms [.ref q, .ref x0] w Q := CT_of (by decide +kernel) rfl (Nat.le_of_ble_eq_true rfl) h
def bX0_meets_0 (G : Nat × Nat × Nat × Option (Nat × (Nat → Int32)) × (Option Value → qW → Prop)) : qK := (s_aload 0 (s_getfield 0 0 (s_aload 1 (s_getfield 0 0 (s_land (s_lconst 0 (s_lcmp (s_if_ne (AW (mX0_meets, G) 28) (s_aload 0 (s_getfield 0 1 (s_aload 1 (s_getfield 0 1 (s_land (s_lconst 0 (s_lcmp (s_if_eq (AW (mX0_meets, G) 32) (AW (mX0_meets, G) 28)))))))))))))))))
theorem oX0_meets_0 (G : Nat × Nat × Nat × Option (Nat × (Nat → Int32)) × (Option Value → qW → Prop)) : qImp (bX0_meets_0 G) (AW (mX0_meets, G) 0) := (r_aload_n dX0_meets_0 rfl (r_getfield dX0_meets_1 fgX0_9 (r_aload_n dX0_meets_4 rfl (r_getfield dX0_meets_5 fgX0_9 (r_land dX0_meets_8 (r_lconst dX0_meets_9 rfl (r_lcmp dX0_meets_10 (r_if_ne (tgt := 28) dX0_meets_11 rfl qImp.rf (r_aload_n dX0_meets_14 rfl (r_getfield dX0_meets_15 fgX0_15 (r_aload_n dX0_meets_18 rfl (r_getfield dX0_meets_19 fgX0_15 (r_land dX0_meets_22 (r_lconst dX0_meets_23 rfl (r_lcmp dX0_meets_24 (r_if_eq (tgt := 32) dX0_meets_25 rfl qImp.rf qImp.rf))))))))))))))))
def bX0_meets_28 (G : Nat × Nat × Nat × Option (Nat × (Nat → Int32)) × (Option Value → qW → Prop)) : qK := (s_iconst 1 (AW (mX0_meets, G) 33))
theorem oX0_meets_28 (G : Nat × Nat × Nat × Option (Nat × (Nat → Int32)) × (Option Value → qW → Prop)) : qImp (bX0_meets_28 G) (AW (mX0_meets, G) 28) := (r_iconst dX0_meets_28 rfl (r_goto (tgt := 33) dX0_meets_29 rfl qImp.rf))
def bX0_meets_32 (G : Nat × Nat × Nat × Option (Nat × (Nat → Int32)) × (Option Value → qW → Prop)) : qK := (s_iconst 0 (AW (mX0_meets, G) 33))
theorem oX0_meets_32 (G : Nat × Nat × Nat × Option (Nat × (Nat → Int32)) × (Option Value → qW → Prop)) : qImp (bX0_meets_32 G) (AW (mX0_meets, G) 32) := (r_iconst dX0_meets_32 rfl qImp.rf)
def bX0_meets_33 (G : Nat × Nat × Nat × Option (Nat × (Nat → Int32)) × (Option Value → qW → Prop)) : qK := (s_zreturn (mX0_meets, G))
theorem oX0_meets_33 (G : Nat × Nat × Nat × Option (Nat × (Nat → Int32)) × (Option Value → qW → Prop)) : qImp (bX0_meets_33 G) (AW (mX0_meets, G) 33) := (r_zreturn dX0_meets_33 rfl)
theorem dX0_size_0 : decode cX0_size 0 = .ok (.aload_n 0, 1) := by decide +kernel
theorem dX0_size_1 : decode cX0_size 1 = .ok (.getfield 9, 3) := by decide +kernel
theorem dX0_size_4 : decode cX0_size 4 = .ok (.invokestatic 18, 3) := by decide +kernel
theorem dX0_size_7 : decode cX0_size 7 = .ok (.aload_n 0, 1) := by decide +kernel
theorem dX0_size_8 : decode cX0_size 8 = .ok (.getfield 15, 3) := by decide +kernel
theorem dX0_size_11 : decode cX0_size 11 = .ok (.invokestatic 18, 3) := by decide +kernel
theorem dX0_size_14 : decode cX0_size 14 = .ok (.iadd, 1) := by decide +kernel
theorem dX0_size_15 : decode cX0_size 15 = .ok (.ireturn, 1) := by decide +kernel
/-! SealLine$FileSet.size()I -/
theorem eX0_size {d mc ms : Nat} {w : qW} {Q : Option Value → qW → Prop} {q : Nat} (h : AW (mX0_size, d, mc, ms, none, Q) 0 [some (.ref q)] [] w 0 0) : CT mX0_size d mc ms [.ref q] w Q := CT_of (by decide +kernel) rfl (Nat.le_of_ble_eq_true rfl) h
def bX0_size_0 (G : Nat × Nat × Nat × Option (Nat × (Nat → Int32)) × (Option Value → qW → Prop)) : qK := (s_aload 0 (s_getfield 0 0 (AW (mX0_size, G) 4)))
theorem oX0_size_0 (G : Nat × Nat × Nat × Option (Nat × (Nat → Int32)) × (Option Value → qW → Prop)) : qImp (bX0_size_0 G) (AW (mX0_size, G) 0) := (r_aload_n dX0_size_0 rfl (r_getfield dX0_size_1 fgX0_9 qImp.rf))
def bX0_size_7 (G : Nat × Nat × Nat × Option (Nat × (Nat → Int32)) × (Option Value → qW → Prop)) : qK := (s_aload 0 (s_getfield 0 1 (AW (mX0_size, G) 11)))
theorem oX0_size_7 (G : Nat × Nat × Nat × Option (Nat × (Nat → Int32)) × (Option Value → qW → Prop)) : qImp (bX0_size_7 G) (AW (mX0_size, G) 7) := (r_aload_n dX0_size_7 rfl (r_getfield dX0_size_8 fgX0_15 qImp.rf))
def bX0_size_14 (G : Nat × Nat × Nat × Option (Nat × (Nat → Int32)) × (Option Value → qW → Prop)) : qK := (s_iadd (s_ireturn (mX0_size, G)))
theorem oX0_size_14 (G : Nat × Nat × Nat × Option (Nat × (Nat → Int32)) × (Option Value → qW → Prop)) : qImp (bX0_size_14 G) (AW (mX0_size, G) 14) := (r_iadd dX0_size_14 (r_ireturn dX0_size_15 rfl))
theorem kX0_size_4 {G : Nat × Nat × Nat × Option (Nat × (Nat → Int32)) × (Option Value → qW → Prop)} {L : qL} {w : qW} {kc ks : Nat} {rest : List Value}  {x0 : Int64} {d mc ms : Nat} {Q : Option Value → qW → Prop} (hC : CT mJ13_bitCount_95d88 d mc ms [.long x0] w Q) (hst : rest.length ≤ 4) (hdp : d + 1 ≤ G.1) (hmc : kc + mc ≤ G.2.1 ∧ ks + ms ≤ G.2.2.1) (k : ∀ r w', Q r w' → AW (mX0_size, G) 7 L (r.toList ++ rest) w' (kc + mc) (ks + ms)) : AW (mX0_size, G) 4 L (.long x0 :: rest) w kc ks := a_callS [.long x0] rest dX0_size_4 tJ13_bitCount_95d88 lk770 hC rfl hst hdp hmc k
theorem kX0_size_11 {G : Nat × Nat × Nat × Option (Nat × (Nat → Int32)) × (Option Value → qW → Prop)} {L : qL} {w : qW} {kc ks : Nat} {rest : List Value}  {x0 : Int64} {d mc ms : Nat} {Q : Option Value → qW → Prop} (hC : CT mJ13_bitCount_95d88 d mc ms [.long x0] w Q) (hst : rest.length ≤ 4) (hdp : d + 1 ≤ G.1) (hmc : kc + mc ≤ G.2.1 ∧ ks + ms ≤ G.2.2.1) (k : ∀ r w', Q r w' → AW (mX0_size, G) 14 L (r.toList ++ rest) w' (kc + mc) (ks + ms)) : AW (mX0_size, G) 11 L (.long x0 :: rest) w kc ks := a_callS [.long x0] rest dX0_size_11 tJ13_bitCount_95d88 lk770 hC rfl hst hdp hmc k
