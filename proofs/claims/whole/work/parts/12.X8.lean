theorem dX8_size_0 : decode cX8_size 0 = .ok (.aload_n 0, 1) := by decide +kernel
theorem dX8_size_1 : decode cX8_size 1 = .ok (.getfield 9, 3) := by decide +kernel
theorem dX8_size_4 : decode cX8_size 4 = .ok (.ireturn, 1) := by decide +kernel
/-! SealLine$Table.size()I -/
theorem eX8_size {d mc ms : Nat} {w : qW} {Q : Option Value → qW → Prop} {q : Nat} (h : AW (mX8_size, d, mc, ms, none, Q) 0 [some (.ref q)] [] w 0 0) : CT mX8_size d mc ms [.ref q] w Q := CT_of (by decide +kernel) rfl (Nat.le_of_ble_eq_true rfl) h
def bX8_size_0 (G : Nat × Nat × Nat × Option (Nat × (Nat → Int32)) × (Option Value → qW → Prop)) : qK := (s_aload 0 (s_getfield 8 3 (s_ireturn (mX8_size, G))))
theorem oX8_size_0 (G : Nat × Nat × Nat × Option (Nat × (Nat → Int32)) × (Option Value → qW → Prop)) : qImp (bX8_size_0 G) (AW (mX8_size, G) 0) := (r_aload_n dX8_size_0 rfl (r_getfield dX8_size_1 fgX8_9 (r_ireturn dX8_size_4 rfl)))
theorem dX8_isCell_0 : decode cX8_isCell 0 = .ok (.iload_n 1, 1) := by decide +kernel
theorem dX8_isCell_1 : decode cX8_isCell 1 = .ok (.ifCond .lt 27, 3) := by decide +kernel
theorem dX8_isCell_4 : decode cX8_isCell 4 = .ok (.iload_n 1, 1) := by decide +kernel
theorem dX8_isCell_5 : decode cX8_isCell 5 = .ok (.aload_n 0, 1) := by decide +kernel
theorem dX8_isCell_6 : decode cX8_isCell 6 = .ok (.getfield 9, 3) := by decide +kernel
theorem dX8_isCell_9 : decode cX8_isCell 9 = .ok (.if_icmp .ge 19, 3) := by decide +kernel
theorem dX8_isCell_12 : decode cX8_isCell 12 = .ok (.iload_n 2, 1) := by decide +kernel
theorem dX8_isCell_13 : decode cX8_isCell 13 = .ok (.ifCond .lt 15, 3) := by decide +kernel
theorem dX8_isCell_16 : decode cX8_isCell 16 = .ok (.iload_n 2, 1) := by decide +kernel
theorem dX8_isCell_17 : decode cX8_isCell 17 = .ok (.aload_n 0, 1) := by decide +kernel
theorem dX8_isCell_18 : decode cX8_isCell 18 = .ok (.getfield 24, 3) := by decide +kernel
theorem dX8_isCell_21 : decode cX8_isCell 21 = .ok (.if_icmp .ge 7, 3) := by decide +kernel
theorem dX8_isCell_24 : decode cX8_isCell 24 = .ok (.iconst 1, 1) := by decide +kernel
theorem dX8_isCell_25 : decode cX8_isCell 25 = .ok (.goto 4, 3) := by decide +kernel
theorem dX8_isCell_28 : decode cX8_isCell 28 = .ok (.iconst 0, 1) := by decide +kernel
theorem dX8_isCell_29 : decode cX8_isCell 29 = .ok (.ireturn, 1) := by decide +kernel
/-! SealLine$Table.isCell(II)Z -/
theorem eX8_isCell {d mc ms : Nat} {w : qW} {Q : Option Value → qW → Prop} {q : Nat} {x0 : Int32} {x1 : Int32} (h : AW (mX8_isCell, d, mc, ms, none, Q) 0 [some (.ref q), some (.int x0), some (.int x1)] [] w 0 0) : CT mX8_isCell d mc ms [.ref q, .int x0, .int x1] w Q := CT_of (by decide +kernel) rfl (Nat.le_of_ble_eq_true rfl) h
def bX8_isCell_0 (G : Nat × Nat × Nat × Option (Nat × (Nat → Int32)) × (Option Value → qW → Prop)) : qK := (s_iload 1 (s_if_lt (AW (mX8_isCell, G) 28) (s_iload 1 (s_aload 0 (s_getfield 8 3 (s_ic_ge (AW (mX8_isCell, G) 28) (s_iload 2 (s_if_lt (AW (mX8_isCell, G) 28) (s_iload 2 (s_aload 0 (s_getfield 8 1 (s_ic_ge (AW (mX8_isCell, G) 28) (s_iconst 1 (AW (mX8_isCell, G) 29))))))))))))))
theorem oX8_isCell_0 (G : Nat × Nat × Nat × Option (Nat × (Nat → Int32)) × (Option Value → qW → Prop)) : qImp (bX8_isCell_0 G) (AW (mX8_isCell, G) 0) := (r_iload_n dX8_isCell_0 rfl (r_if_lt (tgt := 28) dX8_isCell_1 rfl qImp.rf (r_iload_n dX8_isCell_4 rfl (r_aload_n dX8_isCell_5 rfl (r_getfield dX8_isCell_6 fgX8_9 (r_ic_ge (tgt := 28) dX8_isCell_9 rfl qImp.rf (r_iload_n dX8_isCell_12 rfl (r_if_lt (tgt := 28) dX8_isCell_13 rfl qImp.rf (r_iload_n dX8_isCell_16 rfl (r_aload_n dX8_isCell_17 rfl (r_getfield dX8_isCell_18 fgX8_24 (r_ic_ge (tgt := 28) dX8_isCell_21 rfl qImp.rf (r_iconst dX8_isCell_24 rfl (r_goto (tgt := 29) dX8_isCell_25 rfl qImp.rf))))))))))))))
def bX8_isCell_28 (G : Nat × Nat × Nat × Option (Nat × (Nat → Int32)) × (Option Value → qW → Prop)) : qK := (s_iconst 0 (AW (mX8_isCell, G) 29))
theorem oX8_isCell_28 (G : Nat × Nat × Nat × Option (Nat × (Nat → Int32)) × (Option Value → qW → Prop)) : qImp (bX8_isCell_28 G) (AW (mX8_isCell, G) 28) := (r_iconst dX8_isCell_28 rfl qImp.rf)
def bX8_isCell_29 (G : Nat × Nat × Nat × Option (Nat × (Nat → Int32)) × (Option Value → qW → Prop)) : qK := (s_zreturn (mX8_isCell, G))
theorem oX8_isCell_29 (G : Nat × Nat × Nat × Option (Nat × (Nat → Int32)) × (Option Value → qW → Prop)) : qImp (bX8_isCell_29 G) (AW (mX8_isCell, G) 29) := (r_zreturn dX8_isCell_29 rfl)
theorem dX8_cell_0 : decode cX8_cell 0 = .ok (.aload_n 0, 1) := by decide +kernel
theorem dX8_cell_1 : decode cX8_cell 1 = .ok (.iload_n 1, 1) := by decide +kernel
theorem dX8_cell_2 : decode cX8_cell 2 = .ok (.iload_n 2, 1) := by decide +kernel
theorem dX8_cell_3 : decode cX8_cell 3 = .ok (.invokevirtual 41, 3) := by decide +kernel
theorem dX8_cell_6 : decode cX8_cell 6 = .ok (.ifCond .eq 19, 3) := by decide +kernel
theorem dX8_cell_9 : decode cX8_cell 9 = .ok (.aload_n 0, 1) := by decide +kernel
theorem dX8_cell_10 : decode cX8_cell 10 = .ok (.getfield 27, 3) := by decide +kernel
theorem dX8_cell_13 : decode cX8_cell 13 = .ok (.iload_n 1, 1) := by decide +kernel
theorem dX8_cell_14 : decode cX8_cell 14 = .ok (.aload_n 0, 1) := by decide +kernel
theorem dX8_cell_15 : decode cX8_cell 15 = .ok (.getfield 24, 3) := by decide +kernel
theorem dX8_cell_18 : decode cX8_cell 18 = .ok (.imul, 1) := by decide +kernel
theorem dX8_cell_19 : decode cX8_cell 19 = .ok (.iload_n 2, 1) := by decide +kernel
theorem dX8_cell_20 : decode cX8_cell 20 = .ok (.iadd, 1) := by decide +kernel
theorem dX8_cell_21 : decode cX8_cell 21 = .ok (.iaload, 1) := by decide +kernel
theorem dX8_cell_22 : decode cX8_cell 22 = .ok (.goto 4, 3) := by decide +kernel
theorem dX8_cell_25 : decode cX8_cell 25 = .ok (.iconst (-1), 1) := by decide +kernel
theorem dX8_cell_26 : decode cX8_cell 26 = .ok (.ireturn, 1) := by decide +kernel
/-! SealLine$Table.cell(II)I -/
theorem eX8_cell {d mc ms : Nat} {w : qW} {Q : Option Value → qW → Prop} {q : Nat} {x0 : Int32} {x1 : Int32} (h : AW (mX8_cell, d, mc, ms, none, Q) 0 [some (.ref q), some (.int x0), some (.int x1)] [] w 0 0) : CT mX8_cell d mc ms [.ref q, .int x0, .int x1] w Q := CT_of (by decide +kernel) rfl (Nat.le_of_ble_eq_true rfl) h
def bX8_cell_0 (G : Nat × Nat × Nat × Option (Nat × (Nat → Int32)) × (Option Value → qW → Prop)) : qK := (s_aload 0 (s_iload 1 (s_iload 2 (AW (mX8_cell, G) 3))))
theorem oX8_cell_0 (G : Nat × Nat × Nat × Option (Nat × (Nat → Int32)) × (Option Value → qW → Prop)) : qImp (bX8_cell_0 G) (AW (mX8_cell, G) 0) := (r_aload_n dX8_cell_0 rfl (r_iload_n dX8_cell_1 rfl (r_iload_n dX8_cell_2 rfl qImp.rf)))
def bX8_cell_6 (G : Nat × Nat × Nat × Option (Nat × (Nat → Int32)) × (Option Value → qW → Prop)) : qK := (s_if_eq (AW (mX8_cell, G) 25) (s_aload 0 (s_getfield 8 2 (s_iload 1 (s_aload 0 (s_getfield 8 1 (s_imul (s_iload 2 (s_iadd (s_iaload (mX8_cell, G) (AW (mX8_cell, G) 26)))))))))))
theorem oX8_cell_6 (G : Nat × Nat × Nat × Option (Nat × (Nat → Int32)) × (Option Value → qW → Prop)) : qImp (bX8_cell_6 G) (AW (mX8_cell, G) 6) := (r_if_eq (tgt := 25) dX8_cell_6 rfl qImp.rf (r_aload_n dX8_cell_9 rfl (r_getfield dX8_cell_10 fgX8_27 (r_iload_n dX8_cell_13 rfl (r_aload_n dX8_cell_14 rfl (r_getfield dX8_cell_15 fgX8_24 (r_imul dX8_cell_18 (r_iload_n dX8_cell_19 rfl (r_iadd dX8_cell_20 (r_iaload dX8_cell_21 (r_goto (tgt := 26) dX8_cell_22 rfl qImp.rf)))))))))))
def bX8_cell_25 (G : Nat × Nat × Nat × Option (Nat × (Nat → Int32)) × (Option Value → qW → Prop)) : qK := (s_iconst (-1) (AW (mX8_cell, G) 26))
theorem oX8_cell_25 (G : Nat × Nat × Nat × Option (Nat × (Nat → Int32)) × (Option Value → qW → Prop)) : qImp (bX8_cell_25 G) (AW (mX8_cell, G) 25) := (r_iconst dX8_cell_25 rfl qImp.rf)
def bX8_cell_26 (G : Nat × Nat × Nat × Option (Nat × (Nat → Int32)) × (Option Value → qW → Prop)) : qK := (s_ireturn (mX8_cell, G))
theorem oX8_cell_26 (G : Nat × Nat × Nat × Option (Nat × (Nat → Int32)) × (Option Value → qW → Prop)) : qImp (bX8_cell_26 G) (AW (mX8_cell, G) 26) := (r_ireturn dX8_cell_26 rfl)
theorem kX8_cell_3 {G : Nat × Nat × Nat × Option (Nat × (Nat → Int32)) × (Option Value → qW → Prop)} {L : qL} {w : qW} {kc ks : Nat} {rest : List Value} {q : Nat} {x0 : Int32} {x1 : Int32} {d mc ms : Nat} {Q : Option Value → qW → Prop} (hC : CT mX8_isCell d mc ms [.ref q, .int x0, .int x1] w Q) (hq : qci w q = some 8) (hst : rest.length ≤ 4) (hdp : d + 1 ≤ G.1) (hmc : kc + mc ≤ G.2.1 ∧ ks + ms ≤ G.2.2.1) (k : ∀ r w', Q r w' → AW (mX8_cell, G) 6 L (r.toList ++ rest) w' (kc + mc) (ks + ms)) : AW (mX8_cell, G) 3 L (.int x1 :: .int x0 :: .ref q :: rest) w kc ks := a_callV [.int x0, .int x1] rest dX8_cell_3 vX8_isCell lk370 hC hq rfl rfl hst hdp hmc k
theorem dX8_init_0 : decode cX8_init 0 = .ok (.aload_n 0, 1) := by decide +kernel
theorem dX8_init_1 : decode cX8_init 1 = .ok (.invokespecial 3, 3) := by decide +kernel
theorem dX8_init_4 : decode cX8_init 4 = .ok (.aload_n 0, 1) := by decide +kernel
theorem dX8_init_5 : decode cX8_init 5 = .ok (.iconst 0, 1) := by decide +kernel
theorem dX8_init_6 : decode cX8_init 6 = .ok (.putfield 9, 3) := by decide +kernel
theorem dX8_init_9 : decode cX8_init 9 = .ok (.aload_n 0, 1) := by decide +kernel
theorem dX8_init_10 : decode cX8_init 10 = .ok (.iconst 0, 1) := by decide +kernel
theorem dX8_init_11 : decode cX8_init 11 = .ok (.iload_n 1, 1) := by decide +kernel
theorem dX8_init_12 : decode cX8_init 12 = .ok (.invokestatic 15, 3) := by decide +kernel
theorem dX8_init_15 : decode cX8_init 15 = .ok (.putfield 21, 3) := by decide +kernel
theorem dX8_init_18 : decode cX8_init 18 = .ok (.aload_n 0, 1) := by decide +kernel
theorem dX8_init_19 : decode cX8_init 19 = .ok (.iconst 0, 1) := by decide +kernel
theorem dX8_init_20 : decode cX8_init 20 = .ok (.iload_n 2, 1) := by decide +kernel
theorem dX8_init_21 : decode cX8_init 21 = .ok (.invokestatic 15, 3) := by decide +kernel
theorem dX8_init_24 : decode cX8_init 24 = .ok (.putfield 24, 3) := by decide +kernel
theorem dX8_init_27 : decode cX8_init 27 = .ok (.aload_n 0, 1) := by decide +kernel
theorem dX8_init_28 : decode cX8_init 28 = .ok (.aload_n 0, 1) := by decide +kernel
theorem dX8_init_29 : decode cX8_init 29 = .ok (.getfield 21, 3) := by decide +kernel
theorem dX8_init_32 : decode cX8_init 32 = .ok (.aload_n 0, 1) := by decide +kernel
theorem dX8_init_33 : decode cX8_init 33 = .ok (.getfield 24, 3) := by decide +kernel
theorem dX8_init_36 : decode cX8_init 36 = .ok (.imul, 1) := by decide +kernel
theorem dX8_init_37 : decode cX8_init 37 = .ok (.newarray .int, 2) := by decide +kernel
theorem dX8_init_39 : decode cX8_init 39 = .ok (.putfield 27, 3) := by decide +kernel
theorem dX8_init_42 : decode cX8_init 42 = .ok (.aload_n 0, 1) := by decide +kernel
theorem dX8_init_43 : decode cX8_init 43 = .ok (.getfield 27, 3) := by decide +kernel
theorem dX8_init_46 : decode cX8_init 46 = .ok (.iconst (-1), 1) := by decide +kernel
theorem dX8_init_47 : decode cX8_init 47 = .ok (.invokestatic 31, 3) := by decide +kernel
theorem dX8_init_50 : decode cX8_init 50 = .ok (.return_, 1) := by decide +kernel
/-! SealLine$Table.<init>(II)V -/
theorem eX8_init {d mc ms : Nat} {w : qW} {Q : Option Value → qW → Prop} {q : Nat} {x0 : Int32} {x1 : Int32} (h : AW (mX8_init, d, mc, ms, none, Q) 0 [some (.ref q), some (.int x0), some (.int x1)] [] w 0 0) : CT mX8_init d mc ms [.ref q, .int x0, .int x1] w Q := CT_of (by decide +kernel) rfl (Nat.le_of_ble_eq_true rfl) h
def bX8_init_0 (G : Nat × Nat × Nat × Option (Nat × (Nat → Int32)) × (Option Value → qW → Prop)) : qK := (s_aload 0 (s_oinit (mX8_init, G) (s_aload 0 (s_iconst 0 (s_putI 8 3 (s_aload 0 (s_iconst 0 (s_iload 1 (AW (mX8_init, G) 12)))))))))
theorem oX8_init_0 (G : Nat × Nat × Nat × Option (Nat × (Nat → Int32)) × (Option Value → qW → Prop)) : qImp (bX8_init_0 G) (AW (mX8_init, G) 0) := (r_aload_n dX8_init_0 rfl (r_oinit dX8_init_1 lk93 lk86 lk87 (r_aload_n dX8_init_4 rfl (r_iconst dX8_init_5 rfl (r_putI dX8_init_6 fpX8_9 (fun q hq => by cases hq; rfl) (r_aload_n dX8_init_9 rfl (r_iconst dX8_init_10 rfl (r_iload_n dX8_init_11 rfl qImp.rf))))))))
def bX8_init_15 (G : Nat × Nat × Nat × Option (Nat × (Nat → Int32)) × (Option Value → qW → Prop)) : qK := (s_putI 8 0 (s_aload 0 (s_iconst 0 (s_iload 2 (AW (mX8_init, G) 21)))))
theorem oX8_init_15 (G : Nat × Nat × Nat × Option (Nat × (Nat → Int32)) × (Option Value → qW → Prop)) : qImp (bX8_init_15 G) (AW (mX8_init, G) 15) := (r_putIF dX8_init_15 fpX8_21 (fun q hq => by cases hq; rfl) rfl (fun q hq => by cases hq; rfl) (r_aload_n dX8_init_18 rfl (r_iconst dX8_init_19 rfl (r_iload_n dX8_init_20 rfl qImp.rf))))
def bX8_init_24 (G : Nat × Nat × Nat × Option (Nat × (Nat → Int32)) × (Option Value → qW → Prop)) : qK := (s_putI 8 1 (s_aload 0 (s_aload 0 (s_getfield 8 0 (s_aload 0 (s_getfield 8 1 (s_imul (s_newI (mX8_init, G) 0 (s_putR 8 2 (s_aload 0 (s_getfield 8 2 (s_iconst (-1) (AW (mX8_init, G) 47)))))))))))))
theorem oX8_init_24 (G : Nat × Nat × Nat × Option (Nat × (Nat → Int32)) × (Option Value → qW → Prop)) : qImp (bX8_init_24 G) (AW (mX8_init, G) 24) := (r_putIF dX8_init_24 fpX8_24 (fun q hq => by cases hq; rfl) rfl (fun q hq => by cases hq; rfl) (r_aload_n dX8_init_27 rfl (r_aload_n dX8_init_28 rfl (r_getfield dX8_init_29 fgX8_21 (r_aload_n dX8_init_32 rfl (r_getfield dX8_init_33 fgX8_24 (r_imul dX8_init_36 (r_newI0 dX8_init_37 lk113 (r_putRF dX8_init_39 fpX8_27 (fun q hq => by cases hq; rfl) rfl (fun q hq => by cases hq; rfl) (fun _ => rfl) (fun _ => rfl) (r_aload_n dX8_init_42 rfl (r_getfield dX8_init_43 fgX8_27 (r_iconst dX8_init_46 rfl qImp.rf))))))))))))
def bX8_init_50 (G : Nat × Nat × Nat × Option (Nat × (Nat → Int32)) × (Option Value → qW → Prop)) : qK := (s_vreturn (mX8_init, G))
theorem oX8_init_50 (G : Nat × Nat × Nat × Option (Nat × (Nat → Int32)) × (Option Value → qW → Prop)) : qImp (bX8_init_50 G) (AW (mX8_init, G) 50) := (r_vreturn dX8_init_50 rfl)
theorem kX8_init_12 {G : Nat × Nat × Nat × Option (Nat × (Nat → Int32)) × (Option Value → qW → Prop)} {L : qL} {w : qW} {kc ks : Nat} {rest : List Value} {x y : Int32} (hst : rest.length ≤ 4) (hdp : 1 ≤ G.1) (hc : kc ≤ G.2.1) (hs : ks ≤ G.2.2.1) (k : AW (mX8_init, G) 15 L (.int (if x < y then y else x) :: rest) w kc ks) : AW (mX8_init, G) 12 L (.int y :: .int x :: rest) w kc ks := a_mmax dX8_init_12 lk94 lk95 lk65 lk96 hst hdp hc hs k
theorem kX8_init_21 {G : Nat × Nat × Nat × Option (Nat × (Nat → Int32)) × (Option Value → qW → Prop)} {L : qL} {w : qW} {kc ks : Nat} {rest : List Value} {x y : Int32} (hst : rest.length ≤ 4) (hdp : 1 ≤ G.1) (hc : kc ≤ G.2.1) (hs : ks ≤ G.2.2.1) (k : AW (mX8_init, G) 24 L (.int (if x < y then y else x) :: rest) w kc ks) : AW (mX8_init, G) 21 L (.int y :: .int x :: rest) w kc ks := a_mmax dX8_init_21 lk94 lk95 lk65 lk96 hst hdp hc hs k
theorem kX8_init_47 {G : Nat × Nat × Nat × Option (Nat × (Nat → Int32)) × (Option Value → qW → Prop)} {L : qL} {w : qW} {kc ks : Nat} {rest : List Value}  {x0 : Nat} {x1 : Int32} {d mc ms : Nat} {Q : Option Value → qW → Prop} (hC : CT mJ7_fill_53178 d mc ms [.ref x0, .int x1] w Q) (hst : rest.length ≤ 4) (hdp : d + 1 ≤ G.1) (hmc : kc + mc ≤ G.2.1 ∧ ks + ms ≤ G.2.2.1) (k : ∀ r w', Q r w' → AW (mX8_init, G) 50 L (r.toList ++ rest) w' (kc + mc) (ks + ms)) : AW (mX8_init, G) 47 L (.int x1 :: .ref x0 :: rest) w kc ks := a_callS [.ref x0, .int x1] rest dX8_init_47 tJ7_fill_53178 lk97 hC rfl hst hdp hmc k
theorem dX8_isFull_0 : decode cX8_isFull 0 = .ok (.aload_n 0, 1) := by decide +kernel
theorem dX8_isFull_1 : decode cX8_isFull 1 = .ok (.getfield 9, 3) := by decide +kernel
theorem dX8_isFull_4 : decode cX8_isFull 4 = .ok (.aload_n 0, 1) := by decide +kernel
theorem dX8_isFull_5 : decode cX8_isFull 5 = .ok (.getfield 21, 3) := by decide +kernel
theorem dX8_isFull_8 : decode cX8_isFull 8 = .ok (.if_icmp .lt 7, 3) := by decide +kernel
theorem dX8_isFull_11 : decode cX8_isFull 11 = .ok (.iconst 1, 1) := by decide +kernel
theorem dX8_isFull_12 : decode cX8_isFull 12 = .ok (.goto 4, 3) := by decide +kernel
theorem dX8_isFull_15 : decode cX8_isFull 15 = .ok (.iconst 0, 1) := by decide +kernel
theorem dX8_isFull_16 : decode cX8_isFull 16 = .ok (.ireturn, 1) := by decide +kernel
/-! SealLine$Table.isFull()Z -/
theorem eX8_isFull {d mc ms : Nat} {w : qW} {Q : Option Value → qW → Prop} {q : Nat} (h : AW (mX8_isFull, d, mc, ms, none, Q) 0 [some (.ref q)] [] w 0 0) : CT mX8_isFull d mc ms [.ref q] w Q := CT_of (by decide +kernel) rfl (Nat.le_of_ble_eq_true rfl) h
def bX8_isFull_0 (G : Nat × Nat × Nat × Option (Nat × (Nat → Int32)) × (Option Value → qW → Prop)) : qK := (s_aload 0 (s_getfield 8 3 (s_aload 0 (s_getfield 8 0 (s_ic_lt (AW (mX8_isFull, G) 15) (s_iconst 1 (AW (mX8_isFull, G) 16)))))))
theorem oX8_isFull_0 (G : Nat × Nat × Nat × Option (Nat × (Nat → Int32)) × (Option Value → qW → Prop)) : qImp (bX8_isFull_0 G) (AW (mX8_isFull, G) 0) := (r_aload_n dX8_isFull_0 rfl (r_getfield dX8_isFull_1 fgX8_9 (r_aload_n dX8_isFull_4 rfl (r_getfield dX8_isFull_5 fgX8_21 (r_ic_lt (tgt := 15) dX8_isFull_8 rfl qImp.rf (r_iconst dX8_isFull_11 rfl (r_goto (tgt := 16) dX8_isFull_12 rfl qImp.rf)))))))
def bX8_isFull_15 (G : Nat × Nat × Nat × Option (Nat × (Nat → Int32)) × (Option Value → qW → Prop)) : qK := (s_iconst 0 (AW (mX8_isFull, G) 16))
theorem oX8_isFull_15 (G : Nat × Nat × Nat × Option (Nat × (Nat → Int32)) × (Option Value → qW → Prop)) : qImp (bX8_isFull_15 G) (AW (mX8_isFull, G) 15) := (r_iconst dX8_isFull_15 rfl qImp.rf)
def bX8_isFull_16 (G : Nat × Nat × Nat × Option (Nat × (Nat → Int32)) × (Option Value → qW → Prop)) : qK := (s_zreturn (mX8_isFull, G))
theorem oX8_isFull_16 (G : Nat × Nat × Nat × Option (Nat × (Nat → Int32)) × (Option Value → qW → Prop)) : qImp (bX8_isFull_16 G) (AW (mX8_isFull, G) 16) := (r_zreturn dX8_isFull_16 rfl)
theorem dX8_addRow_0 : decode cX8_addRow 0 = .ok (.aload_n 0, 1) := by decide +kernel
theorem dX8_addRow_1 : decode cX8_addRow 1 = .ok (.invokevirtual 37, 3) := by decide +kernel
theorem dX8_addRow_4 : decode cX8_addRow 4 = .ok (.ifCond .eq 5, 3) := by decide +kernel
theorem dX8_addRow_7 : decode cX8_addRow 7 = .ok (.iconst (-1), 1) := by decide +kernel
theorem dX8_addRow_8 : decode cX8_addRow 8 = .ok (.ireturn, 1) := by decide +kernel
theorem dX8_addRow_9 : decode cX8_addRow 9 = .ok (.aload_n 0, 1) := by decide +kernel
theorem dX8_addRow_10 : decode cX8_addRow 10 = .ok (.dup, 1) := by decide +kernel
theorem dX8_addRow_11 : decode cX8_addRow 11 = .ok (.getfield 9, 3) := by decide +kernel
theorem dX8_addRow_14 : decode cX8_addRow 14 = .ok (.iconst 1, 1) := by decide +kernel
theorem dX8_addRow_15 : decode cX8_addRow 15 = .ok (.iadd, 1) := by decide +kernel
theorem dX8_addRow_16 : decode cX8_addRow 16 = .ok (.putfield 9, 3) := by decide +kernel
theorem dX8_addRow_19 : decode cX8_addRow 19 = .ok (.aload_n 0, 1) := by decide +kernel
theorem dX8_addRow_20 : decode cX8_addRow 20 = .ok (.getfield 9, 3) := by decide +kernel
theorem dX8_addRow_23 : decode cX8_addRow 23 = .ok (.iconst 1, 1) := by decide +kernel
theorem dX8_addRow_24 : decode cX8_addRow 24 = .ok (.isub, 1) := by decide +kernel
theorem dX8_addRow_25 : decode cX8_addRow 25 = .ok (.ireturn, 1) := by decide +kernel
/-! SealLine$Table.addRow()I -/
theorem eX8_addRow {d mc ms : Nat} {w : qW} {Q : Option Value → qW → Prop} {q : Nat} (h : AW (mX8_addRow, d, mc, ms, none, Q) 0 [some (.ref q)] [] w 0 0) : CT mX8_addRow d mc ms [.ref q] w Q := CT_of (by decide +kernel) rfl (Nat.le_of_ble_eq_true rfl) h
def bX8_addRow_0 (G : Nat × Nat × Nat × Option (Nat × (Nat → Int32)) × (Option Value → qW → Prop)) : qK := (s_aload 0 (AW (mX8_addRow, G) 1))
theorem oX8_addRow_0 (G : Nat × Nat × Nat × Option (Nat × (Nat → Int32)) × (Option Value → qW → Prop)) : qImp (bX8_addRow_0 G) (AW (mX8_addRow, G) 0) := (r_aload_n dX8_addRow_0 rfl qImp.rf)
def bX8_addRow_4 (G : Nat × Nat × Nat × Option (Nat × (Nat → Int32)) × (Option Value → qW → Prop)) : qK := (s_if_eq (AW (mX8_addRow, G) 9) (s_iconst (-1) (s_ireturn (mX8_addRow, G))))
theorem oX8_addRow_4 (G : Nat × Nat × Nat × Option (Nat × (Nat → Int32)) × (Option Value → qW → Prop)) : qImp (bX8_addRow_4 G) (AW (mX8_addRow, G) 4) := (r_if_eq (tgt := 9) dX8_addRow_4 rfl qImp.rf (r_iconst dX8_addRow_7 rfl (r_ireturn dX8_addRow_8 rfl)))
def bX8_addRow_9 (G : Nat × Nat × Nat × Option (Nat × (Nat → Int32)) × (Option Value → qW → Prop)) : qK := (s_aload 0 (s_dup (s_getfield 8 3 (s_iconst 1 (s_iadd (s_putI 8 3 (s_aload 0 (s_getfield 8 3 (s_iconst 1 (s_isub (s_ireturn (mX8_addRow, G))))))))))))
theorem oX8_addRow_9 (G : Nat × Nat × Nat × Option (Nat × (Nat → Int32)) × (Option Value → qW → Prop)) : qImp (bX8_addRow_9 G) (AW (mX8_addRow, G) 9) := (r_aload_n dX8_addRow_9 rfl (r_dup dX8_addRow_10 (r_getfield dX8_addRow_11 fgX8_9 (r_iconst dX8_addRow_14 rfl (r_iadd dX8_addRow_15 (r_putI dX8_addRow_16 fpX8_9 (fun q hq => by cases hq; rfl) (r_aload_n dX8_addRow_19 rfl (r_getfield dX8_addRow_20 fgX8_9 (r_iconst dX8_addRow_23 rfl (r_isub dX8_addRow_24 (r_ireturn dX8_addRow_25 rfl)))))))))))
theorem kX8_addRow_1 {G : Nat × Nat × Nat × Option (Nat × (Nat → Int32)) × (Option Value → qW → Prop)} {L : qL} {w : qW} {kc ks : Nat} {rest : List Value} {q : Nat}  {d mc ms : Nat} {Q : Option Value → qW → Prop} (hC : CT mX8_isFull d mc ms [.ref q] w Q) (hq : qci w q = some 8) (hst : rest.length ≤ 4) (hdp : d + 1 ≤ G.1) (hmc : kc + mc ≤ G.2.1 ∧ ks + ms ≤ G.2.2.1) (k : ∀ r w', Q r w' → AW (mX8_addRow, G) 4 L (r.toList ++ rest) w' (kc + mc) (ks + ms)) : AW (mX8_addRow, G) 1 L (.ref q :: rest) w kc ks := a_callV [] rest dX8_addRow_1 vX8_isFull lk365 hC hq rfl rfl hst hdp hmc k
theorem dX8_set_0 : decode cX8_set 0 = .ok (.aload_n 0, 1) := by decide +kernel
theorem dX8_set_1 : decode cX8_set 1 = .ok (.iload_n 1, 1) := by decide +kernel
theorem dX8_set_2 : decode cX8_set 2 = .ok (.iload_n 2, 1) := by decide +kernel
theorem dX8_set_3 : decode cX8_set 3 = .ok (.invokevirtual 41, 3) := by decide +kernel
theorem dX8_set_6 : decode cX8_set 6 = .ok (.ifCond .eq 17, 3) := by decide +kernel
theorem dX8_set_9 : decode cX8_set 9 = .ok (.aload_n 0, 1) := by decide +kernel
theorem dX8_set_10 : decode cX8_set 10 = .ok (.getfield 27, 3) := by decide +kernel
theorem dX8_set_13 : decode cX8_set 13 = .ok (.iload_n 1, 1) := by decide +kernel
theorem dX8_set_14 : decode cX8_set 14 = .ok (.aload_n 0, 1) := by decide +kernel
theorem dX8_set_15 : decode cX8_set 15 = .ok (.getfield 24, 3) := by decide +kernel
theorem dX8_set_18 : decode cX8_set 18 = .ok (.imul, 1) := by decide +kernel
theorem dX8_set_19 : decode cX8_set 19 = .ok (.iload_n 2, 1) := by decide +kernel
theorem dX8_set_20 : decode cX8_set 20 = .ok (.iadd, 1) := by decide +kernel
theorem dX8_set_21 : decode cX8_set 21 = .ok (.iload_n 3, 1) := by decide +kernel
theorem dX8_set_22 : decode cX8_set 22 = .ok (.iastore, 1) := by decide +kernel
theorem dX8_set_23 : decode cX8_set 23 = .ok (.return_, 1) := by decide +kernel
/-! SealLine$Table.set(III)V -/
theorem eX8_set {d mc ms : Nat} {w : qW} {Q : Option Value → qW → Prop} {q : Nat} {x0 : Int32} {x1 : Int32} {x2 : Int32} (h : AW (mX8_set, d, mc, ms, none, Q) 0 [some (.ref q), some (.int x0), some (.int x1), some (.int x2)] [] w 0 0) : CT mX8_set d mc ms [.ref q, .int x0, .int x1, .int x2] w Q := CT_of (by decide +kernel) rfl (Nat.le_of_ble_eq_true rfl) h
def bX8_set_0 (G : Nat × Nat × Nat × Option (Nat × (Nat → Int32)) × (Option Value → qW → Prop)) : qK := (s_aload 0 (s_iload 1 (s_iload 2 (AW (mX8_set, G) 3))))
theorem oX8_set_0 (G : Nat × Nat × Nat × Option (Nat × (Nat → Int32)) × (Option Value → qW → Prop)) : qImp (bX8_set_0 G) (AW (mX8_set, G) 0) := (r_aload_n dX8_set_0 rfl (r_iload_n dX8_set_1 rfl (r_iload_n dX8_set_2 rfl qImp.rf)))
def bX8_set_6 (G : Nat × Nat × Nat × Option (Nat × (Nat → Int32)) × (Option Value → qW → Prop)) : qK := (s_if_eq (AW (mX8_set, G) 23) (s_aload 0 (s_getfield 8 2 (s_iload 1 (s_aload 0 (s_getfield 8 1 (s_imul (s_iload 2 (s_iadd (s_iload 3 (s_iastore (AW (mX8_set, G) 23))))))))))))
theorem oX8_set_6 (G : Nat × Nat × Nat × Option (Nat × (Nat → Int32)) × (Option Value → qW → Prop)) : qImp (bX8_set_6 G) (AW (mX8_set, G) 6) := (r_if_eq (tgt := 23) dX8_set_6 rfl qImp.rf (r_aload_n dX8_set_9 rfl (r_getfield dX8_set_10 fgX8_27 (r_iload_n dX8_set_13 rfl (r_aload_n dX8_set_14 rfl (r_getfield dX8_set_15 fgX8_24 (r_imul dX8_set_18 (r_iload_n dX8_set_19 rfl (r_iadd dX8_set_20 (r_iload_n dX8_set_21 rfl (r_iastore dX8_set_22 qImp.rf)))))))))))
def bX8_set_23 (G : Nat × Nat × Nat × Option (Nat × (Nat → Int32)) × (Option Value → qW → Prop)) : qK := (s_vreturn (mX8_set, G))
theorem oX8_set_23 (G : Nat × Nat × Nat × Option (Nat × (Nat → Int32)) × (Option Value → qW → Prop)) : qImp (bX8_set_23 G) (AW (mX8_set, G) 23) := (r_vreturn dX8_set_23 rfl)
theorem kX8_set_3 {G : Nat × Nat × Nat × Option (Nat × (Nat → Int32)) × (Option Value → qW → Prop)} {L : qL} {w : qW} {kc ks : Nat} {rest : List Value} {q : Nat} {x0 : Int32} {x1 : Int32} {d mc ms : Nat} {Q : Option Value → qW → Prop} (hC : CT mX8_isCell d mc ms [.ref q, .int x0, .int x1] w Q) (hq : qci w q = some 8) (hst : rest.length ≤ 4) (hdp : d + 1 ≤ G.1) (hmc : kc + mc ≤ G.2.1 ∧ ks + ms ≤ G.2.2.1) (k : ∀ r w', Q r w' → AW (mX8_set, G) 6 L (r.toList ++ rest) w' (kc + mc) (ks + ms)) : AW (mX8_set, G) 3 L (.int x1 :: .int x0 :: .ref q :: rest) w kc ks := a_callV [.int x0, .int x1] rest dX8_set_3 vX8_isCell lk370 hC hq rfl rfl hst hdp hmc k
