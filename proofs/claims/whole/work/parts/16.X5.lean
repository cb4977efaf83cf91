theorem dX5_init_0 : decode cX5_init 0 = .ok (.aload_n 0, 1) := by decide +kernel
theorem dX5_init_1 : decode cX5_init 1 = .ok (.invokespecial 3, 3) := by decide +kernel
theorem dX5_init_4 : decode cX5_init 4 = .ok (.aload_n 0, 1) := by decide +kernel
theorem dX5_init_5 : decode cX5_init 5 = .ok (.bipush 6, 2) := by decide +kernel
theorem dX5_init_7 : decode cX5_init 7 = .ok (.newarray .int, 2) := by decide +kernel
theorem dX5_init_9 : decode cX5_init 9 = .ok (.putfield 9, 3) := by decide +kernel
theorem dX5_init_12 : decode cX5_init 12 = .ok (.aload_n 0, 1) := by decide +kernel
theorem dX5_init_13 : decode cX5_init 13 = .ok (.bipush 12, 2) := by decide +kernel
theorem dX5_init_15 : decode cX5_init 15 = .ok (.newarray .int, 2) := by decide +kernel
theorem dX5_init_17 : decode cX5_init 17 = .ok (.putfield 15, 3) := by decide +kernel
theorem dX5_init_20 : decode cX5_init 20 = .ok (.aload_n 0, 1) := by decide +kernel
theorem dX5_init_21 : decode cX5_init 21 = .ok (.new 18, 3) := by decide +kernel
theorem dX5_init_24 : decode cX5_init 24 = .ok (.dup, 1) := by decide +kernel
theorem dX5_init_25 : decode cX5_init 25 = .ok (.invokespecial 20, 3) := by decide +kernel
theorem dX5_init_28 : decode cX5_init 28 = .ok (.putfield 21, 3) := by decide +kernel
theorem dX5_init_31 : decode cX5_init 31 = .ok (.aload_n 0, 1) := by decide +kernel
theorem dX5_init_32 : decode cX5_init 32 = .ok (.iconst 0, 1) := by decide +kernel
theorem dX5_init_33 : decode cX5_init 33 = .ok (.putfield 25, 3) := by decide +kernel
theorem dX5_init_36 : decode cX5_init 36 = .ok (.aload_n 0, 1) := by decide +kernel
theorem dX5_init_37 : decode cX5_init 37 = .ok (.getfield 9, 3) := by decide +kernel
theorem dX5_init_40 : decode cX5_init 40 = .ok (.sipush 401, 3) := by decide +kernel
theorem dX5_init_43 : decode cX5_init 43 = .ok (.invokestatic 29, 3) := by decide +kernel
theorem dX5_init_46 : decode cX5_init 46 = .ok (.aload_n 0, 1) := by decide +kernel
theorem dX5_init_47 : decode cX5_init 47 = .ok (.getfield 15, 3) := by decide +kernel
theorem dX5_init_50 : decode cX5_init 50 = .ok (.sipush 401, 3) := by decide +kernel
theorem dX5_init_53 : decode cX5_init 53 = .ok (.invokestatic 29, 3) := by decide +kernel
theorem dX5_init_56 : decode cX5_init 56 = .ok (.return_, 1) := by decide +kernel
/-! SealLine$Recalls.<init>()V -/
theorem eX5_init {d mc ms : Nat} {w : qW} {Q : Option Value → qW → Prop} {q : Nat} (h : AW (mX5_init, d, mc, ms, none, Q) 0 [some (.ref q)] [] w 0 0) : CT mX5_init d mc ms [.ref q] w Q := CT_of (by decide +kernel) rfl (Nat.le_of_ble_eq_true rfl) h
def bX5_init_0 (G : Nat × Nat × Nat × Option (Nat × (Nat → Int32)) × (Option Value → qW → Prop)) : qK := (s_aload 0 (s_oinit (mX5_init, G) (s_aload 0 (s_iconst 6 (s_newI (mX5_init, G) 0 (s_putR 5 0 (s_aload 0 (s_iconst 12 (s_newI (mX5_init, G) 0 (s_putR 5 1 (s_aload 0 (s_new (mX5_init, G) 0 2 [.long 0, .long 0] (s_dup (AW (mX5_init, G) 25))))))))))))))
theorem oX5_init_0 (G : Nat × Nat × Nat × Option (Nat × (Nat → Int32)) × (Option Value → qW → Prop)) : qImp (bX5_init_0 G) (AW (mX5_init, G) 0) := (r_aload_n dX5_init_0 rfl (r_oinit dX5_init_1 lk186 lk86 lk87 (r_aload_n dX5_init_4 rfl (r_bipush dX5_init_5 rfl (r_newI0 dX5_init_7 lk113 (r_putRF dX5_init_9 fpX5_9 (fun q hq => by cases hq; rfl) rfl (fun q hq => by cases hq; rfl) (fun _ => rfl) (fun _ => rfl) (r_aload_n dX5_init_12 rfl (r_bipush dX5_init_13 rfl (r_newI0 dX5_init_15 lk113 (r_putRF dX5_init_17 fpX5_15 (fun q hq => by cases hq; rfl) rfl (fun q hq => by cases hq; rfl) (fun _ => rfl) (fun _ => rfl) (r_aload_n dX5_init_20 rfl (r_new dX5_init_21 nwX5_18 (r_dup dX5_init_24 qImp.rf)))))))))))))
def bX5_init_28 (G : Nat × Nat × Nat × Option (Nat × (Nat → Int32)) × (Option Value → qW → Prop)) : qK := (s_putR 5 2 (s_aload 0 (s_iconst 0 (s_putI 5 3 (s_aload 0 (s_getfield 5 0 (s_iconst 401 (AW (mX5_init, G) 43))))))))
theorem oX5_init_28 (G : Nat × Nat × Nat × Option (Nat × (Nat → Int32)) × (Option Value → qW → Prop)) : qImp (bX5_init_28 G) (AW (mX5_init, G) 28) := (r_putRF dX5_init_28 fpX5_21 (fun q hq => by cases hq; rfl) rfl (fun q hq => by cases hq; rfl) (fun _ => rfl) (fun _ => rfl) (r_aload_n dX5_init_31 rfl (r_iconst dX5_init_32 rfl (r_putI dX5_init_33 fpX5_25 (fun q hq => by cases hq; rfl) (r_aload_n dX5_init_36 rfl (r_getfield dX5_init_37 fgX5_9 (r_sipush dX5_init_40 rfl qImp.rf)))))))
def bX5_init_46 (G : Nat × Nat × Nat × Option (Nat × (Nat → Int32)) × (Option Value → qW → Prop)) : qK := (s_aload 0 (s_getfield 5 1 (s_iconst 401 (AW (mX5_init, G) 53))))
theorem oX5_init_46 (G : Nat × Nat × Nat × Option (Nat × (Nat → Int32)) × (Option Value → qW → Prop)) : qImp (bX5_init_46 G) (AW (mX5_init, G) 46) := (r_aload_n dX5_init_46 rfl (r_getfield dX5_init_47 fgX5_15 (r_sipush dX5_init_50 rfl qImp.rf)))
def bX5_init_56 (G : Nat × Nat × Nat × Option (Nat × (Nat → Int32)) × (Option Value → qW → Prop)) : qK := (s_vreturn (mX5_init, G))
theorem oX5_init_56 (G : Nat × Nat × Nat × Option (Nat × (Nat → Int32)) × (Option Value → qW → Prop)) : qImp (bX5_init_56 G) (AW (mX5_init, G) 56) := (r_vreturn dX5_init_56 rfl)
theorem kX5_init_25 {G : Nat × Nat × Nat × Option (Nat × (Nat → Int32)) × (Option Value → qW → Prop)} {L : qL} {w : qW} {kc ks : Nat} {rest : List Value} {q : Nat}  {d mc ms : Nat} {Q : Option Value → qW → Prop} (hC : CT mX0_init d mc ms [.ref q] w Q) (hst : rest.length ≤ 4) (hdp : d + 1 ≤ G.1) (hmc : kc + mc ≤ G.2.1 ∧ ks + ms ≤ G.2.2.1) (k : ∀ r w', Q r w' → AW (mX5_init, G) 28 L (r.toList ++ rest) w' (kc + mc) (ks + ms)) : AW (mX5_init, G) 25 L (.ref q :: rest) w kc ks := a_callIN [] rest dX5_init_25 iX0_init lnX5_20 hC rfl hst hdp hmc k
theorem kX5_init_43 {G : Nat × Nat × Nat × Option (Nat × (Nat → Int32)) × (Option Value → qW → Prop)} {L : qL} {w : qW} {kc ks : Nat} {rest : List Value}  {x0 : Nat} {x1 : Int32} {d mc ms : Nat} {Q : Option Value → qW → Prop} (hC : CT mJ7_fill_53178 d mc ms [.ref x0, .int x1] w Q) (hst : rest.length ≤ 4) (hdp : d + 1 ≤ G.1) (hmc : kc + mc ≤ G.2.1 ∧ ks + ms ≤ G.2.2.1) (k : ∀ r w', Q r w' → AW (mX5_init, G) 46 L (r.toList ++ rest) w' (kc + mc) (ks + ms)) : AW (mX5_init, G) 43 L (.int x1 :: .ref x0 :: rest) w kc ks := a_callS [.ref x0, .int x1] rest dX5_init_43 tJ7_fill_53178 lk189 hC rfl hst hdp hmc k
theorem kX5_init_53 {G : Nat × Nat × Nat × Option (Nat × (Nat → Int32)) × (Option Value → qW → Prop)} {L : qL} {w : qW} {kc ks : Nat} {rest : List Value}  {x0 : Nat} {x1 : Int32} {d mc ms : Nat} {Q : Option Value → qW → Prop} (hC : CT mJ7_fill_53178 d mc ms [.ref x0, .int x1] w Q) (hst : rest.length ≤ 4) (hdp : d + 1 ≤ G.1) (hmc : kc + mc ≤ G.2.1 ∧ ks + ms ≤ G.2.2.1) (k : ∀ r w', Q r w' → AW (mX5_init, G) 56 L (r.toList ++ rest) w' (kc + mc) (ks + ms)) : AW (mX5_init, G) 53 L (.int x1 :: .ref x0 :: rest) w kc ks := a_callS [.ref x0, .int x1] rest dX5_init_53 tJ7_fill_53178 lk189 hC rfl hst hdp hmc k
theorem dX5_marked_0 : decode cX5_marked 0 = .ok (.aload_n 0, 1) := by decide +kernel
theorem dX5_marked_1 : decode cX5_marked 1 = .ok (.getfield 21, 3) := by decide +kernel
theorem dX5_marked_4 : decode cX5_marked 4 = .ok (.areturn, 1) := by decide +kernel
/-! SealLine$Recalls.marked()LSealLine$FileSet; -/
theorem eX5_marked {d mc ms : Nat} {w : qW} {Q : Option Value → qW → Prop} {q : Nat} (h : AW (mX5_marked, d, mc, ms, none, Q) 0 [some (.ref q)] [] w 0 0) : CT mX5_marked d mc ms [.ref q] w Q := CT_of (by decide +kernel) rfl (Nat.le_of_ble_eq_true rfl) h
def bX5_marked_0 (G : Nat × Nat × Nat × Option (Nat × (Nat → Int32)) × (Option Value → qW → Prop)) : qK := (s_aload 0 (s_getfield 5 2 (s_areturn (mX5_marked, G))))
theorem oX5_marked_0 (G : Nat × Nat × Nat × Option (Nat × (Nat → Int32)) × (Option Value → qW → Prop)) : qImp (bX5_marked_0 G) (AW (mX5_marked, G) 0) := (r_aload_n dX5_marked_0 rfl (r_getfield dX5_marked_1 fgX5_21 (r_areturn dX5_marked_4 rfl (Or.inl ⟨_, rfl⟩))))
theorem dX5_addFile_0 : decode cX5_addFile 0 = .ok (.aload_n 0, 1) := by decide +kernel
theorem dX5_addFile_1 : decode cX5_addFile 1 = .ok (.getfield 25, 3) := by decide +kernel
theorem dX5_addFile_4 : decode cX5_addFile 4 = .ok (.bipush 50, 2) := by decide +kernel
theorem dX5_addFile_6 : decode cX5_addFile 6 = .ok (.if_icmp .lt 5, 3) := by decide +kernel
theorem dX5_addFile_9 : decode cX5_addFile 9 = .ok (.iconst 0, 1) := by decide +kernel
theorem dX5_addFile_10 : decode cX5_addFile 10 = .ok (.ireturn, 1) := by decide +kernel
theorem dX5_addFile_11 : decode cX5_addFile 11 = .ok (.aload_n 0, 1) := by decide +kernel
theorem dX5_addFile_12 : decode cX5_addFile 12 = .ok (.dup, 1) := by decide +kernel
theorem dX5_addFile_13 : decode cX5_addFile 13 = .ok (.getfield 25, 3) := by decide +kernel
theorem dX5_addFile_16 : decode cX5_addFile 16 = .ok (.iconst 1, 1) := by decide +kernel
theorem dX5_addFile_17 : decode cX5_addFile 17 = .ok (.iadd, 1) := by decide +kernel
theorem dX5_addFile_18 : decode cX5_addFile 18 = .ok (.putfield 25, 3) := by decide +kernel
theorem dX5_addFile_21 : decode cX5_addFile 21 = .ok (.aload_n 0, 1) := by decide +kernel
theorem dX5_addFile_22 : decode cX5_addFile 22 = .ok (.getfield 21, 3) := by decide +kernel
theorem dX5_addFile_25 : decode cX5_addFile 25 = .ok (.iload_n 1, 1) := by decide +kernel
theorem dX5_addFile_26 : decode cX5_addFile 26 = .ok (.invokevirtual 35, 3) := by decide +kernel
theorem dX5_addFile_29 : decode cX5_addFile 29 = .ok (.iconst 1, 1) := by decide +kernel
theorem dX5_addFile_30 : decode cX5_addFile 30 = .ok (.ireturn, 1) := by decide +kernel
/-! SealLine$Recalls.addFile(I)Z -/
theorem eX5_addFile {d mc ms : Nat} {w : qW} {Q : Option Value → qW → Prop} {q : Nat} {x0 : Int32} (h : AW (mX5_addFile, d, mc, ms, none, Q) 0 [some (.ref q), some (.int x0)] [] w 0 0) : CT mX5_addFile d mc ms [.ref q, .int x0] w Q := CT_of (by decide +kernel) rfl (Nat.le_of_ble_eq_true rfl) h
def bX5_addFile_0 (G : Nat × Nat × Nat × Option (Nat × (Nat → Int32)) × (Option Value → qW → Prop)) : qK := (s_aload 0 (s_getfield 5 3 (s_iconst 50 (s_ic_lt (AW (mX5_addFile, G) 11) (s_iconst 0 (s_zreturn (mX5_addFile, G)))))))
theorem oX5_addFile_0 (G : Nat × Nat × Nat × Option (Nat × (Nat → Int32)) × (Option Value → qW → Prop)) : qImp (bX5_addFile_0 G) (AW (mX5_addFile, G) 0) := (r_aload_n dX5_addFile_0 rfl (r_getfield dX5_addFile_1 fgX5_25 (r_bipush dX5_addFile_4 rfl (r_ic_lt (tgt := 11) dX5_addFile_6 rfl qImp.rf (r_iconst dX5_addFile_9 rfl (r_zreturn dX5_addFile_10 rfl))))))
def bX5_addFile_11 (G : Nat × Nat × Nat × Option (Nat × (Nat → Int32)) × (Option Value → qW → Prop)) : qK := (s_aload 0 (s_dup (s_getfield 5 3 (s_iconst 1 (s_iadd (s_putI 5 3 (s_aload 0 (s_getfield 5 2 (s_iload 1 (AW (mX5_addFile, G) 26))))))))))
theorem oX5_addFile_11 (G : Nat × Nat × Nat × Option (Nat × (Nat → Int32)) × (Option Value → qW → Prop)) : qImp (bX5_addFile_11 G) (AW (mX5_addFile, G) 11) := (r_aload_n dX5_addFile_11 rfl (r_dup dX5_addFile_12 (r_getfield dX5_addFile_13 fgX5_25 (r_iconst dX5_addFile_16 rfl (r_iadd dX5_addFile_17 (r_putI dX5_addFile_18 fpX5_25 (fun q hq => by cases hq; rfl) (r_aload_n dX5_addFile_21 rfl (r_getfield dX5_addFile_22 fgX5_21 (r_iload_n dX5_addFile_25 rfl qImp.rf)))))))))
def bX5_addFile_29 (G : Nat × Nat × Nat × Option (Nat × (Nat → Int32)) × (Option Value → qW → Prop)) : qK := (s_iconst 1 (s_zreturn (mX5_addFile, G)))
theorem oX5_addFile_29 (G : Nat × Nat × Nat × Option (Nat × (Nat → Int32)) × (Option Value → qW → Prop)) : qImp (bX5_addFile_29 G) (AW (mX5_addFile, G) 29) := (r_iconst dX5_addFile_29 rfl (r_zreturn dX5_addFile_30 rfl))
theorem kX5_addFile_26 {G : Nat × Nat × Nat × Option (Nat × (Nat → Int32)) × (Option Value → qW → Prop)} {L : qL} {w : qW} {kc ks : Nat} {rest : List Value} {q : Nat} {x0 : Int32} {d mc ms : Nat} {Q : Option Value → qW → Prop} (hC : CT mX0_add d mc ms [.ref q, .int x0] w Q) (hq : qci w q = some 0) (hst : rest.length ≤ 4) (hdp : d + 1 ≤ G.1) (hmc : kc + mc ≤ G.2.1 ∧ ks + ms ≤ G.2.2.1) (k : ∀ r w', Q r w' → AW (mX5_addFile, G) 29 L (r.toList ++ rest) w' (kc + mc) (ks + ms)) : AW (mX5_addFile, G) 26 L (.int x0 :: .ref q :: rest) w kc ks := a_callV [.int x0] rest dX5_addFile_26 vX0_add lk431 hC hq rfl rfl hst hdp hmc k
theorem dX5_sinceOf_0 : decode cX5_sinceOf 0 = .ok (.iload_n 1, 1) := by decide +kernel
theorem dX5_sinceOf_1 : decode cX5_sinceOf 1 = .ok (.ifCond .lt 15, 3) := by decide +kernel
theorem dX5_sinceOf_4 : decode cX5_sinceOf 4 = .ok (.iload_n 1, 1) := by decide +kernel
theorem dX5_sinceOf_5 : decode cX5_sinceOf 5 = .ok (.aload_n 0, 1) := by decide +kernel
theorem dX5_sinceOf_6 : decode cX5_sinceOf 6 = .ok (.arraylength, 1) := by decide +kernel
theorem dX5_sinceOf_7 : decode cX5_sinceOf 7 = .ok (.if_icmp .ge 9, 3) := by decide +kernel
theorem dX5_sinceOf_10 : decode cX5_sinceOf 10 = .ok (.aload_n 0, 1) := by decide +kernel
theorem dX5_sinceOf_11 : decode cX5_sinceOf 11 = .ok (.iload_n 1, 1) := by decide +kernel
theorem dX5_sinceOf_12 : decode cX5_sinceOf 12 = .ok (.iaload, 1) := by decide +kernel
theorem dX5_sinceOf_13 : decode cX5_sinceOf 13 = .ok (.goto 6, 3) := by decide +kernel
theorem dX5_sinceOf_16 : decode cX5_sinceOf 16 = .ok (.sipush 401, 3) := by decide +kernel
theorem dX5_sinceOf_19 : decode cX5_sinceOf 19 = .ok (.ireturn, 1) := by decide +kernel
/-! SealLine$Recalls.sinceOf([II)I -/
theorem eX5_sinceOf {d mc ms : Nat} {w : qW} {Q : Option Value → qW → Prop} {x0 : Nat} {x1 : Int32} (h : AW (mX5_sinceOf, d, mc, ms, none, Q) 0 [some (.ref x0), some (.int x1)] [] w 0 0) : CT mX5_sinceOf d mc ms [.ref x0, .int x1] w Q := CT_of (by decide +kernel) rfl (Nat.le_of_ble_eq_true rfl) h
def bX5_sinceOf_0 (G : Nat × Nat × Nat × Option (Nat × (Nat → Int32)) × (Option Value → qW → Prop)) : qK := (s_iload 1 (s_if_lt (AW (mX5_sinceOf, G) 16) (s_iload 1 (s_aload 0 (s_alen (mX5_sinceOf, G) (s_ic_ge (AW (mX5_sinceOf, G) 16) (s_aload 0 (s_iload 1 (s_iaload (mX5_sinceOf, G) (AW (mX5_sinceOf, G) 19))))))))))
theorem oX5_sinceOf_0 (G : Nat × Nat × Nat × Option (Nat × (Nat → Int32)) × (Option Value → qW → Prop)) : qImp (bX5_sinceOf_0 G) (AW (mX5_sinceOf, G) 0) := (r_iload_n dX5_sinceOf_0 rfl (r_if_lt (tgt := 16) dX5_sinceOf_1 rfl qImp.rf (r_iload_n dX5_sinceOf_4 rfl (r_aload_n dX5_sinceOf_5 rfl (r_alen dX5_sinceOf_6 (r_ic_ge (tgt := 16) dX5_sinceOf_7 rfl qImp.rf (r_aload_n dX5_sinceOf_10 rfl (r_iload_n dX5_sinceOf_11 rfl (r_iaload dX5_sinceOf_12 (r_goto (tgt := 19) dX5_sinceOf_13 rfl qImp.rf))))))))))
def bX5_sinceOf_16 (G : Nat × Nat × Nat × Option (Nat × (Nat → Int32)) × (Option Value → qW → Prop)) : qK := (s_iconst 401 (AW (mX5_sinceOf, G) 19))
theorem oX5_sinceOf_16 (G : Nat × Nat × Nat × Option (Nat × (Nat → Int32)) × (Option Value → qW → Prop)) : qImp (bX5_sinceOf_16 G) (AW (mX5_sinceOf, G) 16) := (r_sipush dX5_sinceOf_16 rfl qImp.rf)
def bX5_sinceOf_19 (G : Nat × Nat × Nat × Option (Nat × (Nat → Int32)) × (Option Value → qW → Prop)) : qK := (s_ireturn (mX5_sinceOf, G))
theorem oX5_sinceOf_19 (G : Nat × Nat × Nat × Option (Nat × (Nat → Int32)) × (Option Value → qW → Prop)) : qImp (bX5_sinceOf_19 G) (AW (mX5_sinceOf, G) 19) := (r_ireturn dX5_sinceOf_19 rfl)
theorem dX5_look_0 : decode cX5_look 0 = .ok (.aload_n 1, 1) := by decide +kernel
theorem dX5_look_1 : decode cX5_look 1 = .ok (.iload_n 2, 1) := by decide +kernel
theorem dX5_look_2 : decode cX5_look 2 = .ok (.iconst 0, 1) := by decide +kernel
theorem dX5_look_3 : decode cX5_look 3 = .ok (.invokevirtual 62, 3) := by decide +kernel
theorem dX5_look_6 : decode cX5_look 6 = .ok (.istore_n 3, 1) := by decide +kernel
theorem dX5_look_7 : decode cX5_look 7 = .ok (.iload_n 3, 1) := by decide +kernel
theorem dX5_look_8 : decode cX5_look 8 = .ok (.ifCond .eq 9, 3) := by decide +kernel
theorem dX5_look_11 : decode cX5_look 11 = .ok (.iload_n 3, 1) := by decide +kernel
theorem dX5_look_12 : decode cX5_look 12 = .ok (.iconst 1, 1) := by decide +kernel
theorem dX5_look_13 : decode cX5_look 13 = .ok (.if_icmp .eq 4, 3) := by decide +kernel
theorem dX5_look_16 : decode cX5_look 16 = .ok (.return_, 1) := by decide +kernel
theorem dX5_look_17 : decode cX5_look 17 = .ok (.iload_n 2, 1) := by decide +kernel
theorem dX5_look_18 : decode cX5_look 18 = .ok (.aload_n 0, 1) := by decide +kernel
theorem dX5_look_19 : decode cX5_look 19 = .ok (.getfield 15, 3) := by decide +kernel
theorem dX5_look_22 : decode cX5_look 22 = .ok (.aload_n 1, 1) := by decide +kernel
theorem dX5_look_23 : decode cX5_look 23 = .ok (.iload_n 2, 1) := by decide +kernel
theorem dX5_look_24 : decode cX5_look 24 = .ok (.iconst 2, 1) := by decide +kernel
theorem dX5_look_25 : decode cX5_look 25 = .ok (.invokevirtual 62, 3) := by decide +kernel
theorem dX5_look_28 : decode cX5_look 28 = .ok (.invokestatic 65, 3) := by decide +kernel
theorem dX5_look_31 : decode cX5_look 31 = .ok (.if_icmp .ge 20, 3) := by decide +kernel
theorem dX5_look_34 : decode cX5_look 34 = .ok (.iload_n 2, 1) := by decide +kernel
theorem dX5_look_35 : decode cX5_look 35 = .ok (.aload_n 0, 1) := by decide +kernel
theorem dX5_look_36 : decode cX5_look 36 = .ok (.getfield 9, 3) := by decide +kernel
theorem dX5_look_39 : decode cX5_look 39 = .ok (.aload_n 1, 1) := by decide +kernel
theorem dX5_look_40 : decode cX5_look 40 = .ok (.iload_n 2, 1) := by decide +kernel
theorem dX5_look_41 : decode cX5_look 41 = .ok (.iconst 3, 1) := by decide +kernel
theorem dX5_look_42 : decode cX5_look 42 = .ok (.invokevirtual 62, 3) := by decide +kernel
theorem dX5_look_45 : decode cX5_look 45 = .ok (.invokestatic 65, 3) := by decide +kernel
theorem dX5_look_48 : decode cX5_look 48 = .ok (.if_icmp .lt 16, 3) := by decide +kernel
theorem dX5_look_51 : decode cX5_look 51 = .ok (.aload_n 0, 1) := by decide +kernel
theorem dX5_look_52 : decode cX5_look 52 = .ok (.getfield 21, 3) := by decide +kernel
theorem dX5_look_55 : decode cX5_look 55 = .ok (.aload_n 1, 1) := by decide +kernel
theorem dX5_look_56 : decode cX5_look 56 = .ok (.iload_n 2, 1) := by decide +kernel
theorem dX5_look_57 : decode cX5_look 57 = .ok (.iconst 1, 1) := by decide +kernel
theorem dX5_look_58 : decode cX5_look 58 = .ok (.invokevirtual 62, 3) := by decide +kernel
theorem dX5_look_61 : decode cX5_look 61 = .ok (.invokevirtual 35, 3) := by decide +kernel
theorem dX5_look_64 : decode cX5_look 64 = .ok (.return_, 1) := by decide +kernel
/-! SealLine$Recalls.look(LSealLine$Table;I)V -/
theorem eX5_look {d mc ms : Nat} {w : qW} {Q : Option Value → qW → Prop} {q : Nat} {x0 : Nat} {x1 : Int32} (h : AW (mX5_look, d, mc, ms, none, Q) 0 [some (.ref q), some (.ref x0), some (.int x1), none] [] w 0 0) : CT mX5_look d mc ms [.ref q, .ref x0, .int x1] w Q := CT_of (by decide +kernel) rfl (Nat.le_of_ble_eq_true rfl) h
def bX5_look_0 (G : Nat × Nat × Nat × Option (Nat × (Nat → Int32)) × (Option Value → qW → Prop)) : qK := (s_aload 1 (s_iload 2 (s_iconst 0 (AW (mX5_look, G) 3))))
theorem oX5_look_0 (G : Nat × Nat × Nat × Option (Nat × (Nat → Int32)) × (Option Value → qW → Prop)) : qImp (bX5_look_0 G) (AW (mX5_look, G) 0) := (r_aload_n dX5_look_0 rfl (r_iload_n dX5_look_1 rfl (r_iconst dX5_look_2 rfl qImp.rf)))
def bX5_look_6 (G : Nat × Nat × Nat × Option (Nat × (Nat → Int32)) × (Option Value → qW → Prop)) : qK := (s_istore 3 2 (s_iload 3 (s_if_eq (AW (mX5_look, G) 17) (s_iload 3 (s_iconst 1 (s_ic_eq (AW (mX5_look, G) 17) (s_vreturn (mX5_look, G))))))))
theorem oX5_look_6 (G : Nat × Nat × Nat × Option (Nat × (Nat → Int32)) × (Option Value → qW → Prop)) : qImp (bX5_look_6 G) (AW (mX5_look, G) 6) := (r_istore_n dX5_look_6 rfl (Or.inr rfl) (Nat.le_of_ble_eq_true rfl) (r_iload_n dX5_look_7 rfl (r_if_eq (tgt := 17) dX5_look_8 rfl qImp.rf (r_iload_n dX5_look_11 rfl (r_iconst dX5_look_12 rfl (r_ic_eq (tgt := 17) dX5_look_13 rfl qImp.rf (r_vreturn dX5_look_16 rfl)))))))
def bX5_look_17 (G : Nat × Nat × Nat × Option (Nat × (Nat → Int32)) × (Option Value → qW → Prop)) : qK := (s_iload 2 (s_aload 0 (s_getfield 5 1 (s_aload 1 (s_iload 2 (s_iconst 2 (AW (mX5_look, G) 25)))))))
theorem oX5_look_17 (G : Nat × Nat × Nat × Option (Nat × (Nat → Int32)) × (Option Value → qW → Prop)) : qImp (bX5_look_17 G) (AW (mX5_look, G) 17) := (r_iload_n dX5_look_17 rfl (r_aload_n dX5_look_18 rfl (r_getfield dX5_look_19 fgX5_15 (r_aload_n dX5_look_22 rfl (r_iload_n dX5_look_23 rfl (r_iconst dX5_look_24 rfl qImp.rf))))))
def bX5_look_31 (G : Nat × Nat × Nat × Option (Nat × (Nat → Int32)) × (Option Value → qW → Prop)) : qK := (s_ic_ge (AW (mX5_look, G) 51) (s_iload 2 (s_aload 0 (s_getfield 5 0 (s_aload 1 (s_iload 2 (s_iconst 3 (AW (mX5_look, G) 42))))))))
theorem oX5_look_31 (G : Nat × Nat × Nat × Option (Nat × (Nat → Int32)) × (Option Value → qW → Prop)) : qImp (bX5_look_31 G) (AW (mX5_look, G) 31) := (r_ic_ge (tgt := 51) dX5_look_31 rfl qImp.rf (r_iload_n dX5_look_34 rfl (r_aload_n dX5_look_35 rfl (r_getfield dX5_look_36 fgX5_9 (r_aload_n dX5_look_39 rfl (r_iload_n dX5_look_40 rfl (r_iconst dX5_look_41 rfl qImp.rf)))))))
def bX5_look_48 (G : Nat × Nat × Nat × Option (Nat × (Nat → Int32)) × (Option Value → qW → Prop)) : qK := (s_ic_lt (AW (mX5_look, G) 64) (AW (mX5_look, G) 51))
theorem oX5_look_48 (G : Nat × Nat × Nat × Option (Nat × (Nat → Int32)) × (Option Value → qW → Prop)) : qImp (bX5_look_48 G) (AW (mX5_look, G) 48) := (r_ic_lt (tgt := 64) dX5_look_48 rfl qImp.rf qImp.rf)
def bX5_look_51 (G : Nat × Nat × Nat × Option (Nat × (Nat → Int32)) × (Option Value → qW → Prop)) : qK := (s_aload 0 (s_getfield 5 2 (s_aload 1 (s_iload 2 (s_iconst 1 (AW (mX5_look, G) 58))))))
theorem oX5_look_51 (G : Nat × Nat × Nat × Option (Nat × (Nat → Int32)) × (Option Value → qW → Prop)) : qImp (bX5_look_51 G) (AW (mX5_look, G) 51) := (r_aload_n dX5_look_51 rfl (r_getfield dX5_look_52 fgX5_21 (r_aload_n dX5_look_55 rfl (r_iload_n dX5_look_56 rfl (r_iconst dX5_look_57 rfl qImp.rf)))))
def bX5_look_64 (G : Nat × Nat × Nat × Option (Nat × (Nat → Int32)) × (Option Value → qW → Prop)) : qK := (s_vreturn (mX5_look, G))
theorem oX5_look_64 (G : Nat × Nat × Nat × Option (Nat × (Nat → Int32)) × (Option Value → qW → Prop)) : qImp (bX5_look_64 G) (AW (mX5_look, G) 64) := (r_vreturn dX5_look_64 rfl)
theorem kX5_look_3 {G : Nat × Nat × Nat × Option (Nat × (Nat → Int32)) × (Option Value → qW → Prop)} {L : qL} {w : qW} {kc ks : Nat} {rest : List Value} {q : Nat} {x0 : Int32} {x1 : Int32} {d mc ms : Nat} {Q : Option Value → qW → Prop} (hC : CT mX8_cell d mc ms [.ref q, .int x0, .int x1] w Q) (hq : qci w q = some 8) (hst : rest.length ≤ 4) (hdp : d + 1 ≤ G.1) (hmc : kc + mc ≤ G.2.1 ∧ ks + ms ≤ G.2.2.1) (k : ∀ r w', Q r w' → AW (mX5_look, G) 6 L (r.toList ++ rest) w' (kc + mc) (ks + ms)) : AW (mX5_look, G) 3 L (.int x1 :: .int x0 :: .ref q :: rest) w kc ks := a_callV [.int x0, .int x1] rest dX5_look_3 vX8_cell lk427 hC hq rfl rfl hst hdp hmc k
theorem kX5_look_25 {G : Nat × Nat × Nat × Option (Nat × (Nat → Int32)) × (Option Value → qW → Prop)} {L : qL} {w : qW} {kc ks : Nat} {rest : List Value} {q : Nat} {x0 : Int32} {x1 : Int32} {d mc ms : Nat} {Q : Option Value → qW → Prop} (hC : CT mX8_cell d mc ms [.ref q, .int x0, .int x1] w Q) (hq : qci w q = some 8) (hst : rest.length ≤ 4) (hdp : d + 1 ≤ G.1) (hmc : kc + mc ≤ G.2.1 ∧ ks + ms ≤ G.2.2.1) (k : ∀ r w', Q r w' → AW (mX5_look, G) 28 L (r.toList ++ rest) w' (kc + mc) (ks + ms)) : AW (mX5_look, G) 25 L (.int x1 :: .int x0 :: .ref q :: rest) w kc ks := a_callV [.int x0, .int x1] rest dX5_look_25 vX8_cell lk427 hC hq rfl rfl hst hdp hmc k
theorem kX5_look_28 {G : Nat × Nat × Nat × Option (Nat × (Nat → Int32)) × (Option Value → qW → Prop)} {L : qL} {w : qW} {kc ks : Nat} {rest : List Value}  {x0 : Nat} {x1 : Int32} {d mc ms : Nat} {Q : Option Value → qW → Prop} (hC : CT mX5_sinceOf d mc ms [.ref x0, .int x1] w Q) (hst : rest.length ≤ 4) (hdp : d + 1 ≤ G.1) (hmc : kc + mc ≤ G.2.1 ∧ ks + ms ≤ G.2.2.1) (k : ∀ r w', Q r w' → AW (mX5_look, G) 31 L (r.toList ++ rest) w' (kc + mc) (ks + ms)) : AW (mX5_look, G) 28 L (.int x1 :: .ref x0 :: rest) w kc ks := a_callS [.ref x0, .int x1] rest dX5_look_28 tX5_sinceOf lk428 hC rfl hst hdp hmc k
theorem kX5_look_42 {G : Nat × Nat × Nat × Option (Nat × (Nat → Int32)) × (Option Value → qW → Prop)} {L : qL} {w : qW} {kc ks : Nat} {rest : List Value} {q : Nat} {x0 : Int32} {x1 : Int32} {d mc ms : Nat} {Q : Option Value → qW → Prop} (hC : CT mX8_cell d mc ms [.ref q, .int x0, .int x1] w Q) (hq : qci w q = some 8) (hst : rest.length ≤ 4) (hdp : d + 1 ≤ G.1) (hmc : kc + mc ≤ G.2.1 ∧ ks + ms ≤ G.2.2.1) (k : ∀ r w', Q r w' → AW (mX5_look, G) 45 L (r.toList ++ rest) w' (kc + mc) (ks + ms)) : AW (mX5_look, G) 42 L (.int x1 :: .int x0 :: .ref q :: rest) w kc ks := a_callV [.int x0, .int x1] rest dX5_look_42 vX8_cell lk427 hC hq rfl rfl hst hdp hmc k
theorem kX5_look_45 {G : Nat × Nat × Nat × Option (Nat × (Nat → Int32)) × (Option Value → qW → Prop)} {L : qL} {w : qW} {kc ks : Nat} {rest : List Value}  {x0 : Nat} {x1 : Int32} {d mc ms : Nat} {Q : Option Value → qW → Prop} (hC : CT mX5_sinceOf d mc ms [.ref x0, .int x1] w Q) (hst : rest.length ≤ 4) (hdp : d + 1 ≤ G.1) (hmc : kc + mc ≤ G.2.1 ∧ ks + ms ≤ G.2.2.1) (k : ∀ r w', Q r w' → AW (mX5_look, G) 48 L (r.toList ++ rest) w' (kc + mc) (ks + ms)) : AW (mX5_look, G) 45 L (.int x1 :: .ref x0 :: rest) w kc ks := a_callS [.ref x0, .int x1] rest dX5_look_45 tX5_sinceOf lk428 hC rfl hst hdp hmc k
theorem kX5_look_58 {G : Nat × Nat × Nat × Option (Nat × (Nat → Int32)) × (Option Value → qW → Prop)} {L : qL} {w : qW} {kc ks : Nat} {rest : List Value} {q : Nat} {x0 : Int32} {x1 : Int32} {d mc ms : Nat} {Q : Option Value → qW → Prop} (hC : CT mX8_cell d mc ms [.ref q, .int x0, .int x1] w Q) (hq : qci w q = some 8) (hst : rest.length ≤ 4) (hdp : d + 1 ≤ G.1) (hmc : kc + mc ≤ G.2.1 ∧ ks + ms ≤ G.2.2.1) (k : ∀ r w', Q r w' → AW (mX5_look, G) 61 L (r.toList ++ rest) w' (kc + mc) (ks + ms)) : AW (mX5_look, G) 58 L (.int x1 :: .int x0 :: .ref q :: rest) w kc ks := a_callV [.int x0, .int x1] rest dX5_look_58 vX8_cell lk427 hC hq rfl rfl hst hdp hmc k
theorem kX5_look_61 {G : Nat × Nat × Nat × Option (Nat × (Nat → Int32)) × (Option Value → qW → Prop)} {L : qL} {w : qW} {kc ks : Nat} {rest : List Value} {q : Nat} {x0 : Int32} {d mc ms : Nat} {Q : Option Value → qW → Prop} (hC : CT mX0_add d mc ms [.ref q, .int x0] w Q) (hq : qci w q = some 0) (hst : rest.length ≤ 4) (hdp : d + 1 ≤ G.1) (hmc : kc + mc ≤ G.2.1 ∧ ks + ms ≤ G.2.2.1) (k : ∀ r w', Q r w' → AW (mX5_look, G) 64 L (r.toList ++ rest) w' (kc + mc) (ks + ms)) : AW (mX5_look, G) 61 L (.int x0 :: .ref q :: rest) w kc ks := a_callV [.int x0] rest dX5_look_61 vX0_add lk431 hC hq rfl rfl hst hdp hmc k
theorem dX5_addSince_0 : decode cX5_addSince 0 = .ok (.iload_n 1, 1) := by decide +kernel
theorem dX5_addSince_1 : decode cX5_addSince 1 = .ok (.iconst 1, 1) := by decide +kernel
theorem dX5_addSince_2 : decode cX5_addSince 2 = .ok (.if_icmp .ne 10, 3) := by decide +kernel
theorem dX5_addSince_5 : decode cX5_addSince 5 = .ok (.iload_n 2, 1) := by decide +kernel
theorem dX5_addSince_6 : decode cX5_addSince 6 = .ok (.invokestatic 39, 3) := by decide +kernel
theorem dX5_addSince_9 : decode cX5_addSince 9 = .ok (.ifCond .ne 15, 3) := by decide +kernel
theorem dX5_addSince_12 : decode cX5_addSince 12 = .ok (.iload_n 1, 1) := by decide +kernel
theorem dX5_addSince_13 : decode cX5_addSince 13 = .ok (.iconst 2, 1) := by decide +kernel
theorem dX5_addSince_14 : decode cX5_addSince 14 = .ok (.if_icmp .ne 14, 3) := by decide +kernel
theorem dX5_addSince_17 : decode cX5_addSince 17 = .ok (.iload_n 2, 1) := by decide +kernel
theorem dX5_addSince_18 : decode cX5_addSince 18 = .ok (.invokestatic 43, 3) := by decide +kernel
theorem dX5_addSince_21 : decode cX5_addSince 21 = .ok (.ifCond .eq 7, 3) := by decide +kernel
theorem dX5_addSince_24 : decode cX5_addSince 24 = .ok (.iconst 1, 1) := by decide +kernel
theorem dX5_addSince_25 : decode cX5_addSince 25 = .ok (.goto 4, 3) := by decide +kernel
theorem dX5_addSince_28 : decode cX5_addSince 28 = .ok (.iconst 0, 1) := by decide +kernel
theorem dX5_addSince_29 : decode cX5_addSince 29 = .ok (.istore 5, 2) := by decide +kernel
theorem dX5_addSince_31 : decode cX5_addSince 31 = .ok (.iload 5, 2) := by decide +kernel
theorem dX5_addSince_33 : decode cX5_addSince 33 = .ok (.ifCond .eq 23, 3) := by decide +kernel
theorem dX5_addSince_36 : decode cX5_addSince 36 = .ok (.iload_n 3, 1) := by decide +kernel
theorem dX5_addSince_37 : decode cX5_addSince 37 = .ok (.ifCond .lt 19, 3) := by decide +kernel
theorem dX5_addSince_40 : decode cX5_addSince 40 = .ok (.iload_n 3, 1) := by decide +kernel
theorem dX5_addSince_41 : decode cX5_addSince 41 = .ok (.sipush 400, 3) := by decide +kernel
theorem dX5_addSince_44 : decode cX5_addSince 44 = .ok (.if_icmp .gt 12, 3) := by decide +kernel
theorem dX5_addSince_47 : decode cX5_addSince 47 = .ok (.aload_n 0, 1) := by decide +kernel
theorem dX5_addSince_48 : decode cX5_addSince 48 = .ok (.getfield 25, 3) := by decide +kernel
theorem dX5_addSince_51 : decode cX5_addSince 51 = .ok (.bipush 50, 2) := by decide +kernel
theorem dX5_addSince_53 : decode cX5_addSince 53 = .ok (.if_icmp .lt 5, 3) := by decide +kernel
theorem dX5_addSince_56 : decode cX5_addSince 56 = .ok (.iconst 0, 1) := by decide +kernel
theorem dX5_addSince_57 : decode cX5_addSince 57 = .ok (.ireturn, 1) := by decide +kernel
theorem dX5_addSince_58 : decode cX5_addSince 58 = .ok (.aload_n 0, 1) := by decide +kernel
theorem dX5_addSince_59 : decode cX5_addSince 59 = .ok (.dup, 1) := by decide +kernel
theorem dX5_addSince_60 : decode cX5_addSince 60 = .ok (.getfield 25, 3) := by decide +kernel
theorem dX5_addSince_63 : decode cX5_addSince 63 = .ok (.iconst 1, 1) := by decide +kernel
theorem dX5_addSince_64 : decode cX5_addSince 64 = .ok (.iadd, 1) := by decide +kernel
theorem dX5_addSince_65 : decode cX5_addSince 65 = .ok (.putfield 25, 3) := by decide +kernel
theorem dX5_addSince_68 : decode cX5_addSince 68 = .ok (.iload_n 1, 1) := by decide +kernel
theorem dX5_addSince_69 : decode cX5_addSince 69 = .ok (.iconst 1, 1) := by decide +kernel
theorem dX5_addSince_70 : decode cX5_addSince 70 = .ok (.if_icmp .ne 10, 3) := by decide +kernel
theorem dX5_addSince_73 : decode cX5_addSince 73 = .ok (.aload_n 0, 1) := by decide +kernel
theorem dX5_addSince_74 : decode cX5_addSince 74 = .ok (.getfield 9, 3) := by decide +kernel
theorem dX5_addSince_77 : decode cX5_addSince 77 = .ok (.goto 7, 3) := by decide +kernel
theorem dX5_addSince_80 : decode cX5_addSince 80 = .ok (.aload_n 0, 1) := by decide +kernel
theorem dX5_addSince_81 : decode cX5_addSince 81 = .ok (.getfield 15, 3) := by decide +kernel
theorem dX5_addSince_84 : decode cX5_addSince 84 = .ok (.astore 6, 2) := by decide +kernel
theorem dX5_addSince_86 : decode cX5_addSince 86 = .ok (.aload 6, 2) := by decide +kernel
theorem dX5_addSince_88 : decode cX5_addSince 88 = .ok (.iload_n 2, 1) := by decide +kernel
theorem dX5_addSince_89 : decode cX5_addSince 89 = .ok (.aload 6, 2) := by decide +kernel
theorem dX5_addSince_91 : decode cX5_addSince 91 = .ok (.iload_n 2, 1) := by decide +kernel
theorem dX5_addSince_92 : decode cX5_addSince 92 = .ok (.iaload, 1) := by decide +kernel
theorem dX5_addSince_93 : decode cX5_addSince 93 = .ok (.iload_n 3, 1) := by decide +kernel
theorem dX5_addSince_94 : decode cX5_addSince 94 = .ok (.invokestatic 46, 3) := by decide +kernel
theorem dX5_addSince_97 : decode cX5_addSince 97 = .ok (.iastore, 1) := by decide +kernel
theorem dX5_addSince_98 : decode cX5_addSince 98 = .ok (.iload_n 3, 1) := by decide +kernel
theorem dX5_addSince_99 : decode cX5_addSince 99 = .ok (.istore 7, 2) := by decide +kernel
theorem dX5_addSince_101 : decode cX5_addSince 101 = .ok (.iload 7, 2) := by decide +kernel
theorem dX5_addSince_103 : decode cX5_addSince 103 = .ok (.aload 4, 2) := by decide +kernel
theorem dX5_addSince_105 : decode cX5_addSince 105 = .ok (.invokevirtual 52, 3) := by decide +kernel
theorem dX5_addSince_108 : decode cX5_addSince 108 = .ok (.if_icmp .ge 17, 3) := by decide +kernel
theorem dX5_addSince_111 : decode cX5_addSince 111 = .ok (.aload_n 0, 1) := by decide +kernel
theorem dX5_addSince_112 : decode cX5_addSince 112 = .ok (.aload 4, 2) := by decide +kernel
theorem dX5_addSince_114 : decode cX5_addSince 114 = .ok (.iload 7, 2) := by decide +kernel
theorem dX5_addSince_116 : decode cX5_addSince 116 = .ok (.invokevirtual 58, 3) := by decide +kernel
theorem dX5_addSince_119 : decode cX5_addSince 119 = .ok (.iinc 7 1, 3) := by decide +kernel
theorem dX5_addSince_122 : decode cX5_addSince 122 = .ok (.goto (-21), 3) := by decide +kernel
theorem dX5_addSince_125 : decode cX5_addSince 125 = .ok (.iconst 1, 1) := by decide +kernel
theorem dX5_addSince_126 : decode cX5_addSince 126 = .ok (.ireturn, 1) := by decide +kernel
/-! SealLine$Recalls.addSince(IIILSealLine$Table;)Z -/
theorem eX5_addSince {d mc ms : Nat} {w : qW} {Q : Option Value → qW → Prop} {q : Nat} {x0 : Int32} {x1 : Int32} {x2 : Int32} {x3 : Nat} (h : AW (mX5_addSince, d, mc, ms, none, Q) 0 [some (.ref q), some (.int x0), some (.int x1), some (.int x2), some (.ref x3), none, none, none] [] w 0 0) : CT mX5_addSince d mc ms [.ref q, .int x0, .int x1, .int x2, .ref x3] w Q := CT_of (by decide +kernel) rfl (Nat.le_of_ble_eq_true rfl) h
def bX5_addSince_0 (G : Nat × Nat × Nat × Option (Nat × (Nat → Int32)) × (Option Value → qW → Prop)) : qK := (s_iload 1 (s_iconst 1 (s_ic_ne (AW (mX5_addSince, G) 12) (s_iload 2 (AW (mX5_addSince, G) 6)))))
theorem oX5_addSince_0 (G : Nat × Nat × Nat × Option (Nat × (Nat → Int32)) × (Option Value → qW → Prop)) : qImp (bX5_addSince_0 G) (AW (mX5_addSince, G) 0) := (r_iload_n dX5_addSince_0 rfl (r_iconst dX5_addSince_1 rfl (r_ic_ne (tgt := 12) dX5_addSince_2 rfl qImp.rf (r_iload_n dX5_addSince_5 rfl qImp.rf))))
def bX5_addSince_9 (G : Nat × Nat × Nat × Option (Nat × (Nat → Int32)) × (Option Value → qW → Prop)) : qK := (s_if_ne (AW (mX5_addSince, G) 24) (AW (mX5_addSince, G) 12))
theorem oX5_addSince_9 (G : Nat × Nat × Nat × Option (Nat × (Nat → Int32)) × (Option Value → qW → Prop)) : qImp (bX5_addSince_9 G) (AW (mX5_addSince, G) 9) := (r_if_ne (tgt := 24) dX5_addSince_9 rfl qImp.rf qImp.rf)
def bX5_addSince_12 (G : Nat × Nat × Nat × Option (Nat × (Nat → Int32)) × (Option Value → qW → Prop)) : qK := (s_iload 1 (s_iconst 2 (s_ic_ne (AW (mX5_addSince, G) 28) (s_iload 2 (AW (mX5_addSince, G) 18)))))
theorem oX5_addSince_12 (G : Nat × Nat × Nat × Option (Nat × (Nat → Int32)) × (Option Value → qW → Prop)) : qImp (bX5_addSince_12 G) (AW (mX5_addSince, G) 12) := (r_iload_n dX5_addSince_12 rfl (r_iconst dX5_addSince_13 rfl (r_ic_ne (tgt := 28) dX5_addSince_14 rfl qImp.rf (r_iload_n dX5_addSince_17 rfl qImp.rf))))
def bX5_addSince_21 (G : Nat × Nat × Nat × Option (Nat × (Nat → Int32)) × (Option Value → qW → Prop)) : qK := (s_if_eq (AW (mX5_addSince, G) 28) (AW (mX5_addSince, G) 24))
theorem oX5_addSince_21 (G : Nat × Nat × Nat × Option (Nat × (Nat → Int32)) × (Option Value → qW → Prop)) : qImp (bX5_addSince_21 G) (AW (mX5_addSince, G) 21) := (r_if_eq (tgt := 28) dX5_addSince_21 rfl qImp.rf qImp.rf)
def bX5_addSince_24 (G : Nat × Nat × Nat × Option (Nat × (Nat → Int32)) × (Option Value → qW → Prop)) : qK := (s_iconst 1 (AW (mX5_addSince, G) 29))
theorem oX5_addSince_24 (G : Nat × Nat × Nat × Option (Nat × (Nat → Int32)) × (Option Value → qW → Prop)) : qImp (bX5_addSince_24 G) (AW (mX5_addSince, G) 24) := (r_iconst dX5_addSince_24 rfl (r_goto (tgt := 29) dX5_addSince_25 rfl qImp.rf))
def bX5_addSince_28 (G : Nat × Nat × Nat × Option (Nat × (Nat → Int32)) × (Option Value → qW → Prop)) : qK := (s_iconst 0 (AW (mX5_addSince, G) 29))
theorem oX5_addSince_28 (G : Nat × Nat × Nat × Option (Nat × (Nat → Int32)) × (Option Value → qW → Prop)) : qImp (bX5_addSince_28 G) (AW (mX5_addSince, G) 28) := (r_iconst dX5_addSince_28 rfl qImp.rf)
def bX5_addSince_29 (G : Nat × Nat × Nat × Option (Nat × (Nat → Int32)) × (Option Value → qW → Prop)) : qK := (s_istore 5 4 (s_iload 5 (s_if_eq (AW (mX5_addSince, G) 56) (s_iload 3 (s_if_lt (AW (mX5_addSince, G) 56) (s_iload 3 (s_iconst 400 (s_ic_gt (AW (mX5_addSince, G) 56) (s_aload 0 (s_getfield 5 3 (s_iconst 50 (s_ic_lt (AW (mX5_addSince, G) 58) (AW (mX5_addSince, G) 56)))))))))))))
theorem oX5_addSince_29 (G : Nat × Nat × Nat × Option (Nat × (Nat → Int32)) × (Option Value → qW → Prop)) : qImp (bX5_addSince_29 G) (AW (mX5_addSince, G) 29) := (r_istore dX5_addSince_29 (Or.inr rfl) (Nat.le_of_ble_eq_true rfl) (r_iload dX5_addSince_31 (r_if_eq (tgt := 56) dX5_addSince_33 rfl qImp.rf (r_iload_n dX5_addSince_36 rfl (r_if_lt (tgt := 56) dX5_addSince_37 rfl qImp.rf (r_iload_n dX5_addSince_40 rfl (r_sipush dX5_addSince_41 rfl (r_ic_gt (tgt := 56) dX5_addSince_44 rfl qImp.rf (r_aload_n dX5_addSince_47 rfl (r_getfield dX5_addSince_48 fgX5_25 (r_bipush dX5_addSince_51 rfl (r_ic_lt (tgt := 58) dX5_addSince_53 rfl qImp.rf qImp.rf))))))))))))
def bX5_addSince_56 (G : Nat × Nat × Nat × Option (Nat × (Nat → Int32)) × (Option Value → qW → Prop)) : qK := (s_iconst 0 (s_zreturn (mX5_addSince, G)))
theorem oX5_addSince_56 (G : Nat × Nat × Nat × Option (Nat × (Nat → Int32)) × (Option Value → qW → Prop)) : qImp (bX5_addSince_56 G) (AW (mX5_addSince, G) 56) := (r_iconst dX5_addSince_56 rfl (r_zreturn dX5_addSince_57 rfl))
def bX5_addSince_58 (G : Nat × Nat × Nat × Option (Nat × (Nat → Int32)) × (Option Value → qW → Prop)) : qK := (s_aload 0 (s_dup (s_getfield 5 3 (s_iconst 1 (s_iadd (s_putI 5 3 (s_iload 1 (s_iconst 1 (s_ic_ne (AW (mX5_addSince, G) 80) (s_aload 0 (s_getfield 5 0 (AW (mX5_addSince, G) 84))))))))))))
theorem oX5_addSince_58 (G : Nat × Nat × Nat × Option (Nat × (Nat → Int32)) × (Option Value → qW → Prop)) : qImp (bX5_addSince_58 G) (AW (mX5_addSince, G) 58) := (r_aload_n dX5_addSince_58 rfl (r_dup dX5_addSince_59 (r_getfield dX5_addSince_60 fgX5_25 (r_iconst dX5_addSince_63 rfl (r_iadd dX5_addSince_64 (r_putI dX5_addSince_65 fpX5_25 (fun q hq => by cases hq; rfl) (r_iload_n dX5_addSince_68 rfl (r_iconst dX5_addSince_69 rfl (r_ic_ne (tgt := 80) dX5_addSince_70 rfl qImp.rf (r_aload_n dX5_addSince_73 rfl (r_getfield dX5_addSince_74 fgX5_9 (r_goto (tgt := 84) dX5_addSince_77 rfl qImp.rf))))))))))))
def bX5_addSince_80 (G : Nat × Nat × Nat × Option (Nat × (Nat → Int32)) × (Option Value → qW → Prop)) : qK := (s_aload 0 (s_getfield 5 1 (AW (mX5_addSince, G) 84)))
theorem oX5_addSince_80 (G : Nat × Nat × Nat × Option (Nat × (Nat → Int32)) × (Option Value → qW → Prop)) : qImp (bX5_addSince_80 G) (AW (mX5_addSince, G) 80) := (r_aload_n dX5_addSince_80 rfl (r_getfield dX5_addSince_81 fgX5_15 qImp.rf))
def bX5_addSince_84 (G : Nat × Nat × Nat × Option (Nat × (Nat → Int32)) × (Option Value → qW → Prop)) : qK := (s_astore 6 5 (s_aload 6 (s_iload 2 (s_aload 6 (s_iload 2 (s_iaload (mX5_addSince, G) (s_iload 3 (AW (mX5_addSince, G) 94))))))))
theorem oX5_addSince_84 (G : Nat × Nat × Nat × Option (Nat × (Nat → Int32)) × (Option Value → qW → Prop)) : qImp (bX5_addSince_84 G) (AW (mX5_addSince, G) 84) := (r_astore dX5_addSince_84 (Or.inr rfl) (Nat.le_of_ble_eq_true rfl) (r_aload dX5_addSince_86 (r_iload_n dX5_addSince_88 rfl (r_aload dX5_addSince_89 (r_iload_n dX5_addSince_91 rfl (r_iaload dX5_addSince_92 (r_iload_n dX5_addSince_93 rfl qImp.rf)))))))
def bX5_addSince_97 (G : Nat × Nat × Nat × Option (Nat × (Nat → Int32)) × (Option Value → qW → Prop)) : qK := (s_iastore (s_iload 3 (s_istore 7 6 (AW (mX5_addSince, G) 101))))
theorem oX5_addSince_97 (G : Nat × Nat × Nat × Option (Nat × (Nat → Int32)) × (Option Value → qW → Prop)) : qImp (bX5_addSince_97 G) (AW (mX5_addSince, G) 97) := (r_iastore dX5_addSince_97 (r_iload_n dX5_addSince_98 rfl (r_istore dX5_addSince_99 (Or.inr rfl) (Nat.le_of_ble_eq_true rfl) qImp.rf)))
def bX5_addSince_101 (G : Nat × Nat × Nat × Option (Nat × (Nat → Int32)) × (Option Value → qW → Prop)) : qK := (s_iload 7 (s_aload 4 (AW (mX5_addSince, G) 105)))
theorem oX5_addSince_101 (G : Nat × Nat × Nat × Option (Nat × (Nat → Int32)) × (Option Value → qW → Prop)) : qImp (bX5_addSince_101 G) (AW (mX5_addSince, G) 101) := (r_iload dX5_addSince_101 (r_aload dX5_addSince_103 qImp.rf))
def bX5_addSince_108 (G : Nat × Nat × Nat × Option (Nat × (Nat → Int32)) × (Option Value → qW → Prop)) : qK := (s_ic_ge (AW (mX5_addSince, G) 125) (s_aload 0 (s_aload 4 (s_iload 7 (AW (mX5_addSince, G) 116)))))
theorem oX5_addSince_108 (G : Nat × Nat × Nat × Option (Nat × (Nat → Int32)) × (Option Value → qW → Prop)) : qImp (bX5_addSince_108 G) (AW (mX5_addSince, G) 108) := (r_ic_ge (tgt := 125) dX5_addSince_108 rfl qImp.rf (r_aload_n dX5_addSince_111 rfl (r_aload dX5_addSince_112 (r_iload dX5_addSince_114 qImp.rf))))
def bX5_addSince_119 (G : Nat × Nat × Nat × Option (Nat × (Nat → Int32)) × (Option Value → qW → Prop)) : qK := (s_iinc 7 6 1 (AW (mX5_addSince, G) 101))
theorem oX5_addSince_119 (G : Nat × Nat × Nat × Option (Nat × (Nat → Int32)) × (Option Value → qW → Prop)) : qImp (bX5_addSince_119 G) (AW (mX5_addSince, G) 119) := (r_iinc dX5_addSince_119 rfl (Or.inr rfl) (Nat.le_of_ble_eq_true rfl) (r_goto (tgt := 101) dX5_addSince_122 rfl qImp.rf))
def bX5_addSince_125 (G : Nat × Nat × Nat × Option (Nat × (Nat → Int32)) × (Option Value → qW → Prop)) : qK := (s_iconst 1 (s_zreturn (mX5_addSince, G)))
theorem oX5_addSince_125 (G : Nat × Nat × Nat × Option (Nat × (Nat → Int32)) × (Option Value → qW → Prop)) : qImp (bX5_addSince_125 G) (AW (mX5_addSince, G) 125) := (r_iconst dX5_addSince_125 rfl (r_zreturn dX5_addSince_126 rfl))
theorem kX5_addSince_6 {G : Nat × Nat × Nat × Option (Nat × (Nat → Int32)) × (Option Value → qW → Prop)} {L : qL} {w : qW} {kc ks : Nat} {rest : List Value}  {x0 : Int32} {d mc ms : Nat} {Q : Option Value → qW → Prop} (hC : CT mX10_isTool d mc ms [.int x0] w Q) (hst : rest.length ≤ 4) (hdp : d + 1 ≤ G.1) (hmc : kc + mc ≤ G.2.1 ∧ ks + ms ≤ G.2.2.1) (k : ∀ r w', Q r w' → AW (mX5_addSince, G) 9 L (r.toList ++ rest) w' (kc + mc) (ks + ms)) : AW (mX5_addSince, G) 6 L (.int x0 :: rest) w kc ks := a_callSN [.int x0] rest dX5_addSince_6 tX10_isTool lnX5_39 hC rfl hst hdp hmc k
theorem kX5_addSince_18 {G : Nat × Nat × Nat × Option (Nat × (Nat → Int32)) × (Option Value → qW → Prop)} {L : qL} {w : qW} {kc ks : Nat} {rest : List Value}  {x0 : Int32} {d mc ms : Nat} {Q : Option Value → qW → Prop} (hC : CT mX10_isHand d mc ms [.int x0] w Q) (hst : rest.length ≤ 4) (hdp : d + 1 ≤ G.1) (hmc : kc + mc ≤ G.2.1 ∧ ks + ms ≤ G.2.2.1) (k : ∀ r w', Q r w' → AW (mX5_addSince, G) 21 L (r.toList ++ rest) w' (kc + mc) (ks + ms)) : AW (mX5_addSince, G) 18 L (.int x0 :: rest) w kc ks := a_callSN [.int x0] rest dX5_addSince_18 tX10_isHand lnX5_43 hC rfl hst hdp hmc k
theorem kX5_addSince_94 {G : Nat × Nat × Nat × Option (Nat × (Nat → Int32)) × (Option Value → qW → Prop)} {L : qL} {w : qW} {kc ks : Nat} {rest : List Value} {x y : Int32} (hst : rest.length ≤ 4) (hdp : 1 ≤ G.1) (hc : kc ≤ G.2.1) (hs : ks ≤ G.2.2.1) (k : AW (mX5_addSince, G) 97 L (.int (if y < x then y else x) :: rest) w kc ks) : AW (mX5_addSince, G) 94 L (.int y :: .int x :: rest) w kc ks := a_mmin dX5_addSince_94 lk747 lk584 lk65 lk585 hst hdp hc hs k
theorem kX5_addSince_105 {G : Nat × Nat × Nat × Option (Nat × (Nat → Int32)) × (Option Value → qW → Prop)} {L : qL} {w : qW} {kc ks : Nat} {rest : List Value} {q : Nat}  {d mc ms : Nat} {Q : Option Value → qW → Prop} (hC : CT mX8_size d mc ms [.ref q] w Q) (hq : qci w q = some 8) (hst : rest.length ≤ 4) (hdp : d + 1 ≤ G.1) (hmc : kc + mc ≤ G.2.1 ∧ ks + ms ≤ G.2.2.1) (k : ∀ r w', Q r w' → AW (mX5_addSince, G) 108 L (r.toList ++ rest) w' (kc + mc) (ks + ms)) : AW (mX5_addSince, G) 105 L (.ref q :: rest) w kc ks := a_callV [] rest dX5_addSince_105 vX8_size lk748 hC hq rfl rfl hst hdp hmc k
theorem kX5_addSince_116 {G : Nat × Nat × Nat × Option (Nat × (Nat → Int32)) × (Option Value → qW → Prop)} {L : qL} {w : qW} {kc ks : Nat} {rest : List Value} {q : Nat} {x0 : Nat} {x1 : Int32} {d mc ms : Nat} {Q : Option Value → qW → Prop} (hC : CT mX5_look d mc ms [.ref q, .ref x0, .int x1] w Q) (hq : qci w q = some 5) (hst : rest.length ≤ 4) (hdp : d + 1 ≤ G.1) (hmc : kc + mc ≤ G.2.1 ∧ ks + ms ≤ G.2.2.1) (k : ∀ r w', Q r w' → AW (mX5_addSince, G) 119 L (r.toList ++ rest) w' (kc + mc) (ks + ms)) : AW (mX5_addSince, G) 116 L (.int x1 :: .ref x0 :: .ref q :: rest) w kc ks := a_callV [.ref x0, .int x1] rest dX5_addSince_116 vX5_look lk749 hC hq rfl rfl hst hdp hmc k
