theorem dX3_init_0 : decode cX3_init 0 = .ok (.aload_n 0, 1) := by decide +kernel
theorem dX3_init_1 : decode cX3_init 1 = .ok (.invokespecial 3, 3) := by decide +kernel
theorem dX3_init_4 : decode cX3_init 4 = .ok (.aload_n 0, 1) := by decide +kernel
theorem dX3_init_5 : decode cX3_init 5 = .ok (.bipush 100, 2) := by decide +kernel
theorem dX3_init_7 : decode cX3_init 7 = .ok (.newarray .int, 2) := by decide +kernel
theorem dX3_init_9 : decode cX3_init 9 = .ok (.putfield 9, 3) := by decide +kernel
theorem dX3_init_12 : decode cX3_init 12 = .ok (.aload_n 0, 1) := by decide +kernel
theorem dX3_init_13 : decode cX3_init 13 = .ok (.bipush 100, 2) := by decide +kernel
theorem dX3_init_15 : decode cX3_init 15 = .ok (.newarray .int, 2) := by decide +kernel
theorem dX3_init_17 : decode cX3_init 17 = .ok (.putfield 15, 3) := by decide +kernel
theorem dX3_init_20 : decode cX3_init 20 = .ok (.aload_n 0, 1) := by decide +kernel
theorem dX3_init_21 : decode cX3_init 21 = .ok (.new 18, 3) := by decide +kernel
theorem dX3_init_24 : decode cX3_init 24 = .ok (.dup, 1) := by decide +kernel
theorem dX3_init_25 : decode cX3_init 25 = .ok (.invokespecial 20, 3) := by decide +kernel
theorem dX3_init_28 : decode cX3_init 28 = .ok (.putfield 21, 3) := by decide +kernel
theorem dX3_init_31 : decode cX3_init 31 = .ok (.aload_n 0, 1) := by decide +kernel
theorem dX3_init_32 : decode cX3_init 32 = .ok (.iconst 0, 1) := by decide +kernel
theorem dX3_init_33 : decode cX3_init 33 = .ok (.putfield 25, 3) := by decide +kernel
theorem dX3_init_36 : decode cX3_init 36 = .ok (.return_, 1) := by decide +kernel
/-! SealLine$Proof.<init>()V -/
theorem eX3_init {d mc ms : Nat} {w : qW} {Q : Option Value → qW → Prop} {q : Nat} (h : AW (mX3_init, d, mc, ms, none, Q) 0 [some (.ref q)] [] w 0 0) : CT mX3_init d mc ms [.ref q] w Q := CT_of (by decide +kernel) rfl (Nat.le_of_ble_eq_true rfl) h
def bX3_init_0 (G : Nat × Nat × Nat × Option (Nat × (Nat → Int32)) × (Option Value → qW → Prop)) : qK := (s_aload 0 (s_oinit (mX3_init, G) (s_aload 0 (s_iconst 100 (s_newI (mX3_init, G) 0 (s_putR 3 0 (s_aload 0 (s_iconst 100 (s_newI (mX3_init, G) 0 (s_putR 3 1 (s_aload 0 (s_new (mX3_init, G) 0 2 [.long 0, .long 0] (s_dup (AW (mX3_init, G) 25))))))))))))))
theorem oX3_init_0 (G : Nat × Nat × Nat × Option (Nat × (Nat → Int32)) × (Option Value → qW → Prop)) : qImp (bX3_init_0 G) (AW (mX3_init, G) 0) := (r_aload_n dX3_init_0 rfl (r_oinit dX3_init_1 lk165 lk86 lk87 (r_aload_n dX3_init_4 rfl (r_bipush dX3_init_5 rfl (r_newI0 dX3_init_7 lk113 (r_putRF dX3_init_9 fpX3_9 (fun q hq => by cases hq; rfl) rfl (fun q hq => by cases hq; rfl) (fun _ => rfl) (fun _ => rfl) (r_aload_n dX3_init_12 rfl (r_bipush dX3_init_13 rfl (r_newI0 dX3_init_15 lk113 (r_putRF dX3_init_17 fpX3_15 (fun q hq => by cases hq; rfl) rfl (fun q hq => by cases hq; rfl) (fun _ => rfl) (fun _ => rfl) (r_aload_n dX3_init_20 rfl (r_new dX3_init_21 nwX3_18 (r_dup dX3_init_24 qImp.rf)))))))))))))
def bX3_init_28 (G : Nat × Nat × Nat × Option (Nat × (Nat → Int32)) × (Option Value → qW → Prop)) : qK := (s_putR 3 2 (s_aload 0 (s_iconst 0 (s_putI 3 3 (s_vreturn (mX3_init, G))))))
theorem oX3_init_28 (G : Nat × Nat × Nat × Option (Nat × (Nat → Int32)) × (Option Value → qW → Prop)) : qImp (bX3_init_28 G) (AW (mX3_init, G) 28) := (r_putRF dX3_init_28 fpX3_21 (fun q hq => by cases hq; rfl) rfl (fun q hq => by cases hq; rfl) (fun _ => rfl) (fun _ => rfl) (r_aload_n dX3_init_31 rfl (r_iconst dX3_init_32 rfl (r_putI dX3_init_33 fpX3_25 (fun q hq => by cases hq; rfl) (r_vreturn dX3_init_36 rfl)))))
theorem kX3_init_25 {G : Nat × Nat × Nat × Option (Nat × (Nat → Int32)) × (Option Value → qW → Prop)} {L : qL} {w : qW} {kc ks : Nat} {rest : List Value} {q : Nat}  {d mc ms : Nat} {Q : Option Value → qW → Prop} (hC : CT mX0_init d mc ms [.ref q] w Q) (hst : rest.length ≤ 4) (hdp : d + 1 ≤ G.1) (hmc : kc + mc ≤ G.2.1 ∧ ks + ms ≤ G.2.2.1) (k : ∀ r w', Q r w' → AW (mX3_init, G) 28 L (r.toList ++ rest) w' (kc + mc) (ks + ms)) : AW (mX3_init, G) 25 L (.ref q :: rest) w kc ks := a_callIN [] rest dX3_init_25 iX0_init lnX3_20 hC rfl hst hdp hmc k
theorem dX3_findGrounds_0 : decode cX3_findGrounds 0 = .ok (.aload_n 0, 1) := by decide +kernel
theorem dX3_findGrounds_1 : decode cX3_findGrounds 1 = .ok (.getfield 9, 3) := by decide +kernel
theorem dX3_findGrounds_4 : decode cX3_findGrounds 4 = .ok (.iconst (-1), 1) := by decide +kernel
theorem dX3_findGrounds_5 : decode cX3_findGrounds 5 = .ok (.invokestatic 47, 3) := by decide +kernel
theorem dX3_findGrounds_8 : decode cX3_findGrounds 8 = .ok (.iconst 0, 1) := by decide +kernel
theorem dX3_findGrounds_9 : decode cX3_findGrounds 9 = .ok (.istore_n 3, 1) := by decide +kernel
theorem dX3_findGrounds_10 : decode cX3_findGrounds 10 = .ok (.iload_n 3, 1) := by decide +kernel
theorem dX3_findGrounds_11 : decode cX3_findGrounds 11 = .ok (.aload_n 1, 1) := by decide +kernel
theorem dX3_findGrounds_12 : decode cX3_findGrounds 12 = .ok (.invokevirtual 37, 3) := by decide +kernel
theorem dX3_findGrounds_15 : decode cX3_findGrounds 15 = .ok (.if_icmp .ge 54, 3) := by decide +kernel
theorem dX3_findGrounds_18 : decode cX3_findGrounds 18 = .ok (.aload_n 1, 1) := by decide +kernel
theorem dX3_findGrounds_19 : decode cX3_findGrounds 19 = .ok (.iload_n 3, 1) := by decide +kernel
theorem dX3_findGrounds_20 : decode cX3_findGrounds 20 = .ok (.iconst 1, 1) := by decide +kernel
theorem dX3_findGrounds_21 : decode cX3_findGrounds 21 = .ok (.invokevirtual 53, 3) := by decide +kernel
theorem dX3_findGrounds_24 : decode cX3_findGrounds 24 = .ok (.istore 4, 2) := by decide +kernel
theorem dX3_findGrounds_26 : decode cX3_findGrounds 26 = .ok (.aload_n 2, 1) := by decide +kernel
theorem dX3_findGrounds_27 : decode cX3_findGrounds 27 = .ok (.iload 4, 2) := by decide +kernel
theorem dX3_findGrounds_29 : decode cX3_findGrounds 29 = .ok (.invokevirtual 57, 3) := by decide +kernel
theorem dX3_findGrounds_32 : decode cX3_findGrounds 32 = .ok (.ifCond .eq 31, 3) := by decide +kernel
theorem dX3_findGrounds_35 : decode cX3_findGrounds 35 = .ok (.aload_n 0, 1) := by decide +kernel
theorem dX3_findGrounds_36 : decode cX3_findGrounds 36 = .ok (.getfield 9, 3) := by decide +kernel
theorem dX3_findGrounds_39 : decode cX3_findGrounds 39 = .ok (.iload 4, 2) := by decide +kernel
theorem dX3_findGrounds_41 : decode cX3_findGrounds 41 = .ok (.iaload, 1) := by decide +kernel
theorem dX3_findGrounds_42 : decode cX3_findGrounds 42 = .ok (.iconst (-1), 1) := by decide +kernel
theorem dX3_findGrounds_43 : decode cX3_findGrounds 43 = .ok (.if_icmp .ne 20, 3) := by decide +kernel
theorem dX3_findGrounds_46 : decode cX3_findGrounds 46 = .ok (.aload_n 2, 1) := by decide +kernel
theorem dX3_findGrounds_47 : decode cX3_findGrounds 47 = .ok (.aload_n 1, 1) := by decide +kernel
theorem dX3_findGrounds_48 : decode cX3_findGrounds 48 = .ok (.iload_n 3, 1) := by decide +kernel
theorem dX3_findGrounds_49 : decode cX3_findGrounds 49 = .ok (.invokevirtual 63, 3) := by decide +kernel
theorem dX3_findGrounds_52 : decode cX3_findGrounds 52 = .ok (.ifCond .eq 11, 3) := by decide +kernel
theorem dX3_findGrounds_55 : decode cX3_findGrounds 55 = .ok (.aload_n 0, 1) := by decide +kernel
theorem dX3_findGrounds_56 : decode cX3_findGrounds 56 = .ok (.getfield 9, 3) := by decide +kernel
theorem dX3_findGrounds_59 : decode cX3_findGrounds 59 = .ok (.iload 4, 2) := by decide +kernel
theorem dX3_findGrounds_61 : decode cX3_findGrounds 61 = .ok (.iload_n 3, 1) := by decide +kernel
theorem dX3_findGrounds_62 : decode cX3_findGrounds 62 = .ok (.iastore, 1) := by decide +kernel
theorem dX3_findGrounds_63 : decode cX3_findGrounds 63 = .ok (.iinc 3 1, 3) := by decide +kernel
theorem dX3_findGrounds_66 : decode cX3_findGrounds 66 = .ok (.goto (-56), 3) := by decide +kernel
theorem dX3_findGrounds_69 : decode cX3_findGrounds 69 = .ok (.return_, 1) := by decide +kernel
/-! SealLine$Proof.findGrounds(LSealLine$Table;LSealLine$Shelf;)V -/
theorem eX3_findGrounds {d mc ms : Nat} {w : qW} {Q : Option Value → qW → Prop} {q : Nat} {x0 : Nat} {x1 : Nat} (h : AW (mX3_findGrounds, d, mc, ms, none, Q) 0 [some (.ref q), some (.ref x0), some (.ref x1), none, none] [] w 0 0) : CT mX3_findGrounds d mc ms [.ref q, .ref x0, .ref x1] w Q := CT_of (by decide +kernel) rfl (Nat.le_of_ble_eq_true rfl) h
def bX3_findGrounds_0 (G : Nat × Nat × Nat × Option (Nat × (Nat → Int32)) × (Option Value → qW → Prop)) : qK := (s_aload 0 (s_getfield 3 0 (s_iconst (-1) (AW (mX3_findGrounds, G) 5))))
theorem oX3_findGrounds_0 (G : Nat × Nat × Nat × Option (Nat × (Nat → Int32)) × (Option Value → qW → Prop)) : qImp (bX3_findGrounds_0 G) (AW (mX3_findGrounds, G) 0) := (r_aload_n dX3_findGrounds_0 rfl (r_getfield dX3_findGrounds_1 fgX3_9 (r_iconst dX3_findGrounds_4 rfl qImp.rf)))
def bX3_findGrounds_8 (G : Nat × Nat × Nat × Option (Nat × (Nat → Int32)) × (Option Value → qW → Prop)) : qK := (s_iconst 0 (s_istore 3 2 (AW (mX3_findGrounds, G) 10)))
theorem oX3_findGrounds_8 (G : Nat × Nat × Nat × Option (Nat × (Nat → Int32)) × (Option Value → qW → Prop)) : qImp (bX3_findGrounds_8 G) (AW (mX3_findGrounds, G) 8) := (r_iconst dX3_findGrounds_8 rfl (r_istore_n dX3_findGrounds_9 rfl (Or.inr rfl) (Nat.le_of_ble_eq_true rfl) qImp.rf))
def bX3_findGrounds_10 (G : Nat × Nat × Nat × Option (Nat × (Nat → Int32)) × (Option Value → qW → Prop)) : qK := (s_iload 3 (s_aload 1 (AW (mX3_findGrounds, G) 12)))
theorem oX3_findGrounds_10 (G : Nat × Nat × Nat × Option (Nat × (Nat → Int32)) × (Option Value → qW → Prop)) : qImp (bX3_findGrounds_10 G) (AW (mX3_findGrounds, G) 10) := (r_iload_n dX3_findGrounds_10 rfl (r_aload_n dX3_findGrounds_11 rfl qImp.rf))
def bX3_findGrounds_15 (G : Nat × Nat × Nat × Option (Nat × (Nat → Int32)) × (Option Value → qW → Prop)) : qK := (s_ic_ge (AW (mX3_findGrounds, G) 69) (s_aload 1 (s_iload 3 (s_iconst 1 (AW (mX3_findGrounds, G) 21)))))
theorem oX3_findGrounds_15 (G : Nat × Nat × Nat × Option (Nat × (Nat → Int32)) × (Option Value → qW → Prop)) : qImp (bX3_findGrounds_15 G) (AW (mX3_findGrounds, G) 15) := (r_ic_ge (tgt := 69) dX3_findGrounds_15 rfl qImp.rf (r_aload_n dX3_findGrounds_18 rfl (r_iload_n dX3_findGrounds_19 rfl (r_iconst dX3_findGrounds_20 rfl qImp.rf))))
def bX3_findGrounds_24 (G : Nat × Nat × Nat × Option (Nat × (Nat → Int32)) × (Option Value → qW → Prop)) : qK := (s_istore 4 3 (s_aload 2 (s_iload 4 (AW (mX3_findGrounds, G) 29))))
theorem oX3_findGrounds_24 (G : Nat × Nat × Nat × Option (Nat × (Nat → Int32)) × (Option Value → qW → Prop)) : qImp (bX3_findGrounds_24 G) (AW (mX3_findGrounds, G) 24) := (r_istore dX3_findGrounds_24 (Or.inr rfl) (Nat.le_of_ble_eq_true rfl) (r_aload_n dX3_findGrounds_26 rfl (r_iload dX3_findGrounds_27 qImp.rf)))
def bX3_findGrounds_32 (G : Nat × Nat × Nat × Option (Nat × (Nat → Int32)) × (Option Value → qW → Prop)) : qK := (s_if_eq (AW (mX3_findGrounds, G) 63) (s_aload 0 (s_getfield 3 0 (s_iload 4 (s_iaload (mX3_findGrounds, G) (s_iconst (-1) (s_ic_ne (AW (mX3_findGrounds, G) 63) (s_aload 2 (s_aload 1 (s_iload 3 (AW (mX3_findGrounds, G) 49)))))))))))
theorem oX3_findGrounds_32 (G : Nat × Nat × Nat × Option (Nat × (Nat → Int32)) × (Option Value → qW → Prop)) : qImp (bX3_findGrounds_32 G) (AW (mX3_findGrounds, G) 32) := (r_if_eq (tgt := 63) dX3_findGrounds_32 rfl qImp.rf (r_aload_n dX3_findGrounds_35 rfl (r_getfield dX3_findGrounds_36 fgX3_9 (r_iload dX3_findGrounds_39 (r_iaload dX3_findGrounds_41 (r_iconst dX3_findGrounds_42 rfl (r_ic_ne (tgt := 63) dX3_findGrounds_43 rfl qImp.rf (r_aload_n dX3_findGrounds_46 rfl (r_aload_n dX3_findGrounds_47 rfl (r_iload_n dX3_findGrounds_48 rfl qImp.rf))))))))))
def bX3_findGrounds_52 (G : Nat × Nat × Nat × Option (Nat × (Nat → Int32)) × (Option Value → qW → Prop)) : qK := (s_if_eq (AW (mX3_findGrounds, G) 63) (s_aload 0 (s_getfield 3 0 (s_iload 4 (s_iload 3 (s_iastore (AW (mX3_findGrounds, G) 63)))))))
theorem oX3_findGrounds_52 (G : Nat × Nat × Nat × Option (Nat × (Nat → Int32)) × (Option Value → qW → Prop)) : qImp (bX3_findGrounds_52 G) (AW (mX3_findGrounds, G) 52) := (r_if_eq (tgt := 63) dX3_findGrounds_52 rfl qImp.rf (r_aload_n dX3_findGrounds_55 rfl (r_getfield dX3_findGrounds_56 fgX3_9 (r_iload dX3_findGrounds_59 (r_iload_n dX3_findGrounds_61 rfl (r_iastore dX3_findGrounds_62 qImp.rf))))))
def bX3_findGrounds_63 (G : Nat × Nat × Nat × Option (Nat × (Nat → Int32)) × (Option Value → qW → Prop)) : qK := (s_iinc 3 2 1 (AW (mX3_findGrounds, G) 10))
theorem oX3_findGrounds_63 (G : Nat × Nat × Nat × Option (Nat × (Nat → Int32)) × (Option Value → qW → Prop)) : qImp (bX3_findGrounds_63 G) (AW (mX3_findGrounds, G) 63) := (r_iinc dX3_findGrounds_63 rfl (Or.inr rfl) (Nat.le_of_ble_eq_true rfl) (r_goto (tgt := 10) dX3_findGrounds_66 rfl qImp.rf))
def bX3_findGrounds_69 (G : Nat × Nat × Nat × Option (Nat × (Nat → Int32)) × (Option Value → qW → Prop)) : qK := (s_vreturn (mX3_findGrounds, G))
theorem oX3_findGrounds_69 (G : Nat × Nat × Nat × Option (Nat × (Nat → Int32)) × (Option Value → qW → Prop)) : qImp (bX3_findGrounds_69 G) (AW (mX3_findGrounds, G) 69) := (r_vreturn dX3_findGrounds_69 rfl)
theorem kX3_findGrounds_5 {G : Nat × Nat × Nat × Option (Nat × (Nat → Int32)) × (Option Value → qW → Prop)} {L : qL} {w : qW} {kc ks : Nat} {rest : List Value}  {x0 : Nat} {x1 : Int32} {d mc ms : Nat} {Q : Option Value → qW → Prop} (hC : CT mJ7_fill_53178 d mc ms [.ref x0, .int x1] w Q) (hst : rest.length ≤ 4) (hdp : d + 1 ≤ G.1) (hmc : kc + mc ≤ G.2.1 ∧ ks + ms ≤ G.2.2.1) (k : ∀ r w', Q r w' → AW (mX3_findGrounds, G) 8 L (r.toList ++ rest) w' (kc + mc) (ks + ms)) : AW (mX3_findGrounds, G) 5 L (.int x1 :: .ref x0 :: rest) w kc ks := a_callS [.ref x0, .int x1] rest dX3_findGrounds_5 tJ7_fill_53178 lk847 hC rfl hst hdp hmc k
theorem kX3_findGrounds_12 {G : Nat × Nat × Nat × Option (Nat × (Nat → Int32)) × (Option Value → qW → Prop)} {L : qL} {w : qW} {kc ks : Nat} {rest : List Value} {q : Nat}  {d mc ms : Nat} {Q : Option Value → qW → Prop} (hC : CT mX8_size d mc ms [.ref q] w Q) (hq : qci w q = some 8) (hst : rest.length ≤ 4) (hdp : d + 1 ≤ G.1) (hmc : kc + mc ≤ G.2.1 ∧ ks + ms ≤ G.2.2.1) (k : ∀ r w', Q r w' → AW (mX3_findGrounds, G) 15 L (r.toList ++ rest) w' (kc + mc) (ks + ms)) : AW (mX3_findGrounds, G) 12 L (.ref q :: rest) w kc ks := a_callV [] rest dX3_findGrounds_12 vX8_size lk848 hC hq rfl rfl hst hdp hmc k
theorem kX3_findGrounds_21 {G : Nat × Nat × Nat × Option (Nat × (Nat → Int32)) × (Option Value → qW → Prop)} {L : qL} {w : qW} {kc ks : Nat} {rest : List Value} {q : Nat} {x0 : Int32} {x1 : Int32} {d mc ms : Nat} {Q : Option Value → qW → Prop} (hC : CT mX8_cell d mc ms [.ref q, .int x0, .int x1] w Q) (hq : qci w q = some 8) (hst : rest.length ≤ 4) (hdp : d + 1 ≤ G.1) (hmc : kc + mc ≤ G.2.1 ∧ ks + ms ≤ G.2.2.1) (k : ∀ r w', Q r w' → AW (mX3_findGrounds, G) 24 L (r.toList ++ rest) w' (kc + mc) (ks + ms)) : AW (mX3_findGrounds, G) 21 L (.int x1 :: .int x0 :: .ref q :: rest) w kc ks := a_callV [.int x0, .int x1] rest dX3_findGrounds_21 vX8_cell lk849 hC hq rfl rfl hst hdp hmc k
theorem kX3_findGrounds_29 {G : Nat × Nat × Nat × Option (Nat × (Nat → Int32)) × (Option Value → qW → Prop)} {L : qL} {w : qW} {kc ks : Nat} {rest : List Value} {q : Nat} {x0 : Int32} {d mc ms : Nat} {Q : Option Value → qW → Prop} (hC : CT mX7_has d mc ms [.ref q, .int x0] w Q) (hq : qci w q = some 7) (hst : rest.length ≤ 4) (hdp : d + 1 ≤ G.1) (hmc : kc + mc ≤ G.2.1 ∧ ks + ms ≤ G.2.2.1) (k : ∀ r w', Q r w' → AW (mX3_findGrounds, G) 32 L (r.toList ++ rest) w' (kc + mc) (ks + ms)) : AW (mX3_findGrounds, G) 29 L (.int x0 :: .ref q :: rest) w kc ks := a_callV [.int x0] rest dX3_findGrounds_29 vX7_has lk850 hC hq rfl rfl hst hdp hmc k
theorem kX3_findGrounds_49 {G : Nat × Nat × Nat × Option (Nat × (Nat → Int32)) × (Option Value → qW → Prop)} {L : qL} {w : qW} {kc ks : Nat} {rest : List Value} {q : Nat} {x0 : Nat} {x1 : Int32} {d mc ms : Nat} {Q : Option Value → qW → Prop} (hC : CT mX7_isGround d mc ms [.ref q, .ref x0, .int x1] w Q) (hq : qci w q = some 7) (hst : rest.length ≤ 4) (hdp : d + 1 ≤ G.1) (hmc : kc + mc ≤ G.2.1 ∧ ks + ms ≤ G.2.2.1) (k : ∀ r w', Q r w' → AW (mX3_findGrounds, G) 52 L (r.toList ++ rest) w' (kc + mc) (ks + ms)) : AW (mX3_findGrounds, G) 49 L (.int x1 :: .ref x0 :: .ref q :: rest) w kc ks := a_callV [.ref x0, .int x1] rest dX3_findGrounds_49 vX7_isGround lk851 hC hq rfl rfl hst hdp hmc k
theorem dX3_want_0 : decode cX3_want 0 = .ok (.iload_n 1, 1) := by decide +kernel
theorem dX3_want_1 : decode cX3_want 1 = .ok (.ifCond .lt 57, 3) := by decide +kernel
theorem dX3_want_4 : decode cX3_want 4 = .ok (.iload_n 1, 1) := by decide +kernel
theorem dX3_want_5 : decode cX3_want 5 = .ok (.bipush 100, 2) := by decide +kernel
theorem dX3_want_7 : decode cX3_want 7 = .ok (.if_icmp .ge 51, 3) := by decide +kernel
theorem dX3_want_10 : decode cX3_want 10 = .ok (.aload_n 0, 1) := by decide +kernel
theorem dX3_want_11 : decode cX3_want 11 = .ok (.getfield 25, 3) := by decide +kernel
theorem dX3_want_14 : decode cX3_want 14 = .ok (.bipush 100, 2) := by decide +kernel
theorem dX3_want_16 : decode cX3_want 16 = .ok (.if_icmp .ge 42, 3) := by decide +kernel
theorem dX3_want_19 : decode cX3_want 19 = .ok (.aload_n 0, 1) := by decide +kernel
theorem dX3_want_20 : decode cX3_want 20 = .ok (.getfield 21, 3) := by decide +kernel
theorem dX3_want_23 : decode cX3_want 23 = .ok (.iload_n 1, 1) := by decide +kernel
theorem dX3_want_24 : decode cX3_want 24 = .ok (.invokevirtual 73, 3) := by decide +kernel
theorem dX3_want_27 : decode cX3_want 27 = .ok (.ifCond .ne 31, 3) := by decide +kernel
theorem dX3_want_30 : decode cX3_want 30 = .ok (.aload_n 0, 1) := by decide +kernel
theorem dX3_want_31 : decode cX3_want 31 = .ok (.getfield 21, 3) := by decide +kernel
theorem dX3_want_34 : decode cX3_want 34 = .ok (.iload_n 1, 1) := by decide +kernel
theorem dX3_want_35 : decode cX3_want 35 = .ok (.invokevirtual 74, 3) := by decide +kernel
theorem dX3_want_38 : decode cX3_want 38 = .ok (.aload_n 0, 1) := by decide +kernel
theorem dX3_want_39 : decode cX3_want 39 = .ok (.getfield 15, 3) := by decide +kernel
theorem dX3_want_42 : decode cX3_want 42 = .ok (.aload_n 0, 1) := by decide +kernel
theorem dX3_want_43 : decode cX3_want 43 = .ok (.getfield 25, 3) := by decide +kernel
theorem dX3_want_46 : decode cX3_want 46 = .ok (.iload_n 1, 1) := by decide +kernel
theorem dX3_want_47 : decode cX3_want 47 = .ok (.iastore, 1) := by decide +kernel
theorem dX3_want_48 : decode cX3_want 48 = .ok (.aload_n 0, 1) := by decide +kernel
theorem dX3_want_49 : decode cX3_want 49 = .ok (.dup, 1) := by decide +kernel
theorem dX3_want_50 : decode cX3_want 50 = .ok (.getfield 25, 3) := by decide +kernel
theorem dX3_want_53 : decode cX3_want 53 = .ok (.iconst 1, 1) := by decide +kernel
theorem dX3_want_54 : decode cX3_want 54 = .ok (.iadd, 1) := by decide +kernel
theorem dX3_want_55 : decode cX3_want 55 = .ok (.putfield 25, 3) := by decide +kernel
theorem dX3_want_58 : decode cX3_want 58 = .ok (.return_, 1) := by decide +kernel
/-! SealLine$Proof.want(I)V -/
theorem eX3_want {d mc ms : Nat} {w : qW} {Q : Option Value → qW → Prop} {q : Nat} {x0 : Int32} (h : AW (mX3_want, d, mc, ms, none, Q) 0 [some (.ref q), some (.int x0)] [] w 0 0) : CT mX3_want d mc ms [.ref q, .int x0] w Q := CT_of (by decide +kernel) rfl (Nat.le_of_ble_eq_true rfl) h
def bX3_want_0 (G : Nat × Nat × Nat × Option (Nat × (Nat → Int32)) × (Option Value → qW → Prop)) : qK := (s_iload 1 (s_if_lt (AW (mX3_want, G) 58) (s_iload 1 (s_iconst 100 (s_ic_ge (AW (mX3_want, G) 58) (s_aload 0 (s_getfield 3 3 (s_iconst 100 (s_ic_ge (AW (mX3_want, G) 58) (s_aload 0 (s_getfield 3 2 (s_iload 1 (AW (mX3_want, G) 24)))))))))))))
theorem oX3_want_0 (G : Nat × Nat × Nat × Option (Nat × (Nat → Int32)) × (Option Value → qW → Prop)) : qImp (bX3_want_0 G) (AW (mX3_want, G) 0) := (r_iload_n dX3_want_0 rfl (r_if_lt (tgt := 58) dX3_want_1 rfl qImp.rf (r_iload_n dX3_want_4 rfl (r_bipush dX3_want_5 rfl (r_ic_ge (tgt := 58) dX3_want_7 rfl qImp.rf (r_aload_n dX3_want_10 rfl (r_getfield dX3_want_11 fgX3_25 (r_bipush dX3_want_14 rfl (r_ic_ge (tgt := 58) dX3_want_16 rfl qImp.rf (r_aload_n dX3_want_19 rfl (r_getfield dX3_want_20 fgX3_21 (r_iload_n dX3_want_23 rfl qImp.rf))))))))))))
def bX3_want_27 (G : Nat × Nat × Nat × Option (Nat × (Nat → Int32)) × (Option Value → qW → Prop)) : qK := (s_if_ne (AW (mX3_want, G) 58) (s_aload 0 (s_getfield 3 2 (s_iload 1 (AW (mX3_want, G) 35)))))
theorem oX3_want_27 (G : Nat × Nat × Nat × Option (Nat × (Nat → Int32)) × (Option Value → qW → Prop)) : qImp (bX3_want_27 G) (AW (mX3_want, G) 27) := (r_if_ne (tgt := 58) dX3_want_27 rfl qImp.rf (r_aload_n dX3_want_30 rfl (r_getfield dX3_want_31 fgX3_21 (r_iload_n dX3_want_34 rfl qImp.rf))))
def bX3_want_38 (G : Nat × Nat × Nat × Option (Nat × (Nat → Int32)) × (Option Value → qW → Prop)) : qK := (s_aload 0 (s_getfield 3 1 (s_aload 0 (s_getfield 3 3 (s_iload 1 (s_iastore (s_aload 0 (s_dup (s_getfield 3 3 (s_iconst 1 (s_iadd (s_putI 3 3 (AW (mX3_want, G) 58)))))))))))))
theorem oX3_want_38 (G : Nat × Nat × Nat × Option (Nat × (Nat → Int32)) × (Option Value → qW → Prop)) : qImp (bX3_want_38 G) (AW (mX3_want, G) 38) := (r_aload_n dX3_want_38 rfl (r_getfield dX3_want_39 fgX3_15 (r_aload_n dX3_want_42 rfl (r_getfield dX3_want_43 fgX3_25 (r_iload_n dX3_want_46 rfl (r_iastore dX3_want_47 (r_aload_n dX3_want_48 rfl (r_dup dX3_want_49 (r_getfield dX3_want_50 fgX3_25 (r_iconst dX3_want_53 rfl (r_iadd dX3_want_54 (r_putI dX3_want_55 fpX3_25 (fun q hq => by cases hq; rfl) qImp.rf))))))))))))
def bX3_want_58 (G : Nat × Nat × Nat × Option (Nat × (Nat → Int32)) × (Option Value → qW → Prop)) : qK := (s_vreturn (mX3_want, G))
theorem oX3_want_58 (G : Nat × Nat × Nat × Option (Nat × (Nat → Int32)) × (Option Value → qW → Prop)) : qImp (bX3_want_58 G) (AW (mX3_want, G) 58) := (r_vreturn dX3_want_58 rfl)
theorem kX3_want_24 {G : Nat × Nat × Nat × Option (Nat × (Nat → Int32)) × (Option Value → qW → Prop)} {L : qL} {w : qW} {kc ks : Nat} {rest : List Value} {q : Nat} {x0 : Int32} {d mc ms : Nat} {Q : Option Value → qW → Prop} (hC : CT mX0_has d mc ms [.ref q, .int x0] w Q) (hq : qci w q = some 0) (hst : rest.length ≤ 4) (hdp : d + 1 ≤ G.1) (hmc : kc + mc ≤ G.2.1 ∧ ks + ms ≤ G.2.2.1) (k : ∀ r w', Q r w' → AW (mX3_want, G) 27 L (r.toList ++ rest) w' (kc + mc) (ks + ms)) : AW (mX3_want, G) 24 L (.int x0 :: .ref q :: rest) w kc ks := a_callV [.int x0] rest dX3_want_24 vX0_has lk864 hC hq rfl rfl hst hdp hmc k
theorem kX3_want_35 {G : Nat × Nat × Nat × Option (Nat × (Nat → Int32)) × (Option Value → qW → Prop)} {L : qL} {w : qW} {kc ks : Nat} {rest : List Value} {q : Nat} {x0 : Int32} {d mc ms : Nat} {Q : Option Value → qW → Prop} (hC : CT mX0_add d mc ms [.ref q, .int x0] w Q) (hq : qci w q = some 0) (hst : rest.length ≤ 4) (hdp : d + 1 ≤ G.1) (hmc : kc + mc ≤ G.2.1 ∧ ks + ms ≤ G.2.2.1) (k : ∀ r w', Q r w' → AW (mX3_want, G) 38 L (r.toList ++ rest) w' (kc + mc) (ks + ms)) : AW (mX3_want, G) 35 L (.int x0 :: .ref q :: rest) w kc ks := a_callV [.int x0] rest dX3_want_35 vX0_add lk865 hC hq rfl rfl hst hdp hmc k
theorem dX3_gather_0 : decode cX3_gather 0 = .ok (.aload_n 0, 1) := by decide +kernel
theorem dX3_gather_1 : decode cX3_gather 1 = .ok (.getfield 21, 3) := by decide +kernel
theorem dX3_gather_4 : decode cX3_gather 4 = .ok (.invokevirtual 66, 3) := by decide +kernel
theorem dX3_gather_7 : decode cX3_gather 7 = .ok (.aload_n 0, 1) := by decide +kernel
theorem dX3_gather_8 : decode cX3_gather 8 = .ok (.iconst 0, 1) := by decide +kernel
theorem dX3_gather_9 : decode cX3_gather 9 = .ok (.putfield 25, 3) := by decide +kernel
theorem dX3_gather_12 : decode cX3_gather 12 = .ok (.aload_n 0, 1) := by decide +kernel
theorem dX3_gather_13 : decode cX3_gather 13 = .ok (.iload_n 2, 1) := by decide +kernel
theorem dX3_gather_14 : decode cX3_gather 14 = .ok (.invokevirtual 69, 3) := by decide +kernel
theorem dX3_gather_17 : decode cX3_gather 17 = .ok (.iconst 0, 1) := by decide +kernel
theorem dX3_gather_18 : decode cX3_gather 18 = .ok (.istore_n 3, 1) := by decide +kernel
theorem dX3_gather_19 : decode cX3_gather 19 = .ok (.iload_n 3, 1) := by decide +kernel
theorem dX3_gather_20 : decode cX3_gather 20 = .ok (.bipush 100, 2) := by decide +kernel
theorem dX3_gather_22 : decode cX3_gather 22 = .ok (.if_icmp .ge 64, 3) := by decide +kernel
theorem dX3_gather_25 : decode cX3_gather 25 = .ok (.iload_n 3, 1) := by decide +kernel
theorem dX3_gather_26 : decode cX3_gather 26 = .ok (.aload_n 0, 1) := by decide +kernel
theorem dX3_gather_27 : decode cX3_gather 27 = .ok (.getfield 25, 3) := by decide +kernel
theorem dX3_gather_30 : decode cX3_gather 30 = .ok (.if_icmp .ge 56, 3) := by decide +kernel
theorem dX3_gather_33 : decode cX3_gather 33 = .ok (.aload_n 0, 1) := by decide +kernel
theorem dX3_gather_34 : decode cX3_gather 34 = .ok (.getfield 9, 3) := by decide +kernel
theorem dX3_gather_37 : decode cX3_gather 37 = .ok (.aload_n 0, 1) := by decide +kernel
theorem dX3_gather_38 : decode cX3_gather 38 = .ok (.getfield 15, 3) := by decide +kernel
theorem dX3_gather_41 : decode cX3_gather 41 = .ok (.iload_n 3, 1) := by decide +kernel
theorem dX3_gather_42 : decode cX3_gather 42 = .ok (.iaload, 1) := by decide +kernel
theorem dX3_gather_43 : decode cX3_gather 43 = .ok (.iaload, 1) := by decide +kernel
theorem dX3_gather_44 : decode cX3_gather 44 = .ok (.istore 4, 2) := by decide +kernel
theorem dX3_gather_46 : decode cX3_gather 46 = .ok (.aload_n 0, 1) := by decide +kernel
theorem dX3_gather_47 : decode cX3_gather 47 = .ok (.aload_n 1, 1) := by decide +kernel
theorem dX3_gather_48 : decode cX3_gather 48 = .ok (.iload 4, 2) := by decide +kernel
theorem dX3_gather_50 : decode cX3_gather 50 = .ok (.iconst 4, 1) := by decide +kernel
theorem dX3_gather_51 : decode cX3_gather 51 = .ok (.invokevirtual 53, 3) := by decide +kernel
theorem dX3_gather_54 : decode cX3_gather 54 = .ok (.invokevirtual 69, 3) := by decide +kernel
theorem dX3_gather_57 : decode cX3_gather 57 = .ok (.aload_n 0, 1) := by decide +kernel
theorem dX3_gather_58 : decode cX3_gather 58 = .ok (.aload_n 1, 1) := by decide +kernel
theorem dX3_gather_59 : decode cX3_gather 59 = .ok (.iload 4, 2) := by decide +kernel
theorem dX3_gather_61 : decode cX3_gather 61 = .ok (.iconst 5, 1) := by decide +kernel
theorem dX3_gather_62 : decode cX3_gather 62 = .ok (.invokevirtual 53, 3) := by decide +kernel
theorem dX3_gather_65 : decode cX3_gather 65 = .ok (.invokevirtual 69, 3) := by decide +kernel
theorem dX3_gather_68 : decode cX3_gather 68 = .ok (.aload_n 0, 1) := by decide +kernel
theorem dX3_gather_69 : decode cX3_gather 69 = .ok (.aload_n 1, 1) := by decide +kernel
theorem dX3_gather_70 : decode cX3_gather 70 = .ok (.iload 4, 2) := by decide +kernel
theorem dX3_gather_72 : decode cX3_gather 72 = .ok (.bipush 6, 2) := by decide +kernel
theorem dX3_gather_74 : decode cX3_gather 74 = .ok (.invokevirtual 53, 3) := by decide +kernel
theorem dX3_gather_77 : decode cX3_gather 77 = .ok (.invokevirtual 69, 3) := by decide +kernel
theorem dX3_gather_80 : decode cX3_gather 80 = .ok (.iinc 3 1, 3) := by decide +kernel
theorem dX3_gather_83 : decode cX3_gather 83 = .ok (.goto (-64), 3) := by decide +kernel
theorem dX3_gather_86 : decode cX3_gather 86 = .ok (.return_, 1) := by decide +kernel
/-! SealLine$Proof.gather(LSealLine$Table;I)V -/
theorem eX3_gather {d mc ms : Nat} {w : qW} {Q : Option Value → qW → Prop} {q : Nat} {x0 : Nat} {x1 : Int32} (h : AW (mX3_gather, d, mc, ms, none, Q) 0 [some (.ref q), some (.ref x0), some (.int x1), none, none] [] w 0 0) : CT mX3_gather d mc ms [.ref q, .ref x0, .int x1] w Q := CT_of (by decide +kernel) rfl (Nat.le_of_ble_eq_true rfl) h
def bX3_gather_0 (G : Nat × Nat × Nat × Option (Nat × (Nat → Int32)) × (Option Value → qW → Prop)) : qK := (s_aload 0 (s_getfield 3 2 (AW (mX3_gather, G) 4)))
theorem oX3_gather_0 (G : Nat × Nat × Nat × Option (Nat × (Nat → Int32)) × (Option Value → qW → Prop)) : qImp (bX3_gather_0 G) (AW (mX3_gather, G) 0) := (r_aload_n dX3_gather_0 rfl (r_getfield dX3_gather_1 fgX3_21 qImp.rf))
def bX3_gather_7 (G : Nat × Nat × Nat × Option (Nat × (Nat → Int32)) × (Option Value → qW → Prop)) : qK := (s_aload 0 (s_iconst 0 (s_putI 3 3 (s_aload 0 (s_iload 2 (AW (mX3_gather, G) 14))))))
theorem oX3_gather_7 (G : Nat × Nat × Nat × Option (Nat × (Nat → Int32)) × (Option Value → qW → Prop)) : qImp (bX3_gather_7 G) (AW (mX3_gather, G) 7) := (r_aload_n dX3_gather_7 rfl (r_iconst dX3_gather_8 rfl (r_putI dX3_gather_9 fpX3_25 (fun q hq => by cases hq; rfl) (r_aload_n dX3_gather_12 rfl (r_iload_n dX3_gather_13 rfl qImp.rf)))))
def bX3_gather_17 (G : Nat × Nat × Nat × Option (Nat × (Nat → Int32)) × (Option Value → qW → Prop)) : qK := (s_iconst 0 (s_istore 3 2 (AW (mX3_gather, G) 19)))
theorem oX3_gather_17 (G : Nat × Nat × Nat × Option (Nat × (Nat → Int32)) × (Option Value → qW → Prop)) : qImp (bX3_gather_17 G) (AW (mX3_gather, G) 17) := (r_iconst dX3_gather_17 rfl (r_istore_n dX3_gather_18 rfl (Or.inr rfl) (Nat.le_of_ble_eq_true rfl) qImp.rf))
def bX3_gather_19 (G : Nat × Nat × Nat × Option (Nat × (Nat → Int32)) × (Option Value → qW → Prop)) : qK := (s_iload 3 (s_iconst 100 (s_ic_ge (AW (mX3_gather, G) 86) (s_iload 3 (s_aload 0 (s_getfield 3 3 (s_ic_ge (AW (mX3_gather, G) 86) (s_aload 0 (s_getfield 3 0 (s_aload 0 (s_getfield 3 1 (s_iload 3 (s_iaload (mX3_gather, G) (s_iaload (mX3_gather, G) (s_istore 4 3 (s_aload 0 (s_aload 1 (s_iload 4 (s_iconst 4 (AW (mX3_gather, G) 51))))))))))))))))))))
theorem oX3_gather_19 (G : Nat × Nat × Nat × Option (Nat × (Nat → Int32)) × (Option Value → qW → Prop)) : qImp (bX3_gather_19 G) (AW (mX3_gather, G) 19) := (r_iload_n dX3_gather_19 rfl (r_bipush dX3_gather_20 rfl (r_ic_ge (tgt := 86) dX3_gather_22 rfl qImp.rf (r_iload_n dX3_gather_25 rfl (r_aload_n dX3_gather_26 rfl (r_getfield dX3_gather_27 fgX3_25 (r_ic_ge (tgt := 86) dX3_gather_30 rfl qImp.rf (r_aload_n dX3_gather_33 rfl (r_getfield dX3_gather_34 fgX3_9 (r_aload_n dX3_gather_37 rfl (r_getfield dX3_gather_38 fgX3_15 (r_iload_n dX3_gather_41 rfl (r_iaload dX3_gather_42 (r_iaload dX3_gather_43 (r_istore dX3_gather_44 (Or.inr rfl) (Nat.le_of_ble_eq_true rfl) (r_aload_n dX3_gather_46 rfl (r_aload_n dX3_gather_47 rfl (r_iload dX3_gather_48 (r_iconst dX3_gather_50 rfl qImp.rf)))))))))))))))))))
def bX3_gather_57 (G : Nat × Nat × Nat × Option (Nat × (Nat → Int32)) × (Option Value → qW → Prop)) : qK := (s_aload 0 (s_aload 1 (s_iload 4 (s_iconst 5 (AW (mX3_gather, G) 62)))))
theorem oX3_gather_57 (G : Nat × Nat × Nat × Option (Nat × (Nat → Int32)) × (Option Value → qW → Prop)) : qImp (bX3_gather_57 G) (AW (mX3_gather, G) 57) := (r_aload_n dX3_gather_57 rfl (r_aload_n dX3_gather_58 rfl (r_iload dX3_gather_59 (r_iconst dX3_gather_61 rfl qImp.rf))))
def bX3_gather_68 (G : Nat × Nat × Nat × Option (Nat × (Nat → Int32)) × (Option Value → qW → Prop)) : qK := (s_aload 0 (s_aload 1 (s_iload 4 (s_iconst 6 (AW (mX3_gather, G) 74)))))
theorem oX3_gather_68 (G : Nat × Nat × Nat × Option (Nat × (Nat → Int32)) × (Option Value → qW → Prop)) : qImp (bX3_gather_68 G) (AW (mX3_gather, G) 68) := (r_aload_n dX3_gather_68 rfl (r_aload_n dX3_gather_69 rfl (r_iload dX3_gather_70 (r_bipush dX3_gather_72 rfl qImp.rf))))
def bX3_gather_80 (G : Nat × Nat × Nat × Option (Nat × (Nat → Int32)) × (Option Value → qW → Prop)) : qK := (s_iinc 3 2 1 (AW (mX3_gather, G) 19))
theorem oX3_gather_80 (G : Nat × Nat × Nat × Option (Nat × (Nat → Int32)) × (Option Value → qW → Prop)) : qImp (bX3_gather_80 G) (AW (mX3_gather, G) 80) := (r_iinc dX3_gather_80 rfl (Or.inr rfl) (Nat.le_of_ble_eq_true rfl) (r_goto (tgt := 19) dX3_gather_83 rfl qImp.rf))
def bX3_gather_86 (G : Nat × Nat × Nat × Option (Nat × (Nat → Int32)) × (Option Value → qW → Prop)) : qK := (s_vreturn (mX3_gather, G))
theorem oX3_gather_86 (G : Nat × Nat × Nat × Option (Nat × (Nat → Int32)) × (Option Value → qW → Prop)) : qImp (bX3_gather_86 G) (AW (mX3_gather, G) 86) := (r_vreturn dX3_gather_86 rfl)
theorem kX3_gather_4 {G : Nat × Nat × Nat × Option (Nat × (Nat → Int32)) × (Option Value → qW → Prop)} {L : qL} {w : qW} {kc ks : Nat} {rest : List Value} {q : Nat}  {d mc ms : Nat} {Q : Option Value → qW → Prop} (hC : CT mX0_empty d mc ms [.ref q] w Q) (hq : qci w q = some 0) (hst : rest.length ≤ 4) (hdp : d + 1 ≤ G.1) (hmc : kc + mc ≤ G.2.1 ∧ ks + ms ≤ G.2.2.1) (k : ∀ r w', Q r w' → AW (mX3_gather, G) 7 L (r.toList ++ rest) w' (kc + mc) (ks + ms)) : AW (mX3_gather, G) 4 L (.ref q :: rest) w kc ks := a_callV [] rest dX3_gather_4 vX0_empty lk856 hC hq rfl rfl hst hdp hmc k
theorem kX3_gather_14 {G : Nat × Nat × Nat × Option (Nat × (Nat → Int32)) × (Option Value → qW → Prop)} {L : qL} {w : qW} {kc ks : Nat} {rest : List Value} {q : Nat} {x0 : Int32} {d mc ms : Nat} {Q : Option Value → qW → Prop} (hC : CT mX3_want d mc ms [.ref q, .int x0] w Q) (hq : qci w q = some 3) (hst : rest.length ≤ 4) (hdp : d + 1 ≤ G.1) (hmc : kc + mc ≤ G.2.1 ∧ ks + ms ≤ G.2.2.1) (k : ∀ r w', Q r w' → AW (mX3_gather, G) 17 L (r.toList ++ rest) w' (kc + mc) (ks + ms)) : AW (mX3_gather, G) 14 L (.int x0 :: .ref q :: rest) w kc ks := a_callV [.int x0] rest dX3_gather_14 vX3_want lk860 hC hq rfl rfl hst hdp hmc k
theorem kX3_gather_51 {G : Nat × Nat × Nat × Option (Nat × (Nat → Int32)) × (Option Value → qW → Prop)} {L : qL} {w : qW} {kc ks : Nat} {rest : List Value} {q : Nat} {x0 : Int32} {x1 : Int32} {d mc ms : Nat} {Q : Option Value → qW → Prop} (hC : CT mX8_cell d mc ms [.ref q, .int x0, .int x1] w Q) (hq : qci w q = some 8) (hst : rest.length ≤ 4) (hdp : d + 1 ≤ G.1) (hmc : kc + mc ≤ G.2.1 ∧ ks + ms ≤ G.2.2.1) (k : ∀ r w', Q r w' → AW (mX3_gather, G) 54 L (r.toList ++ rest) w' (kc + mc) (ks + ms)) : AW (mX3_gather, G) 51 L (.int x1 :: .int x0 :: .ref q :: rest) w kc ks := a_callV [.int x0, .int x1] rest dX3_gather_51 vX8_cell lk849 hC hq rfl rfl hst hdp hmc k
theorem kX3_gather_54 {G : Nat × Nat × Nat × Option (Nat × (Nat → Int32)) × (Option Value → qW → Prop)} {L : qL} {w : qW} {kc ks : Nat} {rest : List Value} {q : Nat} {x0 : Int32} {d mc ms : Nat} {Q : Option Value → qW → Prop} (hC : CT mX3_want d mc ms [.ref q, .int x0] w Q) (hq : qci w q = some 3) (hst : rest.length ≤ 4) (hdp : d + 1 ≤ G.1) (hmc : kc + mc ≤ G.2.1 ∧ ks + ms ≤ G.2.2.1) (k : ∀ r w', Q r w' → AW (mX3_gather, G) 57 L (r.toList ++ rest) w' (kc + mc) (ks + ms)) : AW (mX3_gather, G) 54 L (.int x0 :: .ref q :: rest) w kc ks := a_callV [.int x0] rest dX3_gather_54 vX3_want lk860 hC hq rfl rfl hst hdp hmc k
theorem kX3_gather_62 {G : Nat × Nat × Nat × Option (Nat × (Nat → Int32)) × (Option Value → qW → Prop)} {L : qL} {w : qW} {kc ks : Nat} {rest : List Value} {q : Nat} {x0 : Int32} {x1 : Int32} {d mc ms : Nat} {Q : Option Value → qW → Prop} (hC : CT mX8_cell d mc ms [.ref q, .int x0, .int x1] w Q) (hq : qci w q = some 8) (hst : rest.length ≤ 4) (hdp : d + 1 ≤ G.1) (hmc : kc + mc ≤ G.2.1 ∧ ks + ms ≤ G.2.2.1) (k : ∀ r w', Q r w' → AW (mX3_gather, G) 65 L (r.toList ++ rest) w' (kc + mc) (ks + ms)) : AW (mX3_gather, G) 62 L (.int x1 :: .int x0 :: .ref q :: rest) w kc ks := a_callV [.int x0, .int x1] rest dX3_gather_62 vX8_cell lk849 hC hq rfl rfl hst hdp hmc k
theorem kX3_gather_65 {G : Nat × Nat × Nat × Option (Nat × (Nat → Int32)) × (Option Value → qW → Prop)} {L : qL} {w : qW} {kc ks : Nat} {rest : List Value} {q : Nat} {x0 : Int32} {d mc ms : Nat} {Q : Option Value → qW → Prop} (hC : CT mX3_want d mc ms [.ref q, .int x0] w Q) (hq : qci w q = some 3) (hst : rest.length ≤ 4) (hdp : d + 1 ≤ G.1) (hmc : kc + mc ≤ G.2.1 ∧ ks + ms ≤ G.2.2.1) (k : ∀ r w', Q r w' → AW (mX3_gather, G) 68 L (r.toList ++ rest) w' (kc + mc) (ks + ms)) : AW (mX3_gather, G) 65 L (.int x0 :: .ref q :: rest) w kc ks := a_callV [.int x0] rest dX3_gather_65 vX3_want lk860 hC hq rfl rfl hst hdp hmc k
theorem kX3_gather_74 {G : Nat × Nat × Nat × Option (Nat × (Nat → Int32)) × (Option Value → qW → Prop)} {L : qL} {w : qW} {kc ks : Nat} {rest : List Value} {q : Nat} {x0 : Int32} {x1 : Int32} {d mc ms : Nat} {Q : Option Value → qW → Prop} (hC : CT mX8_cell d mc ms [.ref q, .int x0, .int x1] w Q) (hq : qci w q = some 8) (hst : rest.length ≤ 4) (hdp : d + 1 ≤ G.1) (hmc : kc + mc ≤ G.2.1 ∧ ks + ms ≤ G.2.2.1) (k : ∀ r w', Q r w' → AW (mX3_gather, G) 77 L (r.toList ++ rest) w' (kc + mc) (ks + ms)) : AW (mX3_gather, G) 74 L (.int x1 :: .int x0 :: .ref q :: rest) w kc ks := a_callV [.int x0, .int x1] rest dX3_gather_74 vX8_cell lk849 hC hq rfl rfl hst hdp hmc k
theorem kX3_gather_77 {G : Nat × Nat × Nat × Option (Nat × (Nat → Int32)) × (Option Value → qW → Prop)} {L : qL} {w : qW} {kc ks : Nat} {rest : List Value} {q : Nat} {x0 : Int32} {d mc ms : Nat} {Q : Option Value → qW → Prop} (hC : CT mX3_want d mc ms [.ref q, .int x0] w Q) (hq : qci w q = some 3) (hst : rest.length ≤ 4) (hdp : d + 1 ≤ G.1) (hmc : kc + mc ≤ G.2.1 ∧ ks + ms ≤ G.2.2.1) (k : ∀ r w', Q r w' → AW (mX3_gather, G) 80 L (r.toList ++ rest) w' (kc + mc) (ks + ms)) : AW (mX3_gather, G) 77 L (.int x0 :: .ref q :: rest) w kc ks := a_callV [.int x0] rest dX3_gather_77 vX3_want lk860 hC hq rfl rfl hst hdp hmc k
theorem dX3_isPart_0 : decode cX3_isPart 0 = .ok (.aload_n 1, 1) := by decide +kernel
theorem dX3_isPart_1 : decode cX3_isPart 1 = .ok (.iload_n 2, 1) := by decide +kernel
theorem dX3_isPart_2 : decode cX3_isPart 2 = .ok (.iconst 1, 1) := by decide +kernel
theorem dX3_isPart_3 : decode cX3_isPart 3 = .ok (.invokevirtual 53, 3) := by decide +kernel
theorem dX3_isPart_6 : decode cX3_isPart 6 = .ok (.istore_n 3, 1) := by decide +kernel
theorem dX3_isPart_7 : decode cX3_isPart 7 = .ok (.aload_n 0, 1) := by decide +kernel
theorem dX3_isPart_8 : decode cX3_isPart 8 = .ok (.getfield 21, 3) := by decide +kernel
theorem dX3_isPart_11 : decode cX3_isPart 11 = .ok (.iload_n 3, 1) := by decide +kernel
theorem dX3_isPart_12 : decode cX3_isPart 12 = .ok (.invokevirtual 73, 3) := by decide +kernel
theorem dX3_isPart_15 : decode cX3_isPart 15 = .ok (.ifCond .eq 17, 3) := by decide +kernel
theorem dX3_isPart_18 : decode cX3_isPart 18 = .ok (.aload_n 0, 1) := by decide +kernel
theorem dX3_isPart_19 : decode cX3_isPart 19 = .ok (.getfield 9, 3) := by decide +kernel
theorem dX3_isPart_22 : decode cX3_isPart 22 = .ok (.iload_n 3, 1) := by decide +kernel
theorem dX3_isPart_23 : decode cX3_isPart 23 = .ok (.iaload, 1) := by decide +kernel
theorem dX3_isPart_24 : decode cX3_isPart 24 = .ok (.iload_n 2, 1) := by decide +kernel
theorem dX3_isPart_25 : decode cX3_isPart 25 = .ok (.if_icmp .ne 7, 3) := by decide +kernel
theorem dX3_isPart_28 : decode cX3_isPart 28 = .ok (.iconst 1, 1) := by decide +kernel
theorem dX3_isPart_29 : decode cX3_isPart 29 = .ok (.goto 4, 3) := by decide +kernel
theorem dX3_isPart_32 : decode cX3_isPart 32 = .ok (.iconst 0, 1) := by decide +kernel
theorem dX3_isPart_33 : decode cX3_isPart 33 = .ok (.ireturn, 1) := by decide +kernel
/-! SealLine$Proof.isPart(LSealLine$Table;I)Z -/
theorem eX3_isPart {d mc ms : Nat} {w : qW} {Q : Option Value → qW → Prop} {q : Nat} {x0 : Nat} {x1 : Int32} (h : AW (mX3_isPart, d, mc, ms, none, Q) 0 [some (.ref q), some (.ref x0), some (.int x1), none] [] w 0 0) : CT mX3_isPart d mc ms [.ref q, .ref x0, .int x1] w Q := CT_of (by decide +kernel) rfl (Nat.le_of_ble_eq_true rfl) h
def bX3_isPart_0 (G : Nat × Nat × Nat × Option (Nat × (Nat → Int32)) × (Option Value → qW → Prop)) : qK := (s_aload 1 (s_iload 2 (s_iconst 1 (AW (mX3_isPart, G) 3))))
theorem oX3_isPart_0 (G : Nat × Nat × Nat × Option (Nat × (Nat → Int32)) × (Option Value → qW → Prop)) : qImp (bX3_isPart_0 G) (AW (mX3_isPart, G) 0) := (r_aload_n dX3_isPart_0 rfl (r_iload_n dX3_isPart_1 rfl (r_iconst dX3_isPart_2 rfl qImp.rf)))
def bX3_isPart_6 (G : Nat × Nat × Nat × Option (Nat × (Nat → Int32)) × (Option Value → qW → Prop)) : qK := (s_istore 3 2 (s_aload 0 (s_getfield 3 2 (s_iload 3 (AW (mX3_isPart, G) 12)))))
theorem oX3_isPart_6 (G : Nat × Nat × Nat × Option (Nat × (Nat → Int32)) × (Option Value → qW → Prop)) : qImp (bX3_isPart_6 G) (AW (mX3_isPart, G) 6) := (r_istore_n dX3_isPart_6 rfl (Or.inr rfl) (Nat.le_of_ble_eq_true rfl) (r_aload_n dX3_isPart_7 rfl (r_getfield dX3_isPart_8 fgX3_21 (r_iload_n dX3_isPart_11 rfl qImp.rf))))
def bX3_isPart_15 (G : Nat × Nat × Nat × Option (Nat × (Nat → Int32)) × (Option Value → qW → Prop)) : qK := (s_if_eq (AW (mX3_isPart, G) 32) (s_aload 0 (s_getfield 3 0 (s_iload 3 (s_iaload (mX3_isPart, G) (s_iload 2 (s_ic_ne (AW (mX3_isPart, G) 32) (s_iconst 1 (AW (mX3_isPart, G) 33)))))))))
theorem oX3_isPart_15 (G : Nat × Nat × Nat × Option (Nat × (Nat → Int32)) × (Option Value → qW → Prop)) : qImp (bX3_isPart_15 G) (AW (mX3_isPart, G) 15) := (r_if_eq (tgt := 32) dX3_isPart_15 rfl qImp.rf (r_aload_n dX3_isPart_18 rfl (r_getfield dX3_isPart_19 fgX3_9 (r_iload_n dX3_isPart_22 rfl (r_iaload dX3_isPart_23 (r_iload_n dX3_isPart_24 rfl (r_ic_ne (tgt := 32) dX3_isPart_25 rfl qImp.rf (r_iconst dX3_isPart_28 rfl (r_goto (tgt := 33) dX3_isPart_29 rfl qImp.rf)))))))))
def bX3_isPart_32 (G : Nat × Nat × Nat × Option (Nat × (Nat → Int32)) × (Option Value → qW → Prop)) : qK := (s_iconst 0 (AW (mX3_isPart, G) 33))
theorem oX3_isPart_32 (G : Nat × Nat × Nat × Option (Nat × (Nat → Int32)) × (Option Value → qW → Prop)) : qImp (bX3_isPart_32 G) (AW (mX3_isPart, G) 32) := (r_iconst dX3_isPart_32 rfl qImp.rf)
def bX3_isPart_33 (G : Nat × Nat × Nat × Option (Nat × (Nat → Int32)) × (Option Value → qW → Prop)) : qK := (s_zreturn (mX3_isPart, G))
theorem oX3_isPart_33 (G : Nat × Nat × Nat × Option (Nat × (Nat → Int32)) × (Option Value → qW → Prop)) : qImp (bX3_isPart_33 G) (AW (mX3_isPart, G) 33) := (r_zreturn dX3_isPart_33 rfl)
theorem kX3_isPart_3 {G : Nat × Nat × Nat × Option (Nat × (Nat → Int32)) × (Option Value → qW → Prop)} {L : qL} {w : qW} {kc ks : Nat} {rest : List Value} {q : Nat} {x0 : Int32} {x1 : Int32} {d mc ms : Nat} {Q : Option Value → qW → Prop} (hC : CT mX8_cell d mc ms [.ref q, .int x0, .int x1] w Q) (hq : qci w q = some 8) (hst : rest.length ≤ 4) (hdp : d + 1 ≤ G.1) (hmc : kc + mc ≤ G.2.1 ∧ ks + ms ≤ G.2.2.1) (k : ∀ r w', Q r w' → AW (mX3_isPart, G) 6 L (r.toList ++ rest) w' (kc + mc) (ks + ms)) : AW (mX3_isPart, G) 3 L (.int x1 :: .int x0 :: .ref q :: rest) w kc ks := a_callV [.int x0, .int x1] rest dX3_isPart_3 vX8_cell lk849 hC hq rfl rfl hst hdp hmc k
theorem kX3_isPart_12 {G : Nat × Nat × Nat × Option (Nat × (Nat → Int32)) × (Option Value → qW → Prop)} {L : qL} {w : qW} {kc ks : Nat} {rest : List Value} {q : Nat} {x0 : Int32} {d mc ms : Nat} {Q : Option Value → qW → Prop} (hC : CT mX0_has d mc ms [.ref q, .int x0] w Q) (hq : qci w q = some 0) (hst : rest.length ≤ 4) (hdp : d + 1 ≤ G.1) (hmc : kc + mc ≤ G.2.1 ∧ ks + ms ≤ G.2.2.1) (k : ∀ r w', Q r w' → AW (mX3_isPart, G) 15 L (r.toList ++ rest) w' (kc + mc) (ks + ms)) : AW (mX3_isPart, G) 12 L (.int x0 :: .ref q :: rest) w kc ks := a_callV [.int x0] rest dX3_isPart_12 vX0_has lk864 hC hq rfl rfl hst hdp hmc k
theorem dX3_noteAt_0 : decode cX3_noteAt 0 = .ok (.aload_n 0, 1) := by decide +kernel
theorem dX3_noteAt_1 : decode cX3_noteAt 1 = .ok (.aload_n 1, 1) := by decide +kernel
theorem dX3_noteAt_2 : decode cX3_noteAt 2 = .ok (.aload_n 2, 1) := by decide +kernel
theorem dX3_noteAt_3 : decode cX3_noteAt 3 = .ok (.invokevirtual 29, 3) := by decide +kernel
theorem dX3_noteAt_6 : decode cX3_noteAt 6 = .ok (.aload_n 0, 1) := by decide +kernel
theorem dX3_noteAt_7 : decode cX3_noteAt 7 = .ok (.aload_n 1, 1) := by decide +kernel
theorem dX3_noteAt_8 : decode cX3_noteAt 8 = .ok (.iload_n 3, 1) := by decide +kernel
theorem dX3_noteAt_9 : decode cX3_noteAt 9 = .ok (.invokevirtual 33, 3) := by decide +kernel
theorem dX3_noteAt_12 : decode cX3_noteAt 12 = .ok (.iload 4, 2) := by decide +kernel
theorem dX3_noteAt_14 : decode cX3_noteAt 14 = .ok (.istore 5, 2) := by decide +kernel
theorem dX3_noteAt_16 : decode cX3_noteAt 16 = .ok (.iconst 0, 1) := by decide +kernel
theorem dX3_noteAt_17 : decode cX3_noteAt 17 = .ok (.istore 6, 2) := by decide +kernel
theorem dX3_noteAt_19 : decode cX3_noteAt 19 = .ok (.iload 6, 2) := by decide +kernel
theorem dX3_noteAt_21 : decode cX3_noteAt 21 = .ok (.aload_n 1, 1) := by decide +kernel
theorem dX3_noteAt_22 : decode cX3_noteAt 22 = .ok (.invokevirtual 37, 3) := by decide +kernel
theorem dX3_noteAt_25 : decode cX3_noteAt 25 = .ok (.if_icmp .ge 35, 3) := by decide +kernel
theorem dX3_noteAt_28 : decode cX3_noteAt 28 = .ok (.iload 5, 2) := by decide +kernel
theorem dX3_noteAt_30 : decode cX3_noteAt 30 = .ok (.ifCond .lt 30, 3) := by decide +kernel
theorem dX3_noteAt_33 : decode cX3_noteAt 33 = .ok (.aload_n 0, 1) := by decide +kernel
theorem dX3_noteAt_34 : decode cX3_noteAt 34 = .ok (.aload_n 1, 1) := by decide +kernel
theorem dX3_noteAt_35 : decode cX3_noteAt 35 = .ok (.iload 6, 2) := by decide +kernel
theorem dX3_noteAt_37 : decode cX3_noteAt 37 = .ok (.invokevirtual 43, 3) := by decide +kernel
theorem dX3_noteAt_40 : decode cX3_noteAt 40 = .ok (.ifCond .eq 14, 3) := by decide +kernel
theorem dX3_noteAt_43 : decode cX3_noteAt 43 = .ok (.iload 5, 2) := by decide +kernel
theorem dX3_noteAt_45 : decode cX3_noteAt 45 = .ok (.ifCond .ne 6, 3) := by decide +kernel
theorem dX3_noteAt_48 : decode cX3_noteAt 48 = .ok (.iload 6, 2) := by decide +kernel
theorem dX3_noteAt_50 : decode cX3_noteAt 50 = .ok (.ireturn, 1) := by decide +kernel
theorem dX3_noteAt_51 : decode cX3_noteAt 51 = .ok (.iinc 5 (-1), 3) := by decide +kernel
theorem dX3_noteAt_54 : decode cX3_noteAt 54 = .ok (.iinc 6 1, 3) := by decide +kernel
theorem dX3_noteAt_57 : decode cX3_noteAt 57 = .ok (.goto (-38), 3) := by decide +kernel
theorem dX3_noteAt_60 : decode cX3_noteAt 60 = .ok (.iconst (-1), 1) := by decide +kernel
theorem dX3_noteAt_61 : decode cX3_noteAt 61 = .ok (.ireturn, 1) := by decide +kernel
/-! SealLine$Proof.noteAt(LSealLine$Table;LSealLine$Shelf;II)I -/
theorem eX3_noteAt {d mc ms : Nat} {w : qW} {Q : Option Value → qW → Prop} {q : Nat} {x0 : Nat} {x1 : Nat} {x2 : Int32} {x3 : Int32} (h : AW (mX3_noteAt, d, mc, ms, none, Q) 0 [some (.ref q), some (.ref x0), some (.ref x1), some (.int x2), some (.int x3), none, none] [] w 0 0) : CT mX3_noteAt d mc ms [.ref q, .ref x0, .ref x1, .int x2, .int x3] w Q := CT_of (by decide +kernel) rfl (Nat.le_of_ble_eq_true rfl) h
def bX3_noteAt_0 (G : Nat × Nat × Nat × Option (Nat × (Nat → Int32)) × (Option Value → qW → Prop)) : qK := (s_aload 0 (s_aload 1 (s_aload 2 (AW (mX3_noteAt, G) 3))))
theorem oX3_noteAt_0 (G : Nat × Nat × Nat × Option (Nat × (Nat → Int32)) × (Option Value → qW → Prop)) : qImp (bX3_noteAt_0 G) (AW (mX3_noteAt, G) 0) := (r_aload_n dX3_noteAt_0 rfl (r_aload_n dX3_noteAt_1 rfl (r_aload_n dX3_noteAt_2 rfl qImp.rf)))
def bX3_noteAt_6 (G : Nat × Nat × Nat × Option (Nat × (Nat → Int32)) × (Option Value → qW → Prop)) : qK := (s_aload 0 (s_aload 1 (s_iload 3 (AW (mX3_noteAt, G) 9))))
theorem oX3_noteAt_6 (G : Nat × Nat × Nat × Option (Nat × (Nat → Int32)) × (Option Value → qW → Prop)) : qImp (bX3_noteAt_6 G) (AW (mX3_noteAt, G) 6) := (r_aload_n dX3_noteAt_6 rfl (r_aload_n dX3_noteAt_7 rfl (r_iload_n dX3_noteAt_8 rfl qImp.rf)))
def bX3_noteAt_12 (G : Nat × Nat × Nat × Option (Nat × (Nat → Int32)) × (Option Value → qW → Prop)) : qK := (s_iload 4 (s_istore 5 4 (s_iconst 0 (s_istore 6 5 (AW (mX3_noteAt, G) 19)))))
theorem oX3_noteAt_12 (G : Nat × Nat × Nat × Option (Nat × (Nat → Int32)) × (Option Value → qW → Prop)) : qImp (bX3_noteAt_12 G) (AW (mX3_noteAt, G) 12) := (r_iload dX3_noteAt_12 (r_istore dX3_noteAt_14 (Or.inr rfl) (Nat.le_of_ble_eq_true rfl) (r_iconst dX3_noteAt_16 rfl (r_istore dX3_noteAt_17 (Or.inr rfl) (Nat.le_of_ble_eq_true rfl) qImp.rf))))
def bX3_noteAt_19 (G : Nat × Nat × Nat × Option (Nat × (Nat → Int32)) × (Option Value → qW → Prop)) : qK := (s_iload 6 (s_aload 1 (AW (mX3_noteAt, G) 22)))
theorem oX3_noteAt_19 (G : Nat × Nat × Nat × Option (Nat × (Nat → Int32)) × (Option Value → qW → Prop)) : qImp (bX3_noteAt_19 G) (AW (mX3_noteAt, G) 19) := (r_iload dX3_noteAt_19 (r_aload_n dX3_noteAt_21 rfl qImp.rf))
def bX3_noteAt_25 (G : Nat × Nat × Nat × Option (Nat × (Nat → Int32)) × (Option Value → qW → Prop)) : qK := (s_ic_ge (AW (mX3_noteAt, G) 60) (s_iload 5 (s_if_lt (AW (mX3_noteAt, G) 60) (s_aload 0 (s_aload 1 (s_iload 6 (AW (mX3_noteAt, G) 37)))))))
theorem oX3_noteAt_25 (G : Nat × Nat × Nat × Option (Nat × (Nat → Int32)) × (Option Value → qW → Prop)) : qImp (bX3_noteAt_25 G) (AW (mX3_noteAt, G) 25) := (r_ic_ge (tgt := 60) dX3_noteAt_25 rfl qImp.rf (r_iload dX3_noteAt_28 (r_if_lt (tgt := 60) dX3_noteAt_30 rfl qImp.rf (r_aload_n dX3_noteAt_33 rfl (r_aload_n dX3_noteAt_34 rfl (r_iload dX3_noteAt_35 qImp.rf))))))
def bX3_noteAt_40 (G : Nat × Nat × Nat × Option (Nat × (Nat → Int32)) × (Option Value → qW → Prop)) : qK := (s_if_eq (AW (mX3_noteAt, G) 54) (s_iload 5 (s_if_ne (AW (mX3_noteAt, G) 51) (s_iload 6 (s_ireturn (mX3_noteAt, G))))))
theorem oX3_noteAt_40 (G : Nat × Nat × Nat × Option (Nat × (Nat → Int32)) × (Option Value → qW → Prop)) : qImp (bX3_noteAt_40 G) (AW (mX3_noteAt, G) 40) := (r_if_eq (tgt := 54) dX3_noteAt_40 rfl qImp.rf (r_iload dX3_noteAt_43 (r_if_ne (tgt := 51) dX3_noteAt_45 rfl qImp.rf (r_iload dX3_noteAt_48 (r_ireturn dX3_noteAt_50 rfl)))))
def bX3_noteAt_51 (G : Nat × Nat × Nat × Option (Nat × (Nat → Int32)) × (Option Value → qW → Prop)) : qK := (s_iinc 5 4 (-1) (AW (mX3_noteAt, G) 54))
theorem oX3_noteAt_51 (G : Nat × Nat × Nat × Option (Nat × (Nat → Int32)) × (Option Value → qW → Prop)) : qImp (bX3_noteAt_51 G) (AW (mX3_noteAt, G) 51) := (r_iinc dX3_noteAt_51 rfl (Or.inr rfl) (Nat.le_of_ble_eq_true rfl) qImp.rf)
def bX3_noteAt_54 (G : Nat × Nat × Nat × Option (Nat × (Nat → Int32)) × (Option Value → qW → Prop)) : qK := (s_iinc 6 5 1 (AW (mX3_noteAt, G) 19))
theorem oX3_noteAt_54 (G : Nat × Nat × Nat × Option (Nat × (Nat → Int32)) × (Option Value → qW → Prop)) : qImp (bX3_noteAt_54 G) (AW (mX3_noteAt, G) 54) := (r_iinc dX3_noteAt_54 rfl (Or.inr rfl) (Nat.le_of_ble_eq_true rfl) (r_goto (tgt := 19) dX3_noteAt_57 rfl qImp.rf))
def bX3_noteAt_60 (G : Nat × Nat × Nat × Option (Nat × (Nat → Int32)) × (Option Value → qW → Prop)) : qK := (s_iconst (-1) (s_ireturn (mX3_noteAt, G)))
theorem oX3_noteAt_60 (G : Nat × Nat × Nat × Option (Nat × (Nat → Int32)) × (Option Value → qW → Prop)) : qImp (bX3_noteAt_60 G) (AW (mX3_noteAt, G) 60) := (r_iconst dX3_noteAt_60 rfl (r_ireturn dX3_noteAt_61 rfl))
theorem kX3_noteAt_3 {G : Nat × Nat × Nat × Option (Nat × (Nat → Int32)) × (Option Value → qW → Prop)} {L : qL} {w : qW} {kc ks : Nat} {rest : List Value} {q : Nat} {x0 : Nat} {x1 : Nat} {d mc ms : Nat} {Q : Option Value → qW → Prop} (hC : CT mX3_findGrounds d mc ms [.ref q, .ref x0, .ref x1] w Q) (hq : qci w q = some 3) (hst : rest.length ≤ 4) (hdp : d + 1 ≤ G.1) (hmc : kc + mc ≤ G.2.1 ∧ ks + ms ≤ G.2.2.1) (k : ∀ r w', Q r w' → AW (mX3_noteAt, G) 6 L (r.toList ++ rest) w' (kc + mc) (ks + ms)) : AW (mX3_noteAt, G) 3 L (.ref x1 :: .ref x0 :: .ref q :: rest) w kc ks := a_callV [.ref x0, .ref x1] rest dX3_noteAt_3 vX3_findGrounds lk843 hC hq rfl rfl hst hdp hmc k
theorem kX3_noteAt_9 {G : Nat × Nat × Nat × Option (Nat × (Nat → Int32)) × (Option Value → qW → Prop)} {L : qL} {w : qW} {kc ks : Nat} {rest : List Value} {q : Nat} {x0 : Nat} {x1 : Int32} {d mc ms : Nat} {Q : Option Value → qW → Prop} (hC : CT mX3_gather d mc ms [.ref q, .ref x0, .int x1] w Q) (hq : qci w q = some 3) (hst : rest.length ≤ 4) (hdp : d + 1 ≤ G.1) (hmc : kc + mc ≤ G.2.1 ∧ ks + ms ≤ G.2.2.1) (k : ∀ r w', Q r w' → AW (mX3_noteAt, G) 12 L (r.toList ++ rest) w' (kc + mc) (ks + ms)) : AW (mX3_noteAt, G) 9 L (.int x1 :: .ref x0 :: .ref q :: rest) w kc ks := a_callV [.ref x0, .int x1] rest dX3_noteAt_9 vX3_gather lk852 hC hq rfl rfl hst hdp hmc k
theorem kX3_noteAt_22 {G : Nat × Nat × Nat × Option (Nat × (Nat → Int32)) × (Option Value → qW → Prop)} {L : qL} {w : qW} {kc ks : Nat} {rest : List Value} {q : Nat}  {d mc ms : Nat} {Q : Option Value → qW → Prop} (hC : CT mX8_size d mc ms [.ref q] w Q) (hq : qci w q = some 8) (hst : rest.length ≤ 4) (hdp : d + 1 ≤ G.1) (hmc : kc + mc ≤ G.2.1 ∧ ks + ms ≤ G.2.2.1) (k : ∀ r w', Q r w' → AW (mX3_noteAt, G) 25 L (r.toList ++ rest) w' (kc + mc) (ks + ms)) : AW (mX3_noteAt, G) 22 L (.ref q :: rest) w kc ks := a_callV [] rest dX3_noteAt_22 vX8_size lk848 hC hq rfl rfl hst hdp hmc k
theorem kX3_noteAt_37 {G : Nat × Nat × Nat × Option (Nat × (Nat → Int32)) × (Option Value → qW → Prop)} {L : qL} {w : qW} {kc ks : Nat} {rest : List Value} {q : Nat} {x0 : Nat} {x1 : Int32} {d mc ms : Nat} {Q : Option Value → qW → Prop} (hC : CT mX3_isPart d mc ms [.ref q, .ref x0, .int x1] w Q) (hq : qci w q = some 3) (hst : rest.length ≤ 4) (hdp : d + 1 ≤ G.1) (hmc : kc + mc ≤ G.2.1 ∧ ks + ms ≤ G.2.2.1) (k : ∀ r w', Q r w' → AW (mX3_noteAt, G) 40 L (r.toList ++ rest) w' (kc + mc) (ks + ms)) : AW (mX3_noteAt, G) 37 L (.int x1 :: .ref x0 :: .ref q :: rest) w kc ks := a_callV [.ref x0, .int x1] rest dX3_noteAt_37 vX3_isPart lk866 hC hq rfl rfl hst hdp hmc k
