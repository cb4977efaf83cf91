theorem dX1_init_0 : decode cX1_init 0 = .ok (.aload_n 0, 1) := by decide +kernel
theorem dX1_init_1 : decode cX1_init 1 = .ok (.invokespecial 3, 3) := by decide +kernel
theorem dX1_init_4 : decode cX1_init 4 = .ok (.aload_n 0, 1) := by decide +kernel
theorem dX1_init_5 : decode cX1_init 5 = .ok (.iconst (-1), 1) := by decide +kernel
theorem dX1_init_6 : decode cX1_init 6 = .ok (.putfield 9, 3) := by decide +kernel
theorem dX1_init_9 : decode cX1_init 9 = .ok (.aload_n 0, 1) := by decide +kernel
theorem dX1_init_10 : decode cX1_init 10 = .ok (.iconst (-1), 1) := by decide +kernel
theorem dX1_init_11 : decode cX1_init 11 = .ok (.putfield 15, 3) := by decide +kernel
theorem dX1_init_14 : decode cX1_init 14 = .ok (.aload_n 0, 1) := by decide +kernel
theorem dX1_init_15 : decode cX1_init 15 = .ok (.iconst 0, 1) := by decide +kernel
theorem dX1_init_16 : decode cX1_init 16 = .ok (.putfield 18, 3) := by decide +kernel
theorem dX1_init_19 : decode cX1_init 19 = .ok (.return_, 1) := by decide +kernel
/-! SealLine$Judging.<init>()V -/
theorem eX1_init {d mc ms : Nat} {w : qW} {Q : Option Value → qW → Prop} {q : Nat} (h : AW (mX1_init, d, mc, ms, none, Q) 0 [some (.ref q)] [] w 0 0) : CT mX1_init d mc ms [.ref q] w Q := CT_of (by decide +kernel) rfl (Nat.le_of_ble_eq_true rfl) h
def bX1_init_0 (G : Nat × Nat × Nat × Option (Nat × (Nat → Int32)) × (Option Value → qW → Prop)) : qK := (s_aload 0 (s_oinit (mX1_init, G) (s_aload 0 (s_iconst (-1) (s_putI 1 0 (s_aload 0 (s_iconst (-1) (s_putI 1 1 (s_aload 0 (s_iconst 0 (s_putZ 1 2 (s_vreturn (mX1_init, G)))))))))))))
theorem oX1_init_0 (G : Nat × Nat × Nat × Option (Nat × (Nat → Int32)) × (Option Value → qW → Prop)) : qImp (bX1_init_0 G) (AW (mX1_init, G) 0) := (r_aload_n dX1_init_0 rfl (r_oinit dX1_init_1 lk273 lk86 lk87 (r_aload_n dX1_init_4 rfl (r_iconst dX1_init_5 rfl (r_putI dX1_init_6 fpX1_9 (fun q hq => by cases hq; rfl) (r_aload_n dX1_init_9 rfl (r_iconst dX1_init_10 rfl (r_putI dX1_init_11 fpX1_15 (fun q hq => by cases hq; rfl) (r_aload_n dX1_init_14 rfl (r_iconst dX1_init_15 rfl (r_putZ dX1_init_16 fpX1_18 (fun q hq => by cases hq; rfl) (r_vreturn dX1_init_19 rfl))))))))))))
theorem dX1_forget_0 : decode cX1_forget 0 = .ok (.aload_n 0, 1) := by decide +kernel
theorem dX1_forget_1 : decode cX1_forget 1 = .ok (.iconst 0, 1) := by decide +kernel
theorem dX1_forget_2 : decode cX1_forget 2 = .ok (.putfield 18, 3) := by decide +kernel
theorem dX1_forget_5 : decode cX1_forget 5 = .ok (.return_, 1) := by decide +kernel
/-! SealLine$Judging.forget()V -/
theorem eX1_forget {d mc ms : Nat} {w : qW} {Q : Option Value → qW → Prop} {q : Nat} (h : AW (mX1_forget, d, mc, ms, none, Q) 0 [some (.ref q)] [] w 0 0) : CT mX1_forget d mc ms [.ref q] w Q := CT_of (by decide +kernel) rfl (Nat.le_of_ble_eq_true rfl) h
def bX1_forget_0 (G : Nat × Nat × Nat × Option (Nat × (Nat → Int32)) × (Option Value → qW → Prop)) : qK := (s_aload 0 (s_iconst 0 (s_putZ 1 2 (s_vreturn (mX1_forget, G)))))
theorem oX1_forget_0 (G : Nat × Nat × Nat × Option (Nat × (Nat → Int32)) × (Option Value → qW → Prop)) : qImp (bX1_forget_0 G) (AW (mX1_forget, G) 0) := (r_aload_n dX1_forget_0 rfl (r_iconst dX1_forget_1 rfl (r_putZ dX1_forget_2 fpX1_18 (fun q hq => by cases hq; rfl) (r_vreturn dX1_forget_5 rfl))))
theorem dX1_weigh_0 : decode cX1_weigh 0 = .ok (.iconst 1, 1) := by decide +kernel
theorem dX1_weigh_1 : decode cX1_weigh 1 = .ok (.iload_n 3, 1) := by decide +kernel
theorem dX1_weigh_2 : decode cX1_weigh 2 = .ok (.invokestatic 30, 3) := by decide +kernel
theorem dX1_weigh_5 : decode cX1_weigh 5 = .ok (.istore 4, 2) := by decide +kernel
theorem dX1_weigh_7 : decode cX1_weigh 7 = .ok (.iconst 2, 1) := by decide +kernel
theorem dX1_weigh_8 : decode cX1_weigh 8 = .ok (.iload_n 2, 1) := by decide +kernel
theorem dX1_weigh_9 : decode cX1_weigh 9 = .ok (.invokestatic 30, 3) := by decide +kernel
theorem dX1_weigh_12 : decode cX1_weigh 12 = .ok (.istore 5, 2) := by decide +kernel
theorem dX1_weigh_14 : decode cX1_weigh 14 = .ok (.iload 4, 2) := by decide +kernel
theorem dX1_weigh_16 : decode cX1_weigh 16 = .ok (.iload 5, 2) := by decide +kernel
theorem dX1_weigh_18 : decode cX1_weigh 18 = .ok (.iadd, 1) := by decide +kernel
theorem dX1_weigh_19 : decode cX1_weigh 19 = .ok (.bipush 12, 2) := by decide +kernel
theorem dX1_weigh_21 : decode cX1_weigh 21 = .ok (.if_icmp .le 4, 3) := by decide +kernel
theorem dX1_weigh_24 : decode cX1_weigh 24 = .ok (.return_, 1) := by decide +kernel
theorem dX1_weigh_25 : decode cX1_weigh 25 = .ok (.aload_n 1, 1) := by decide +kernel
theorem dX1_weigh_26 : decode cX1_weigh 26 = .ok (.iload_n 2, 1) := by decide +kernel
theorem dX1_weigh_27 : decode cX1_weigh 27 = .ok (.iload_n 3, 1) := by decide +kernel
theorem dX1_weigh_28 : decode cX1_weigh 28 = .ok (.invokevirtual 36, 3) := by decide +kernel
theorem dX1_weigh_31 : decode cX1_weigh 31 = .ok (.istore 6, 2) := by decide +kernel
theorem dX1_weigh_33 : decode cX1_weigh 33 = .ok (.iload 6, 2) := by decide +kernel
theorem dX1_weigh_35 : decode cX1_weigh 35 = .ok (.ifCond .ne 4, 3) := by decide +kernel
theorem dX1_weigh_38 : decode cX1_weigh 38 = .ok (.return_, 1) := by decide +kernel
theorem dX1_weigh_39 : decode cX1_weigh 39 = .ok (.iload 4, 2) := by decide +kernel
theorem dX1_weigh_41 : decode cX1_weigh 41 = .ok (.iload 5, 2) := by decide +kernel
theorem dX1_weigh_43 : decode cX1_weigh 43 = .ok (.iadd, 1) := by decide +kernel
theorem dX1_weigh_44 : decode cX1_weigh 44 = .ok (.iload 6, 2) := by decide +kernel
theorem dX1_weigh_46 : decode cX1_weigh 46 = .ok (.invokestatic 41, 3) := by decide +kernel
theorem dX1_weigh_49 : decode cX1_weigh 49 = .ok (.invokestatic 30, 3) := by decide +kernel
theorem dX1_weigh_52 : decode cX1_weigh 52 = .ok (.istore 7, 2) := by decide +kernel
theorem dX1_weigh_54 : decode cX1_weigh 54 = .ok (.aload_n 0, 1) := by decide +kernel
theorem dX1_weigh_55 : decode cX1_weigh 55 = .ok (.getfield 9, 3) := by decide +kernel
theorem dX1_weigh_58 : decode cX1_weigh 58 = .ok (.iconst (-1), 1) := by decide +kernel
theorem dX1_weigh_59 : decode cX1_weigh 59 = .ok (.if_icmp .eq 30, 3) := by decide +kernel
theorem dX1_weigh_62 : decode cX1_weigh 62 = .ok (.iload 7, 2) := by decide +kernel
theorem dX1_weigh_64 : decode cX1_weigh 64 = .ok (.aload_n 0, 1) := by decide +kernel
theorem dX1_weigh_65 : decode cX1_weigh 65 = .ok (.getfield 9, 3) := by decide +kernel
theorem dX1_weigh_68 : decode cX1_weigh 68 = .ok (.if_icmp .lt 21, 3) := by decide +kernel
theorem dX1_weigh_71 : decode cX1_weigh 71 = .ok (.iload 7, 2) := by decide +kernel
theorem dX1_weigh_73 : decode cX1_weigh 73 = .ok (.aload_n 0, 1) := by decide +kernel
theorem dX1_weigh_74 : decode cX1_weigh 74 = .ok (.getfield 9, 3) := by decide +kernel
theorem dX1_weigh_77 : decode cX1_weigh 77 = .ok (.if_icmp .ne 24, 3) := by decide +kernel
theorem dX1_weigh_80 : decode cX1_weigh 80 = .ok (.iload 4, 2) := by decide +kernel
theorem dX1_weigh_82 : decode cX1_weigh 82 = .ok (.aload_n 0, 1) := by decide +kernel
theorem dX1_weigh_83 : decode cX1_weigh 83 = .ok (.getfield 15, 3) := by decide +kernel
theorem dX1_weigh_86 : decode cX1_weigh 86 = .ok (.if_icmp .ge 15, 3) := by decide +kernel
theorem dX1_weigh_89 : decode cX1_weigh 89 = .ok (.aload_n 0, 1) := by decide +kernel
theorem dX1_weigh_90 : decode cX1_weigh 90 = .ok (.iload 7, 2) := by decide +kernel
theorem dX1_weigh_92 : decode cX1_weigh 92 = .ok (.putfield 9, 3) := by decide +kernel
theorem dX1_weigh_95 : decode cX1_weigh 95 = .ok (.aload_n 0, 1) := by decide +kernel
theorem dX1_weigh_96 : decode cX1_weigh 96 = .ok (.iload 4, 2) := by decide +kernel
theorem dX1_weigh_98 : decode cX1_weigh 98 = .ok (.putfield 15, 3) := by decide +kernel
theorem dX1_weigh_101 : decode cX1_weigh 101 = .ok (.return_, 1) := by decide +kernel
/-! SealLine$Judging.weigh(LSealLine$Rule;II)V -/
theorem eX1_weigh {d mc ms : Nat} {w : qW} {Q : Option Value → qW → Prop} {q : Nat} {x0 : Nat} {x1 : Int32} {x2 : Int32} (h : AW (mX1_weigh, d, mc, ms, none, Q) 0 [some (.ref q), some (.ref x0), some (.int x1), some (.int x2), none, none, none, none] [] w 0 0) : CT mX1_weigh d mc ms [.ref q, .ref x0, .int x1, .int x2] w Q := CT_of (by decide +kernel) rfl (Nat.le_of_ble_eq_true rfl) h
def bX1_weigh_0 (G : Nat × Nat × Nat × Option (Nat × (Nat → Int32)) × (Option Value → qW → Prop)) : qK := (s_iconst 1 (s_iload 3 (AW (mX1_weigh, G) 2)))
theorem oX1_weigh_0 (G : Nat × Nat × Nat × Option (Nat × (Nat → Int32)) × (Option Value → qW → Prop)) : qImp (bX1_weigh_0 G) (AW (mX1_weigh, G) 0) := (r_iconst dX1_weigh_0 rfl (r_iload_n dX1_weigh_1 rfl qImp.rf))
def bX1_weigh_5 (G : Nat × Nat × Nat × Option (Nat × (Nat → Int32)) × (Option Value → qW → Prop)) : qK := (s_istore 4 3 (s_iconst 2 (s_iload 2 (AW (mX1_weigh, G) 9))))
theorem oX1_weigh_5 (G : Nat × Nat × Nat × Option (Nat × (Nat → Int32)) × (Option Value → qW → Prop)) : qImp (bX1_weigh_5 G) (AW (mX1_weigh, G) 5) := (r_istore dX1_weigh_5 (Or.inr rfl) (Nat.le_of_ble_eq_true rfl) (r_iconst dX1_weigh_7 rfl (r_iload_n dX1_weigh_8 rfl qImp.rf)))
def bX1_weigh_12 (G : Nat × Nat × Nat × Option (Nat × (Nat → Int32)) × (Option Value → qW → Prop)) : qK := (s_istore 5 4 (s_iload 4 (s_iload 5 (s_iadd (s_iconst 12 (s_ic_le (AW (mX1_weigh, G) 25) (s_vreturn (mX1_weigh, G))))))))
theorem oX1_weigh_12 (G : Nat × Nat × Nat × Option (Nat × (Nat → Int32)) × (Option Value → qW → Prop)) : qImp (bX1_weigh_12 G) (AW (mX1_weigh, G) 12) := (r_istore dX1_weigh_12 (Or.inr rfl) (Nat.le_of_ble_eq_true rfl) (r_iload dX1_weigh_14 (r_iload dX1_weigh_16 (r_iadd dX1_weigh_18 (r_bipush dX1_weigh_19 rfl (r_ic_le (tgt := 25) dX1_weigh_21 rfl qImp.rf (r_vreturn dX1_weigh_24 rfl)))))))
def bX1_weigh_25 (G : Nat × Nat × Nat × Option (Nat × (Nat → Int32)) × (Option Value → qW → Prop)) : qK := (s_aload 1 (s_iload 2 (s_iload 3 (AW (mX1_weigh, G) 28))))
theorem oX1_weigh_25 (G : Nat × Nat × Nat × Option (Nat × (Nat → Int32)) × (Option Value → qW → Prop)) : qImp (bX1_weigh_25 G) (AW (mX1_weigh, G) 25) := (r_aload_n dX1_weigh_25 rfl (r_iload_n dX1_weigh_26 rfl (r_iload_n dX1_weigh_27 rfl qImp.rf)))
def bX1_weigh_31 (G : Nat × Nat × Nat × Option (Nat × (Nat → Int32)) × (Option Value → qW → Prop)) : qK := (s_istore 6 5 (s_iload 6 (s_if_ne (AW (mX1_weigh, G) 39) (s_vreturn (mX1_weigh, G)))))
theorem oX1_weigh_31 (G : Nat × Nat × Nat × Option (Nat × (Nat → Int32)) × (Option Value → qW → Prop)) : qImp (bX1_weigh_31 G) (AW (mX1_weigh, G) 31) := (r_istore dX1_weigh_31 (Or.inr rfl) (Nat.le_of_ble_eq_true rfl) (r_iload dX1_weigh_33 (r_if_ne (tgt := 39) dX1_weigh_35 rfl qImp.rf (r_vreturn dX1_weigh_38 rfl))))
def bX1_weigh_39 (G : Nat × Nat × Nat × Option (Nat × (Nat → Int32)) × (Option Value → qW → Prop)) : qK := (s_iload 4 (s_iload 5 (s_iadd (s_iload 6 (AW (mX1_weigh, G) 46)))))
theorem oX1_weigh_39 (G : Nat × Nat × Nat × Option (Nat × (Nat → Int32)) × (Option Value → qW → Prop)) : qImp (bX1_weigh_39 G) (AW (mX1_weigh, G) 39) := (r_iload dX1_weigh_39 (r_iload dX1_weigh_41 (r_iadd dX1_weigh_43 (r_iload dX1_weigh_44 qImp.rf))))
def bX1_weigh_52 (G : Nat × Nat × Nat × Option (Nat × (Nat → Int32)) × (Option Value → qW → Prop)) : qK := (s_istore 7 6 (s_aload 0 (s_getfield 1 0 (s_iconst (-1) (s_ic_eq (AW (mX1_weigh, G) 89) (s_iload 7 (s_aload 0 (s_getfield 1 0 (s_ic_lt (AW (mX1_weigh, G) 89) (s_iload 7 (s_aload 0 (s_getfield 1 0 (s_ic_ne (AW (mX1_weigh, G) 101) (s_iload 4 (s_aload 0 (s_getfield 1 1 (s_ic_ge (AW (mX1_weigh, G) 101) (AW (mX1_weigh, G) 89))))))))))))))))))
theorem oX1_weigh_52 (G : Nat × Nat × Nat × Option (Nat × (Nat → Int32)) × (Option Value → qW → Prop)) : qImp (bX1_weigh_52 G) (AW (mX1_weigh, G) 52) := (r_istore dX1_weigh_52 (Or.inr rfl) (Nat.le_of_ble_eq_true rfl) (r_aload_n dX1_weigh_54 rfl (r_getfield dX1_weigh_55 fgX1_9 (r_iconst dX1_weigh_58 rfl (r_ic_eq (tgt := 89) dX1_weigh_59 rfl qImp.rf (r_iload dX1_weigh_62 (r_aload_n dX1_weigh_64 rfl (r_getfield dX1_weigh_65 fgX1_9 (r_ic_lt (tgt := 89) dX1_weigh_68 rfl qImp.rf (r_iload dX1_weigh_71 (r_aload_n dX1_weigh_73 rfl (r_getfield dX1_weigh_74 fgX1_9 (r_ic_ne (tgt := 101) dX1_weigh_77 rfl qImp.rf (r_iload dX1_weigh_80 (r_aload_n dX1_weigh_82 rfl (r_getfield dX1_weigh_83 fgX1_15 (r_ic_ge (tgt := 101) dX1_weigh_86 rfl qImp.rf qImp.rf)))))))))))))))))
def bX1_weigh_89 (G : Nat × Nat × Nat × Option (Nat × (Nat → Int32)) × (Option Value → qW → Prop)) : qK := (s_aload 0 (s_iload 7 (s_putI 1 0 (s_aload 0 (s_iload 4 (s_putI 1 1 (AW (mX1_weigh, G) 101)))))))
theorem oX1_weigh_89 (G : Nat × Nat × Nat × Option (Nat × (Nat → Int32)) × (Option Value → qW → Prop)) : qImp (bX1_weigh_89 G) (AW (mX1_weigh, G) 89) := (r_aload_n dX1_weigh_89 rfl (r_iload dX1_weigh_90 (r_putI dX1_weigh_92 fpX1_9 (fun q hq => by cases hq; rfl) (r_aload_n dX1_weigh_95 rfl (r_iload dX1_weigh_96 (r_putI dX1_weigh_98 fpX1_15 (fun q hq => by cases hq; rfl) qImp.rf))))))
def bX1_weigh_101 (G : Nat × Nat × Nat × Option (Nat × (Nat → Int32)) × (Option Value → qW → Prop)) : qK := (s_vreturn (mX1_weigh, G))
theorem oX1_weigh_101 (G : Nat × Nat × Nat × Option (Nat × (Nat → Int32)) × (Option Value → qW → Prop)) : qImp (bX1_weigh_101 G) (AW (mX1_weigh, G) 101) := (r_vreturn dX1_weigh_101 rfl)
theorem kX1_weigh_2 {G : Nat × Nat × Nat × Option (Nat × (Nat → Int32)) × (Option Value → qW → Prop)} {L : qL} {w : qW} {kc ks : Nat} {rest : List Value} {x y : Int32} (hst : rest.length ≤ 4) (hdp : 1 ≤ G.1) (hc : kc ≤ G.2.1) (hs : ks ≤ G.2.2.1) (k : AW (mX1_weigh, G) 5 L (.int (if x < y then y else x) :: rest) w kc ks) : AW (mX1_weigh, G) 2 L (.int y :: .int x :: rest) w kc ks := a_mmax dX1_weigh_2 lk821 lk95 lk65 lk96 hst hdp hc hs k
theorem kX1_weigh_9 {G : Nat × Nat × Nat × Option (Nat × (Nat → Int32)) × (Option Value → qW → Prop)} {L : qL} {w : qW} {kc ks : Nat} {rest : List Value} {x y : Int32} (hst : rest.length ≤ 4) (hdp : 1 ≤ G.1) (hc : kc ≤ G.2.1) (hs : ks ≤ G.2.2.1) (k : AW (mX1_weigh, G) 12 L (.int (if x < y then y else x) :: rest) w kc ks) : AW (mX1_weigh, G) 9 L (.int y :: .int x :: rest) w kc ks := a_mmax dX1_weigh_9 lk821 lk95 lk65 lk96 hst hdp hc hs k
theorem kX1_weigh_28 {G : Nat × Nat × Nat × Option (Nat × (Nat → Int32)) × (Option Value → qW → Prop)} {L : qL} {w : qW} {kc ks : Nat} {rest : List Value} {q : Nat} {x0 : Int32} {x1 : Int32} {d mc ms : Nat} {Q : Option Value → qW → Prop} (hC : CT mX6_holdingTries d mc ms [.ref q, .int x0, .int x1] w Q) (hq : qci w q = some 6) (hst : rest.length ≤ 4) (hdp : d + 1 ≤ G.1) (hmc : kc + mc ≤ G.2.1 ∧ ks + ms ≤ G.2.2.1) (k : ∀ r w', Q r w' → AW (mX1_weigh, G) 31 L (r.toList ++ rest) w' (kc + mc) (ks + ms)) : AW (mX1_weigh, G) 28 L (.int x1 :: .int x0 :: .ref q :: rest) w kc ks := a_callV [.int x0, .int x1] rest dX1_weigh_28 vX6_holdingTries lk822 hC hq rfl rfl hst hdp hmc k
theorem kX1_weigh_46 {G : Nat × Nat × Nat × Option (Nat × (Nat → Int32)) × (Option Value → qW → Prop)} {L : qL} {w : qW} {kc ks : Nat} {rest : List Value}  {x0 : Int32} {d mc ms : Nat} {Q : Option Value → qW → Prop} (hC : CT mJ6_numberOfTrailingZeros_0f7a4 d mc ms [.int x0] w Q) (hst : rest.length ≤ 4) (hdp : d + 1 ≤ G.1) (hmc : kc + mc ≤ G.2.1 ∧ ks + ms ≤ G.2.2.1) (k : ∀ r w', Q r w' → AW (mX1_weigh, G) 49 L (r.toList ++ rest) w' (kc + mc) (ks + ms)) : AW (mX1_weigh, G) 46 L (.int x0 :: rest) w kc ks := a_callS [.int x0] rest dX1_weigh_46 tJ6_numberOfTrailingZeros_0f7a4 lk823 hC rfl hst hdp hmc k
theorem kX1_weigh_49 {G : Nat × Nat × Nat × Option (Nat × (Nat → Int32)) × (Option Value → qW → Prop)} {L : qL} {w : qW} {kc ks : Nat} {rest : List Value} {x y : Int32} (hst : rest.length ≤ 4) (hdp : 1 ≤ G.1) (hc : kc ≤ G.2.1) (hs : ks ≤ G.2.2.1) (k : AW (mX1_weigh, G) 52 L (.int (if x < y then y else x) :: rest) w kc ks) : AW (mX1_weigh, G) 49 L (.int y :: .int x :: rest) w kc ks := a_mmax dX1_weigh_49 lk821 lk95 lk65 lk96 hst hdp hc hs k
theorem dX1_judge_0 : decode cX1_judge 0 = .ok (.aload_n 0, 1) := by decide +kernel
theorem dX1_judge_1 : decode cX1_judge 1 = .ok (.getfield 18, 3) := by decide +kernel
theorem dX1_judge_4 : decode cX1_judge 4 = .ok (.ifCond .eq 4, 3) := by decide +kernel
theorem dX1_judge_7 : decode cX1_judge 7 = .ok (.return_, 1) := by decide +kernel
theorem dX1_judge_8 : decode cX1_judge 8 = .ok (.aload_n 0, 1) := by decide +kernel
theorem dX1_judge_9 : decode cX1_judge 9 = .ok (.iconst 1, 1) := by decide +kernel
theorem dX1_judge_10 : decode cX1_judge 10 = .ok (.putfield 18, 3) := by decide +kernel
theorem dX1_judge_13 : decode cX1_judge 13 = .ok (.aload_n 0, 1) := by decide +kernel
theorem dX1_judge_14 : decode cX1_judge 14 = .ok (.iconst (-1), 1) := by decide +kernel
theorem dX1_judge_15 : decode cX1_judge 15 = .ok (.putfield 9, 3) := by decide +kernel
theorem dX1_judge_18 : decode cX1_judge 18 = .ok (.aload_n 0, 1) := by decide +kernel
theorem dX1_judge_19 : decode cX1_judge 19 = .ok (.iconst (-1), 1) := by decide +kernel
theorem dX1_judge_20 : decode cX1_judge 20 = .ok (.putfield 15, 3) := by decide +kernel
theorem dX1_judge_23 : decode cX1_judge 23 = .ok (.iconst 0, 1) := by decide +kernel
theorem dX1_judge_24 : decode cX1_judge 24 = .ok (.istore_n 2, 1) := by decide +kernel
theorem dX1_judge_25 : decode cX1_judge 25 = .ok (.iload_n 2, 1) := by decide +kernel
theorem dX1_judge_26 : decode cX1_judge 26 = .ok (.bipush 12, 2) := by decide +kernel
theorem dX1_judge_28 : decode cX1_judge 28 = .ok (.if_icmp .gt 30, 3) := by decide +kernel
theorem dX1_judge_31 : decode cX1_judge 31 = .ok (.iconst 0, 1) := by decide +kernel
theorem dX1_judge_32 : decode cX1_judge 32 = .ok (.istore_n 3, 1) := by decide +kernel
theorem dX1_judge_33 : decode cX1_judge 33 = .ok (.iload_n 3, 1) := by decide +kernel
theorem dX1_judge_34 : decode cX1_judge 34 = .ok (.bipush 12, 2) := by decide +kernel
theorem dX1_judge_36 : decode cX1_judge 36 = .ok (.if_icmp .gt 16, 3) := by decide +kernel
theorem dX1_judge_39 : decode cX1_judge 39 = .ok (.aload_n 0, 1) := by decide +kernel
theorem dX1_judge_40 : decode cX1_judge 40 = .ok (.aload_n 1, 1) := by decide +kernel
theorem dX1_judge_41 : decode cX1_judge 41 = .ok (.iload_n 3, 1) := by decide +kernel
theorem dX1_judge_42 : decode cX1_judge 42 = .ok (.iload_n 2, 1) := by decide +kernel
theorem dX1_judge_43 : decode cX1_judge 43 = .ok (.invokevirtual 26, 3) := by decide +kernel
theorem dX1_judge_46 : decode cX1_judge 46 = .ok (.iinc 3 1, 3) := by decide +kernel
theorem dX1_judge_49 : decode cX1_judge 49 = .ok (.goto (-16), 3) := by decide +kernel
theorem dX1_judge_52 : decode cX1_judge 52 = .ok (.iinc 2 1, 3) := by decide +kernel
theorem dX1_judge_55 : decode cX1_judge 55 = .ok (.goto (-30), 3) := by decide +kernel
theorem dX1_judge_58 : decode cX1_judge 58 = .ok (.return_, 1) := by decide +kernel
/-! SealLine$Judging.judge(LSealLine$Rule;)V -/
theorem eX1_judge {d mc ms : Nat} {w : qW} {Q : Option Value → qW → Prop} {q : Nat} {x0 : Nat} (h : AW (mX1_judge, d, mc, ms, none, Q) 0 [some (.ref q), some (.ref x0), none, none] [] w 0 0) : CT mX1_judge d mc ms [.ref q, .ref x0] w Q := CT_of (by decide +kernel) rfl (Nat.le_of_ble_eq_true rfl) h
def bX1_judge_0 (G : Nat × Nat × Nat × Option (Nat × (Nat → Int32)) × (Option Value → qW → Prop)) : qK := (s_aload 0 (s_getfield 1 2 (s_if_eq (AW (mX1_judge, G) 8) (s_vreturn (mX1_judge, G)))))
theorem oX1_judge_0 (G : Nat × Nat × Nat × Option (Nat × (Nat → Int32)) × (Option Value → qW → Prop)) : qImp (bX1_judge_0 G) (AW (mX1_judge, G) 0) := (r_aload_n dX1_judge_0 rfl (r_getfield dX1_judge_1 fgX1_18 (r_if_eq (tgt := 8) dX1_judge_4 rfl qImp.rf (r_vreturn dX1_judge_7 rfl))))
def bX1_judge_8 (G : Nat × Nat × Nat × Option (Nat × (Nat → Int32)) × (Option Value → qW → Prop)) : qK := (s_aload 0 (s_iconst 1 (s_putZ 1 2 (s_aload 0 (s_iconst (-1) (s_putI 1 0 (s_aload 0 (s_iconst (-1) (s_putI 1 1 (s_iconst 0 (s_istore 2 1 (AW (mX1_judge, G) 25))))))))))))
theorem oX1_judge_8 (G : Nat × Nat × Nat × Option (Nat × (Nat → Int32)) × (Option Value → qW → Prop)) : qImp (bX1_judge_8 G) (AW (mX1_judge, G) 8) := (r_aload_n dX1_judge_8 rfl (r_iconst dX1_judge_9 rfl (r_putZ dX1_judge_10 fpX1_18 (fun q hq => by cases hq; rfl) (r_aload_n dX1_judge_13 rfl (r_iconst dX1_judge_14 rfl (r_putI dX1_judge_15 fpX1_9 (fun q hq => by cases hq; rfl) (r_aload_n dX1_judge_18 rfl (r_iconst dX1_judge_19 rfl (r_putI dX1_judge_20 fpX1_15 (fun q hq => by cases hq; rfl) (r_iconst dX1_judge_23 rfl (r_istore_n dX1_judge_24 rfl (Or.inr rfl) (Nat.le_of_ble_eq_true rfl) qImp.rf)))))))))))
def bX1_judge_25 (G : Nat × Nat × Nat × Option (Nat × (Nat → Int32)) × (Option Value → qW → Prop)) : qK := (s_iload 2 (s_iconst 12 (s_ic_gt (AW (mX1_judge, G) 58) (s_iconst 0 (s_istore 3 2 (AW (mX1_judge, G) 33))))))
theorem oX1_judge_25 (G : Nat × Nat × Nat × Option (Nat × (Nat → Int32)) × (Option Value → qW → Prop)) : qImp (bX1_judge_25 G) (AW (mX1_judge, G) 25) := (r_iload_n dX1_judge_25 rfl (r_bipush dX1_judge_26 rfl (r_ic_gt (tgt := 58) dX1_judge_28 rfl qImp.rf (r_iconst dX1_judge_31 rfl (r_istore_n dX1_judge_32 rfl (Or.inr rfl) (Nat.le_of_ble_eq_true rfl) qImp.rf)))))
def bX1_judge_33 (G : Nat × Nat × Nat × Option (Nat × (Nat → Int32)) × (Option Value → qW → Prop)) : qK := (s_iload 3 (s_iconst 12 (s_ic_gt (AW (mX1_judge, G) 52) (s_aload 0 (s_aload 1 (s_iload 3 (s_iload 2 (AW (mX1_judge, G) 43))))))))
theorem oX1_judge_33 (G : Nat × Nat × Nat × Option (Nat × (Nat → Int32)) × (Option Value → qW → Prop)) : qImp (bX1_judge_33 G) (AW (mX1_judge, G) 33) := (r_iload_n dX1_judge_33 rfl (r_bipush dX1_judge_34 rfl (r_ic_gt (tgt := 52) dX1_judge_36 rfl qImp.rf (r_aload_n dX1_judge_39 rfl (r_aload_n dX1_judge_40 rfl (r_iload_n dX1_judge_41 rfl (r_iload_n dX1_judge_42 rfl qImp.rf)))))))
def bX1_judge_46 (G : Nat × Nat × Nat × Option (Nat × (Nat → Int32)) × (Option Value → qW → Prop)) : qK := (s_iinc 3 2 1 (AW (mX1_judge, G) 33))
theorem oX1_judge_46 (G : Nat × Nat × Nat × Option (Nat × (Nat → Int32)) × (Option Value → qW → Prop)) : qImp (bX1_judge_46 G) (AW (mX1_judge, G) 46) := (r_iinc dX1_judge_46 rfl (Or.inr rfl) (Nat.le_of_ble_eq_true rfl) (r_goto (tgt := 33) dX1_judge_49 rfl qImp.rf))
def bX1_judge_52 (G : Nat × Nat × Nat × Option (Nat × (Nat → Int32)) × (Option Value → qW → Prop)) : qK := (s_iinc 2 1 1 (AW (mX1_judge, G) 25))
theorem oX1_judge_52 (G : Nat × Nat × Nat × Option (Nat × (Nat → Int32)) × (Option Value → qW → Prop)) : qImp (bX1_judge_52 G) (AW (mX1_judge, G) 52) := (r_iinc dX1_judge_52 rfl (Or.inr rfl) (Nat.le_of_ble_eq_true rfl) (r_goto (tgt := 25) dX1_judge_55 rfl qImp.rf))
def bX1_judge_58 (G : Nat × Nat × Nat × Option (Nat × (Nat → Int32)) × (Option Value → qW → Prop)) : qK := (s_vreturn (mX1_judge, G))
theorem oX1_judge_58 (G : Nat × Nat × Nat × Option (Nat × (Nat → Int32)) × (Option Value → qW → Prop)) : qImp (bX1_judge_58 G) (AW (mX1_judge, G) 58) := (r_vreturn dX1_judge_58 rfl)
theorem kX1_judge_43 {G : Nat × Nat × Nat × Option (Nat × (Nat → Int32)) × (Option Value → qW → Prop)} {L : qL} {w : qW} {kc ks : Nat} {rest : List Value} {q : Nat} {x0 : Nat} {x1 : Int32} {x2 : Int32} {d mc ms : Nat} {Q : Option Value → qW → Prop} (hC : CT mX1_weigh d mc ms [.ref q, .ref x0, .int x1, .int x2] w Q) (hq : qci w q = some 1) (hst : rest.length ≤ 4) (hdp : d + 1 ≤ G.1) (hmc : kc + mc ≤ G.2.1 ∧ ks + ms ≤ G.2.2.1) (k : ∀ r w', Q r w' → AW (mX1_judge, G) 46 L (r.toList ++ rest) w' (kc + mc) (ks + ms)) : AW (mX1_judge, G) 43 L (.int x2 :: .int x1 :: .ref x0 :: .ref q :: rest) w kc ks := a_callV [.ref x0, .int x1, .int x2] rest dX1_judge_43 vX1_weigh lk817 hC hq rfl rfl hst hdp hmc k
theorem dX1_fewestHands_0 : decode cX1_fewestHands 0 = .ok (.aload_n 0, 1) := by decide +kernel
theorem dX1_fewestHands_1 : decode cX1_fewestHands 1 = .ok (.aload_n 1, 1) := by decide +kernel
theorem dX1_fewestHands_2 : decode cX1_fewestHands 2 = .ok (.invokevirtual 22, 3) := by decide +kernel
theorem dX1_fewestHands_5 : decode cX1_fewestHands 5 = .ok (.aload_n 0, 1) := by decide +kernel
theorem dX1_fewestHands_6 : decode cX1_fewestHands 6 = .ok (.getfield 9, 3) := by decide +kernel
theorem dX1_fewestHands_9 : decode cX1_fewestHands 9 = .ok (.ireturn, 1) := by decide +kernel
/-! SealLine$Judging.fewestHands(LSealLine$Rule;)I -/
theorem eX1_fewestHands {d mc ms : Nat} {w : qW} {Q : Option Value → qW → Prop} {q : Nat} {x0 : Nat} (h : AW (mX1_fewestHands, d, mc, ms, none, Q) 0 [some (.ref q), some (.ref x0)] [] w 0 0) : CT mX1_fewestHands d mc ms [.ref q, .ref x0] w Q := CT_of (by decide +kernel) rfl (Nat.le_of_ble_eq_true rfl) h
def bX1_fewestHands_0 (G : Nat × Nat × Nat × Option (Nat × (Nat → Int32)) × (Option Value → qW → Prop)) : qK := (s_aload 0 (s_aload 1 (AW (mX1_fewestHands, G) 2)))
theorem oX1_fewestHands_0 (G : Nat × Nat × Nat × Option (Nat × (Nat → Int32)) × (Option Value → qW → Prop)) : qImp (bX1_fewestHands_0 G) (AW (mX1_fewestHands, G) 0) := (r_aload_n dX1_fewestHands_0 rfl (r_aload_n dX1_fewestHands_1 rfl qImp.rf))
def bX1_fewestHands_5 (G : Nat × Nat × Nat × Option (Nat × (Nat → Int32)) × (Option Value → qW → Prop)) : qK := (s_aload 0 (s_getfield 1 0 (s_ireturn (mX1_fewestHands, G))))
theorem oX1_fewestHands_5 (G : Nat × Nat × Nat × Option (Nat × (Nat → Int32)) × (Option Value → qW → Prop)) : qImp (bX1_fewestHands_5 G) (AW (mX1_fewestHands, G) 5) := (r_aload_n dX1_fewestHands_5 rfl (r_getfield dX1_fewestHands_6 fgX1_9 (r_ireturn dX1_fewestHands_9 rfl)))
theorem kX1_fewestHands_2 {G : Nat × Nat × Nat × Option (Nat × (Nat → Int32)) × (Option Value → qW → Prop)} {L : qL} {w : qW} {kc ks : Nat} {rest : List Value} {q : Nat} {x0 : Nat} {d mc ms : Nat} {Q : Option Value → qW → Prop} (hC : CT mX1_judge d mc ms [.ref q, .ref x0] w Q) (hq : qci w q = some 1) (hst : rest.length ≤ 4) (hdp : d + 1 ≤ G.1) (hmc : kc + mc ≤ G.2.1 ∧ ks + ms ≤ G.2.2.1) (k : ∀ r w', Q r w' → AW (mX1_fewestHands, G) 5 L (r.toList ++ rest) w' (kc + mc) (ks + ms)) : AW (mX1_fewestHands, G) 2 L (.ref x0 :: .ref q :: rest) w kc ks := a_callV [.ref x0] rest dX1_fewestHands_2 vX1_judge lk813 hC hq rfl rfl hst hdp hmc k
theorem dX1_fewestMakers_0 : decode cX1_fewestMakers 0 = .ok (.aload_n 0, 1) := by decide +kernel
theorem dX1_fewestMakers_1 : decode cX1_fewestMakers 1 = .ok (.aload_n 1, 1) := by decide +kernel
theorem dX1_fewestMakers_2 : decode cX1_fewestMakers 2 = .ok (.invokevirtual 22, 3) := by decide +kernel
theorem dX1_fewestMakers_5 : decode cX1_fewestMakers 5 = .ok (.aload_n 0, 1) := by decide +kernel
theorem dX1_fewestMakers_6 : decode cX1_fewestMakers 6 = .ok (.getfield 15, 3) := by decide +kernel
theorem dX1_fewestMakers_9 : decode cX1_fewestMakers 9 = .ok (.ireturn, 1) := by decide +kernel
/-! SealLine$Judging.fewestMakers(LSealLine$Rule;)I -/
theorem eX1_fewestMakers {d mc ms : Nat} {w : qW} {Q : Option Value → qW → Prop} {q : Nat} {x0 : Nat} (h : AW (mX1_fewestMakers, d, mc, ms, none, Q) 0 [some (.ref q), some (.ref x0)] [] w 0 0) : CT mX1_fewestMakers d mc ms [.ref q, .ref x0] w Q := CT_of (by decide +kernel) rfl (Nat.le_of_ble_eq_true rfl) h
def bX1_fewestMakers_0 (G : Nat × Nat × Nat × Option (Nat × (Nat → Int32)) × (Option Value → qW → Prop)) : qK := (s_aload 0 (s_aload 1 (AW (mX1_fewestMakers, G) 2)))
theorem oX1_fewestMakers_0 (G : Nat × Nat × Nat × Option (Nat × (Nat → Int32)) × (Option Value → qW → Prop)) : qImp (bX1_fewestMakers_0 G) (AW (mX1_fewestMakers, G) 0) := (r_aload_n dX1_fewestMakers_0 rfl (r_aload_n dX1_fewestMakers_1 rfl qImp.rf))
def bX1_fewestMakers_5 (G : Nat × Nat × Nat × Option (Nat × (Nat → Int32)) × (Option Value → qW → Prop)) : qK := (s_aload 0 (s_getfield 1 1 (s_ireturn (mX1_fewestMakers, G))))
theorem oX1_fewestMakers_5 (G : Nat × Nat × Nat × Option (Nat × (Nat → Int32)) × (Option Value → qW → Prop)) : qImp (bX1_fewestMakers_5 G) (AW (mX1_fewestMakers, G) 5) := (r_aload_n dX1_fewestMakers_5 rfl (r_getfield dX1_fewestMakers_6 fgX1_15 (r_ireturn dX1_fewestMakers_9 rfl)))
theorem kX1_fewestMakers_2 {G : Nat × Nat × Nat × Option (Nat × (Nat → Int32)) × (Option Value → qW → Prop)} {L : qL} {w : qW} {kc ks : Nat} {rest : List Value} {q : Nat} {x0 : Nat} {d mc ms : Nat} {Q : Option Value → qW → Prop} (hC : CT mX1_judge d mc ms [.ref q, .ref x0] w Q) (hq : qci w q = some 1) (hst : rest.length ≤ 4) (hdp : d + 1 ≤ G.1) (hmc : kc + mc ≤ G.2.1 ∧ ks + ms ≤ G.2.2.1) (k : ∀ r w', Q r w' → AW (mX1_fewestMakers, G) 5 L (r.toList ++ rest) w' (kc + mc) (ks + ms)) : AW (mX1_fewestMakers, G) 2 L (.ref x0 :: .ref q :: rest) w kc ks := a_callV [.ref x0] rest dX1_fewestMakers_2 vX1_judge lk813 hC hq rfl rfl hst hdp hmc k
