theorem dX2_init_0 : decode cX2_init 0 = .ok (.aload_n 0, 1) := by decide +kernel
theorem dX2_init_1 : decode cX2_init 1 = .ok (.invokespecial 3, 3) := by decide +kernel
theorem dX2_init_4 : decode cX2_init 4 = .ok (.aload_n 0, 1) := by decide +kernel
theorem dX2_init_5 : decode cX2_init 5 = .ok (.iconst 4, 1) := by decide +kernel
theorem dX2_init_6 : decode cX2_init 6 = .ok (.newarray .int, 2) := by decide +kernel
theorem dX2_init_8 : decode cX2_init 8 = .ok (.putfield 9, 3) := by decide +kernel
theorem dX2_init_11 : decode cX2_init 11 = .ok (.aload_n 0, 1) := by decide +kernel
theorem dX2_init_12 : decode cX2_init 12 = .ok (.iconst 4, 1) := by decide +kernel
theorem dX2_init_13 : decode cX2_init 13 = .ok (.newarray .boolean, 2) := by decide +kernel
theorem dX2_init_15 : decode cX2_init 15 = .ok (.putfield 15, 3) := by decide +kernel
theorem dX2_init_18 : decode cX2_init 18 = .ok (.aload_n 0, 1) := by decide +kernel
theorem dX2_init_19 : decode cX2_init 19 = .ok (.iconst 4, 1) := by decide +kernel
theorem dX2_init_20 : decode cX2_init 20 = .ok (.newarray .int, 2) := by decide +kernel
theorem dX2_init_22 : decode cX2_init 22 = .ok (.putfield 19, 3) := by decide +kernel
theorem dX2_init_25 : decode cX2_init 25 = .ok (.aload_n 0, 1) := by decide +kernel
theorem dX2_init_26 : decode cX2_init 26 = .ok (.iconst 4, 1) := by decide +kernel
theorem dX2_init_27 : decode cX2_init 27 = .ok (.newarray .int, 2) := by decide +kernel
theorem dX2_init_29 : decode cX2_init 29 = .ok (.putfield 22, 3) := by decide +kernel
theorem dX2_init_32 : decode cX2_init 32 = .ok (.aload_n 0, 1) := by decide +kernel
theorem dX2_init_33 : decode cX2_init 33 = .ok (.getfield 19, 3) := by decide +kernel
theorem dX2_init_36 : decode cX2_init 36 = .ok (.iconst (-1), 1) := by decide +kernel
theorem dX2_init_37 : decode cX2_init 37 = .ok (.invokestatic 25, 3) := by decide +kernel
theorem dX2_init_40 : decode cX2_init 40 = .ok (.return_, 1) := by decide +kernel
/-! SealLine$Keys.<init>()V -/
theorem eX2_init {d mc ms : Nat} {w : qW} {Q : Option Value → qW → Prop} {q : Nat} (h : AW (mX2_init, d, mc, ms, none, Q) 0 [some (.ref q)] [] w 0 0) : CT mX2_init d mc ms [.ref q] w Q := CT_of (by decide +kernel) rfl (Nat.le_of_ble_eq_true rfl) h
def bX2_init_0 (G : Nat × Nat × Nat × Option (Nat × (Nat → Int32)) × (Option Value → qW → Prop)) : qK := (s_aload 0 (s_oinit (mX2_init, G) (s_aload 0 (s_iconst 4 (s_newI (mX2_init, G) 0 (s_putR 2 0 (s_aload 0 (s_iconst 4 (s_newI (mX2_init, G) 1 (s_putR 2 1 (s_aload 0 (s_iconst 4 (s_newI (mX2_init, G) 0 (s_putR 2 2 (s_aload 0 (s_iconst 4 (s_newI (mX2_init, G) 0 (s_putR 2 3 (s_aload 0 (s_getfield 2 2 (s_iconst (-1) (AW (mX2_init, G) 37))))))))))))))))))))))
theorem oX2_init_0 (G : Nat × Nat × Nat × Option (Nat × (Nat → Int32)) × (Option Value → qW → Prop)) : qImp (bX2_init_0 G) (AW (mX2_init, G) 0) := (r_aload_n dX2_init_0 rfl (r_oinit dX2_init_1 lk252 lk86 lk87 (r_aload_n dX2_init_4 rfl (r_iconst dX2_init_5 rfl (r_newI0 dX2_init_6 lk113 (r_putRF dX2_init_8 fpX2_9 (fun q hq => by cases hq; rfl) rfl (fun q hq => by cases hq; rfl) (fun _ => rfl) (fun _ => rfl) (r_aload_n dX2_init_11 rfl (r_iconst dX2_init_12 rfl (r_newI1 dX2_init_13 lk267 (r_putRF dX2_init_15 fpX2_15 (fun q hq => by cases hq; rfl) rfl (fun q hq => by cases hq; rfl) (fun _ => rfl) (fun _ => rfl) (r_aload_n dX2_init_18 rfl (r_iconst dX2_init_19 rfl (r_newI0 dX2_init_20 lk113 (r_putRF dX2_init_22 fpX2_19 (fun q hq => by cases hq; rfl) rfl (fun q hq => by cases hq; rfl) (fun _ => rfl) (fun _ => rfl) (r_aload_n dX2_init_25 rfl (r_iconst dX2_init_26 rfl (r_newI0 dX2_init_27 lk113 (r_putRF dX2_init_29 fpX2_22 (fun q hq => by cases hq; rfl) rfl (fun q hq => by cases hq; rfl) (fun _ => rfl) (fun _ => rfl) (r_aload_n dX2_init_32 rfl (r_getfield dX2_init_33 fgX2_19 (r_iconst dX2_init_36 rfl qImp.rf)))))))))))))))))))))
def bX2_init_40 (G : Nat × Nat × Nat × Option (Nat × (Nat → Int32)) × (Option Value → qW → Prop)) : qK := (s_vreturn (mX2_init, G))
theorem oX2_init_40 (G : Nat × Nat × Nat × Option (Nat × (Nat → Int32)) × (Option Value → qW → Prop)) : qImp (bX2_init_40 G) (AW (mX2_init, G) 40) := (r_vreturn dX2_init_40 rfl)
theorem kX2_init_37 {G : Nat × Nat × Nat × Option (Nat × (Nat → Int32)) × (Option Value → qW → Prop)} {L : qL} {w : qW} {kc ks : Nat} {rest : List Value}  {x0 : Nat} {x1 : Int32} {d mc ms : Nat} {Q : Option Value → qW → Prop} (hC : CT mJ7_fill_53178 d mc ms [.ref x0, .int x1] w Q) (hst : rest.length ≤ 4) (hdp : d + 1 ≤ G.1) (hmc : kc + mc ≤ G.2.1 ∧ ks + ms ≤ G.2.2.1) (k : ∀ r w', Q r w' → AW (mX2_init, G) 40 L (r.toList ++ rest) w' (kc + mc) (ks + ms)) : AW (mX2_init, G) 37 L (.int x1 :: .ref x0 :: rest) w kc ks := a_callS [.ref x0, .int x1] rest dX2_init_37 tJ7_fill_53178 lk253 hC rfl hst hdp hmc k
theorem dX2_isKey_0 : decode cX2_isKey 0 = .ok (.iload_n 0, 1) := by decide +kernel
theorem dX2_isKey_1 : decode cX2_isKey 1 = .ok (.ifCond .lt 12, 3) := by decide +kernel
theorem dX2_isKey_4 : decode cX2_isKey 4 = .ok (.iload_n 0, 1) := by decide +kernel
theorem dX2_isKey_5 : decode cX2_isKey 5 = .ok (.iconst 4, 1) := by decide +kernel
theorem dX2_isKey_6 : decode cX2_isKey 6 = .ok (.if_icmp .ge 7, 3) := by decide +kernel
theorem dX2_isKey_9 : decode cX2_isKey 9 = .ok (.iconst 1, 1) := by decide +kernel
theorem dX2_isKey_10 : decode cX2_isKey 10 = .ok (.goto 4, 3) := by decide +kernel
theorem dX2_isKey_13 : decode cX2_isKey 13 = .ok (.iconst 0, 1) := by decide +kernel
theorem dX2_isKey_14 : decode cX2_isKey 14 = .ok (.ireturn, 1) := by decide +kernel
/-! SealLine$Keys.isKey(I)Z -/
theorem eX2_isKey {d mc ms : Nat} {w : qW} {Q : Option Value → qW → Prop} {x0 : Int32} (h : AW (mX2_isKey, d, mc, ms, none, Q) 0 [some (.int x0)] [] w 0 0) : CT mX2_isKey d mc ms [.int x0] w Q := CT_of (by decide +kernel) rfl (Nat.le_of_ble_eq_true rfl) h
def bX2_isKey_0 (G : Nat × Nat × Nat × Option (Nat × (Nat → Int32)) × (Option Value → qW → Prop)) : qK := (s_iload 0 (s_if_lt (AW (mX2_isKey, G) 13) (s_iload 0 (s_iconst 4 (s_ic_ge (AW (mX2_isKey, G) 13) (s_iconst 1 (AW (mX2_isKey, G) 14)))))))
theorem oX2_isKey_0 (G : Nat × Nat × Nat × Option (Nat × (Nat → Int32)) × (Option Value → qW → Prop)) : qImp (bX2_isKey_0 G) (AW (mX2_isKey, G) 0) := (r_iload_n dX2_isKey_0 rfl (r_if_lt (tgt := 13) dX2_isKey_1 rfl qImp.rf (r_iload_n dX2_isKey_4 rfl (r_iconst dX2_isKey_5 rfl (r_ic_ge (tgt := 13) dX2_isKey_6 rfl qImp.rf (r_iconst dX2_isKey_9 rfl (r_goto (tgt := 14) dX2_isKey_10 rfl qImp.rf)))))))
def bX2_isKey_13 (G : Nat × Nat × Nat × Option (Nat × (Nat → Int32)) × (Option Value → qW → Prop)) : qK := (s_iconst 0 (AW (mX2_isKey, G) 14))
theorem oX2_isKey_13 (G : Nat × Nat × Nat × Option (Nat × (Nat → Int32)) × (Option Value → qW → Prop)) : qImp (bX2_isKey_13 G) (AW (mX2_isKey, G) 13) := (r_iconst dX2_isKey_13 rfl qImp.rf)
def bX2_isKey_14 (G : Nat × Nat × Nat × Option (Nat × (Nat → Int32)) × (Option Value → qW → Prop)) : qK := (s_zreturn (mX2_isKey, G))
theorem oX2_isKey_14 (G : Nat × Nat × Nat × Option (Nat × (Nat → Int32)) × (Option Value → qW → Prop)) : qImp (bX2_isKey_14 G) (AW (mX2_isKey, G) 14) := (r_zreturn dX2_isKey_14 rfl)
theorem dX2_isLive_0 : decode cX2_isLive 0 = .ok (.iload_n 1, 1) := by decide +kernel
theorem dX2_isLive_1 : decode cX2_isLive 1 = .ok (.invokestatic 31, 3) := by decide +kernel
theorem dX2_isLive_4 : decode cX2_isLive 4 = .ok (.ifCond .eq 26, 3) := by decide +kernel
theorem dX2_isLive_7 : decode cX2_isLive 7 = .ok (.aload_n 0, 1) := by decide +kernel
theorem dX2_isLive_8 : decode cX2_isLive 8 = .ok (.getfield 15, 3) := by decide +kernel
theorem dX2_isLive_11 : decode cX2_isLive 11 = .ok (.iload_n 1, 1) := by decide +kernel
theorem dX2_isLive_12 : decode cX2_isLive 12 = .ok (.baload, 1) := by decide +kernel
theorem dX2_isLive_13 : decode cX2_isLive 13 = .ok (.ifCond .ne 17, 3) := by decide +kernel
theorem dX2_isLive_16 : decode cX2_isLive 16 = .ok (.aload_n 0, 1) := by decide +kernel
theorem dX2_isLive_17 : decode cX2_isLive 17 = .ok (.getfield 19, 3) := by decide +kernel
theorem dX2_isLive_20 : decode cX2_isLive 20 = .ok (.iload_n 1, 1) := by decide +kernel
theorem dX2_isLive_21 : decode cX2_isLive 21 = .ok (.iaload, 1) := by decide +kernel
theorem dX2_isLive_22 : decode cX2_isLive 22 = .ok (.iconst (-1), 1) := by decide +kernel
theorem dX2_isLive_23 : decode cX2_isLive 23 = .ok (.if_icmp .ne 7, 3) := by decide +kernel
theorem dX2_isLive_26 : decode cX2_isLive 26 = .ok (.iconst 1, 1) := by decide +kernel
theorem dX2_isLive_27 : decode cX2_isLive 27 = .ok (.goto 4, 3) := by decide +kernel
theorem dX2_isLive_30 : decode cX2_isLive 30 = .ok (.iconst 0, 1) := by decide +kernel
theorem dX2_isLive_31 : decode cX2_isLive 31 = .ok (.ireturn, 1) := by decide +kernel
/-! SealLine$Keys.isLive(I)Z -/
theorem eX2_isLive {d mc ms : Nat} {w : qW} {Q : Option Value → qW → Prop} {q : Nat} {x0 : Int32} (h : AW (mX2_isLive, d, mc, ms, none, Q) 0 [some (.ref q), some (.int x0)] [] w 0 0) : CT mX2_isLive d mc ms [.ref q, .int x0] w Q := CT_of (by decide +kernel) rfl (Nat.le_of_ble_eq_true rfl) h
def bX2_isLive_0 (G : Nat × Nat × Nat × Option (Nat × (Nat → Int32)) × (Option Value → qW → Prop)) : qK := (s_iload 1 (AW (mX2_isLive, G) 1))
theorem oX2_isLive_0 (G : Nat × Nat × Nat × Option (Nat × (Nat → Int32)) × (Option Value → qW → Prop)) : qImp (bX2_isLive_0 G) (AW (mX2_isLive, G) 0) := (r_iload_n dX2_isLive_0 rfl qImp.rf)
def bX2_isLive_4 (G : Nat × Nat × Nat × Option (Nat × (Nat → Int32)) × (Option Value → qW → Prop)) : qK := (s_if_eq (AW (mX2_isLive, G) 30) (s_aload 0 (s_getfield 2 1 (s_iload 1 (s_baload (s_if_ne (AW (mX2_isLive, G) 30) (s_aload 0 (s_getfield 2 2 (s_iload 1 (s_iaload (mX2_isLive, G) (s_iconst (-1) (s_ic_ne (AW (mX2_isLive, G) 30) (s_iconst 1 (AW (mX2_isLive, G) 31))))))))))))))
theorem oX2_isLive_4 (G : Nat × Nat × Nat × Option (Nat × (Nat → Int32)) × (Option Value → qW → Prop)) : qImp (bX2_isLive_4 G) (AW (mX2_isLive, G) 4) := (r_if_eq (tgt := 30) dX2_isLive_4 rfl qImp.rf (r_aload_n dX2_isLive_7 rfl (r_getfield dX2_isLive_8 fgX2_15 (r_iload_n dX2_isLive_11 rfl (r_baload dX2_isLive_12 (r_if_ne (tgt := 30) dX2_isLive_13 rfl qImp.rf (r_aload_n dX2_isLive_16 rfl (r_getfield dX2_isLive_17 fgX2_19 (r_iload_n dX2_isLive_20 rfl (r_iaload dX2_isLive_21 (r_iconst dX2_isLive_22 rfl (r_ic_ne (tgt := 30) dX2_isLive_23 rfl qImp.rf (r_iconst dX2_isLive_26 rfl (r_goto (tgt := 31) dX2_isLive_27 rfl qImp.rf))))))))))))))
def bX2_isLive_30 (G : Nat × Nat × Nat × Option (Nat × (Nat → Int32)) × (Option Value → qW → Prop)) : qK := (s_iconst 0 (AW (mX2_isLive, G) 31))
theorem oX2_isLive_30 (G : Nat × Nat × Nat × Option (Nat × (Nat → Int32)) × (Option Value → qW → Prop)) : qImp (bX2_isLive_30 G) (AW (mX2_isLive, G) 30) := (r_iconst dX2_isLive_30 rfl qImp.rf)
def bX2_isLive_31 (G : Nat × Nat × Nat × Option (Nat × (Nat → Int32)) × (Option Value → qW → Prop)) : qK := (s_zreturn (mX2_isLive, G))
theorem oX2_isLive_31 (G : Nat × Nat × Nat × Option (Nat × (Nat → Int32)) × (Option Value → qW → Prop)) : qImp (bX2_isLive_31 G) (AW (mX2_isLive, G) 31) := (r_zreturn dX2_isLive_31 rfl)
theorem kX2_isLive_1 {G : Nat × Nat × Nat × Option (Nat × (Nat → Int32)) × (Option Value → qW → Prop)} {L : qL} {w : qW} {kc ks : Nat} {rest : List Value}  {x0 : Int32} {d mc ms : Nat} {Q : Option Value → qW → Prop} (hC : CT mX2_isKey d mc ms [.int x0] w Q) (hst : rest.length ≤ 4) (hdp : d + 1 ≤ G.1) (hmc : kc + mc ≤ G.2.1 ∧ ks + ms ≤ G.2.2.1) (k : ∀ r w', Q r w' → AW (mX2_isLive, G) 4 L (r.toList ++ rest) w' (kc + mc) (ks + ms)) : AW (mX2_isLive, G) 1 L (.int x0 :: rest) w kc ks := a_callS [.int x0] rest dX2_isLive_1 tX2_isKey lk640 hC rfl hst hdp hmc k
theorem dX2_canSeal_0 : decode cX2_canSeal 0 = .ok (.aload_n 0, 1) := by decide +kernel
theorem dX2_canSeal_1 : decode cX2_canSeal 1 = .ok (.iload_n 1, 1) := by decide +kernel
theorem dX2_canSeal_2 : decode cX2_canSeal 2 = .ok (.invokevirtual 35, 3) := by decide +kernel
theorem dX2_canSeal_5 : decode cX2_canSeal 5 = .ok (.ifCond .eq 16, 3) := by decide +kernel
theorem dX2_canSeal_8 : decode cX2_canSeal 8 = .ok (.aload_n 0, 1) := by decide +kernel
theorem dX2_canSeal_9 : decode cX2_canSeal 9 = .ok (.getfield 9, 3) := by decide +kernel
theorem dX2_canSeal_12 : decode cX2_canSeal 12 = .ok (.iload_n 1, 1) := by decide +kernel
theorem dX2_canSeal_13 : decode cX2_canSeal 13 = .ok (.iaload, 1) := by decide +kernel
theorem dX2_canSeal_14 : decode cX2_canSeal 14 = .ok (.ifCond .le 7, 3) := by decide +kernel
theorem dX2_canSeal_17 : decode cX2_canSeal 17 = .ok (.iconst 1, 1) := by decide +kernel
theorem dX2_canSeal_18 : decode cX2_canSeal 18 = .ok (.goto 4, 3) := by decide +kernel
theorem dX2_canSeal_21 : decode cX2_canSeal 21 = .ok (.iconst 0, 1) := by decide +kernel
theorem dX2_canSeal_22 : decode cX2_canSeal 22 = .ok (.ireturn, 1) := by decide +kernel
/-! SealLine$Keys.canSeal(I)Z -/
theorem eX2_canSeal {d mc ms : Nat} {w : qW} {Q : Option Value → qW → Prop} {q : Nat} {x0 : Int32} (h : AW (mX2_canSeal, d, mc, ms, none, Q) 0 [some (.ref q), some (.int x0)] [] w 0 0) : CT mX2_canSeal d mc ms [.ref q, .int x0] w Q := CT_of (by decide +kernel) rfl (Nat.le_of_ble_eq_true rfl) h
def bX2_canSeal_0 (G : Nat × Nat × Nat × Option (Nat × (Nat → Int32)) × (Option Value → qW → Prop)) : qK := (s_aload 0 (s_iload 1 (AW (mX2_canSeal, G) 2)))
theorem oX2_canSeal_0 (G : Nat × Nat × Nat × Option (Nat × (Nat → Int32)) × (Option Value → qW → Prop)) : qImp (bX2_canSeal_0 G) (AW (mX2_canSeal, G) 0) := (r_aload_n dX2_canSeal_0 rfl (r_iload_n dX2_canSeal_1 rfl qImp.rf))
def bX2_canSeal_5 (G : Nat × Nat × Nat × Option (Nat × (Nat → Int32)) × (Option Value → qW → Prop)) : qK := (s_if_eq (AW (mX2_canSeal, G) 21) (s_aload 0 (s_getfield 2 0 (s_iload 1 (s_iaload (mX2_canSeal, G) (s_if_le (AW (mX2_canSeal, G) 21) (s_iconst 1 (AW (mX2_canSeal, G) 22))))))))
theorem oX2_canSeal_5 (G : Nat × Nat × Nat × Option (Nat × (Nat → Int32)) × (Option Value → qW → Prop)) : qImp (bX2_canSeal_5 G) (AW (mX2_canSeal, G) 5) := (r_if_eq (tgt := 21) dX2_canSeal_5 rfl qImp.rf (r_aload_n dX2_canSeal_8 rfl (r_getfield dX2_canSeal_9 fgX2_9 (r_iload_n dX2_canSeal_12 rfl (r_iaload dX2_canSeal_13 (r_if_le (tgt := 21) dX2_canSeal_14 rfl qImp.rf (r_iconst dX2_canSeal_17 rfl (r_goto (tgt := 22) dX2_canSeal_18 rfl qImp.rf))))))))
def bX2_canSeal_21 (G : Nat × Nat × Nat × Option (Nat × (Nat → Int32)) × (Option Value → qW → Prop)) : qK := (s_iconst 0 (AW (mX2_canSeal, G) 22))
theorem oX2_canSeal_21 (G : Nat × Nat × Nat × Option (Nat × (Nat → Int32)) × (Option Value → qW → Prop)) : qImp (bX2_canSeal_21 G) (AW (mX2_canSeal, G) 21) := (r_iconst dX2_canSeal_21 rfl qImp.rf)
def bX2_canSeal_22 (G : Nat × Nat × Nat × Option (Nat × (Nat → Int32)) × (Option Value → qW → Prop)) : qK := (s_zreturn (mX2_canSeal, G))
theorem oX2_canSeal_22 (G : Nat × Nat × Nat × Option (Nat × (Nat → Int32)) × (Option Value → qW → Prop)) : qImp (bX2_canSeal_22 G) (AW (mX2_canSeal, G) 22) := (r_zreturn dX2_canSeal_22 rfl)
theorem kX2_canSeal_2 {G : Nat × Nat × Nat × Option (Nat × (Nat → Int32)) × (Option Value → qW → Prop)} {L : qL} {w : qW} {kc ks : Nat} {rest : List Value} {q : Nat} {x0 : Int32} {d mc ms : Nat} {Q : Option Value → qW → Prop} (hC : CT mX2_isLive d mc ms [.ref q, .int x0] w Q) (hq : qci w q = some 2) (hst : rest.length ≤ 4) (hdp : d + 1 ≤ G.1) (hmc : kc + mc ≤ G.2.1 ∧ ks + ms ≤ G.2.2.1) (k : ∀ r w', Q r w' → AW (mX2_canSeal, G) 5 L (r.toList ++ rest) w' (kc + mc) (ks + ms)) : AW (mX2_canSeal, G) 2 L (.int x0 :: .ref q :: rest) w kc ks := a_callV [.int x0] rest dX2_canSeal_2 vX2_isLive lk636 hC hq rfl rfl hst hdp hmc k
theorem dX2_useOnce_0 : decode cX2_useOnce 0 = .ok (.aload_n 0, 1) := by decide +kernel
theorem dX2_useOnce_1 : decode cX2_useOnce 1 = .ok (.iload_n 1, 1) := by decide +kernel
theorem dX2_useOnce_2 : decode cX2_useOnce 2 = .ok (.invokevirtual 38, 3) := by decide +kernel
theorem dX2_useOnce_5 : decode cX2_useOnce 5 = .ok (.ifCond .eq 23, 3) := by decide +kernel
theorem dX2_useOnce_8 : decode cX2_useOnce 8 = .ok (.aload_n 0, 1) := by decide +kernel
theorem dX2_useOnce_9 : decode cX2_useOnce 9 = .ok (.getfield 9, 3) := by decide +kernel
theorem dX2_useOnce_12 : decode cX2_useOnce 12 = .ok (.iload_n 1, 1) := by decide +kernel
theorem dX2_useOnce_13 : decode cX2_useOnce 13 = .ok (.dup2, 1) := by decide +kernel
theorem dX2_useOnce_14 : decode cX2_useOnce 14 = .ok (.iaload, 1) := by decide +kernel
theorem dX2_useOnce_15 : decode cX2_useOnce 15 = .ok (.iconst 1, 1) := by decide +kernel
theorem dX2_useOnce_16 : decode cX2_useOnce 16 = .ok (.isub, 1) := by decide +kernel
theorem dX2_useOnce_17 : decode cX2_useOnce 17 = .ok (.iastore, 1) := by decide +kernel
theorem dX2_useOnce_18 : decode cX2_useOnce 18 = .ok (.aload_n 0, 1) := by decide +kernel
theorem dX2_useOnce_19 : decode cX2_useOnce 19 = .ok (.getfield 22, 3) := by decide +kernel
theorem dX2_useOnce_22 : decode cX2_useOnce 22 = .ok (.iload_n 1, 1) := by decide +kernel
theorem dX2_useOnce_23 : decode cX2_useOnce 23 = .ok (.dup2, 1) := by decide +kernel
theorem dX2_useOnce_24 : decode cX2_useOnce 24 = .ok (.iaload, 1) := by decide +kernel
theorem dX2_useOnce_25 : decode cX2_useOnce 25 = .ok (.iconst 1, 1) := by decide +kernel
theorem dX2_useOnce_26 : decode cX2_useOnce 26 = .ok (.iadd, 1) := by decide +kernel
theorem dX2_useOnce_27 : decode cX2_useOnce 27 = .ok (.iastore, 1) := by decide +kernel
theorem dX2_useOnce_28 : decode cX2_useOnce 28 = .ok (.return_, 1) := by decide +kernel
/-! SealLine$Keys.useOnce(I)V -/
theorem eX2_useOnce {d mc ms : Nat} {w : qW} {Q : Option Value → qW → Prop} {q : Nat} {x0 : Int32} (h : AW (mX2_useOnce, d, mc, ms, none, Q) 0 [some (.ref q), some (.int x0)] [] w 0 0) : CT mX2_useOnce d mc ms [.ref q, .int x0] w Q := CT_of (by decide +kernel) rfl (Nat.le_of_ble_eq_true rfl) h
def bX2_useOnce_0 (G : Nat × Nat × Nat × Option (Nat × (Nat → Int32)) × (Option Value → qW → Prop)) : qK := (s_aload 0 (s_iload 1 (AW (mX2_useOnce, G) 2)))
theorem oX2_useOnce_0 (G : Nat × Nat × Nat × Option (Nat × (Nat → Int32)) × (Option Value → qW → Prop)) : qImp (bX2_useOnce_0 G) (AW (mX2_useOnce, G) 0) := (r_aload_n dX2_useOnce_0 rfl (r_iload_n dX2_useOnce_1 rfl qImp.rf))
def bX2_useOnce_5 (G : Nat × Nat × Nat × Option (Nat × (Nat → Int32)) × (Option Value → qW → Prop)) : qK := (s_if_eq (AW (mX2_useOnce, G) 28) (s_aload 0 (s_getfield 2 0 (s_iload 1 (s_dup2 (s_iaload (mX2_useOnce, G) (s_iconst 1 (s_isub (s_iastore (s_aload 0 (s_getfield 2 3 (s_iload 1 (s_dup2 (s_iaload (mX2_useOnce, G) (s_iconst 1 (s_iadd (s_iastore (AW (mX2_useOnce, G) 28))))))))))))))))))
theorem oX2_useOnce_5 (G : Nat × Nat × Nat × Option (Nat × (Nat → Int32)) × (Option Value → qW → Prop)) : qImp (bX2_useOnce_5 G) (AW (mX2_useOnce, G) 5) := (r_if_eq (tgt := 28) dX2_useOnce_5 rfl qImp.rf (r_aload_n dX2_useOnce_8 rfl (r_getfield dX2_useOnce_9 fgX2_9 (r_iload_n dX2_useOnce_12 rfl (r_dup2 dX2_useOnce_13 (r_iaload dX2_useOnce_14 (r_iconst dX2_useOnce_15 rfl (r_isub dX2_useOnce_16 (r_iastore dX2_useOnce_17 (r_aload_n dX2_useOnce_18 rfl (r_getfield dX2_useOnce_19 fgX2_22 (r_iload_n dX2_useOnce_22 rfl (r_dup2 dX2_useOnce_23 (r_iaload dX2_useOnce_24 (r_iconst dX2_useOnce_25 rfl (r_iadd dX2_useOnce_26 (r_iastore dX2_useOnce_27 qImp.rf)))))))))))))))))
def bX2_useOnce_28 (G : Nat × Nat × Nat × Option (Nat × (Nat → Int32)) × (Option Value → qW → Prop)) : qK := (s_vreturn (mX2_useOnce, G))
theorem oX2_useOnce_28 (G : Nat × Nat × Nat × Option (Nat × (Nat → Int32)) × (Option Value → qW → Prop)) : qImp (bX2_useOnce_28 G) (AW (mX2_useOnce, G) 28) := (r_vreturn dX2_useOnce_28 rfl)
theorem kX2_useOnce_2 {G : Nat × Nat × Nat × Option (Nat × (Nat → Int32)) × (Option Value → qW → Prop)} {L : qL} {w : qW} {kc ks : Nat} {rest : List Value} {q : Nat} {x0 : Int32} {d mc ms : Nat} {Q : Option Value → qW → Prop} (hC : CT mX2_canSeal d mc ms [.ref q, .int x0] w Q) (hq : qci w q = some 2) (hst : rest.length ≤ 4) (hdp : d + 1 ≤ G.1) (hmc : kc + mc ≤ G.2.1 ∧ ks + ms ≤ G.2.2.1) (k : ∀ r w', Q r w' → AW (mX2_useOnce, G) 5 L (r.toList ++ rest) w' (kc + mc) (ks + ms)) : AW (mX2_useOnce, G) 2 L (.int x0 :: .ref q :: rest) w kc ks := a_callV [.int x0] rest dX2_useOnce_2 vX2_canSeal lk701 hC hq rfl rfl hst hdp hmc k
theorem dX2_addUses_0 : decode cX2_addUses 0 = .ok (.aload_n 0, 1) := by decide +kernel
theorem dX2_addUses_1 : decode cX2_addUses 1 = .ok (.iload_n 1, 1) := by decide +kernel
theorem dX2_addUses_2 : decode cX2_addUses 2 = .ok (.invokevirtual 35, 3) := by decide +kernel
theorem dX2_addUses_5 : decode cX2_addUses 5 = .ok (.ifCond .eq 28, 3) := by decide +kernel
theorem dX2_addUses_8 : decode cX2_addUses 8 = .ok (.iload_n 2, 1) := by decide +kernel
theorem dX2_addUses_9 : decode cX2_addUses 9 = .ok (.iconst 1, 1) := by decide +kernel
theorem dX2_addUses_10 : decode cX2_addUses 10 = .ok (.if_icmp .lt 23, 3) := by decide +kernel
theorem dX2_addUses_13 : decode cX2_addUses 13 = .ok (.iload_n 2, 1) := by decide +kernel
theorem dX2_addUses_14 : decode cX2_addUses 14 = .ok (.sipush 1000, 3) := by decide +kernel
theorem dX2_addUses_17 : decode cX2_addUses 17 = .ok (.if_icmp .gt 16, 3) := by decide +kernel
theorem dX2_addUses_20 : decode cX2_addUses 20 = .ok (.aload_n 0, 1) := by decide +kernel
theorem dX2_addUses_21 : decode cX2_addUses 21 = .ok (.getfield 9, 3) := by decide +kernel
theorem dX2_addUses_24 : decode cX2_addUses 24 = .ok (.iload_n 1, 1) := by decide +kernel
theorem dX2_addUses_25 : decode cX2_addUses 25 = .ok (.iaload, 1) := by decide +kernel
theorem dX2_addUses_26 : decode cX2_addUses 26 = .ok (.iload_n 2, 1) := by decide +kernel
theorem dX2_addUses_27 : decode cX2_addUses 27 = .ok (.iadd, 1) := by decide +kernel
theorem dX2_addUses_28 : decode cX2_addUses 28 = .ok (.ldc 41, 2) := by decide +kernel
theorem dX2_addUses_30 : decode cX2_addUses 30 = .ok (.if_icmp .le 5, 3) := by decide +kernel
theorem dX2_addUses_33 : decode cX2_addUses 33 = .ok (.iconst (-1), 1) := by decide +kernel
theorem dX2_addUses_34 : decode cX2_addUses 34 = .ok (.ireturn, 1) := by decide +kernel
theorem dX2_addUses_35 : decode cX2_addUses 35 = .ok (.aload_n 0, 1) := by decide +kernel
theorem dX2_addUses_36 : decode cX2_addUses 36 = .ok (.getfield 9, 3) := by decide +kernel
theorem dX2_addUses_39 : decode cX2_addUses 39 = .ok (.iload_n 1, 1) := by decide +kernel
theorem dX2_addUses_40 : decode cX2_addUses 40 = .ok (.dup2, 1) := by decide +kernel
theorem dX2_addUses_41 : decode cX2_addUses 41 = .ok (.iaload, 1) := by decide +kernel
theorem dX2_addUses_42 : decode cX2_addUses 42 = .ok (.iload_n 2, 1) := by decide +kernel
theorem dX2_addUses_43 : decode cX2_addUses 43 = .ok (.iadd, 1) := by decide +kernel
theorem dX2_addUses_44 : decode cX2_addUses 44 = .ok (.iastore, 1) := by decide +kernel
theorem dX2_addUses_45 : decode cX2_addUses 45 = .ok (.aload_n 0, 1) := by decide +kernel
theorem dX2_addUses_46 : decode cX2_addUses 46 = .ok (.getfield 9, 3) := by decide +kernel
theorem dX2_addUses_49 : decode cX2_addUses 49 = .ok (.iload_n 1, 1) := by decide +kernel
theorem dX2_addUses_50 : decode cX2_addUses 50 = .ok (.iaload, 1) := by decide +kernel
theorem dX2_addUses_51 : decode cX2_addUses 51 = .ok (.ireturn, 1) := by decide +kernel
/-! SealLine$Keys.addUses(II)I -/
theorem eX2_addUses {d mc ms : Nat} {w : qW} {Q : Option Value → qW → Prop} {q : Nat} {x0 : Int32} {x1 : Int32} (h : AW (mX2_addUses, d, mc, ms, none, Q) 0 [some (.ref q), some (.int x0), some (.int x1)] [] w 0 0) : CT mX2_addUses d mc ms [.ref q, .int x0, .int x1] w Q := CT_of (by decide +kernel) rfl (Nat.le_of_ble_eq_true rfl) h
def bX2_addUses_0 (G : Nat × Nat × Nat × Option (Nat × (Nat → Int32)) × (Option Value → qW → Prop)) : qK := (s_aload 0 (s_iload 1 (AW (mX2_addUses, G) 2)))
theorem oX2_addUses_0 (G : Nat × Nat × Nat × Option (Nat × (Nat → Int32)) × (Option Value → qW → Prop)) : qImp (bX2_addUses_0 G) (AW (mX2_addUses, G) 0) := (r_aload_n dX2_addUses_0 rfl (r_iload_n dX2_addUses_1 rfl qImp.rf))
def bX2_addUses_5 (G : Nat × Nat × Nat × Option (Nat × (Nat → Int32)) × (Option Value → qW → Prop)) : qK := (s_if_eq (AW (mX2_addUses, G) 33) (s_iload 2 (s_iconst 1 (s_ic_lt (AW (mX2_addUses, G) 33) (s_iload 2 (s_iconst 1000 (s_ic_gt (AW (mX2_addUses, G) 33) (s_aload 0 (s_getfield 2 0 (s_iload 1 (s_iaload (mX2_addUses, G) (s_iload 2 (s_iadd (s_iconst 1000000 (s_ic_le (AW (mX2_addUses, G) 35) (AW (mX2_addUses, G) 33))))))))))))))))
theorem oX2_addUses_5 (G : Nat × Nat × Nat × Option (Nat × (Nat → Int32)) × (Option Value → qW → Prop)) : qImp (bX2_addUses_5 G) (AW (mX2_addUses, G) 5) := (r_if_eq (tgt := 33) dX2_addUses_5 rfl qImp.rf (r_iload_n dX2_addUses_8 rfl (r_iconst dX2_addUses_9 rfl (r_ic_lt (tgt := 33) dX2_addUses_10 rfl qImp.rf (r_iload_n dX2_addUses_13 rfl (r_sipush dX2_addUses_14 rfl (r_ic_gt (tgt := 33) dX2_addUses_17 rfl qImp.rf (r_aload_n dX2_addUses_20 rfl (r_getfield dX2_addUses_21 fgX2_9 (r_iload_n dX2_addUses_24 rfl (r_iaload dX2_addUses_25 (r_iload_n dX2_addUses_26 rfl (r_iadd dX2_addUses_27 (r_ldc dX2_addUses_28 lk714 (r_ic_le (tgt := 35) dX2_addUses_30 rfl qImp.rf qImp.rf)))))))))))))))
def bX2_addUses_33 (G : Nat × Nat × Nat × Option (Nat × (Nat → Int32)) × (Option Value → qW → Prop)) : qK := (s_iconst (-1) (s_ireturn (mX2_addUses, G)))
theorem oX2_addUses_33 (G : Nat × Nat × Nat × Option (Nat × (Nat → Int32)) × (Option Value → qW → Prop)) : qImp (bX2_addUses_33 G) (AW (mX2_addUses, G) 33) := (r_iconst dX2_addUses_33 rfl (r_ireturn dX2_addUses_34 rfl))
def bX2_addUses_35 (G : Nat × Nat × Nat × Option (Nat × (Nat → Int32)) × (Option Value → qW → Prop)) : qK := (s_aload 0 (s_getfield 2 0 (s_iload 1 (s_dup2 (s_iaload (mX2_addUses, G) (s_iload 2 (s_iadd (s_iastore (s_aload 0 (s_getfield 2 0 (s_iload 1 (s_iaload (mX2_addUses, G) (s_ireturn (mX2_addUses, G))))))))))))))
theorem oX2_addUses_35 (G : Nat × Nat × Nat × Option (Nat × (Nat → Int32)) × (Option Value → qW → Prop)) : qImp (bX2_addUses_35 G) (AW (mX2_addUses, G) 35) := (r_aload_n dX2_addUses_35 rfl (r_getfield dX2_addUses_36 fgX2_9 (r_iload_n dX2_addUses_39 rfl (r_dup2 dX2_addUses_40 (r_iaload dX2_addUses_41 (r_iload_n dX2_addUses_42 rfl (r_iadd dX2_addUses_43 (r_iastore dX2_addUses_44 (r_aload_n dX2_addUses_45 rfl (r_getfield dX2_addUses_46 fgX2_9 (r_iload_n dX2_addUses_49 rfl (r_iaload dX2_addUses_50 (r_ireturn dX2_addUses_51 rfl)))))))))))))
theorem kX2_addUses_2 {G : Nat × Nat × Nat × Option (Nat × (Nat → Int32)) × (Option Value → qW → Prop)} {L : qL} {w : qW} {kc ks : Nat} {rest : List Value} {q : Nat} {x0 : Int32} {d mc ms : Nat} {Q : Option Value → qW → Prop} (hC : CT mX2_isLive d mc ms [.ref q, .int x0] w Q) (hq : qci w q = some 2) (hst : rest.length ≤ 4) (hdp : d + 1 ≤ G.1) (hmc : kc + mc ≤ G.2.1 ∧ ks + ms ≤ G.2.2.1) (k : ∀ r w', Q r w' → AW (mX2_addUses, G) 5 L (r.toList ++ rest) w' (kc + mc) (ks + ms)) : AW (mX2_addUses, G) 2 L (.int x0 :: .ref q :: rest) w kc ks := a_callV [.int x0] rest dX2_addUses_2 vX2_isLive lk636 hC hq rfl rfl hst hdp hmc k
theorem dX2_endOne_0 : decode cX2_endOne 0 = .ok (.aload_n 0, 1) := by decide +kernel
theorem dX2_endOne_1 : decode cX2_endOne 1 = .ok (.iload_n 1, 1) := by decide +kernel
theorem dX2_endOne_2 : decode cX2_endOne 2 = .ok (.invokevirtual 35, 3) := by decide +kernel
theorem dX2_endOne_5 : decode cX2_endOne 5 = .ok (.ifCond .ne 5, 3) := by decide +kernel
theorem dX2_endOne_8 : decode cX2_endOne 8 = .ok (.iconst 0, 1) := by decide +kernel
theorem dX2_endOne_9 : decode cX2_endOne 9 = .ok (.ireturn, 1) := by decide +kernel
theorem dX2_endOne_10 : decode cX2_endOne 10 = .ok (.aload_n 0, 1) := by decide +kernel
theorem dX2_endOne_11 : decode cX2_endOne 11 = .ok (.getfield 15, 3) := by decide +kernel
theorem dX2_endOne_14 : decode cX2_endOne 14 = .ok (.iload_n 1, 1) := by decide +kernel
theorem dX2_endOne_15 : decode cX2_endOne 15 = .ok (.iconst 1, 1) := by decide +kernel
theorem dX2_endOne_16 : decode cX2_endOne 16 = .ok (.bastore, 1) := by decide +kernel
theorem dX2_endOne_17 : decode cX2_endOne 17 = .ok (.iconst 1, 1) := by decide +kernel
theorem dX2_endOne_18 : decode cX2_endOne 18 = .ok (.ireturn, 1) := by decide +kernel
/-! SealLine$Keys.endOne(I)Z -/
theorem eX2_endOne {d mc ms : Nat} {w : qW} {Q : Option Value → qW → Prop} {q : Nat} {x0 : Int32} (h : AW (mX2_endOne, d, mc, ms, none, Q) 0 [some (.ref q), some (.int x0)] [] w 0 0) : CT mX2_endOne d mc ms [.ref q, .int x0] w Q := CT_of (by decide +kernel) rfl (Nat.le_of_ble_eq_true rfl) h
def bX2_endOne_0 (G : Nat × Nat × Nat × Option (Nat × (Nat → Int32)) × (Option Value → qW → Prop)) : qK := (s_aload 0 (s_iload 1 (AW (mX2_endOne, G) 2)))
theorem oX2_endOne_0 (G : Nat × Nat × Nat × Option (Nat × (Nat → Int32)) × (Option Value → qW → Prop)) : qImp (bX2_endOne_0 G) (AW (mX2_endOne, G) 0) := (r_aload_n dX2_endOne_0 rfl (r_iload_n dX2_endOne_1 rfl qImp.rf))
def bX2_endOne_5 (G : Nat × Nat × Nat × Option (Nat × (Nat → Int32)) × (Option Value → qW → Prop)) : qK := (s_if_ne (AW (mX2_endOne, G) 10) (s_iconst 0 (s_zreturn (mX2_endOne, G))))
theorem oX2_endOne_5 (G : Nat × Nat × Nat × Option (Nat × (Nat → Int32)) × (Option Value → qW → Prop)) : qImp (bX2_endOne_5 G) (AW (mX2_endOne, G) 5) := (r_if_ne (tgt := 10) dX2_endOne_5 rfl qImp.rf (r_iconst dX2_endOne_8 rfl (r_zreturn dX2_endOne_9 rfl)))
def bX2_endOne_10 (G : Nat × Nat × Nat × Option (Nat × (Nat → Int32)) × (Option Value → qW → Prop)) : qK := (s_aload 0 (s_getfield 2 1 (s_iload 1 (s_iconst 1 (s_bastore (s_iconst 1 (s_zreturn (mX2_endOne, G))))))))
theorem oX2_endOne_10 (G : Nat × Nat × Nat × Option (Nat × (Nat → Int32)) × (Option Value → qW → Prop)) : qImp (bX2_endOne_10 G) (AW (mX2_endOne, G) 10) := (r_aload_n dX2_endOne_10 rfl (r_getfield dX2_endOne_11 fgX2_15 (r_iload_n dX2_endOne_14 rfl (r_iconst dX2_endOne_15 rfl (r_bastore dX2_endOne_16 (r_iconst dX2_endOne_17 rfl (r_zreturn dX2_endOne_18 rfl)))))))
theorem kX2_endOne_2 {G : Nat × Nat × Nat × Option (Nat × (Nat → Int32)) × (Option Value → qW → Prop)} {L : qL} {w : qW} {kc ks : Nat} {rest : List Value} {q : Nat} {x0 : Int32} {d mc ms : Nat} {Q : Option Value → qW → Prop} (hC : CT mX2_isLive d mc ms [.ref q, .int x0] w Q) (hq : qci w q = some 2) (hst : rest.length ≤ 4) (hdp : d + 1 ≤ G.1) (hmc : kc + mc ≤ G.2.1 ∧ ks + ms ≤ G.2.2.1) (k : ∀ r w', Q r w' → AW (mX2_endOne, G) 5 L (r.toList ++ rest) w' (kc + mc) (ks + ms)) : AW (mX2_endOne, G) 2 L (.int x0 :: .ref q :: rest) w kc ks := a_callV [.int x0] rest dX2_endOne_2 vX2_isLive lk636 hC hq rfl rfl hst hdp hmc k
theorem dX2_loseOne_0 : decode cX2_loseOne 0 = .ok (.iload_n 1, 1) := by decide +kernel
theorem dX2_loseOne_1 : decode cX2_loseOne 1 = .ok (.invokestatic 31, 3) := by decide +kernel
theorem dX2_loseOne_4 : decode cX2_loseOne 4 = .ok (.ifCond .eq 13, 3) := by decide +kernel
theorem dX2_loseOne_7 : decode cX2_loseOne 7 = .ok (.aload_n 0, 1) := by decide +kernel
theorem dX2_loseOne_8 : decode cX2_loseOne 8 = .ok (.getfield 19, 3) := by decide +kernel
theorem dX2_loseOne_11 : decode cX2_loseOne 11 = .ok (.iload_n 1, 1) := by decide +kernel
theorem dX2_loseOne_12 : decode cX2_loseOne 12 = .ok (.iaload, 1) := by decide +kernel
theorem dX2_loseOne_13 : decode cX2_loseOne 13 = .ok (.iconst (-1), 1) := by decide +kernel
theorem dX2_loseOne_14 : decode cX2_loseOne 14 = .ok (.if_icmp .eq 5, 3) := by decide +kernel
theorem dX2_loseOne_17 : decode cX2_loseOne 17 = .ok (.iconst 0, 1) := by decide +kernel
theorem dX2_loseOne_18 : decode cX2_loseOne 18 = .ok (.ireturn, 1) := by decide +kernel
theorem dX2_loseOne_19 : decode cX2_loseOne 19 = .ok (.aload_n 0, 1) := by decide +kernel
theorem dX2_loseOne_20 : decode cX2_loseOne 20 = .ok (.getfield 19, 3) := by decide +kernel
theorem dX2_loseOne_23 : decode cX2_loseOne 23 = .ok (.iload_n 1, 1) := by decide +kernel
theorem dX2_loseOne_24 : decode cX2_loseOne 24 = .ok (.iload_n 2, 1) := by decide +kernel
theorem dX2_loseOne_25 : decode cX2_loseOne 25 = .ok (.iastore, 1) := by decide +kernel
theorem dX2_loseOne_26 : decode cX2_loseOne 26 = .ok (.iconst 1, 1) := by decide +kernel
theorem dX2_loseOne_27 : decode cX2_loseOne 27 = .ok (.ireturn, 1) := by decide +kernel
/-! SealLine$Keys.loseOne(II)Z -/
theorem eX2_loseOne {d mc ms : Nat} {w : qW} {Q : Option Value → qW → Prop} {q : Nat} {x0 : Int32} {x1 : Int32} (h : AW (mX2_loseOne, d, mc, ms, none, Q) 0 [some (.ref q), some (.int x0), some (.int x1)] [] w 0 0) : CT mX2_loseOne d mc ms [.ref q, .int x0, .int x1] w Q := CT_of (by decide +kernel) rfl (Nat.le_of_ble_eq_true rfl) h
def bX2_loseOne_0 (G : Nat × Nat × Nat × Option (Nat × (Nat → Int32)) × (Option Value → qW → Prop)) : qK := (s_iload 1 (AW (mX2_loseOne, G) 1))
theorem oX2_loseOne_0 (G : Nat × Nat × Nat × Option (Nat × (Nat → Int32)) × (Option Value → qW → Prop)) : qImp (bX2_loseOne_0 G) (AW (mX2_loseOne, G) 0) := (r_iload_n dX2_loseOne_0 rfl qImp.rf)
def bX2_loseOne_4 (G : Nat × Nat × Nat × Option (Nat × (Nat → Int32)) × (Option Value → qW → Prop)) : qK := (s_if_eq (AW (mX2_loseOne, G) 17) (s_aload 0 (s_getfield 2 2 (s_iload 1 (s_iaload (mX2_loseOne, G) (s_iconst (-1) (s_ic_eq (AW (mX2_loseOne, G) 19) (AW (mX2_loseOne, G) 17))))))))
theorem oX2_loseOne_4 (G : Nat × Nat × Nat × Option (Nat × (Nat → Int32)) × (Option Value → qW → Prop)) : qImp (bX2_loseOne_4 G) (AW (mX2_loseOne, G) 4) := (r_if_eq (tgt := 17) dX2_loseOne_4 rfl qImp.rf (r_aload_n dX2_loseOne_7 rfl (r_getfield dX2_loseOne_8 fgX2_19 (r_iload_n dX2_loseOne_11 rfl (r_iaload dX2_loseOne_12 (r_iconst dX2_loseOne_13 rfl (r_ic_eq (tgt := 19) dX2_loseOne_14 rfl qImp.rf qImp.rf)))))))
def bX2_loseOne_17 (G : Nat × Nat × Nat × Option (Nat × (Nat → Int32)) × (Option Value → qW → Prop)) : qK := (s_iconst 0 (s_zreturn (mX2_loseOne, G)))
theorem oX2_loseOne_17 (G : Nat × Nat × Nat × Option (Nat × (Nat → Int32)) × (Option Value → qW → Prop)) : qImp (bX2_loseOne_17 G) (AW (mX2_loseOne, G) 17) := (r_iconst dX2_loseOne_17 rfl (r_zreturn dX2_loseOne_18 rfl))
def bX2_loseOne_19 (G : Nat × Nat × Nat × Option (Nat × (Nat → Int32)) × (Option Value → qW → Prop)) : qK := (s_aload 0 (s_getfield 2 2 (s_iload 1 (s_iload 2 (s_iastore (s_iconst 1 (s_zreturn (mX2_loseOne, G))))))))
theorem oX2_loseOne_19 (G : Nat × Nat × Nat × Option (Nat × (Nat → Int32)) × (Option Value → qW → Prop)) : qImp (bX2_loseOne_19 G) (AW (mX2_loseOne, G) 19) := (r_aload_n dX2_loseOne_19 rfl (r_getfield dX2_loseOne_20 fgX2_19 (r_iload_n dX2_loseOne_23 rfl (r_iload_n dX2_loseOne_24 rfl (r_iastore dX2_loseOne_25 (r_iconst dX2_loseOne_26 rfl (r_zreturn dX2_loseOne_27 rfl)))))))
theorem kX2_loseOne_1 {G : Nat × Nat × Nat × Option (Nat × (Nat → Int32)) × (Option Value → qW → Prop)} {L : qL} {w : qW} {kc ks : Nat} {rest : List Value}  {x0 : Int32} {d mc ms : Nat} {Q : Option Value → qW → Prop} (hC : CT mX2_isKey d mc ms [.int x0] w Q) (hst : rest.length ≤ 4) (hdp : d + 1 ≤ G.1) (hmc : kc + mc ≤ G.2.1 ∧ ks + ms ≤ G.2.2.1) (k : ∀ r w', Q r w' → AW (mX2_loseOne, G) 4 L (r.toList ++ rest) w' (kc + mc) (ks + ms)) : AW (mX2_loseOne, G) 1 L (.int x0 :: rest) w kc ks := a_callS [.int x0] rest dX2_loseOne_1 tX2_isKey lk640 hC rfl hst hdp hmc k
theorem dX2_lostSince_0 : decode cX2_lostSince 0 = .ok (.iload_n 1, 1) := by decide +kernel
theorem dX2_lostSince_1 : decode cX2_lostSince 1 = .ok (.invokestatic 31, 3) := by decide +kernel
theorem dX2_lostSince_4 : decode cX2_lostSince 4 = .ok (.ifCond .eq 12, 3) := by decide +kernel
theorem dX2_lostSince_7 : decode cX2_lostSince 7 = .ok (.aload_n 0, 1) := by decide +kernel
theorem dX2_lostSince_8 : decode cX2_lostSince 8 = .ok (.getfield 19, 3) := by decide +kernel
theorem dX2_lostSince_11 : decode cX2_lostSince 11 = .ok (.iload_n 1, 1) := by decide +kernel
theorem dX2_lostSince_12 : decode cX2_lostSince 12 = .ok (.iaload, 1) := by decide +kernel
theorem dX2_lostSince_13 : decode cX2_lostSince 13 = .ok (.goto 4, 3) := by decide +kernel
theorem dX2_lostSince_16 : decode cX2_lostSince 16 = .ok (.iconst (-1), 1) := by decide +kernel
theorem dX2_lostSince_17 : decode cX2_lostSince 17 = .ok (.ireturn, 1) := by decide +kernel
/-! SealLine$Keys.lostSince(I)I -/
theorem eX2_lostSince {d mc ms : Nat} {w : qW} {Q : Option Value → qW → Prop} {q : Nat} {x0 : Int32} (h : AW (mX2_lostSince, d, mc, ms, none, Q) 0 [some (.ref q), some (.int x0)] [] w 0 0) : CT mX2_lostSince d mc ms [.ref q, .int x0] w Q := CT_of (by decide +kernel) rfl (Nat.le_of_ble_eq_true rfl) h
def bX2_lostSince_0 (G : Nat × Nat × Nat × Option (Nat × (Nat → Int32)) × (Option Value → qW → Prop)) : qK := (s_iload 1 (AW (mX2_lostSince, G) 1))
theorem oX2_lostSince_0 (G : Nat × Nat × Nat × Option (Nat × (Nat → Int32)) × (Option Value → qW → Prop)) : qImp (bX2_lostSince_0 G) (AW (mX2_lostSince, G) 0) := (r_iload_n dX2_lostSince_0 rfl qImp.rf)
def bX2_lostSince_4 (G : Nat × Nat × Nat × Option (Nat × (Nat → Int32)) × (Option Value → qW → Prop)) : qK := (s_if_eq (AW (mX2_lostSince, G) 16) (s_aload 0 (s_getfield 2 2 (s_iload 1 (s_iaload (mX2_lostSince, G) (AW (mX2_lostSince, G) 17))))))
theorem oX2_lostSince_4 (G : Nat × Nat × Nat × Option (Nat × (Nat → Int32)) × (Option Value → qW → Prop)) : qImp (bX2_lostSince_4 G) (AW (mX2_lostSince, G) 4) := (r_if_eq (tgt := 16) dX2_lostSince_4 rfl qImp.rf (r_aload_n dX2_lostSince_7 rfl (r_getfield dX2_lostSince_8 fgX2_19 (r_iload_n dX2_lostSince_11 rfl (r_iaload dX2_lostSince_12 (r_goto (tgt := 17) dX2_lostSince_13 rfl qImp.rf))))))
def bX2_lostSince_16 (G : Nat × Nat × Nat × Option (Nat × (Nat → Int32)) × (Option Value → qW → Prop)) : qK := (s_iconst (-1) (AW (mX2_lostSince, G) 17))
theorem oX2_lostSince_16 (G : Nat × Nat × Nat × Option (Nat × (Nat → Int32)) × (Option Value → qW → Prop)) : qImp (bX2_lostSince_16 G) (AW (mX2_lostSince, G) 16) := (r_iconst dX2_lostSince_16 rfl qImp.rf)
def bX2_lostSince_17 (G : Nat × Nat × Nat × Option (Nat × (Nat → Int32)) × (Option Value → qW → Prop)) : qK := (s_ireturn (mX2_lostSince, G))
theorem oX2_lostSince_17 (G : Nat × Nat × Nat × Option (Nat × (Nat → Int32)) × (Option Value → qW → Prop)) : qImp (bX2_lostSince_17 G) (AW (mX2_lostSince, G) 17) := (r_ireturn dX2_lostSince_17 rfl)
theorem kX2_lostSince_1 {G : Nat × Nat × Nat × Option (Nat × (Nat → Int32)) × (Option Value → qW → Prop)} {L : qL} {w : qW} {kc ks : Nat} {rest : List Value}  {x0 : Int32} {d mc ms : Nat} {Q : Option Value → qW → Prop} (hC : CT mX2_isKey d mc ms [.int x0] w Q) (hst : rest.length ≤ 4) (hdp : d + 1 ≤ G.1) (hmc : kc + mc ≤ G.2.1 ∧ ks + ms ≤ G.2.2.1) (k : ∀ r w', Q r w' → AW (mX2_lostSince, G) 4 L (r.toList ++ rest) w' (kc + mc) (ks + ms)) : AW (mX2_lostSince, G) 1 L (.int x0 :: rest) w kc ks := a_callS [.int x0] rest dX2_lostSince_1 tX2_isKey lk640 hC rfl hst hdp hmc k
theorem dX2_tell_0 : decode cX2_tell 0 = .ok (.iload_n 1, 1) := by decide +kernel
theorem dX2_tell_1 : decode cX2_tell 1 = .ok (.invokestatic 31, 3) := by decide +kernel
theorem dX2_tell_4 : decode cX2_tell 4 = .ok (.ifCond .ne 5, 3) := by decide +kernel
theorem dX2_tell_7 : decode cX2_tell 7 = .ok (.iconst (-1), 1) := by decide +kernel
theorem dX2_tell_8 : decode cX2_tell 8 = .ok (.ireturn, 1) := by decide +kernel
theorem dX2_tell_9 : decode cX2_tell 9 = .ok (.iload_n 2, 1) := by decide +kernel
theorem dX2_tell_10 : decode cX2_tell 10 = .ok (.tableswitch 61 0 3 #[30, 37, 47, 54], 30) := by decide +kernel
theorem dX2_tell_40 : decode cX2_tell 40 = .ok (.aload_n 0, 1) := by decide +kernel
theorem dX2_tell_41 : decode cX2_tell 41 = .ok (.getfield 9, 3) := by decide +kernel
theorem dX2_tell_44 : decode cX2_tell 44 = .ok (.iload_n 1, 1) := by decide +kernel
theorem dX2_tell_45 : decode cX2_tell 45 = .ok (.iaload, 1) := by decide +kernel
theorem dX2_tell_46 : decode cX2_tell 46 = .ok (.ireturn, 1) := by decide +kernel
theorem dX2_tell_47 : decode cX2_tell 47 = .ok (.aload_n 0, 1) := by decide +kernel
theorem dX2_tell_48 : decode cX2_tell 48 = .ok (.getfield 15, 3) := by decide +kernel
theorem dX2_tell_51 : decode cX2_tell 51 = .ok (.iload_n 1, 1) := by decide +kernel
theorem dX2_tell_52 : decode cX2_tell 52 = .ok (.baload, 1) := by decide +kernel
theorem dX2_tell_53 : decode cX2_tell 53 = .ok (.invokestatic 42, 3) := by decide +kernel
theorem dX2_tell_56 : decode cX2_tell 56 = .ok (.ireturn, 1) := by decide +kernel
theorem dX2_tell_57 : decode cX2_tell 57 = .ok (.aload_n 0, 1) := by decide +kernel
theorem dX2_tell_58 : decode cX2_tell 58 = .ok (.getfield 19, 3) := by decide +kernel
theorem dX2_tell_61 : decode cX2_tell 61 = .ok (.iload_n 1, 1) := by decide +kernel
theorem dX2_tell_62 : decode cX2_tell 62 = .ok (.iaload, 1) := by decide +kernel
theorem dX2_tell_63 : decode cX2_tell 63 = .ok (.ireturn, 1) := by decide +kernel
theorem dX2_tell_64 : decode cX2_tell 64 = .ok (.aload_n 0, 1) := by decide +kernel
theorem dX2_tell_65 : decode cX2_tell 65 = .ok (.getfield 22, 3) := by decide +kernel
theorem dX2_tell_68 : decode cX2_tell 68 = .ok (.iload_n 1, 1) := by decide +kernel
theorem dX2_tell_69 : decode cX2_tell 69 = .ok (.iaload, 1) := by decide +kernel
theorem dX2_tell_70 : decode cX2_tell 70 = .ok (.ireturn, 1) := by decide +kernel
theorem dX2_tell_71 : decode cX2_tell 71 = .ok (.iconst (-1), 1) := by decide +kernel
theorem dX2_tell_72 : decode cX2_tell 72 = .ok (.ireturn, 1) := by decide +kernel
/-! SealLine$Keys.tell(II)I -/
theorem eX2_tell {d mc ms : Nat} {w : qW} {Q : Option Value → qW → Prop} {q : Nat} {x0 : Int32} {x1 : Int32} (h : AW (mX2_tell, d, mc, ms, none, Q) 0 [some (.ref q), some (.int x0), some (.int x1)] [] w 0 0) : CT mX2_tell d mc ms [.ref q, .int x0, .int x1] w Q := CT_of (by decide +kernel) rfl (Nat.le_of_ble_eq_true rfl) h
def bX2_tell_0 (G : Nat × Nat × Nat × Option (Nat × (Nat → Int32)) × (Option Value → qW → Prop)) : qK := (s_iload 1 (AW (mX2_tell, G) 1))
theorem oX2_tell_0 (G : Nat × Nat × Nat × Option (Nat × (Nat → Int32)) × (Option Value → qW → Prop)) : qImp (bX2_tell_0 G) (AW (mX2_tell, G) 0) := (r_iload_n dX2_tell_0 rfl qImp.rf)
def bX2_tell_4 (G : Nat × Nat × Nat × Option (Nat × (Nat → Int32)) × (Option Value → qW → Prop)) : qK := (s_if_ne (AW (mX2_tell, G) 9) (s_iconst (-1) (s_ireturn (mX2_tell, G))))
theorem oX2_tell_4 (G : Nat × Nat × Nat × Option (Nat × (Nat → Int32)) × (Option Value → qW → Prop)) : qImp (bX2_tell_4 G) (AW (mX2_tell, G) 4) := (r_if_ne (tgt := 9) dX2_tell_4 rfl qImp.rf (r_iconst dX2_tell_7 rfl (r_ireturn dX2_tell_8 rfl)))
def bX2_tell_9 (G : Nat × Nat × Nat × Option (Nat × (Nat → Int32)) × (Option Value → qW → Prop)) : qK := (s_iload 2 (AW (mX2_tell, G) 10))
theorem oX2_tell_9 (G : Nat × Nat × Nat × Option (Nat × (Nat → Int32)) × (Option Value → qW → Prop)) : qImp (bX2_tell_9 G) (AW (mX2_tell, G) 9) := (r_iload_n dX2_tell_9 rfl qImp.rf)
def bX2_tell_40 (G : Nat × Nat × Nat × Option (Nat × (Nat → Int32)) × (Option Value → qW → Prop)) : qK := (s_aload 0 (s_getfield 2 0 (s_iload 1 (s_iaload (mX2_tell, G) (s_ireturn (mX2_tell, G))))))
theorem oX2_tell_40 (G : Nat × Nat × Nat × Option (Nat × (Nat → Int32)) × (Option Value → qW → Prop)) : qImp (bX2_tell_40 G) (AW (mX2_tell, G) 40) := (r_aload_n dX2_tell_40 rfl (r_getfield dX2_tell_41 fgX2_9 (r_iload_n dX2_tell_44 rfl (r_iaload dX2_tell_45 (r_ireturn dX2_tell_46 rfl)))))
def bX2_tell_47 (G : Nat × Nat × Nat × Option (Nat × (Nat → Int32)) × (Option Value → qW → Prop)) : qK := (s_aload 0 (s_getfield 2 1 (s_iload 1 (s_baload (AW (mX2_tell, G) 53)))))
theorem oX2_tell_47 (G : Nat × Nat × Nat × Option (Nat × (Nat → Int32)) × (Option Value → qW → Prop)) : qImp (bX2_tell_47 G) (AW (mX2_tell, G) 47) := (r_aload_n dX2_tell_47 rfl (r_getfield dX2_tell_48 fgX2_15 (r_iload_n dX2_tell_51 rfl (r_baload dX2_tell_52 qImp.rf))))
def bX2_tell_56 (G : Nat × Nat × Nat × Option (Nat × (Nat → Int32)) × (Option Value → qW → Prop)) : qK := (s_ireturn (mX2_tell, G))
theorem oX2_tell_56 (G : Nat × Nat × Nat × Option (Nat × (Nat → Int32)) × (Option Value → qW → Prop)) : qImp (bX2_tell_56 G) (AW (mX2_tell, G) 56) := (r_ireturn dX2_tell_56 rfl)
def bX2_tell_57 (G : Nat × Nat × Nat × Option (Nat × (Nat → Int32)) × (Option Value → qW → Prop)) : qK := (s_aload 0 (s_getfield 2 2 (s_iload 1 (s_iaload (mX2_tell, G) (s_ireturn (mX2_tell, G))))))
theorem oX2_tell_57 (G : Nat × Nat × Nat × Option (Nat × (Nat → Int32)) × (Option Value → qW → Prop)) : qImp (bX2_tell_57 G) (AW (mX2_tell, G) 57) := (r_aload_n dX2_tell_57 rfl (r_getfield dX2_tell_58 fgX2_19 (r_iload_n dX2_tell_61 rfl (r_iaload dX2_tell_62 (r_ireturn dX2_tell_63 rfl)))))
def bX2_tell_64 (G : Nat × Nat × Nat × Option (Nat × (Nat → Int32)) × (Option Value → qW → Prop)) : qK := (s_aload 0 (s_getfield 2 3 (s_iload 1 (s_iaload (mX2_tell, G) (s_ireturn (mX2_tell, G))))))
theorem oX2_tell_64 (G : Nat × Nat × Nat × Option (Nat × (Nat → Int32)) × (Option Value → qW → Prop)) : qImp (bX2_tell_64 G) (AW (mX2_tell, G) 64) := (r_aload_n dX2_tell_64 rfl (r_getfield dX2_tell_65 fgX2_22 (r_iload_n dX2_tell_68 rfl (r_iaload dX2_tell_69 (r_ireturn dX2_tell_70 rfl)))))
def bX2_tell_71 (G : Nat × Nat × Nat × Option (Nat × (Nat → Int32)) × (Option Value → qW → Prop)) : qK := (s_iconst (-1) (s_ireturn (mX2_tell, G)))
theorem oX2_tell_71 (G : Nat × Nat × Nat × Option (Nat × (Nat → Int32)) × (Option Value → qW → Prop)) : qImp (bX2_tell_71 G) (AW (mX2_tell, G) 71) := (r_iconst dX2_tell_71 rfl (r_ireturn dX2_tell_72 rfl))
theorem kX2_tell_1 {G : Nat × Nat × Nat × Option (Nat × (Nat → Int32)) × (Option Value → qW → Prop)} {L : qL} {w : qW} {kc ks : Nat} {rest : List Value}  {x0 : Int32} {d mc ms : Nat} {Q : Option Value → qW → Prop} (hC : CT mX2_isKey d mc ms [.int x0] w Q) (hst : rest.length ≤ 4) (hdp : d + 1 ≤ G.1) (hmc : kc + mc ≤ G.2.1 ∧ ks + ms ≤ G.2.2.1) (k : ∀ r w', Q r w' → AW (mX2_tell, G) 4 L (r.toList ++ rest) w' (kc + mc) (ks + ms)) : AW (mX2_tell, G) 1 L (.int x0 :: rest) w kc ks := a_callS [.int x0] rest dX2_tell_1 tX2_isKey lk640 hC rfl hst hdp hmc k
theorem kX2_tell_53 {G : Nat × Nat × Nat × Option (Nat × (Nat → Int32)) × (Option Value → qW → Prop)} {L : qL} {w : qW} {kc ks : Nat} {rest : List Value}  {x0 : Int32} {d mc ms : Nat} {Q : Option Value → qW → Prop} (hC : CT mX10_bit d mc ms [.int x0] w Q) (hst : rest.length ≤ 4) (hdp : d + 1 ≤ G.1) (hmc : kc + mc ≤ G.2.1 ∧ ks + ms ≤ G.2.2.1) (k : ∀ r w', Q r w' → AW (mX2_tell, G) 56 L (r.toList ++ rest) w' (kc + mc) (ks + ms)) : AW (mX2_tell, G) 53 L (.int x0 :: rest) w kc ks := a_callSN [.int x0] rest dX2_tell_53 tX10_bit lnX2_42 hC rfl hst hdp hmc k
