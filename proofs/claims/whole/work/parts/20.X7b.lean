theorem dX7_addClean_0 : decode cX7_addClean 0 = .ok (.aload_n 1, 1) := by decide +kernel
theorem dX7_addClean_1 : decode cX7_addClean 1 = .ok (.iload_n 2, 1) := by decide +kernel
theorem dX7_addClean_2 : decode cX7_addClean 2 = .ok (.iconst 1, 1) := by decide +kernel
theorem dX7_addClean_3 : decode cX7_addClean 3 = .ok (.invokevirtual 88, 3) := by decide +kernel
theorem dX7_addClean_6 : decode cX7_addClean 6 = .ok (.istore_n 3, 1) := by decide +kernel
theorem dX7_addClean_7 : decode cX7_addClean 7 = .ok (.aload_n 0, 1) := by decide +kernel
theorem dX7_addClean_8 : decode cX7_addClean 8 = .ok (.iload_n 3, 1) := by decide +kernel
theorem dX7_addClean_9 : decode cX7_addClean 9 = .ok (.invokevirtual 43, 3) := by decide +kernel
theorem dX7_addClean_12 : decode cX7_addClean 12 = .ok (.ifCond .eq 20, 3) := by decide +kernel
theorem dX7_addClean_15 : decode cX7_addClean 15 = .ok (.aload_n 0, 1) := by decide +kernel
theorem dX7_addClean_16 : decode cX7_addClean 16 = .ok (.iload_n 3, 1) := by decide +kernel
theorem dX7_addClean_17 : decode cX7_addClean 17 = .ok (.invokevirtual 102, 3) := by decide +kernel
theorem dX7_addClean_20 : decode cX7_addClean 20 = .ok (.ifCond .ne 12, 3) := by decide +kernel
theorem dX7_addClean_23 : decode cX7_addClean 23 = .ok (.aload_n 0, 1) := by decide +kernel
theorem dX7_addClean_24 : decode cX7_addClean 24 = .ok (.aload_n 1, 1) := by decide +kernel
theorem dX7_addClean_25 : decode cX7_addClean 25 = .ok (.iload_n 2, 1) := by decide +kernel
theorem dX7_addClean_26 : decode cX7_addClean 26 = .ok (.invokevirtual 105, 3) := by decide +kernel
theorem dX7_addClean_29 : decode cX7_addClean 29 = .ok (.ifCond .ne 5, 3) := by decide +kernel
theorem dX7_addClean_32 : decode cX7_addClean 32 = .ok (.iconst 0, 1) := by decide +kernel
theorem dX7_addClean_33 : decode cX7_addClean 33 = .ok (.ireturn, 1) := by decide +kernel
theorem dX7_addClean_34 : decode cX7_addClean 34 = .ok (.aload_n 0, 1) := by decide +kernel
theorem dX7_addClean_35 : decode cX7_addClean 35 = .ok (.getfield 35, 3) := by decide +kernel
theorem dX7_addClean_38 : decode cX7_addClean 38 = .ok (.iload_n 3, 1) := by decide +kernel
theorem dX7_addClean_39 : decode cX7_addClean 39 = .ok (.invokevirtual 51, 3) := by decide +kernel
theorem dX7_addClean_42 : decode cX7_addClean 42 = .ok (.iconst 1, 1) := by decide +kernel
theorem dX7_addClean_43 : decode cX7_addClean 43 = .ok (.ireturn, 1) := by decide +kernel
/-! SealLine$Shelf.addClean(LSealLine$Table;I)Z -/
theorem eX7_addClean {d mc ms : Nat} {w : qW} {Q : Option Value → qW → Prop} {q : Nat} {x0 : Nat} {x1 : Int32} (h : AW (mX7_addClean, d, mc, ms, none, Q) 0 [some (.ref q), some (.ref x0), some (.int x1), none] [] w 0 0) : CT mX7_addClean d mc ms [.ref q, .ref x0, .int x1] w Q := CT_of (by decide +kernel) rfl (Nat.le_of_ble_eq_true rfl) h
def bX7_addClean_0 (G : Nat × Nat × Nat × Option (Nat × (Nat → Int32)) × (Option Value → qW → Prop)) : qK := (s_aload 1 (s_iload 2 (s_iconst 1 (AW (mX7_addClean, G) 3))))
theorem oX7_addClean_0 (G : Nat × Nat × Nat × Option (Nat × (Nat → Int32)) × (Option Value → qW → Prop)) : qImp (bX7_addClean_0 G) (AW (mX7_addClean, G) 0) := (r_aload_n dX7_addClean_0 rfl (r_iload_n dX7_addClean_1 rfl (r_iconst dX7_addClean_2 rfl qImp.rf)))
def bX7_addClean_6 (G : Nat × Nat × Nat × Option (Nat × (Nat → Int32)) × (Option Value → qW → Prop)) : qK := (s_istore 3 2 (s_aload 0 (s_iload 3 (AW (mX7_addClean, G) 9))))
theorem oX7_addClean_6 (G : Nat × Nat × Nat × Option (Nat × (Nat → Int32)) × (Option Value → qW → Prop)) : qImp (bX7_addClean_6 G) (AW (mX7_addClean, G) 6) := (r_istore_n dX7_addClean_6 rfl (Or.inr rfl) (Nat.le_of_ble_eq_true rfl) (r_aload_n dX7_addClean_7 rfl (r_iload_n dX7_addClean_8 rfl qImp.rf)))
def bX7_addClean_12 (G : Nat × Nat × Nat × Option (Nat × (Nat → Int32)) × (Option Value → qW → Prop)) : qK := (s_if_eq (AW (mX7_addClean, G) 32) (s_aload 0 (s_iload 3 (AW (mX7_addClean, G) 17))))
theorem oX7_addClean_12 (G : Nat × Nat × Nat × Option (Nat × (Nat → Int32)) × (Option Value → qW → Prop)) : qImp (bX7_addClean_12 G) (AW (mX7_addClean, G) 12) := (r_if_eq (tgt := 32) dX7_addClean_12 rfl qImp.rf (r_aload_n dX7_addClean_15 rfl (r_iload_n dX7_addClean_16 rfl qImp.rf)))
def bX7_addClean_20 (G : Nat × Nat × Nat × Option (Nat × (Nat → Int32)) × (Option Value → qW → Prop)) : qK := (s_if_ne (AW (mX7_addClean, G) 32) (s_aload 0 (s_aload 1 (s_iload 2 (AW (mX7_addClean, G) 26)))))
theorem oX7_addClean_20 (G : Nat × Nat × Nat × Option (Nat × (Nat → Int32)) × (Option Value → qW → Prop)) : qImp (bX7_addClean_20 G) (AW (mX7_addClean, G) 20) := (r_if_ne (tgt := 32) dX7_addClean_20 rfl qImp.rf (r_aload_n dX7_addClean_23 rfl (r_aload_n dX7_addClean_24 rfl (r_iload_n dX7_addClean_25 rfl qImp.rf))))
def bX7_addClean_29 (G : Nat × Nat × Nat × Option (Nat × (Nat → Int32)) × (Option Value → qW → Prop)) : qK := (s_if_ne (AW (mX7_addClean, G) 34) (AW (mX7_addClean, G) 32))
theorem oX7_addClean_29 (G : Nat × Nat × Nat × Option (Nat × (Nat → Int32)) × (Option Value → qW → Prop)) : qImp (bX7_addClean_29 G) (AW (mX7_addClean, G) 29) := (r_if_ne (tgt := 34) dX7_addClean_29 rfl qImp.rf qImp.rf)
def bX7_addClean_32 (G : Nat × Nat × Nat × Option (Nat × (Nat → Int32)) × (Option Value → qW → Prop)) : qK := (s_iconst 0 (s_zreturn (mX7_addClean, G)))
theorem oX7_addClean_32 (G : Nat × Nat × Nat × Option (Nat × (Nat → Int32)) × (Option Value → qW → Prop)) : qImp (bX7_addClean_32 G) (AW (mX7_addClean, G) 32) := (r_iconst dX7_addClean_32 rfl (r_zreturn dX7_addClean_33 rfl))
def bX7_addClean_34 (G : Nat × Nat × Nat × Option (Nat × (Nat → Int32)) × (Option Value → qW → Prop)) : qK := (s_aload 0 (s_getfield 7 6 (s_iload 3 (AW (mX7_addClean, G) 39))))
theorem oX7_addClean_34 (G : Nat × Nat × Nat × Option (Nat × (Nat → Int32)) × (Option Value → qW → Prop)) : qImp (bX7_addClean_34 G) (AW (mX7_addClean, G) 34) := (r_aload_n dX7_addClean_34 rfl (r_getfield dX7_addClean_35 fgX7_35 (r_iload_n dX7_addClean_38 rfl qImp.rf)))
def bX7_addClean_42 (G : Nat × Nat × Nat × Option (Nat × (Nat → Int32)) × (Option Value → qW → Prop)) : qK := (s_iconst 1 (s_zreturn (mX7_addClean, G)))
theorem oX7_addClean_42 (G : Nat × Nat × Nat × Option (Nat × (Nat → Int32)) × (Option Value → qW → Prop)) : qImp (bX7_addClean_42 G) (AW (mX7_addClean, G) 42) := (r_iconst dX7_addClean_42 rfl (r_zreturn dX7_addClean_43 rfl))
theorem kX7_addClean_3 {G : Nat × Nat × Nat × Option (Nat × (Nat → Int32)) × (Option Value → qW → Prop)} {L : qL} {w : qW} {kc ks : Nat} {rest : List Value} {q : Nat} {x0 : Int32} {x1 : Int32} {d mc ms : Nat} {Q : Option Value → qW → Prop} (hC : CT mX8_cell d mc ms [.ref q, .int x0, .int x1] w Q) (hq : qci w q = some 8) (hst : rest.length ≤ 4) (hdp : d + 1 ≤ G.1) (hmc : kc + mc ≤ G.2.1 ∧ ks + ms ≤ G.2.2.1) (k : ∀ r w', Q r w' → AW (mX7_addClean, G) 6 L (r.toList ++ rest) w' (kc + mc) (ks + ms)) : AW (mX7_addClean, G) 3 L (.int x1 :: .int x0 :: .ref q :: rest) w kc ks := a_callV [.int x0, .int x1] rest dX7_addClean_3 vX8_cell lk399 hC hq rfl rfl hst hdp hmc k
theorem kX7_addClean_9 {G : Nat × Nat × Nat × Option (Nat × (Nat → Int32)) × (Option Value → qW → Prop)} {L : qL} {w : qW} {kc ks : Nat} {rest : List Value} {q : Nat} {x0 : Int32} {d mc ms : Nat} {Q : Option Value → qW → Prop} (hC : CT mX7_has d mc ms [.ref q, .int x0] w Q) (hq : qci w q = some 7) (hst : rest.length ≤ 4) (hdp : d + 1 ≤ G.1) (hmc : kc + mc ≤ G.2.1 ∧ ks + ms ≤ G.2.2.1) (k : ∀ r w', Q r w' → AW (mX7_addClean, G) 12 L (r.toList ++ rest) w' (kc + mc) (ks + ms)) : AW (mX7_addClean, G) 9 L (.int x0 :: .ref q :: rest) w kc ks := a_callV [.int x0] rest dX7_addClean_9 vX7_has lk382 hC hq rfl rfl hst hdp hmc k
theorem kX7_addClean_17 {G : Nat × Nat × Nat × Option (Nat × (Nat → Int32)) × (Option Value → qW → Prop)} {L : qL} {w : qW} {kc ks : Nat} {rest : List Value} {q : Nat} {x0 : Int32} {d mc ms : Nat} {Q : Option Value → qW → Prop} (hC : CT mX7_isClean d mc ms [.ref q, .int x0] w Q) (hq : qci w q = some 7) (hst : rest.length ≤ 4) (hdp : d + 1 ≤ G.1) (hmc : kc + mc ≤ G.2.1 ∧ ks + ms ≤ G.2.2.1) (k : ∀ r w', Q r w' → AW (mX7_addClean, G) 20 L (r.toList ++ rest) w' (kc + mc) (ks + ms)) : AW (mX7_addClean, G) 17 L (.int x0 :: .ref q :: rest) w kc ks := a_callV [.int x0] rest dX7_addClean_17 vX7_isClean lk403 hC hq rfl rfl hst hdp hmc k
theorem kX7_addClean_26 {G : Nat × Nat × Nat × Option (Nat × (Nat → Int32)) × (Option Value → qW → Prop)} {L : qL} {w : qW} {kc ks : Nat} {rest : List Value} {q : Nat} {x0 : Nat} {x1 : Int32} {d mc ms : Nat} {Q : Option Value → qW → Prop} (hC : CT mX7_isGround d mc ms [.ref q, .ref x0, .int x1] w Q) (hq : qci w q = some 7) (hst : rest.length ≤ 4) (hdp : d + 1 ≤ G.1) (hmc : kc + mc ≤ G.2.1 ∧ ks + ms ≤ G.2.2.1) (k : ∀ r w', Q r w' → AW (mX7_addClean, G) 29 L (r.toList ++ rest) w' (kc + mc) (ks + ms)) : AW (mX7_addClean, G) 26 L (.int x1 :: .ref x0 :: .ref q :: rest) w kc ks := a_callV [.ref x0, .int x1] rest dX7_addClean_26 vX7_isGround lk411 hC hq rfl rfl hst hdp hmc k
theorem kX7_addClean_39 {G : Nat × Nat × Nat × Option (Nat × (Nat → Int32)) × (Option Value → qW → Prop)} {L : qL} {w : qW} {kc ks : Nat} {rest : List Value} {q : Nat} {x0 : Int32} {d mc ms : Nat} {Q : Option Value → qW → Prop} (hC : CT mX0_add d mc ms [.ref q, .int x0] w Q) (hq : qci w q = some 0) (hst : rest.length ≤ 4) (hdp : d + 1 ≤ G.1) (hmc : kc + mc ≤ G.2.1 ∧ ks + ms ≤ G.2.2.1) (k : ∀ r w', Q r w' → AW (mX7_addClean, G) 42 L (r.toList ++ rest) w' (kc + mc) (ks + ms)) : AW (mX7_addClean, G) 39 L (.int x0 :: .ref q :: rest) w kc ks := a_callV [.int x0] rest dX7_addClean_39 vX0_add lk353 hC hq rfl rfl hst hdp hmc k
theorem dX7_cleanBy_0 : decode cX7_cleanBy 0 = .ok (.aload_n 0, 1) := by decide +kernel
theorem dX7_cleanBy_1 : decode cX7_cleanBy 1 = .ok (.aload_n 1, 1) := by decide +kernel
theorem dX7_cleanBy_2 : decode cX7_cleanBy 2 = .ok (.iload_n 2, 1) := by decide +kernel
theorem dX7_cleanBy_3 : decode cX7_cleanBy 3 = .ok (.invokevirtual 97, 3) := by decide +kernel
theorem dX7_cleanBy_6 : decode cX7_cleanBy 6 = .ok (.istore_n 3, 1) := by decide +kernel
theorem dX7_cleanBy_7 : decode cX7_cleanBy 7 = .ok (.iconst 0, 1) := by decide +kernel
theorem dX7_cleanBy_8 : decode cX7_cleanBy 8 = .ok (.istore 4, 2) := by decide +kernel
theorem dX7_cleanBy_10 : decode cX7_cleanBy 10 = .ok (.iload 4, 2) := by decide +kernel
theorem dX7_cleanBy_12 : decode cX7_cleanBy 12 = .ok (.bipush 100, 2) := by decide +kernel
theorem dX7_cleanBy_14 : decode cX7_cleanBy 14 = .ok (.if_icmp .ge 45, 3) := by decide +kernel
theorem dX7_cleanBy_17 : decode cX7_cleanBy 17 = .ok (.iload_n 3, 1) := by decide +kernel
theorem dX7_cleanBy_18 : decode cX7_cleanBy 18 = .ok (.ifCond .eq 41, 3) := by decide +kernel
theorem dX7_cleanBy_21 : decode cX7_cleanBy 21 = .ok (.iconst 0, 1) := by decide +kernel
theorem dX7_cleanBy_22 : decode cX7_cleanBy 22 = .ok (.istore_n 3, 1) := by decide +kernel
theorem dX7_cleanBy_23 : decode cX7_cleanBy 23 = .ok (.iconst 0, 1) := by decide +kernel
theorem dX7_cleanBy_24 : decode cX7_cleanBy 24 = .ok (.istore 5, 2) := by decide +kernel
theorem dX7_cleanBy_26 : decode cX7_cleanBy 26 = .ok (.iload 5, 2) := by decide +kernel
theorem dX7_cleanBy_28 : decode cX7_cleanBy 28 = .ok (.aload_n 1, 1) := by decide +kernel
theorem dX7_cleanBy_29 : decode cX7_cleanBy 29 = .ok (.invokevirtual 101, 3) := by decide +kernel
theorem dX7_cleanBy_32 : decode cX7_cleanBy 32 = .ok (.if_icmp .ge 21, 3) := by decide +kernel
theorem dX7_cleanBy_35 : decode cX7_cleanBy 35 = .ok (.aload_n 0, 1) := by decide +kernel
theorem dX7_cleanBy_36 : decode cX7_cleanBy 36 = .ok (.aload_n 1, 1) := by decide +kernel
theorem dX7_cleanBy_37 : decode cX7_cleanBy 37 = .ok (.iload 5, 2) := by decide +kernel
theorem dX7_cleanBy_39 : decode cX7_cleanBy 39 = .ok (.invokevirtual 97, 3) := by decide +kernel
theorem dX7_cleanBy_42 : decode cX7_cleanBy 42 = .ok (.ifCond .eq 5, 3) := by decide +kernel
theorem dX7_cleanBy_45 : decode cX7_cleanBy 45 = .ok (.iconst 1, 1) := by decide +kernel
theorem dX7_cleanBy_46 : decode cX7_cleanBy 46 = .ok (.istore_n 3, 1) := by decide +kernel
theorem dX7_cleanBy_47 : decode cX7_cleanBy 47 = .ok (.iinc 5 1, 3) := by decide +kernel
theorem dX7_cleanBy_50 : decode cX7_cleanBy 50 = .ok (.goto (-24), 3) := by decide +kernel
theorem dX7_cleanBy_53 : decode cX7_cleanBy 53 = .ok (.iinc 4 1, 3) := by decide +kernel
theorem dX7_cleanBy_56 : decode cX7_cleanBy 56 = .ok (.goto (-46), 3) := by decide +kernel
theorem dX7_cleanBy_59 : decode cX7_cleanBy 59 = .ok (.return_, 1) := by decide +kernel
/-! SealLine$Shelf.cleanBy(LSealLine$Table;I)V -/
theorem eX7_cleanBy {d mc ms : Nat} {w : qW} {Q : Option Value → qW → Prop} {q : Nat} {x0 : Nat} {x1 : Int32} (h : AW (mX7_cleanBy, d, mc, ms, none, Q) 0 [some (.ref q), some (.ref x0), some (.int x1), none, none, none] [] w 0 0) : CT mX7_cleanBy d mc ms [.ref q, .ref x0, .int x1] w Q := CT_of (by decide +kernel) rfl (Nat.le_of_ble_eq_true rfl) h
def bX7_cleanBy_0 (G : Nat × Nat × Nat × Option (Nat × (Nat → Int32)) × (Option Value → qW → Prop)) : qK := (s_aload 0 (s_aload 1 (s_iload 2 (AW (mX7_cleanBy, G) 3))))
theorem oX7_cleanBy_0 (G : Nat × Nat × Nat × Option (Nat × (Nat → Int32)) × (Option Value → qW → Prop)) : qImp (bX7_cleanBy_0 G) (AW (mX7_cleanBy, G) 0) := (r_aload_n dX7_cleanBy_0 rfl (r_aload_n dX7_cleanBy_1 rfl (r_iload_n dX7_cleanBy_2 rfl qImp.rf)))
def bX7_cleanBy_6 (G : Nat × Nat × Nat × Option (Nat × (Nat → Int32)) × (Option Value → qW → Prop)) : qK := (s_istore 3 2 (s_iconst 0 (s_istore 4 3 (AW (mX7_cleanBy, G) 10))))
theorem oX7_cleanBy_6 (G : Nat × Nat × Nat × Option (Nat × (Nat → Int32)) × (Option Value → qW → Prop)) : qImp (bX7_cleanBy_6 G) (AW (mX7_cleanBy, G) 6) := (r_istore_n dX7_cleanBy_6 rfl (Or.inr rfl) (Nat.le_of_ble_eq_true rfl) (r_iconst dX7_cleanBy_7 rfl (r_istore dX7_cleanBy_8 (Or.inr rfl) (Nat.le_of_ble_eq_true rfl) qImp.rf)))
def bX7_cleanBy_10 (G : Nat × Nat × Nat × Option (Nat × (Nat → Int32)) × (Option Value → qW → Prop)) : qK := (s_iload 4 (s_iconst 100 (s_ic_ge (AW (mX7_cleanBy, G) 59) (s_iload 3 (s_if_eq (AW (mX7_cleanBy, G) 59) (s_iconst 0 (s_istore 3 2 (s_iconst 0 (s_istore 5 4 (AW (mX7_cleanBy, G) 26))))))))))
theorem oX7_cleanBy_10 (G : Nat × Nat × Nat × Option (Nat × (Nat → Int32)) × (Option Value → qW → Prop)) : qImp (bX7_cleanBy_10 G) (AW (mX7_cleanBy, G) 10) := (r_iload dX7_cleanBy_10 (r_bipush dX7_cleanBy_12 rfl (r_ic_ge (tgt := 59) dX7_cleanBy_14 rfl qImp.rf (r_iload_n dX7_cleanBy_17 rfl (r_if_eq (tgt := 59) dX7_cleanBy_18 rfl qImp.rf (r_iconst dX7_cleanBy_21 rfl (r_istore_n dX7_cleanBy_22 rfl (Or.inr rfl) (Nat.le_of_ble_eq_true rfl) (r_iconst dX7_cleanBy_23 rfl (r_istore dX7_cleanBy_24 (Or.inr rfl) (Nat.le_of_ble_eq_true rfl) qImp.rf)))))))))
def bX7_cleanBy_26 (G : Nat × Nat × Nat × Option (Nat × (Nat → Int32)) × (Option Value → qW → Prop)) : qK := (s_iload 5 (s_aload 1 (AW (mX7_cleanBy, G) 29)))
theorem oX7_cleanBy_26 (G : Nat × Nat × Nat × Option (Nat × (Nat → Int32)) × (Option Value → qW → Prop)) : qImp (bX7_cleanBy_26 G) (AW (mX7_cleanBy, G) 26) := (r_iload dX7_cleanBy_26 (r_aload_n dX7_cleanBy_28 rfl qImp.rf))
def bX7_cleanBy_32 (G : Nat × Nat × Nat × Option (Nat × (Nat → Int32)) × (Option Value → qW → Prop)) : qK := (s_ic_ge (AW (mX7_cleanBy, G) 53) (s_aload 0 (s_aload 1 (s_iload 5 (AW (mX7_cleanBy, G) 39)))))
theorem oX7_cleanBy_32 (G : Nat × Nat × Nat × Option (Nat × (Nat → Int32)) × (Option Value → qW → Prop)) : qImp (bX7_cleanBy_32 G) (AW (mX7_cleanBy, G) 32) := (r_ic_ge (tgt := 53) dX7_cleanBy_32 rfl qImp.rf (r_aload_n dX7_cleanBy_35 rfl (r_aload_n dX7_cleanBy_36 rfl (r_iload dX7_cleanBy_37 qImp.rf))))
def bX7_cleanBy_42 (G : Nat × Nat × Nat × Option (Nat × (Nat → Int32)) × (Option Value → qW → Prop)) : qK := (s_if_eq (AW (mX7_cleanBy, G) 47) (s_iconst 1 (s_istore 3 2 (AW (mX7_cleanBy, G) 47))))
theorem oX7_cleanBy_42 (G : Nat × Nat × Nat × Option (Nat × (Nat → Int32)) × (Option Value → qW → Prop)) : qImp (bX7_cleanBy_42 G) (AW (mX7_cleanBy, G) 42) := (r_if_eq (tgt := 47) dX7_cleanBy_42 rfl qImp.rf (r_iconst dX7_cleanBy_45 rfl (r_istore_n dX7_cleanBy_46 rfl (Or.inr rfl) (Nat.le_of_ble_eq_true rfl) qImp.rf)))
def bX7_cleanBy_47 (G : Nat × Nat × Nat × Option (Nat × (Nat → Int32)) × (Option Value → qW → Prop)) : qK := (s_iinc 5 4 1 (AW (mX7_cleanBy, G) 26))
theorem oX7_cleanBy_47 (G : Nat × Nat × Nat × Option (Nat × (Nat → Int32)) × (Option Value → qW → Prop)) : qImp (bX7_cleanBy_47 G) (AW (mX7_cleanBy, G) 47) := (r_iinc dX7_cleanBy_47 rfl (Or.inr rfl) (Nat.le_of_ble_eq_true rfl) (r_goto (tgt := 26) dX7_cleanBy_50 rfl qImp.rf))
def bX7_cleanBy_53 (G : Nat × Nat × Nat × Option (Nat × (Nat → Int32)) × (Option Value → qW → Prop)) : qK := (s_iinc 4 3 1 (AW (mX7_cleanBy, G) 10))
theorem oX7_cleanBy_53 (G : Nat × Nat × Nat × Option (Nat × (Nat → Int32)) × (Option Value → qW → Prop)) : qImp (bX7_cleanBy_53 G) (AW (mX7_cleanBy, G) 53) := (r_iinc dX7_cleanBy_53 rfl (Or.inr rfl) (Nat.le_of_ble_eq_true rfl) (r_goto (tgt := 10) dX7_cleanBy_56 rfl qImp.rf))
def bX7_cleanBy_59 (G : Nat × Nat × Nat × Option (Nat × (Nat → Int32)) × (Option Value → qW → Prop)) : qK := (s_vreturn (mX7_cleanBy, G))
theorem oX7_cleanBy_59 (G : Nat × Nat × Nat × Option (Nat × (Nat → Int32)) × (Option Value → qW → Prop)) : qImp (bX7_cleanBy_59 G) (AW (mX7_cleanBy, G) 59) := (r_vreturn dX7_cleanBy_59 rfl)
theorem kX7_cleanBy_3 {G : Nat × Nat × Nat × Option (Nat × (Nat → Int32)) × (Option Value → qW → Prop)} {L : qL} {w : qW} {kc ks : Nat} {rest : List Value} {q : Nat} {x0 : Nat} {x1 : Int32} {d mc ms : Nat} {Q : Option Value → qW → Prop} (hC : CT mX7_addClean d mc ms [.ref q, .ref x0, .int x1] w Q) (hq : qci w q = some 7) (hst : rest.length ≤ 4) (hdp : d + 1 ≤ G.1) (hmc : kc + mc ≤ G.2.1 ∧ ks + ms ≤ G.2.2.1) (k : ∀ r w', Q r w' → AW (mX7_cleanBy, G) 6 L (r.toList ++ rest) w' (kc + mc) (ks + ms)) : AW (mX7_cleanBy, G) 3 L (.int x1 :: .ref x0 :: .ref q :: rest) w kc ks := a_callV [.ref x0, .int x1] rest dX7_cleanBy_3 vX7_addClean lk395 hC hq rfl rfl hst hdp hmc k
theorem kX7_cleanBy_29 {G : Nat × Nat × Nat × Option (Nat × (Nat → Int32)) × (Option Value → qW → Prop)} {L : qL} {w : qW} {kc ks : Nat} {rest : List Value} {q : Nat}  {d mc ms : Nat} {Q : Option Value → qW → Prop} (hC : CT mX8_size d mc ms [.ref q] w Q) (hq : qci w q = some 8) (hst : rest.length ≤ 4) (hdp : d + 1 ≤ G.1) (hmc : kc + mc ≤ G.2.1 ∧ ks + ms ≤ G.2.2.1) (k : ∀ r w', Q r w' → AW (mX7_cleanBy, G) 32 L (r.toList ++ rest) w' (kc + mc) (ks + ms)) : AW (mX7_cleanBy, G) 29 L (.ref q :: rest) w kc ks := a_callV [] rest dX7_cleanBy_29 vX8_size lk419 hC hq rfl rfl hst hdp hmc k
theorem kX7_cleanBy_39 {G : Nat × Nat × Nat × Option (Nat × (Nat → Int32)) × (Option Value → qW → Prop)} {L : qL} {w : qW} {kc ks : Nat} {rest : List Value} {q : Nat} {x0 : Nat} {x1 : Int32} {d mc ms : Nat} {Q : Option Value → qW → Prop} (hC : CT mX7_addClean d mc ms [.ref q, .ref x0, .int x1] w Q) (hq : qci w q = some 7) (hst : rest.length ≤ 4) (hdp : d + 1 ≤ G.1) (hmc : kc + mc ≤ G.2.1 ∧ ks + ms ≤ G.2.2.1) (k : ∀ r w', Q r w' → AW (mX7_cleanBy, G) 42 L (r.toList ++ rest) w' (kc + mc) (ks + ms)) : AW (mX7_cleanBy, G) 39 L (.int x1 :: .ref x0 :: .ref q :: rest) w kc ks := a_callV [.ref x0, .int x1] rest dX7_cleanBy_39 vX7_addClean lk395 hC hq rfl rfl hst hdp hmc k
