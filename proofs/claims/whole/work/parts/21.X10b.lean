theorem dX10_addSaying_0 : decode cX10_addSaying 0 = .ok (.iload_n 2, 1) := by decide +kernel
theorem dX10_addSaying_1 : decode cX10_addSaying 1 = .ok (.invokestatic 83, 3) := by decide +kernel
theorem dX10_addSaying_4 : decode cX10_addSaying 4 = .ok (.ifCond .eq 24, 3) := by decide +kernel
theorem dX10_addSaying_7 : decode cX10_addSaying 7 = .ok (.aload_n 0, 1) := by decide +kernel
theorem dX10_addSaying_8 : decode cX10_addSaying 8 = .ok (.getfield 24, 3) := by decide +kernel
theorem dX10_addSaying_11 : decode cX10_addSaying 11 = .ok (.iload_n 3, 1) := by decide +kernel
theorem dX10_addSaying_12 : decode cX10_addSaying 12 = .ok (.invokevirtual 167, 3) := by decide +kernel
theorem dX10_addSaying_15 : decode cX10_addSaying 15 = .ok (.ifCond .eq 13, 3) := by decide +kernel
theorem dX10_addSaying_18 : decode cX10_addSaying 18 = .ok (.aload_n 0, 1) := by decide +kernel
theorem dX10_addSaying_19 : decode cX10_addSaying 19 = .ok (.getfield 14, 3) := by decide +kernel
theorem dX10_addSaying_22 : decode cX10_addSaying 22 = .ok (.invokevirtual 87, 3) := by decide +kernel
theorem dX10_addSaying_25 : decode cX10_addSaying 25 = .ok (.ifCond .eq 5, 3) := by decide +kernel
theorem dX10_addSaying_28 : decode cX10_addSaying 28 = .ok (.iconst (-1), 1) := by decide +kernel
theorem dX10_addSaying_29 : decode cX10_addSaying 29 = .ok (.ireturn, 1) := by decide +kernel
theorem dX10_addSaying_30 : decode cX10_addSaying 30 = .ok (.aload_n 0, 1) := by decide +kernel
theorem dX10_addSaying_31 : decode cX10_addSaying 31 = .ok (.iload_n 1, 1) := by decide +kernel
theorem dX10_addSaying_32 : decode cX10_addSaying 32 = .ok (.iload_n 3, 1) := by decide +kernel
theorem dX10_addSaying_33 : decode cX10_addSaying 33 = .ok (.iload_n 2, 1) := by decide +kernel
theorem dX10_addSaying_34 : decode cX10_addSaying 34 = .ok (.invokevirtual 95, 3) := by decide +kernel
theorem dX10_addSaying_37 : decode cX10_addSaying 37 = .ok (.istore 5, 2) := by decide +kernel
theorem dX10_addSaying_39 : decode cX10_addSaying 39 = .ok (.aload_n 0, 1) := by decide +kernel
theorem dX10_addSaying_40 : decode cX10_addSaying 40 = .ok (.getfield 14, 3) := by decide +kernel
theorem dX10_addSaying_43 : decode cX10_addSaying 43 = .ok (.iload 5, 2) := by decide +kernel
theorem dX10_addSaying_45 : decode cX10_addSaying 45 = .ok (.bipush 7, 2) := by decide +kernel
theorem dX10_addSaying_47 : decode cX10_addSaying 47 = .ok (.iload 4, 2) := by decide +kernel
theorem dX10_addSaying_49 : decode cX10_addSaying 49 = .ok (.invokestatic 128, 3) := by decide +kernel
theorem dX10_addSaying_52 : decode cX10_addSaying 52 = .ok (.invokevirtual 124, 3) := by decide +kernel
theorem dX10_addSaying_55 : decode cX10_addSaying 55 = .ok (.iload 5, 2) := by decide +kernel
theorem dX10_addSaying_57 : decode cX10_addSaying 57 = .ok (.ireturn, 1) := by decide +kernel
/-! SealLine.addSaying(IIIZ)I -/
theorem eX10_addSaying {d mc ms : Nat} {w : qW} {Q : Option Value → qW → Prop} {q : Nat} {x0 : Int32} {x1 : Int32} {x2 : Int32} {x3 : Int32} (h : AW (mX10_addSaying, d, mc, ms, none, Q) 0 [some (.ref q), some (.int x0), some (.int x1), some (.int x2), some (.int x3), none] [] w 0 0) : CT mX10_addSaying d mc ms [.ref q, .int x0, .int x1, .int x2, .int x3] w Q := CT_of (by decide +kernel) rfl (Nat.le_of_ble_eq_true rfl) h
def bX10_addSaying_0 (G : Nat × Nat × Nat × Option (Nat × (Nat → Int32)) × (Option Value → qW → Prop)) : qK := (s_iload 2 (AW (mX10_addSaying, G) 1))
theorem oX10_addSaying_0 (G : Nat × Nat × Nat × Option (Nat × (Nat → Int32)) × (Option Value → qW → Prop)) : qImp (bX10_addSaying_0 G) (AW (mX10_addSaying, G) 0) := (r_iload_n dX10_addSaying_0 rfl qImp.rf)
def bX10_addSaying_4 (G : Nat × Nat × Nat × Option (Nat × (Nat → Int32)) × (Option Value → qW → Prop)) : qK := (s_if_eq (AW (mX10_addSaying, G) 28) (s_aload 0 (s_getfield 10 2 (s_iload 3 (AW (mX10_addSaying, G) 12)))))
theorem oX10_addSaying_4 (G : Nat × Nat × Nat × Option (Nat × (Nat → Int32)) × (Option Value → qW → Prop)) : qImp (bX10_addSaying_4 G) (AW (mX10_addSaying, G) 4) := (r_if_eq (tgt := 28) dX10_addSaying_4 rfl qImp.rf (r_aload_n dX10_addSaying_7 rfl (r_getfield dX10_addSaying_8 fgX10_24 (r_iload_n dX10_addSaying_11 rfl qImp.rf))))
def bX10_addSaying_15 (G : Nat × Nat × Nat × Option (Nat × (Nat → Int32)) × (Option Value → qW → Prop)) : qK := (s_if_eq (AW (mX10_addSaying, G) 28) (s_aload 0 (s_getfield 10 0 (AW (mX10_addSaying, G) 22))))
theorem oX10_addSaying_15 (G : Nat × Nat × Nat × Option (Nat × (Nat → Int32)) × (Option Value → qW → Prop)) : qImp (bX10_addSaying_15 G) (AW (mX10_addSaying, G) 15) := (r_if_eq (tgt := 28) dX10_addSaying_15 rfl qImp.rf (r_aload_n dX10_addSaying_18 rfl (r_getfield dX10_addSaying_19 fgX10_14 qImp.rf)))
def bX10_addSaying_25 (G : Nat × Nat × Nat × Option (Nat × (Nat → Int32)) × (Option Value → qW → Prop)) : qK := (s_if_eq (AW (mX10_addSaying, G) 30) (AW (mX10_addSaying, G) 28))
theorem oX10_addSaying_25 (G : Nat × Nat × Nat × Option (Nat × (Nat → Int32)) × (Option Value → qW → Prop)) : qImp (bX10_addSaying_25 G) (AW (mX10_addSaying, G) 25) := (r_if_eq (tgt := 30) dX10_addSaying_25 rfl qImp.rf qImp.rf)
def bX10_addSaying_28 (G : Nat × Nat × Nat × Option (Nat × (Nat → Int32)) × (Option Value → qW → Prop)) : qK := (s_iconst (-1) (s_ireturn (mX10_addSaying, G)))
theorem oX10_addSaying_28 (G : Nat × Nat × Nat × Option (Nat × (Nat → Int32)) × (Option Value → qW → Prop)) : qImp (bX10_addSaying_28 G) (AW (mX10_addSaying, G) 28) := (r_iconst dX10_addSaying_28 rfl (r_ireturn dX10_addSaying_29 rfl))
def bX10_addSaying_30 (G : Nat × Nat × Nat × Option (Nat × (Nat → Int32)) × (Option Value → qW → Prop)) : qK := (s_aload 0 (s_iload 1 (s_iload 3 (s_iload 2 (AW (mX10_addSaying, G) 34)))))
theorem oX10_addSaying_30 (G : Nat × Nat × Nat × Option (Nat × (Nat → Int32)) × (Option Value → qW → Prop)) : qImp (bX10_addSaying_30 G) (AW (mX10_addSaying, G) 30) := (r_aload_n dX10_addSaying_30 rfl (r_iload_n dX10_addSaying_31 rfl (r_iload_n dX10_addSaying_32 rfl (r_iload_n dX10_addSaying_33 rfl qImp.rf))))
def bX10_addSaying_37 (G : Nat × Nat × Nat × Option (Nat × (Nat → Int32)) × (Option Value → qW → Prop)) : qK := (s_istore 5 4 (s_aload 0 (s_getfield 10 0 (s_iload 5 (s_iconst 7 (s_iload 4 (AW (mX10_addSaying, G) 49)))))))
theorem oX10_addSaying_37 (G : Nat × Nat × Nat × Option (Nat × (Nat → Int32)) × (Option Value → qW → Prop)) : qImp (bX10_addSaying_37 G) (AW (mX10_addSaying, G) 37) := (r_istore dX10_addSaying_37 (Or.inr rfl) (Nat.le_of_ble_eq_true rfl) (r_aload_n dX10_addSaying_39 rfl (r_getfield dX10_addSaying_40 fgX10_14 (r_iload dX10_addSaying_43 (r_bipush dX10_addSaying_45 rfl (r_iload dX10_addSaying_47 qImp.rf))))))
def bX10_addSaying_55 (G : Nat × Nat × Nat × Option (Nat × (Nat → Int32)) × (Option Value → qW → Prop)) : qK := (s_iload 5 (s_ireturn (mX10_addSaying, G)))
theorem oX10_addSaying_55 (G : Nat × Nat × Nat × Option (Nat × (Nat → Int32)) × (Option Value → qW → Prop)) : qImp (bX10_addSaying_55 G) (AW (mX10_addSaying, G) 55) := (r_iload dX10_addSaying_55 (r_ireturn dX10_addSaying_57 rfl))
theorem kX10_addSaying_1 {G : Nat × Nat × Nat × Option (Nat × (Nat → Int32)) × (Option Value → qW → Prop)} {L : qL} {w : qW} {kc ks : Nat} {rest : List Value}  {x0 : Int32} {d mc ms : Nat} {Q : Option Value → qW → Prop} (hC : CT mX10_isHand d mc ms [.int x0] w Q) (hst : rest.length ≤ 4) (hdp : d + 1 ≤ G.1) (hmc : kc + mc ≤ G.2.1 ∧ ks + ms ≤ G.2.2.1) (k : ∀ r w', Q r w' → AW (mX10_addSaying, G) 4 L (r.toList ++ rest) w' (kc + mc) (ks + ms)) : AW (mX10_addSaying, G) 1 L (.int x0 :: rest) w kc ks := a_callS [.int x0] rest dX10_addSaying_1 tX10_isHand lk338 hC rfl hst hdp hmc k
theorem kX10_addSaying_12 {G : Nat × Nat × Nat × Option (Nat × (Nat → Int32)) × (Option Value → qW → Prop)} {L : qL} {w : qW} {kc ks : Nat} {rest : List Value} {q : Nat} {x0 : Int32} {d mc ms : Nat} {Q : Option Value → qW → Prop} (hC : CT mX7_has d mc ms [.ref q, .int x0] w Q) (hq : qci w q = some 7) (hst : rest.length ≤ 4) (hdp : d + 1 ≤ G.1) (hmc : kc + mc ≤ G.2.1 ∧ ks + ms ≤ G.2.2.1) (k : ∀ r w', Q r w' → AW (mX10_addSaying, G) 15 L (r.toList ++ rest) w' (kc + mc) (ks + ms)) : AW (mX10_addSaying, G) 12 L (.int x0 :: .ref q :: rest) w kc ks := a_callV [.int x0] rest dX10_addSaying_12 vX7_has lk443 hC hq rfl rfl hst hdp hmc k
theorem kX10_addSaying_22 {G : Nat × Nat × Nat × Option (Nat × (Nat → Int32)) × (Option Value → qW → Prop)} {L : qL} {w : qW} {kc ks : Nat} {rest : List Value} {q : Nat}  {d mc ms : Nat} {Q : Option Value → qW → Prop} (hC : CT mX8_isFull d mc ms [.ref q] w Q) (hq : qci w q = some 8) (hst : rest.length ≤ 4) (hdp : d + 1 ≤ G.1) (hmc : kc + mc ≤ G.2.1 ∧ ks + ms ≤ G.2.2.1) (k : ∀ r w', Q r w' → AW (mX10_addSaying, G) 25 L (r.toList ++ rest) w' (kc + mc) (ks + ms)) : AW (mX10_addSaying, G) 22 L (.ref q :: rest) w kc ks := a_callV [] rest dX10_addSaying_22 vX8_isFull lk341 hC hq rfl rfl hst hdp hmc k
theorem kX10_addSaying_34 {G : Nat × Nat × Nat × Option (Nat × (Nat → Int32)) × (Option Value → qW → Prop)} {L : qL} {w : qW} {kc ks : Nat} {rest : List Value} {q : Nat} {x0 : Int32} {x1 : Int32} {x2 : Int32} {d mc ms : Nat} {Q : Option Value → qW → Prop} (hC : CT mX10_addNote d mc ms [.ref q, .int x0, .int x1, .int x2] w Q) (hq : qci w q = some 10) (hst : rest.length ≤ 4) (hdp : d + 1 ≤ G.1) (hmc : kc + mc ≤ G.2.1 ∧ ks + ms ≤ G.2.2.1) (k : ∀ r w', Q r w' → AW (mX10_addSaying, G) 37 L (r.toList ++ rest) w' (kc + mc) (ks + ms)) : AW (mX10_addSaying, G) 34 L (.int x2 :: .int x1 :: .int x0 :: .ref q :: rest) w kc ks := a_callV [.int x0, .int x1, .int x2] rest dX10_addSaying_34 vX10_addNote lk357 hC hq rfl rfl hst hdp hmc k
theorem kX10_addSaying_49 {G : Nat × Nat × Nat × Option (Nat × (Nat → Int32)) × (Option Value → qW → Prop)} {L : qL} {w : qW} {kc ks : Nat} {rest : List Value}  {x0 : Int32} {d mc ms : Nat} {Q : Option Value → qW → Prop} (hC : CT mX10_bit d mc ms [.int x0] w Q) (hst : rest.length ≤ 4) (hdp : d + 1 ≤ G.1) (hmc : kc + mc ≤ G.2.1 ∧ ks + ms ≤ G.2.2.1) (k : ∀ r w', Q r w' → AW (mX10_addSaying, G) 52 L (r.toList ++ rest) w' (kc + mc) (ks + ms)) : AW (mX10_addSaying, G) 49 L (.int x0 :: rest) w kc ks := a_callS [.int x0] rest dX10_addSaying_49 tX10_bit lk467 hC rfl hst hdp hmc k
theorem kX10_addSaying_52 {G : Nat × Nat × Nat × Option (Nat × (Nat → Int32)) × (Option Value → qW → Prop)} {L : qL} {w : qW} {kc ks : Nat} {rest : List Value} {q : Nat} {x0 : Int32} {x1 : Int32} {x2 : Int32} {d mc ms : Nat} {Q : Option Value → qW → Prop} (hC : CT mX8_set d mc ms [.ref q, .int x0, .int x1, .int x2] w Q) (hq : qci w q = some 8) (hst : rest.length ≤ 4) (hdp : d + 1 ≤ G.1) (hmc : kc + mc ≤ G.2.1 ∧ ks + ms ≤ G.2.2.1) (k : ∀ r w', Q r w' → AW (mX10_addSaying, G) 55 L (r.toList ++ rest) w' (kc + mc) (ks + ms)) : AW (mX10_addSaying, G) 52 L (.int x2 :: .int x1 :: .int x0 :: .ref q :: rest) w kc ks := a_callV [.int x0, .int x1, .int x2] rest dX10_addSaying_52 vX8_set lk366 hC hq rfl rfl hst hdp hmc k
theorem dX10_tries_0 : decode cX10_tries 0 = .ok (.aload_n 0, 1) := by decide +kernel
theorem dX10_tries_1 : decode cX10_tries 1 = .ok (.iconst 2, 1) := by decide +kernel
theorem dX10_tries_2 : decode cX10_tries 2 = .ok (.iload_n 1, 1) := by decide +kernel
theorem dX10_tries_3 : decode cX10_tries 3 = .ok (.iload_n 2, 1) := by decide +kernel
theorem dX10_tries_4 : decode cX10_tries 4 = .ok (.iload_n 3, 1) := by decide +kernel
theorem dX10_tries_5 : decode cX10_tries 5 = .ok (.invokevirtual 138, 3) := by decide +kernel
theorem dX10_tries_8 : decode cX10_tries 8 = .ok (.istore 4, 2) := by decide +kernel
theorem dX10_tries_10 : decode cX10_tries 10 = .ok (.iload 4, 2) := by decide +kernel
theorem dX10_tries_12 : decode cX10_tries 12 = .ok (.iconst (-1), 1) := by decide +kernel
theorem dX10_tries_13 : decode cX10_tries 13 = .ok (.if_icmp .eq 13, 3) := by decide +kernel
theorem dX10_tries_16 : decode cX10_tries 16 = .ok (.aload_n 0, 1) := by decide +kernel
theorem dX10_tries_17 : decode cX10_tries 17 = .ok (.getfield 24, 3) := by decide +kernel
theorem dX10_tries_20 : decode cX10_tries 20 = .ok (.iload_n 2, 1) := by decide +kernel
theorem dX10_tries_21 : decode cX10_tries 21 = .ok (.iload_n 1, 1) := by decide +kernel
theorem dX10_tries_22 : decode cX10_tries 22 = .ok (.iload_n 3, 1) := by decide +kernel
theorem dX10_tries_23 : decode cX10_tries 23 = .ok (.invokevirtual 142, 3) := by decide +kernel
theorem dX10_tries_26 : decode cX10_tries 26 = .ok (.iload 4, 2) := by decide +kernel
theorem dX10_tries_28 : decode cX10_tries 28 = .ok (.ireturn, 1) := by decide +kernel
/-! SealLine.tries(IIZ)I -/
theorem eX10_tries {d mc ms : Nat} {w : qW} {Q : Option Value → qW → Prop} {q : Nat} {x0 : Int32} {x1 : Int32} {x2 : Int32} (h : AW (mX10_tries, d, mc, ms, none, Q) 0 [some (.ref q), some (.int x0), some (.int x1), some (.int x2), none] [] w 0 0) : CT mX10_tries d mc ms [.ref q, .int x0, .int x1, .int x2] w Q := CT_of (by decide +kernel) rfl (Nat.le_of_ble_eq_true rfl) h
def bX10_tries_0 (G : Nat × Nat × Nat × Option (Nat × (Nat → Int32)) × (Option Value → qW → Prop)) : qK := (s_aload 0 (s_iconst 2 (s_iload 1 (s_iload 2 (s_iload 3 (AW (mX10_tries, G) 5))))))
theorem oX10_tries_0 (G : Nat × Nat × Nat × Option (Nat × (Nat → Int32)) × (Option Value → qW → Prop)) : qImp (bX10_tries_0 G) (AW (mX10_tries, G) 0) := (r_aload_n dX10_tries_0 rfl (r_iconst dX10_tries_1 rfl (r_iload_n dX10_tries_2 rfl (r_iload_n dX10_tries_3 rfl (r_iload_n dX10_tries_4 rfl qImp.rf)))))
def bX10_tries_8 (G : Nat × Nat × Nat × Option (Nat × (Nat → Int32)) × (Option Value → qW → Prop)) : qK := (s_istore 4 3 (s_iload 4 (s_iconst (-1) (s_ic_eq (AW (mX10_tries, G) 26) (s_aload 0 (s_getfield 10 2 (s_iload 2 (s_iload 1 (s_iload 3 (AW (mX10_tries, G) 23))))))))))
theorem oX10_tries_8 (G : Nat × Nat × Nat × Option (Nat × (Nat → Int32)) × (Option Value → qW → Prop)) : qImp (bX10_tries_8 G) (AW (mX10_tries, G) 8) := (r_istore dX10_tries_8 (Or.inr rfl) (Nat.le_of_ble_eq_true rfl) (r_iload dX10_tries_10 (r_iconst dX10_tries_12 rfl (r_ic_eq (tgt := 26) dX10_tries_13 rfl qImp.rf (r_aload_n dX10_tries_16 rfl (r_getfield dX10_tries_17 fgX10_24 (r_iload_n dX10_tries_20 rfl (r_iload_n dX10_tries_21 rfl (r_iload_n dX10_tries_22 rfl qImp.rf)))))))))
def bX10_tries_26 (G : Nat × Nat × Nat × Option (Nat × (Nat → Int32)) × (Option Value → qW → Prop)) : qK := (s_iload 4 (s_ireturn (mX10_tries, G)))
theorem oX10_tries_26 (G : Nat × Nat × Nat × Option (Nat × (Nat → Int32)) × (Option Value → qW → Prop)) : qImp (bX10_tries_26 G) (AW (mX10_tries, G) 26) := (r_iload dX10_tries_26 (r_ireturn dX10_tries_28 rfl))
theorem kX10_tries_5 {G : Nat × Nat × Nat × Option (Nat × (Nat → Int32)) × (Option Value → qW → Prop)} {L : qL} {w : qW} {kc ks : Nat} {rest : List Value} {q : Nat} {x0 : Int32} {x1 : Int32} {x2 : Int32} {x3 : Int32} {d mc ms : Nat} {Q : Option Value → qW → Prop} (hC : CT mX10_addSaying d mc ms [.ref q, .int x0, .int x1, .int x2, .int x3] w Q) (hq : qci w q = some 10) (hst : rest.length ≤ 4) (hdp : d + 1 ≤ G.1) (hmc : kc + mc ≤ G.2.1 ∧ ks + ms ≤ G.2.2.1) (k : ∀ r w', Q r w' → AW (mX10_tries, G) 8 L (r.toList ++ rest) w' (kc + mc) (ks + ms)) : AW (mX10_tries, G) 5 L (.int x3 :: .int x2 :: .int x1 :: .int x0 :: .ref q :: rest) w kc ks := a_callV [.int x0, .int x1, .int x2, .int x3] rest dX10_tries_5 vX10_addSaying lk490 hC hq rfl rfl hst hdp hmc k
theorem kX10_tries_23 {G : Nat × Nat × Nat × Option (Nat × (Nat → Int32)) × (Option Value → qW → Prop)} {L : qL} {w : qW} {kc ks : Nat} {rest : List Value} {q : Nat} {x0 : Int32} {x1 : Int32} {x2 : Int32} {d mc ms : Nat} {Q : Option Value → qW → Prop} (hC : CT mX7_setTry d mc ms [.ref q, .int x0, .int x1, .int x2] w Q) (hq : qci w q = some 7) (hst : rest.length ≤ 4) (hdp : d + 1 ≤ G.1) (hmc : kc + mc ≤ G.2.1 ∧ ks + ms ≤ G.2.2.1) (k : ∀ r w', Q r w' → AW (mX10_tries, G) 26 L (r.toList ++ rest) w' (kc + mc) (ks + ms)) : AW (mX10_tries, G) 23 L (.int x2 :: .int x1 :: .int x0 :: .ref q :: rest) w kc ks := a_callV [.int x0, .int x1, .int x2] rest dX10_tries_23 vX7_setTry lk494 hC hq rfl rfl hst hdp hmc k
theorem dX10_review_0 : decode cX10_review 0 = .ok (.aload_n 0, 1) := by decide +kernel
theorem dX10_review_1 : decode cX10_review 1 = .ok (.iconst 3, 1) := by decide +kernel
theorem dX10_review_2 : decode cX10_review 2 = .ok (.iload_n 1, 1) := by decide +kernel
theorem dX10_review_3 : decode cX10_review 3 = .ok (.iload_n 2, 1) := by decide +kernel
theorem dX10_review_4 : decode cX10_review 4 = .ok (.iload_n 3, 1) := by decide +kernel
theorem dX10_review_5 : decode cX10_review 5 = .ok (.invokevirtual 138, 3) := by decide +kernel
theorem dX10_review_8 : decode cX10_review 8 = .ok (.istore 4, 2) := by decide +kernel
theorem dX10_review_10 : decode cX10_review 10 = .ok (.iload 4, 2) := by decide +kernel
theorem dX10_review_12 : decode cX10_review 12 = .ok (.iconst (-1), 1) := by decide +kernel
theorem dX10_review_13 : decode cX10_review 13 = .ok (.if_icmp .eq 13, 3) := by decide +kernel
theorem dX10_review_16 : decode cX10_review 16 = .ok (.aload_n 0, 1) := by decide +kernel
theorem dX10_review_17 : decode cX10_review 17 = .ok (.getfield 24, 3) := by decide +kernel
theorem dX10_review_20 : decode cX10_review 20 = .ok (.iload_n 2, 1) := by decide +kernel
theorem dX10_review_21 : decode cX10_review 21 = .ok (.iload_n 1, 1) := by decide +kernel
theorem dX10_review_22 : decode cX10_review 22 = .ok (.iload_n 3, 1) := by decide +kernel
theorem dX10_review_23 : decode cX10_review 23 = .ok (.invokevirtual 146, 3) := by decide +kernel
theorem dX10_review_26 : decode cX10_review 26 = .ok (.iload 4, 2) := by decide +kernel
theorem dX10_review_28 : decode cX10_review 28 = .ok (.ireturn, 1) := by decide +kernel
/-! SealLine.review(IIZ)I -/
theorem eX10_review {d mc ms : Nat} {w : qW} {Q : Option Value → qW → Prop} {q : Nat} {x0 : Int32} {x1 : Int32} {x2 : Int32} (h : AW (mX10_review, d, mc, ms, none, Q) 0 [some (.ref q), some (.int x0), some (.int x1), some (.int x2), none] [] w 0 0) : CT mX10_review d mc ms [.ref q, .int x0, .int x1, .int x2] w Q := CT_of (by decide +kernel) rfl (Nat.le_of_ble_eq_true rfl) h
def bX10_review_0 (G : Nat × Nat × Nat × Option (Nat × (Nat → Int32)) × (Option Value → qW → Prop)) : qK := (s_aload 0 (s_iconst 3 (s_iload 1 (s_iload 2 (s_iload 3 (AW (mX10_review, G) 5))))))
theorem oX10_review_0 (G : Nat × Nat × Nat × Option (Nat × (Nat → Int32)) × (Option Value → qW → Prop)) : qImp (bX10_review_0 G) (AW (mX10_review, G) 0) := (r_aload_n dX10_review_0 rfl (r_iconst dX10_review_1 rfl (r_iload_n dX10_review_2 rfl (r_iload_n dX10_review_3 rfl (r_iload_n dX10_review_4 rfl qImp.rf)))))
def bX10_review_8 (G : Nat × Nat × Nat × Option (Nat × (Nat → Int32)) × (Option Value → qW → Prop)) : qK := (s_istore 4 3 (s_iload 4 (s_iconst (-1) (s_ic_eq (AW (mX10_review, G) 26) (s_aload 0 (s_getfield 10 2 (s_iload 2 (s_iload 1 (s_iload 3 (AW (mX10_review, G) 23))))))))))
theorem oX10_review_8 (G : Nat × Nat × Nat × Option (Nat × (Nat → Int32)) × (Option Value → qW → Prop)) : qImp (bX10_review_8 G) (AW (mX10_review, G) 8) := (r_istore dX10_review_8 (Or.inr rfl) (Nat.le_of_ble_eq_true rfl) (r_iload dX10_review_10 (r_iconst dX10_review_12 rfl (r_ic_eq (tgt := 26) dX10_review_13 rfl qImp.rf (r_aload_n dX10_review_16 rfl (r_getfield dX10_review_17 fgX10_24 (r_iload_n dX10_review_20 rfl (r_iload_n dX10_review_21 rfl (r_iload_n dX10_review_22 rfl qImp.rf)))))))))
def bX10_review_26 (G : Nat × Nat × Nat × Option (Nat × (Nat → Int32)) × (Option Value → qW → Prop)) : qK := (s_iload 4 (s_ireturn (mX10_review, G)))
theorem oX10_review_26 (G : Nat × Nat × Nat × Option (Nat × (Nat → Int32)) × (Option Value → qW → Prop)) : qImp (bX10_review_26 G) (AW (mX10_review, G) 26) := (r_iload dX10_review_26 (r_ireturn dX10_review_28 rfl))
theorem kX10_review_5 {G : Nat × Nat × Nat × Option (Nat × (Nat → Int32)) × (Option Value → qW → Prop)} {L : qL} {w : qW} {kc ks : Nat} {rest : List Value} {q : Nat} {x0 : Int32} {x1 : Int32} {x2 : Int32} {x3 : Int32} {d mc ms : Nat} {Q : Option Value → qW → Prop} (hC : CT mX10_addSaying d mc ms [.ref q, .int x0, .int x1, .int x2, .int x3] w Q) (hq : qci w q = some 10) (hst : rest.length ≤ 4) (hdp : d + 1 ≤ G.1) (hmc : kc + mc ≤ G.2.1 ∧ ks + ms ≤ G.2.2.1) (k : ∀ r w', Q r w' → AW (mX10_review, G) 8 L (r.toList ++ rest) w' (kc + mc) (ks + ms)) : AW (mX10_review, G) 5 L (.int x3 :: .int x2 :: .int x1 :: .int x0 :: .ref q :: rest) w kc ks := a_callV [.int x0, .int x1, .int x2, .int x3] rest dX10_review_5 vX10_addSaying lk490 hC hq rfl rfl hst hdp hmc k
theorem kX10_review_23 {G : Nat × Nat × Nat × Option (Nat × (Nat → Int32)) × (Option Value → qW → Prop)} {L : qL} {w : qW} {kc ks : Nat} {rest : List Value} {q : Nat} {x0 : Int32} {x1 : Int32} {x2 : Int32} {d mc ms : Nat} {Q : Option Value → qW → Prop} (hC : CT mX7_setReview d mc ms [.ref q, .int x0, .int x1, .int x2] w Q) (hq : qci w q = some 7) (hst : rest.length ≤ 4) (hdp : d + 1 ≤ G.1) (hmc : kc + mc ≤ G.2.1 ∧ ks + ms ≤ G.2.2.1) (k : ∀ r w', Q r w' → AW (mX10_review, G) 26 L (r.toList ++ rest) w' (kc + mc) (ks + ms)) : AW (mX10_review, G) 23 L (.int x2 :: .int x1 :: .int x0 :: .ref q :: rest) w kc ks := a_callV [.int x0, .int x1, .int x2] rest dX10_review_23 vX7_setReview lk502 hC hq rfl rfl hst hdp hmc k
theorem dX10_feed_0 : decode cX10_feed 0 = .ok (.aload_n 0, 1) := by decide +kernel
theorem dX10_feed_1 : decode cX10_feed 1 = .ok (.getfield 45, 3) := by decide +kernel
theorem dX10_feed_4 : decode cX10_feed 4 = .ok (.iload_n 1, 1) := by decide +kernel
theorem dX10_feed_5 : decode cX10_feed 5 = .ok (.invokevirtual 149, 3) := by decide +kernel
theorem dX10_feed_8 : decode cX10_feed 8 = .ok (.ireturn, 1) := by decide +kernel
/-! SealLine.feed(I)I -/
theorem eX10_feed {d mc ms : Nat} {w : qW} {Q : Option Value → qW → Prop} {q : Nat} {x0 : Int32} (h : AW (mX10_feed, d, mc, ms, none, Q) 0 [some (.ref q), some (.int x0)] [] w 0 0) : CT mX10_feed d mc ms [.ref q, .int x0] w Q := CT_of (by decide +kernel) rfl (Nat.le_of_ble_eq_true rfl) h
def bX10_feed_0 (G : Nat × Nat × Nat × Option (Nat × (Nat → Int32)) × (Option Value → qW → Prop)) : qK := (s_aload 0 (s_getfield 10 5 (s_iload 1 (AW (mX10_feed, G) 5))))
theorem oX10_feed_0 (G : Nat × Nat × Nat × Option (Nat × (Nat → Int32)) × (Option Value → qW → Prop)) : qImp (bX10_feed_0 G) (AW (mX10_feed, G) 0) := (r_aload_n dX10_feed_0 rfl (r_getfield dX10_feed_1 fgX10_45 (r_iload_n dX10_feed_4 rfl qImp.rf)))
def bX10_feed_8 (G : Nat × Nat × Nat × Option (Nat × (Nat → Int32)) × (Option Value → qW → Prop)) : qK := (s_ireturn (mX10_feed, G))
theorem oX10_feed_8 (G : Nat × Nat × Nat × Option (Nat × (Nat → Int32)) × (Option Value → qW → Prop)) : qImp (bX10_feed_8 G) (AW (mX10_feed, G) 8) := (r_ireturn dX10_feed_8 rfl)
theorem kX10_feed_5 {G : Nat × Nat × Nat × Option (Nat × (Nat → Int32)) × (Option Value → qW → Prop)} {L : qL} {w : qW} {kc ks : Nat} {rest : List Value} {q : Nat} {x0 : Int32} {d mc ms : Nat} {Q : Option Value → qW → Prop} (hC : CT mX9_add d mc ms [.ref q, .int x0] w Q) (hq : qci w q = some 9) (hst : rest.length ≤ 4) (hdp : d + 1 ≤ G.1) (hmc : kc + mc ≤ G.2.1 ∧ ks + ms ≤ G.2.2.1) (k : ∀ r w', Q r w' → AW (mX10_feed, G) 8 L (r.toList ++ rest) w' (kc + mc) (ks + ms)) : AW (mX10_feed, G) 5 L (.int x0 :: .ref q :: rest) w kc ks := a_callV [.int x0] rest dX10_feed_5 vX9_add lk510 hC hq rfl rfl hst hdp hmc k
theorem dX10_end_0 : decode cX10_end 0 = .ok (.aload_n 0, 1) := by decide +kernel
theorem dX10_end_1 : decode cX10_end 1 = .ok (.getfield 45, 3) := by decide +kernel
theorem dX10_end_4 : decode cX10_end 4 = .ok (.iload_n 1, 1) := by decide +kernel
theorem dX10_end_5 : decode cX10_end 5 = .ok (.invokevirtual 153, 3) := by decide +kernel
theorem dX10_end_8 : decode cX10_end 8 = .ok (.ireturn, 1) := by decide +kernel
/-! SealLine.end(I)Z -/
theorem eX10_end {d mc ms : Nat} {w : qW} {Q : Option Value → qW → Prop} {q : Nat} {x0 : Int32} (h : AW (mX10_end, d, mc, ms, none, Q) 0 [some (.ref q), some (.int x0)] [] w 0 0) : CT mX10_end d mc ms [.ref q, .int x0] w Q := CT_of (by decide +kernel) rfl (Nat.le_of_ble_eq_true rfl) h
def bX10_end_0 (G : Nat × Nat × Nat × Option (Nat × (Nat → Int32)) × (Option Value → qW → Prop)) : qK := (s_aload 0 (s_getfield 10 5 (s_iload 1 (AW (mX10_end, G) 5))))
theorem oX10_end_0 (G : Nat × Nat × Nat × Option (Nat × (Nat → Int32)) × (Option Value → qW → Prop)) : qImp (bX10_end_0 G) (AW (mX10_end, G) 0) := (r_aload_n dX10_end_0 rfl (r_getfield dX10_end_1 fgX10_45 (r_iload_n dX10_end_4 rfl qImp.rf)))
def bX10_end_8 (G : Nat × Nat × Nat × Option (Nat × (Nat → Int32)) × (Option Value → qW → Prop)) : qK := (s_zreturn (mX10_end, G))
theorem oX10_end_8 (G : Nat × Nat × Nat × Option (Nat × (Nat → Int32)) × (Option Value → qW → Prop)) : qImp (bX10_end_8 G) (AW (mX10_end, G) 8) := (r_zreturn dX10_end_8 rfl)
theorem kX10_end_5 {G : Nat × Nat × Nat × Option (Nat × (Nat → Int32)) × (Option Value → qW → Prop)} {L : qL} {w : qW} {kc ks : Nat} {rest : List Value} {q : Nat} {x0 : Int32} {d mc ms : Nat} {Q : Option Value → qW → Prop} (hC : CT mX9_cut d mc ms [.ref q, .int x0] w Q) (hq : qci w q = some 9) (hst : rest.length ≤ 4) (hdp : d + 1 ≤ G.1) (hmc : kc + mc ≤ G.2.1 ∧ ks + ms ≤ G.2.2.1) (k : ∀ r w', Q r w' → AW (mX10_end, G) 8 L (r.toList ++ rest) w' (kc + mc) (ks + ms)) : AW (mX10_end, G) 5 L (.int x0 :: .ref q :: rest) w kc ks := a_callV [.int x0] rest dX10_end_5 vX9_cut lk519 hC hq rfl rfl hst hdp hmc k
theorem dX10_fault_0 : decode cX10_fault 0 = .ok (.aload_n 0, 1) := by decide +kernel
theorem dX10_fault_1 : decode cX10_fault 1 = .ok (.getfield 45, 3) := by decide +kernel
theorem dX10_fault_4 : decode cX10_fault 4 = .ok (.invokevirtual 156, 3) := by decide +kernel
theorem dX10_fault_7 : decode cX10_fault 7 = .ok (.ireturn, 1) := by decide +kernel
/-! SealLine.fault()I -/
theorem eX10_fault {d mc ms : Nat} {w : qW} {Q : Option Value → qW → Prop} {q : Nat} (h : AW (mX10_fault, d, mc, ms, none, Q) 0 [some (.ref q)] [] w 0 0) : CT mX10_fault d mc ms [.ref q] w Q := CT_of (by decide +kernel) rfl (Nat.le_of_ble_eq_true rfl) h
def bX10_fault_0 (G : Nat × Nat × Nat × Option (Nat × (Nat → Int32)) × (Option Value → qW → Prop)) : qK := (s_aload 0 (s_getfield 10 5 (AW (mX10_fault, G) 4)))
theorem oX10_fault_0 (G : Nat × Nat × Nat × Option (Nat × (Nat → Int32)) × (Option Value → qW → Prop)) : qImp (bX10_fault_0 G) (AW (mX10_fault, G) 0) := (r_aload_n dX10_fault_0 rfl (r_getfield dX10_fault_1 fgX10_45 qImp.rf))
def bX10_fault_7 (G : Nat × Nat × Nat × Option (Nat × (Nat → Int32)) × (Option Value → qW → Prop)) : qK := (s_ireturn (mX10_fault, G))
theorem oX10_fault_7 (G : Nat × Nat × Nat × Option (Nat × (Nat → Int32)) × (Option Value → qW → Prop)) : qImp (bX10_fault_7 G) (AW (mX10_fault, G) 7) := (r_ireturn dX10_fault_7 rfl)
theorem kX10_fault_4 {G : Nat × Nat × Nat × Option (Nat × (Nat → Int32)) × (Option Value → qW → Prop)} {L : qL} {w : qW} {kc ks : Nat} {rest : List Value} {q : Nat}  {d mc ms : Nat} {Q : Option Value → qW → Prop} (hC : CT mX9_firstFault d mc ms [.ref q] w Q) (hq : qci w q = some 9) (hst : rest.length ≤ 4) (hdp : d + 1 ≤ G.1) (hmc : kc + mc ≤ G.2.1 ∧ ks + ms ≤ G.2.2.1) (k : ∀ r w', Q r w' → AW (mX10_fault, G) 7 L (r.toList ++ rest) w' (kc + mc) (ks + ms)) : AW (mX10_fault, G) 4 L (.ref q :: rest) w kc ks := a_callV [] rest dX10_fault_4 vX9_firstFault lk527 hC hq rfl rfl hst hdp hmc k
theorem dX10_rule_0 : decode cX10_rule 0 = .ok (.aload_n 0, 1) := by decide +kernel
theorem dX10_rule_1 : decode cX10_rule 1 = .ok (.getfield 79, 3) := by decide +kernel
theorem dX10_rule_4 : decode cX10_rule 4 = .ok (.bipush 20, 2) := by decide +kernel
theorem dX10_rule_6 : decode cX10_rule 6 = .ok (.if_icmp .ge 14, 3) := by decide +kernel
theorem dX10_rule_9 : decode cX10_rule 9 = .ok (.aload_n 0, 1) := by decide +kernel
theorem dX10_rule_10 : decode cX10_rule 10 = .ok (.getfield 45, 3) := by decide +kernel
theorem dX10_rule_13 : decode cX10_rule 13 = .ok (.invokevirtual 156, 3) := by decide +kernel
theorem dX10_rule_16 : decode cX10_rule 16 = .ok (.iconst (-1), 1) := by decide +kernel
theorem dX10_rule_17 : decode cX10_rule 17 = .ok (.if_icmp .eq 5, 3) := by decide +kernel
theorem dX10_rule_20 : decode cX10_rule 20 = .ok (.iconst (-1), 1) := by decide +kernel
theorem dX10_rule_21 : decode cX10_rule 21 = .ok (.ireturn, 1) := by decide +kernel
theorem dX10_rule_22 : decode cX10_rule 22 = .ok (.aload_n 0, 1) := by decide +kernel
theorem dX10_rule_23 : decode cX10_rule 23 = .ok (.new 70, 3) := by decide +kernel
theorem dX10_rule_26 : decode cX10_rule 26 = .ok (.dup, 1) := by decide +kernel
theorem dX10_rule_27 : decode cX10_rule 27 = .ok (.aload_n 0, 1) := by decide +kernel
theorem dX10_rule_28 : decode cX10_rule 28 = .ok (.getfield 45, 3) := by decide +kernel
theorem dX10_rule_31 : decode cX10_rule 31 = .ok (.invokevirtual 160, 3) := by decide +kernel
theorem dX10_rule_34 : decode cX10_rule 34 = .ok (.invokespecial 72, 3) := by decide +kernel
theorem dX10_rule_37 : decode cX10_rule 37 = .ok (.putfield 75, 3) := by decide +kernel
theorem dX10_rule_40 : decode cX10_rule 40 = .ok (.aload_n 0, 1) := by decide +kernel
theorem dX10_rule_41 : decode cX10_rule 41 = .ok (.getfield 66, 3) := by decide +kernel
theorem dX10_rule_44 : decode cX10_rule 44 = .ok (.invokevirtual 164, 3) := by decide +kernel
theorem dX10_rule_47 : decode cX10_rule 47 = .ok (.aload_n 0, 1) := by decide +kernel
theorem dX10_rule_48 : decode cX10_rule 48 = .ok (.getfield 45, 3) := by decide +kernel
theorem dX10_rule_51 : decode cX10_rule 51 = .ok (.iconst 0, 1) := by decide +kernel
theorem dX10_rule_52 : decode cX10_rule 52 = .ok (.invokevirtual 153, 3) := by decide +kernel
theorem dX10_rule_55 : decode cX10_rule 55 = .ok (.pop, 1) := by decide +kernel
theorem dX10_rule_56 : decode cX10_rule 56 = .ok (.aload_n 0, 1) := by decide +kernel
theorem dX10_rule_57 : decode cX10_rule 57 = .ok (.dup, 1) := by decide +kernel
theorem dX10_rule_58 : decode cX10_rule 58 = .ok (.getfield 79, 3) := by decide +kernel
theorem dX10_rule_61 : decode cX10_rule 61 = .ok (.iconst 1, 1) := by decide +kernel
theorem dX10_rule_62 : decode cX10_rule 62 = .ok (.iadd, 1) := by decide +kernel
theorem dX10_rule_63 : decode cX10_rule 63 = .ok (.putfield 79, 3) := by decide +kernel
theorem dX10_rule_66 : decode cX10_rule 66 = .ok (.aload_n 0, 1) := by decide +kernel
theorem dX10_rule_67 : decode cX10_rule 67 = .ok (.getfield 79, 3) := by decide +kernel
theorem dX10_rule_70 : decode cX10_rule 70 = .ok (.iconst 1, 1) := by decide +kernel
theorem dX10_rule_71 : decode cX10_rule 71 = .ok (.isub, 1) := by decide +kernel
theorem dX10_rule_72 : decode cX10_rule 72 = .ok (.ireturn, 1) := by decide +kernel
/-! SealLine.rule()I -/
theorem eX10_rule {d mc ms : Nat} {w : qW} {Q : Option Value → qW → Prop} {q : Nat} (h : AW (mX10_rule, d, mc, ms, none, Q) 0 [some (.ref q)] [] w 0 0) : CT mX10_rule d mc ms [.ref q] w Q := CT_of (by decide +kernel) rfl (Nat.le_of_ble_eq_true rfl) h
def bX10_rule_0 (G : Nat × Nat × Nat × Option (Nat × (Nat → Int32)) × (Option Value → qW → Prop)) : qK := (s_aload 0 (s_getfield 10 10 (s_iconst 20 (s_ic_ge (AW (mX10_rule, G) 20) (s_aload 0 (s_getfield 10 5 (AW (mX10_rule, G) 13)))))))
theorem oX10_rule_0 (G : Nat × Nat × Nat × Option (Nat × (Nat → Int32)) × (Option Value → qW → Prop)) : qImp (bX10_rule_0 G) (AW (mX10_rule, G) 0) := (r_aload_n dX10_rule_0 rfl (r_getfield dX10_rule_1 fgX10_79 (r_bipush dX10_rule_4 rfl (r_ic_ge (tgt := 20) dX10_rule_6 rfl qImp.rf (r_aload_n dX10_rule_9 rfl (r_getfield dX10_rule_10 fgX10_45 qImp.rf))))))
def bX10_rule_16 (G : Nat × Nat × Nat × Option (Nat × (Nat → Int32)) × (Option Value → qW → Prop)) : qK := (s_iconst (-1) (s_ic_eq (AW (mX10_rule, G) 22) (AW (mX10_rule, G) 20)))
theorem oX10_rule_16 (G : Nat × Nat × Nat × Option (Nat × (Nat → Int32)) × (Option Value → qW → Prop)) : qImp (bX10_rule_16 G) (AW (mX10_rule, G) 16) := (r_iconst dX10_rule_16 rfl (r_ic_eq (tgt := 22) dX10_rule_17 rfl qImp.rf qImp.rf))
def bX10_rule_20 (G : Nat × Nat × Nat × Option (Nat × (Nat → Int32)) × (Option Value → qW → Prop)) : qK := (s_iconst (-1) (s_ireturn (mX10_rule, G)))
theorem oX10_rule_20 (G : Nat × Nat × Nat × Option (Nat × (Nat → Int32)) × (Option Value → qW → Prop)) : qImp (bX10_rule_20 G) (AW (mX10_rule, G) 20) := (r_iconst dX10_rule_20 rfl (r_ireturn dX10_rule_21 rfl))
def bX10_rule_22 (G : Nat × Nat × Nat × Option (Nat × (Nat → Int32)) × (Option Value → qW → Prop)) : qK := (s_aload 0 (s_new (mX10_rule, G) 6 3 [.null, .null, .null] (s_dup (s_aload 0 (s_getfield 10 5 (AW (mX10_rule, G) 31))))))
theorem oX10_rule_22 (G : Nat × Nat × Nat × Option (Nat × (Nat → Int32)) × (Option Value → qW → Prop)) : qImp (bX10_rule_22 G) (AW (mX10_rule, G) 22) := (r_aload_n dX10_rule_22 rfl (r_new dX10_rule_23 nwX10_70 (r_dup dX10_rule_26 (r_aload_n dX10_rule_27 rfl (r_getfield dX10_rule_28 fgX10_45 qImp.rf)))))
def bX10_rule_37 (G : Nat × Nat × Nat × Option (Nat × (Nat → Int32)) × (Option Value → qW → Prop)) : qK := (s_putR 10 9 (s_aload 0 (s_getfield 10 8 (AW (mX10_rule, G) 44))))
theorem oX10_rule_37 (G : Nat × Nat × Nat × Option (Nat × (Nat → Int32)) × (Option Value → qW → Prop)) : qImp (bX10_rule_37 G) (AW (mX10_rule, G) 37) := (r_putR dX10_rule_37 fpX10_75 (fun q hq => by cases hq; rfl) (fun _ => rfl) (fun _ => rfl) (r_aload_n dX10_rule_40 rfl (r_getfield dX10_rule_41 fgX10_66 qImp.rf)))
def bX10_rule_47 (G : Nat × Nat × Nat × Option (Nat × (Nat → Int32)) × (Option Value → qW → Prop)) : qK := (s_aload 0 (s_getfield 10 5 (s_iconst 0 (AW (mX10_rule, G) 52))))
theorem oX10_rule_47 (G : Nat × Nat × Nat × Option (Nat × (Nat → Int32)) × (Option Value → qW → Prop)) : qImp (bX10_rule_47 G) (AW (mX10_rule, G) 47) := (r_aload_n dX10_rule_47 rfl (r_getfield dX10_rule_48 fgX10_45 (r_iconst dX10_rule_51 rfl qImp.rf)))
def bX10_rule_55 (G : Nat × Nat × Nat × Option (Nat × (Nat → Int32)) × (Option Value → qW → Prop)) : qK := (s_pop (s_aload 0 (s_dup (s_getfield 10 10 (s_iconst 1 (s_iadd (s_putI 10 10 (s_aload 0 (s_getfield 10 10 (s_iconst 1 (s_isub (s_ireturn (mX10_rule, G)))))))))))))
theorem oX10_rule_55 (G : Nat × Nat × Nat × Option (Nat × (Nat → Int32)) × (Option Value → qW → Prop)) : qImp (bX10_rule_55 G) (AW (mX10_rule, G) 55) := (r_pop dX10_rule_55 (r_aload_n dX10_rule_56 rfl (r_dup dX10_rule_57 (r_getfield dX10_rule_58 fgX10_79 (r_iconst dX10_rule_61 rfl (r_iadd dX10_rule_62 (r_putI dX10_rule_63 fpX10_79 (fun q hq => by cases hq; rfl) (r_aload_n dX10_rule_66 rfl (r_getfield dX10_rule_67 fgX10_79 (r_iconst dX10_rule_70 rfl (r_isub dX10_rule_71 (r_ireturn dX10_rule_72 rfl))))))))))))
theorem kX10_rule_13 {G : Nat × Nat × Nat × Option (Nat × (Nat → Int32)) × (Option Value → qW → Prop)} {L : qL} {w : qW} {kc ks : Nat} {rest : List Value} {q : Nat}  {d mc ms : Nat} {Q : Option Value → qW → Prop} (hC : CT mX9_firstFault d mc ms [.ref q] w Q) (hq : qci w q = some 9) (hst : rest.length ≤ 4) (hdp : d + 1 ≤ G.1) (hmc : kc + mc ≤ G.2.1 ∧ ks + ms ≤ G.2.2.1) (k : ∀ r w', Q r w' → AW (mX10_rule, G) 16 L (r.toList ++ rest) w' (kc + mc) (ks + ms)) : AW (mX10_rule, G) 13 L (.ref q :: rest) w kc ks := a_callV [] rest dX10_rule_13 vX9_firstFault lk527 hC hq rfl rfl hst hdp hmc k
theorem kX10_rule_31 {G : Nat × Nat × Nat × Option (Nat × (Nat → Int32)) × (Option Value → qW → Prop)} {L : qL} {w : qW} {kc ks : Nat} {rest : List Value} {q : Nat}  {d mc ms : Nat} {Q : Option Value → qW → Prop} (hC : CT mX9_readSteps d mc ms [.ref q] w Q) (hq : qci w q = some 9) (hst : rest.length ≤ 4) (hdp : d + 1 ≤ G.1) (hmc : kc + mc ≤ G.2.1 ∧ ks + ms ≤ G.2.2.1) (k : ∀ r w', Q r w' → AW (mX10_rule, G) 34 L (r.toList ++ rest) w' (kc + mc) (ks + ms)) : AW (mX10_rule, G) 31 L (.ref q :: rest) w kc ks := a_callV [] rest dX10_rule_31 vX9_readSteps lk569 hC hq rfl rfl hst hdp hmc k
theorem kX10_rule_34 {G : Nat × Nat × Nat × Option (Nat × (Nat → Int32)) × (Option Value → qW → Prop)} {L : qL} {w : qW} {kc ks : Nat} {rest : List Value} {q : Nat} {x0 : Nat} {d mc ms : Nat} {Q : Option Value → qW → Prop} (hC : CT mX6_init d mc ms [.ref q, .ref x0] w Q) (hst : rest.length ≤ 4) (hdp : d + 1 ≤ G.1) (hmc : kc + mc ≤ G.2.1 ∧ ks + ms ≤ G.2.2.1) (k : ∀ r w', Q r w' → AW (mX10_rule, G) 37 L (r.toList ++ rest) w' (kc + mc) (ks + ms)) : AW (mX10_rule, G) 34 L (.ref x0 :: .ref q :: rest) w kc ks := a_callI [.ref x0] rest dX10_rule_34 iX6_init lk286 hC rfl hst hdp hmc k
theorem kX10_rule_44 {G : Nat × Nat × Nat × Option (Nat × (Nat → Int32)) × (Option Value → qW → Prop)} {L : qL} {w : qW} {kc ks : Nat} {rest : List Value} {q : Nat}  {d mc ms : Nat} {Q : Option Value → qW → Prop} (hC : CT mX1_forget d mc ms [.ref q] w Q) (hq : qci w q = some 1) (hst : rest.length ≤ 4) (hdp : d + 1 ≤ G.1) (hmc : kc + mc ≤ G.2.1 ∧ ks + ms ≤ G.2.2.1) (k : ∀ r w', Q r w' → AW (mX10_rule, G) 47 L (r.toList ++ rest) w' (kc + mc) (ks + ms)) : AW (mX10_rule, G) 44 L (.ref q :: rest) w kc ks := a_callV [] rest dX10_rule_44 vX1_forget lk589 hC hq rfl rfl hst hdp hmc k
theorem kX10_rule_52 {G : Nat × Nat × Nat × Option (Nat × (Nat → Int32)) × (Option Value → qW → Prop)} {L : qL} {w : qW} {kc ks : Nat} {rest : List Value} {q : Nat} {x0 : Int32} {d mc ms : Nat} {Q : Option Value → qW → Prop} (hC : CT mX9_cut d mc ms [.ref q, .int x0] w Q) (hq : qci w q = some 9) (hst : rest.length ≤ 4) (hdp : d + 1 ≤ G.1) (hmc : kc + mc ≤ G.2.1 ∧ ks + ms ≤ G.2.2.1) (k : ∀ r w', Q r w' → AW (mX10_rule, G) 55 L (r.toList ++ rest) w' (kc + mc) (ks + ms)) : AW (mX10_rule, G) 52 L (.int x0 :: .ref q :: rest) w kc ks := a_callV [.int x0] rest dX10_rule_52 vX9_cut lk519 hC hq rfl rfl hst hdp hmc k
theorem dX10_ask_0 : decode cX10_ask 0 = .ok (.aload_n 0, 1) := by decide +kernel
theorem dX10_ask_1 : decode cX10_ask 1 = .ok (.getfield 24, 3) := by decide +kernel
theorem dX10_ask_4 : decode cX10_ask 4 = .ok (.iload_n 1, 1) := by decide +kernel
theorem dX10_ask_5 : decode cX10_ask 5 = .ok (.invokevirtual 167, 3) := by decide +kernel
theorem dX10_ask_8 : decode cX10_ask 8 = .ok (.ifCond .eq 14, 3) := by decide +kernel
theorem dX10_ask_11 : decode cX10_ask 11 = .ok (.aload_n 0, 1) := by decide +kernel
theorem dX10_ask_12 : decode cX10_ask 12 = .ok (.getfield 52, 3) := by decide +kernel
theorem dX10_ask_15 : decode cX10_ask 15 = .ok (.iload_n 1, 1) := by decide +kernel
theorem dX10_ask_16 : decode cX10_ask 16 = .ok (.invokevirtual 170, 3) := by decide +kernel
theorem dX10_ask_19 : decode cX10_ask 19 = .ok (.goto 4, 3) := by decide +kernel
theorem dX10_ask_22 : decode cX10_ask 22 = .ok (.iconst (-1), 1) := by decide +kernel
theorem dX10_ask_23 : decode cX10_ask 23 = .ok (.ireturn, 1) := by decide +kernel
/-! SealLine.ask(I)I -/
theorem eX10_ask {d mc ms : Nat} {w : qW} {Q : Option Value → qW → Prop} {q : Nat} {x0 : Int32} (h : AW (mX10_ask, d, mc, ms, none, Q) 0 [some (.ref q), some (.int x0)] [] w 0 0) : CT mX10_ask d mc ms [.ref q, .int x0] w Q := CT_of (by decide +kernel) rfl (Nat.le_of_ble_eq_true rfl) h
def bX10_ask_0 (G : Nat × Nat × Nat × Option (Nat × (Nat → Int32)) × (Option Value → qW → Prop)) : qK := (s_aload 0 (s_getfield 10 2 (s_iload 1 (AW (mX10_ask, G) 5))))
theorem oX10_ask_0 (G : Nat × Nat × Nat × Option (Nat × (Nat → Int32)) × (Option Value → qW → Prop)) : qImp (bX10_ask_0 G) (AW (mX10_ask, G) 0) := (r_aload_n dX10_ask_0 rfl (r_getfield dX10_ask_1 fgX10_24 (r_iload_n dX10_ask_4 rfl qImp.rf)))
def bX10_ask_8 (G : Nat × Nat × Nat × Option (Nat × (Nat → Int32)) × (Option Value → qW → Prop)) : qK := (s_if_eq (AW (mX10_ask, G) 22) (s_aload 0 (s_getfield 10 6 (s_iload 1 (AW (mX10_ask, G) 16)))))
theorem oX10_ask_8 (G : Nat × Nat × Nat × Option (Nat × (Nat → Int32)) × (Option Value → qW → Prop)) : qImp (bX10_ask_8 G) (AW (mX10_ask, G) 8) := (r_if_eq (tgt := 22) dX10_ask_8 rfl qImp.rf (r_aload_n dX10_ask_11 rfl (r_getfield dX10_ask_12 fgX10_52 (r_iload_n dX10_ask_15 rfl qImp.rf))))
def bX10_ask_19 (G : Nat × Nat × Nat × Option (Nat × (Nat → Int32)) × (Option Value → qW → Prop)) : qK := (AW (mX10_ask, G) 23)
theorem oX10_ask_19 (G : Nat × Nat × Nat × Option (Nat × (Nat → Int32)) × (Option Value → qW → Prop)) : qImp (bX10_ask_19 G) (AW (mX10_ask, G) 19) := (r_goto (tgt := 23) dX10_ask_19 rfl qImp.rf)
def bX10_ask_22 (G : Nat × Nat × Nat × Option (Nat × (Nat → Int32)) × (Option Value → qW → Prop)) : qK := (s_iconst (-1) (AW (mX10_ask, G) 23))
theorem oX10_ask_22 (G : Nat × Nat × Nat × Option (Nat × (Nat → Int32)) × (Option Value → qW → Prop)) : qImp (bX10_ask_22 G) (AW (mX10_ask, G) 22) := (r_iconst dX10_ask_22 rfl qImp.rf)
def bX10_ask_23 (G : Nat × Nat × Nat × Option (Nat × (Nat → Int32)) × (Option Value → qW → Prop)) : qK := (s_ireturn (mX10_ask, G))
theorem oX10_ask_23 (G : Nat × Nat × Nat × Option (Nat × (Nat → Int32)) × (Option Value → qW → Prop)) : qImp (bX10_ask_23 G) (AW (mX10_ask, G) 23) := (r_ireturn dX10_ask_23 rfl)
theorem kX10_ask_5 {G : Nat × Nat × Nat × Option (Nat × (Nat → Int32)) × (Option Value → qW → Prop)} {L : qL} {w : qW} {kc ks : Nat} {rest : List Value} {q : Nat} {x0 : Int32} {d mc ms : Nat} {Q : Option Value → qW → Prop} (hC : CT mX7_has d mc ms [.ref q, .int x0] w Q) (hq : qci w q = some 7) (hst : rest.length ≤ 4) (hdp : d + 1 ≤ G.1) (hmc : kc + mc ≤ G.2.1 ∧ ks + ms ≤ G.2.2.1) (k : ∀ r w', Q r w' → AW (mX10_ask, G) 8 L (r.toList ++ rest) w' (kc + mc) (ks + ms)) : AW (mX10_ask, G) 5 L (.int x0 :: .ref q :: rest) w kc ks := a_callV [.int x0] rest dX10_ask_5 vX7_has lk443 hC hq rfl rfl hst hdp hmc k
theorem kX10_ask_16 {G : Nat × Nat × Nat × Option (Nat × (Nat → Int32)) × (Option Value → qW → Prop)} {L : qL} {w : qW} {kc ks : Nat} {rest : List Value} {q : Nat} {x0 : Int32} {d mc ms : Nat} {Q : Option Value → qW → Prop} (hC : CT mX4_add d mc ms [.ref q, .int x0] w Q) (hq : qci w q = some 4) (hst : rest.length ≤ 4) (hdp : d + 1 ≤ G.1) (hmc : kc + mc ≤ G.2.1 ∧ ks + ms ≤ G.2.2.1) (k : ∀ r w', Q r w' → AW (mX10_ask, G) 19 L (r.toList ++ rest) w' (kc + mc) (ks + ms)) : AW (mX10_ask, G) 16 L (.int x0 :: .ref q :: rest) w kc ks := a_callV [.int x0] rest dX10_ask_16 vX4_add lk597 hC hq rfl rfl hst hdp hmc k
theorem dX10_skip_0 : decode cX10_skip 0 = .ok (.aload_n 0, 1) := by decide +kernel
theorem dX10_skip_1 : decode cX10_skip 1 = .ok (.getfield 52, 3) := by decide +kernel
theorem dX10_skip_4 : decode cX10_skip 4 = .ok (.invokevirtual 171, 3) := by decide +kernel
theorem dX10_skip_7 : decode cX10_skip 7 = .ok (.ireturn, 1) := by decide +kernel
/-! SealLine.skip()I -/
theorem eX10_skip {d mc ms : Nat} {w : qW} {Q : Option Value → qW → Prop} {q : Nat} (h : AW (mX10_skip, d, mc, ms, none, Q) 0 [some (.ref q)] [] w 0 0) : CT mX10_skip d mc ms [.ref q] w Q := CT_of (by decide +kernel) rfl (Nat.le_of_ble_eq_true rfl) h
def bX10_skip_0 (G : Nat × Nat × Nat × Option (Nat × (Nat → Int32)) × (Option Value → qW → Prop)) : qK := (s_aload 0 (s_getfield 10 6 (AW (mX10_skip, G) 4)))
theorem oX10_skip_0 (G : Nat × Nat × Nat × Option (Nat × (Nat → Int32)) × (Option Value → qW → Prop)) : qImp (bX10_skip_0 G) (AW (mX10_skip, G) 0) := (r_aload_n dX10_skip_0 rfl (r_getfield dX10_skip_1 fgX10_52 qImp.rf))
def bX10_skip_7 (G : Nat × Nat × Nat × Option (Nat × (Nat → Int32)) × (Option Value → qW → Prop)) : qK := (s_ireturn (mX10_skip, G))
theorem oX10_skip_7 (G : Nat × Nat × Nat × Option (Nat × (Nat → Int32)) × (Option Value → qW → Prop)) : qImp (bX10_skip_7 G) (AW (mX10_skip, G) 7) := (r_ireturn dX10_skip_7 rfl)
theorem kX10_skip_4 {G : Nat × Nat × Nat × Option (Nat × (Nat → Int32)) × (Option Value → qW → Prop)} {L : qL} {w : qW} {kc ks : Nat} {rest : List Value} {q : Nat}  {d mc ms : Nat} {Q : Option Value → qW → Prop} (hC : CT mX4_removeFirst d mc ms [.ref q] w Q) (hq : qci w q = some 4) (hst : rest.length ≤ 4) (hdp : d + 1 ≤ G.1) (hmc : kc + mc ≤ G.2.1 ∧ ks + ms ≤ G.2.2.1) (k : ∀ r w', Q r w' → AW (mX10_skip, G) 7 L (r.toList ++ rest) w' (kc + mc) (ks + ms)) : AW (mX10_skip, G) 4 L (.ref q :: rest) w kc ks := a_callV [] rest dX10_skip_4 vX4_removeFirst lk609 hC hq rfl rfl hst hdp hmc k
theorem dX10_ruleHolds_0 : decode cX10_ruleHolds 0 = .ok (.aload_n 0, 1) := by decide +kernel
theorem dX10_ruleHolds_1 : decode cX10_ruleHolds 1 = .ok (.getfield 75, 3) := by decide +kernel
theorem dX10_ruleHolds_4 : decode cX10_ruleHolds 4 = .ok (.aload_n 0, 1) := by decide +kernel
theorem dX10_ruleHolds_5 : decode cX10_ruleHolds 5 = .ok (.getfield 24, 3) := by decide +kernel
theorem dX10_ruleHolds_8 : decode cX10_ruleHolds 8 = .ok (.iload_n 1, 1) := by decide +kernel
theorem dX10_ruleHolds_9 : decode cX10_ruleHolds 9 = .ok (.invokevirtual 219, 3) := by decide +kernel
theorem dX10_ruleHolds_12 : decode cX10_ruleHolds 12 = .ok (.aload_n 0, 1) := by decide +kernel
theorem dX10_ruleHolds_13 : decode cX10_ruleHolds 13 = .ok (.getfield 24, 3) := by decide +kernel
theorem dX10_ruleHolds_16 : decode cX10_ruleHolds 16 = .ok (.iload_n 1, 1) := by decide +kernel
theorem dX10_ruleHolds_17 : decode cX10_ruleHolds 17 = .ok (.invokevirtual 222, 3) := by decide +kernel
theorem dX10_ruleHolds_20 : decode cX10_ruleHolds 20 = .ok (.invokevirtual 288, 3) := by decide +kernel
theorem dX10_ruleHolds_23 : decode cX10_ruleHolds 23 = .ok (.istore_n 2, 1) := by decide +kernel
theorem dX10_ruleHolds_24 : decode cX10_ruleHolds 24 = .ok (.iload_n 2, 1) := by decide +kernel
theorem dX10_ruleHolds_25 : decode cX10_ruleHolds 25 = .ok (.aload_n 0, 1) := by decide +kernel
theorem dX10_ruleHolds_26 : decode cX10_ruleHolds 26 = .ok (.getfield 24, 3) := by decide +kernel
theorem dX10_ruleHolds_29 : decode cX10_ruleHolds 29 = .ok (.iload_n 1, 1) := by decide +kernel
theorem dX10_ruleHolds_30 : decode cX10_ruleHolds 30 = .ok (.invokevirtual 216, 3) := by decide +kernel
theorem dX10_ruleHolds_33 : decode cX10_ruleHolds 33 = .ok (.iushr, 1) := by decide +kernel
theorem dX10_ruleHolds_34 : decode cX10_ruleHolds 34 = .ok (.iconst 1, 1) := by decide +kernel
theorem dX10_ruleHolds_35 : decode cX10_ruleHolds 35 = .ok (.iand, 1) := by decide +kernel
theorem dX10_ruleHolds_36 : decode cX10_ruleHolds 36 = .ok (.ifCond .eq 7, 3) := by decide +kernel
theorem dX10_ruleHolds_39 : decode cX10_ruleHolds 39 = .ok (.iconst 1, 1) := by decide +kernel
theorem dX10_ruleHolds_40 : decode cX10_ruleHolds 40 = .ok (.goto 4, 3) := by decide +kernel
theorem dX10_ruleHolds_43 : decode cX10_ruleHolds 43 = .ok (.iconst 0, 1) := by decide +kernel
theorem dX10_ruleHolds_44 : decode cX10_ruleHolds 44 = .ok (.ireturn, 1) := by decide +kernel
/-! SealLine.ruleHolds(I)Z -/
theorem eX10_ruleHolds {d mc ms : Nat} {w : qW} {Q : Option Value → qW → Prop} {q : Nat} {x0 : Int32} (h : AW (mX10_ruleHolds, d, mc, ms, none, Q) 0 [some (.ref q), some (.int x0), none] [] w 0 0) : CT mX10_ruleHolds d mc ms [.ref q, .int x0] w Q := CT_of (by decide +kernel) rfl (Nat.le_of_ble_eq_true rfl) h
def bX10_ruleHolds_0 (G : Nat × Nat × Nat × Option (Nat × (Nat → Int32)) × (Option Value → qW → Prop)) : qK := (s_aload 0 (s_getfield 10 9 (s_aload 0 (s_getfield 10 2 (s_iload 1 (AW (mX10_ruleHolds, G) 9))))))
theorem oX10_ruleHolds_0 (G : Nat × Nat × Nat × Option (Nat × (Nat → Int32)) × (Option Value → qW → Prop)) : qImp (bX10_ruleHolds_0 G) (AW (mX10_ruleHolds, G) 0) := (r_aload_n dX10_ruleHolds_0 rfl (r_getfield dX10_ruleHolds_1 fgX10_75 (r_aload_n dX10_ruleHolds_4 rfl (r_getfield dX10_ruleHolds_5 fgX10_24 (r_iload_n dX10_ruleHolds_8 rfl qImp.rf)))))
def bX10_ruleHolds_12 (G : Nat × Nat × Nat × Option (Nat × (Nat → Int32)) × (Option Value → qW → Prop)) : qK := (s_aload 0 (s_getfield 10 2 (s_iload 1 (AW (mX10_ruleHolds, G) 17))))
theorem oX10_ruleHolds_12 (G : Nat × Nat × Nat × Option (Nat × (Nat → Int32)) × (Option Value → qW → Prop)) : qImp (bX10_ruleHolds_12 G) (AW (mX10_ruleHolds, G) 12) := (r_aload_n dX10_ruleHolds_12 rfl (r_getfield dX10_ruleHolds_13 fgX10_24 (r_iload_n dX10_ruleHolds_16 rfl qImp.rf)))
def bX10_ruleHolds_23 (G : Nat × Nat × Nat × Option (Nat × (Nat → Int32)) × (Option Value → qW → Prop)) : qK := (s_istore 2 1 (s_iload 2 (s_aload 0 (s_getfield 10 2 (s_iload 1 (AW (mX10_ruleHolds, G) 30))))))
theorem oX10_ruleHolds_23 (G : Nat × Nat × Nat × Option (Nat × (Nat → Int32)) × (Option Value → qW → Prop)) : qImp (bX10_ruleHolds_23 G) (AW (mX10_ruleHolds, G) 23) := (r_istore_n dX10_ruleHolds_23 rfl (Or.inr rfl) (Nat.le_of_ble_eq_true rfl) (r_iload_n dX10_ruleHolds_24 rfl (r_aload_n dX10_ruleHolds_25 rfl (r_getfield dX10_ruleHolds_26 fgX10_24 (r_iload_n dX10_ruleHolds_29 rfl qImp.rf)))))
def bX10_ruleHolds_33 (G : Nat × Nat × Nat × Option (Nat × (Nat → Int32)) × (Option Value → qW → Prop)) : qK := (s_iushr (s_iconst 1 (s_iand (s_if_eq (AW (mX10_ruleHolds, G) 43) (s_iconst 1 (AW (mX10_ruleHolds, G) 44))))))
theorem oX10_ruleHolds_33 (G : Nat × Nat × Nat × Option (Nat × (Nat → Int32)) × (Option Value → qW → Prop)) : qImp (bX10_ruleHolds_33 G) (AW (mX10_ruleHolds, G) 33) := (r_iushr dX10_ruleHolds_33 (r_iconst dX10_ruleHolds_34 rfl (r_iand dX10_ruleHolds_35 (r_if_eq (tgt := 43) dX10_ruleHolds_36 rfl qImp.rf (r_iconst dX10_ruleHolds_39 rfl (r_goto (tgt := 44) dX10_ruleHolds_40 rfl qImp.rf))))))
def bX10_ruleHolds_43 (G : Nat × Nat × Nat × Option (Nat × (Nat → Int32)) × (Option Value → qW → Prop)) : qK := (s_iconst 0 (AW (mX10_ruleHolds, G) 44))
theorem oX10_ruleHolds_43 (G : Nat × Nat × Nat × Option (Nat × (Nat → Int32)) × (Option Value → qW → Prop)) : qImp (bX10_ruleHolds_43 G) (AW (mX10_ruleHolds, G) 43) := (r_iconst dX10_ruleHolds_43 rfl qImp.rf)
def bX10_ruleHolds_44 (G : Nat × Nat × Nat × Option (Nat × (Nat → Int32)) × (Option Value → qW → Prop)) : qK := (s_zreturn (mX10_ruleHolds, G))
theorem oX10_ruleHolds_44 (G : Nat × Nat × Nat × Option (Nat × (Nat → Int32)) × (Option Value → qW → Prop)) : qImp (bX10_ruleHolds_44 G) (AW (mX10_ruleHolds, G) 44) := (r_zreturn dX10_ruleHolds_44 rfl)
theorem kX10_ruleHolds_9 {G : Nat × Nat × Nat × Option (Nat × (Nat → Int32)) × (Option Value → qW → Prop)} {L : qL} {w : qW} {kc ks : Nat} {rest : List Value} {q : Nat} {x0 : Int32} {d mc ms : Nat} {Q : Option Value → qW → Prop} (hC : CT mX7_goodReviews d mc ms [.ref q, .int x0] w Q) (hq : qci w q = some 7) (hst : rest.length ≤ 4) (hdp : d + 1 ≤ G.1) (hmc : kc + mc ≤ G.2.1 ∧ ks + ms ≤ G.2.2.1) (k : ∀ r w', Q r w' → AW (mX10_ruleHolds, G) 12 L (r.toList ++ rest) w' (kc + mc) (ks + ms)) : AW (mX10_ruleHolds, G) 9 L (.int x0 :: .ref q :: rest) w kc ks := a_callV [.int x0] rest dX10_ruleHolds_9 vX7_goodReviews lk648 hC hq rfl rfl hst hdp hmc k
theorem kX10_ruleHolds_17 {G : Nat × Nat × Nat × Option (Nat × (Nat → Int32)) × (Option Value → qW → Prop)} {L : qL} {w : qW} {kc ks : Nat} {rest : List Value} {q : Nat} {x0 : Int32} {d mc ms : Nat} {Q : Option Value → qW → Prop} (hC : CT mX7_goodBuilders d mc ms [.ref q, .int x0] w Q) (hq : qci w q = some 7) (hst : rest.length ≤ 4) (hdp : d + 1 ≤ G.1) (hmc : kc + mc ≤ G.2.1 ∧ ks + ms ≤ G.2.2.1) (k : ∀ r w', Q r w' → AW (mX10_ruleHolds, G) 20 L (r.toList ++ rest) w' (kc + mc) (ks + ms)) : AW (mX10_ruleHolds, G) 17 L (.int x0 :: .ref q :: rest) w kc ks := a_callV [.int x0] rest dX10_ruleHolds_17 vX7_goodBuilders lk659 hC hq rfl rfl hst hdp hmc k
theorem kX10_ruleHolds_20 {G : Nat × Nat × Nat × Option (Nat × (Nat → Int32)) × (Option Value → qW → Prop)} {L : qL} {w : qW} {kc ks : Nat} {rest : List Value} {q : Nat} {x0 : Int32} {x1 : Int32} {d mc ms : Nat} {Q : Option Value → qW → Prop} (hC : CT mX6_holdingTries d mc ms [.ref q, .int x0, .int x1] w Q) (hq : qci w q = some 6) (hst : rest.length ≤ 4) (hdp : d + 1 ≤ G.1) (hmc : kc + mc ≤ G.2.1 ∧ ks + ms ≤ G.2.2.1) (k : ∀ r w', Q r w' → AW (mX10_ruleHolds, G) 23 L (r.toList ++ rest) w' (kc + mc) (ks + ms)) : AW (mX10_ruleHolds, G) 20 L (.int x1 :: .int x0 :: .ref q :: rest) w kc ks := a_callV [.int x0, .int x1] rest dX10_ruleHolds_20 vX6_holdingTries lk663 hC hq rfl rfl hst hdp hmc k
theorem kX10_ruleHolds_30 {G : Nat × Nat × Nat × Option (Nat × (Nat → Int32)) × (Option Value → qW → Prop)} {L : qL} {w : qW} {kc ks : Nat} {rest : List Value} {q : Nat} {x0 : Int32} {d mc ms : Nat} {Q : Option Value → qW → Prop} (hC : CT mX7_goodTries d mc ms [.ref q, .int x0] w Q) (hq : qci w q = some 7) (hst : rest.length ≤ 4) (hdp : d + 1 ≤ G.1) (hmc : kc + mc ≤ G.2.1 ∧ ks + ms ≤ G.2.2.1) (k : ∀ r w', Q r w' → AW (mX10_ruleHolds, G) 33 L (r.toList ++ rest) w' (kc + mc) (ks + ms)) : AW (mX10_ruleHolds, G) 30 L (.int x0 :: .ref q :: rest) w kc ks := a_callV [.int x0] rest dX10_ruleHolds_30 vX7_goodTries lk677 hC hq rfl rfl hst hdp hmc k
theorem dX10_isCalledBack_0 : decode cX10_isCalledBack 0 = .ok (.aload_n 0, 1) := by decide +kernel
theorem dX10_isCalledBack_1 : decode cX10_isCalledBack 1 = .ok (.getfield 24, 3) := by decide +kernel
theorem dX10_isCalledBack_4 : decode cX10_isCalledBack 4 = .ok (.iload_n 1, 1) := by decide +kernel
theorem dX10_isCalledBack_5 : decode cX10_isCalledBack 5 = .ok (.aload_n 0, 1) := by decide +kernel
theorem dX10_isCalledBack_6 : decode cX10_isCalledBack 6 = .ok (.getfield 38, 3) := by decide +kernel
theorem dX10_isCalledBack_9 : decode cX10_isCalledBack 9 = .ok (.invokevirtual 291, 3) := by decide +kernel
theorem dX10_isCalledBack_12 : decode cX10_isCalledBack 12 = .ok (.invokevirtual 295, 3) := by decide +kernel
theorem dX10_isCalledBack_15 : decode cX10_isCalledBack 15 = .ok (.ireturn, 1) := by decide +kernel
/-! SealLine.isCalledBack(I)Z -/
theorem eX10_isCalledBack {d mc ms : Nat} {w : qW} {Q : Option Value → qW → Prop} {q : Nat} {x0 : Int32} (h : AW (mX10_isCalledBack, d, mc, ms, none, Q) 0 [some (.ref q), some (.int x0)] [] w 0 0) : CT mX10_isCalledBack d mc ms [.ref q, .int x0] w Q := CT_of (by decide +kernel) rfl (Nat.le_of_ble_eq_true rfl) h
def bX10_isCalledBack_0 (G : Nat × Nat × Nat × Option (Nat × (Nat → Int32)) × (Option Value → qW → Prop)) : qK := (s_aload 0 (s_getfield 10 2 (s_iload 1 (s_aload 0 (s_getfield 10 4 (AW (mX10_isCalledBack, G) 9))))))
theorem oX10_isCalledBack_0 (G : Nat × Nat × Nat × Option (Nat × (Nat → Int32)) × (Option Value → qW → Prop)) : qImp (bX10_isCalledBack_0 G) (AW (mX10_isCalledBack, G) 0) := (r_aload_n dX10_isCalledBack_0 rfl (r_getfield dX10_isCalledBack_1 fgX10_24 (r_iload_n dX10_isCalledBack_4 rfl (r_aload_n dX10_isCalledBack_5 rfl (r_getfield dX10_isCalledBack_6 fgX10_38 qImp.rf)))))
def bX10_isCalledBack_15 (G : Nat × Nat × Nat × Option (Nat × (Nat → Int32)) × (Option Value → qW → Prop)) : qK := (s_zreturn (mX10_isCalledBack, G))
theorem oX10_isCalledBack_15 (G : Nat × Nat × Nat × Option (Nat × (Nat → Int32)) × (Option Value → qW → Prop)) : qImp (bX10_isCalledBack_15 G) (AW (mX10_isCalledBack, G) 15) := (r_zreturn dX10_isCalledBack_15 rfl)
theorem kX10_isCalledBack_9 {G : Nat × Nat × Nat × Option (Nat × (Nat → Int32)) × (Option Value → qW → Prop)} {L : qL} {w : qW} {kc ks : Nat} {rest : List Value} {q : Nat}  {d mc ms : Nat} {Q : Option Value → qW → Prop} (hC : CT mX5_marked d mc ms [.ref q] w Q) (hq : qci w q = some 5) (hst : rest.length ≤ 4) (hdp : d + 1 ≤ G.1) (hmc : kc + mc ≤ G.2.1 ∧ ks + ms ≤ G.2.2.1) (k : ∀ r w', Q r w' → AW (mX10_isCalledBack, G) 12 L (r.toList ++ rest) w' (kc + mc) (ks + ms)) : AW (mX10_isCalledBack, G) 9 L (.ref q :: rest) w kc ks := a_callV [] rest dX10_isCalledBack_9 vX5_marked lk685 hC hq rfl rfl hst hdp hmc k
theorem kX10_isCalledBack_12 {G : Nat × Nat × Nat × Option (Nat × (Nat → Int32)) × (Option Value → qW → Prop)} {L : qL} {w : qW} {kc ks : Nat} {rest : List Value} {q : Nat} {x0 : Int32} {x1 : Nat} {d mc ms : Nat} {Q : Option Value → qW → Prop} (hC : CT mX7_rowMeets d mc ms [.ref q, .int x0, .ref x1] w Q) (hq : qci w q = some 7) (hst : rest.length ≤ 4) (hdp : d + 1 ≤ G.1) (hmc : kc + mc ≤ G.2.1 ∧ ks + ms ≤ G.2.2.1) (k : ∀ r w', Q r w' → AW (mX10_isCalledBack, G) 15 L (r.toList ++ rest) w' (kc + mc) (ks + ms)) : AW (mX10_isCalledBack, G) 12 L (.ref x1 :: .int x0 :: .ref q :: rest) w kc ks := a_callV [.int x0, .ref x1] rest dX10_isCalledBack_12 vX7_rowMeets lk689 hC hq rfl rfl hst hdp hmc k
theorem dX10_refusal_0 : decode cX10_refusal 0 = .ok (.aload_n 0, 1) := by decide +kernel
theorem dX10_refusal_1 : decode cX10_refusal 1 = .ok (.getfield 52, 3) := by decide +kernel
theorem dX10_refusal_4 : decode cX10_refusal 4 = .ok (.invokevirtual 258, 3) := by decide +kernel
theorem dX10_refusal_7 : decode cX10_refusal 7 = .ok (.istore 4, 2) := by decide +kernel
theorem dX10_refusal_9 : decode cX10_refusal 9 = .ok (.iload 4, 2) := by decide +kernel
theorem dX10_refusal_11 : decode cX10_refusal 11 = .ok (.iconst (-1), 1) := by decide +kernel
theorem dX10_refusal_12 : decode cX10_refusal 12 = .ok (.if_icmp .ne 5, 3) := by decide +kernel
theorem dX10_refusal_15 : decode cX10_refusal 15 = .ok (.iconst 1, 1) := by decide +kernel
theorem dX10_refusal_16 : decode cX10_refusal 16 = .ok (.ireturn, 1) := by decide +kernel
theorem dX10_refusal_17 : decode cX10_refusal 17 = .ok (.iload_n 1, 1) := by decide +kernel
theorem dX10_refusal_18 : decode cX10_refusal 18 = .ok (.invokestatic 83, 3) := by decide +kernel
theorem dX10_refusal_21 : decode cX10_refusal 21 = .ok (.ifCond .eq 15, 3) := by decide +kernel
theorem dX10_refusal_24 : decode cX10_refusal 24 = .ok (.iload_n 2, 1) := by decide +kernel
theorem dX10_refusal_25 : decode cX10_refusal 25 = .ok (.invokestatic 83, 3) := by decide +kernel
theorem dX10_refusal_28 : decode cX10_refusal 28 = .ok (.ifCond .eq 8, 3) := by decide +kernel
theorem dX10_refusal_31 : decode cX10_refusal 31 = .ok (.iload_n 1, 1) := by decide +kernel
theorem dX10_refusal_32 : decode cX10_refusal 32 = .ok (.iload_n 2, 1) := by decide +kernel
theorem dX10_refusal_33 : decode cX10_refusal 33 = .ok (.if_icmp .ne 5, 3) := by decide +kernel
theorem dX10_refusal_36 : decode cX10_refusal 36 = .ok (.iconst 2, 1) := by decide +kernel
theorem dX10_refusal_37 : decode cX10_refusal 37 = .ok (.ireturn, 1) := by decide +kernel
theorem dX10_refusal_38 : decode cX10_refusal 38 = .ok (.aload_n 0, 1) := by decide +kernel
theorem dX10_refusal_39 : decode cX10_refusal 39 = .ok (.getfield 24, 3) := by decide +kernel
theorem dX10_refusal_42 : decode cX10_refusal 42 = .ok (.iload 4, 2) := by decide +kernel
theorem dX10_refusal_44 : decode cX10_refusal 44 = .ok (.invokevirtual 228, 3) := by decide +kernel
theorem dX10_refusal_47 : decode cX10_refusal 47 = .ok (.iconst 1, 1) := by decide +kernel
theorem dX10_refusal_48 : decode cX10_refusal 48 = .ok (.iload_n 1, 1) := by decide +kernel
theorem dX10_refusal_49 : decode cX10_refusal 49 = .ok (.ishl, 1) := by decide +kernel
theorem dX10_refusal_50 : decode cX10_refusal 50 = .ok (.iconst 1, 1) := by decide +kernel
theorem dX10_refusal_51 : decode cX10_refusal 51 = .ok (.iload_n 2, 1) := by decide +kernel
theorem dX10_refusal_52 : decode cX10_refusal 52 = .ok (.ishl, 1) := by decide +kernel
theorem dX10_refusal_53 : decode cX10_refusal 53 = .ok (.ior, 1) := by decide +kernel
theorem dX10_refusal_54 : decode cX10_refusal 54 = .ok (.iand, 1) := by decide +kernel
theorem dX10_refusal_55 : decode cX10_refusal 55 = .ok (.ifCond .eq 5, 3) := by decide +kernel
theorem dX10_refusal_58 : decode cX10_refusal 58 = .ok (.iconst 3, 1) := by decide +kernel
theorem dX10_refusal_59 : decode cX10_refusal 59 = .ok (.ireturn, 1) := by decide +kernel
theorem dX10_refusal_60 : decode cX10_refusal 60 = .ok (.aload_n 0, 1) := by decide +kernel
theorem dX10_refusal_61 : decode cX10_refusal 61 = .ok (.getfield 59, 3) := by decide +kernel
theorem dX10_refusal_64 : decode cX10_refusal 64 = .ok (.iload_n 3, 1) := by decide +kernel
theorem dX10_refusal_65 : decode cX10_refusal 65 = .ok (.invokevirtual 282, 3) := by decide +kernel
theorem dX10_refusal_68 : decode cX10_refusal 68 = .ok (.ifCond .ne 5, 3) := by decide +kernel
theorem dX10_refusal_71 : decode cX10_refusal 71 = .ok (.iconst 4, 1) := by decide +kernel
theorem dX10_refusal_72 : decode cX10_refusal 72 = .ok (.ireturn, 1) := by decide +kernel
theorem dX10_refusal_73 : decode cX10_refusal 73 = .ok (.aload_n 0, 1) := by decide +kernel
theorem dX10_refusal_74 : decode cX10_refusal 74 = .ok (.getfield 24, 3) := by decide +kernel
theorem dX10_refusal_77 : decode cX10_refusal 77 = .ok (.iload 4, 2) := by decide +kernel
theorem dX10_refusal_79 : decode cX10_refusal 79 = .ok (.invokevirtual 210, 3) := by decide +kernel
theorem dX10_refusal_82 : decode cX10_refusal 82 = .ok (.ifCond .ne 5, 3) := by decide +kernel
theorem dX10_refusal_85 : decode cX10_refusal 85 = .ok (.iconst 5, 1) := by decide +kernel
theorem dX10_refusal_86 : decode cX10_refusal 86 = .ok (.ireturn, 1) := by decide +kernel
theorem dX10_refusal_87 : decode cX10_refusal 87 = .ok (.aload_n 0, 1) := by decide +kernel
theorem dX10_refusal_88 : decode cX10_refusal 88 = .ok (.iload 4, 2) := by decide +kernel
theorem dX10_refusal_90 : decode cX10_refusal 90 = .ok (.invokevirtual 285, 3) := by decide +kernel
theorem dX10_refusal_93 : decode cX10_refusal 93 = .ok (.ifCond .ne 6, 3) := by decide +kernel
theorem dX10_refusal_96 : decode cX10_refusal 96 = .ok (.bipush 6, 2) := by decide +kernel
theorem dX10_refusal_98 : decode cX10_refusal 98 = .ok (.ireturn, 1) := by decide +kernel
theorem dX10_refusal_99 : decode cX10_refusal 99 = .ok (.aload_n 0, 1) := by decide +kernel
theorem dX10_refusal_100 : decode cX10_refusal 100 = .ok (.iload 4, 2) := by decide +kernel
theorem dX10_refusal_102 : decode cX10_refusal 102 = .ok (.invokevirtual 213, 3) := by decide +kernel
theorem dX10_refusal_105 : decode cX10_refusal 105 = .ok (.ifCond .eq 6, 3) := by decide +kernel
theorem dX10_refusal_108 : decode cX10_refusal 108 = .ok (.bipush 7, 2) := by decide +kernel
theorem dX10_refusal_110 : decode cX10_refusal 110 = .ok (.ireturn, 1) := by decide +kernel
theorem dX10_refusal_111 : decode cX10_refusal 111 = .ok (.aload_n 0, 1) := by decide +kernel
theorem dX10_refusal_112 : decode cX10_refusal 112 = .ok (.getfield 14, 3) := by decide +kernel
theorem dX10_refusal_115 : decode cX10_refusal 115 = .ok (.invokevirtual 87, 3) := by decide +kernel
theorem dX10_refusal_118 : decode cX10_refusal 118 = .ok (.ifCond .eq 8, 3) := by decide +kernel
theorem dX10_refusal_121 : decode cX10_refusal 121 = .ok (.bipush 8, 2) := by decide +kernel
theorem dX10_refusal_123 : decode cX10_refusal 123 = .ok (.goto 4, 3) := by decide +kernel
theorem dX10_refusal_126 : decode cX10_refusal 126 = .ok (.iconst 0, 1) := by decide +kernel
theorem dX10_refusal_127 : decode cX10_refusal 127 = .ok (.ireturn, 1) := by decide +kernel
/-! SealLine.refusal(III)I -/
theorem eX10_refusal {d mc ms : Nat} {w : qW} {Q : Option Value → qW → Prop} {q : Nat} {x0 : Int32} {x1 : Int32} {x2 : Int32} (h : AW (mX10_refusal, d, mc, ms, none, Q) 0 [some (.ref q), some (.int x0), some (.int x1), some (.int x2), none] [] w 0 0) : CT mX10_refusal d mc ms [.ref q, .int x0, .int x1, .int x2] w Q := CT_of (by decide +kernel) rfl (Nat.le_of_ble_eq_true rfl) h
def bX10_refusal_0 (G : Nat × Nat × Nat × Option (Nat × (Nat → Int32)) × (Option Value → qW → Prop)) : qK := (s_aload 0 (s_getfield 10 6 (AW (mX10_refusal, G) 4)))
theorem oX10_refusal_0 (G : Nat × Nat × Nat × Option (Nat × (Nat → Int32)) × (Option Value → qW → Prop)) : qImp (bX10_refusal_0 G) (AW (mX10_refusal, G) 0) := (r_aload_n dX10_refusal_0 rfl (r_getfield dX10_refusal_1 fgX10_52 qImp.rf))
def bX10_refusal_7 (G : Nat × Nat × Nat × Option (Nat × (Nat → Int32)) × (Option Value → qW → Prop)) : qK := (s_istore 4 3 (s_iload 4 (s_iconst (-1) (s_ic_ne (AW (mX10_refusal, G) 17) (s_iconst 1 (s_ireturn (mX10_refusal, G)))))))
theorem oX10_refusal_7 (G : Nat × Nat × Nat × Option (Nat × (Nat → Int32)) × (Option Value → qW → Prop)) : qImp (bX10_refusal_7 G) (AW (mX10_refusal, G) 7) := (r_istore dX10_refusal_7 (Or.inr rfl) (Nat.le_of_ble_eq_true rfl) (r_iload dX10_refusal_9 (r_iconst dX10_refusal_11 rfl (r_ic_ne (tgt := 17) dX10_refusal_12 rfl qImp.rf (r_iconst dX10_refusal_15 rfl (r_ireturn dX10_refusal_16 rfl))))))
def bX10_refusal_17 (G : Nat × Nat × Nat × Option (Nat × (Nat → Int32)) × (Option Value → qW → Prop)) : qK := (s_iload 1 (AW (mX10_refusal, G) 18))
theorem oX10_refusal_17 (G : Nat × Nat × Nat × Option (Nat × (Nat → Int32)) × (Option Value → qW → Prop)) : qImp (bX10_refusal_17 G) (AW (mX10_refusal, G) 17) := (r_iload_n dX10_refusal_17 rfl qImp.rf)
def bX10_refusal_21 (G : Nat × Nat × Nat × Option (Nat × (Nat → Int32)) × (Option Value → qW → Prop)) : qK := (s_if_eq (AW (mX10_refusal, G) 36) (s_iload 2 (AW (mX10_refusal, G) 25)))
theorem oX10_refusal_21 (G : Nat × Nat × Nat × Option (Nat × (Nat → Int32)) × (Option Value → qW → Prop)) : qImp (bX10_refusal_21 G) (AW (mX10_refusal, G) 21) := (r_if_eq (tgt := 36) dX10_refusal_21 rfl qImp.rf (r_iload_n dX10_refusal_24 rfl qImp.rf))
def bX10_refusal_28 (G : Nat × Nat × Nat × Option (Nat × (Nat → Int32)) × (Option Value → qW → Prop)) : qK := (s_if_eq (AW (mX10_refusal, G) 36) (s_iload 1 (s_iload 2 (s_ic_ne (AW (mX10_refusal, G) 38) (AW (mX10_refusal, G) 36)))))
theorem oX10_refusal_28 (G : Nat × Nat × Nat × Option (Nat × (Nat → Int32)) × (Option Value → qW → Prop)) : qImp (bX10_refusal_28 G) (AW (mX10_refusal, G) 28) := (r_if_eq (tgt := 36) dX10_refusal_28 rfl qImp.rf (r_iload_n dX10_refusal_31 rfl (r_iload_n dX10_refusal_32 rfl (r_ic_ne (tgt := 38) dX10_refusal_33 rfl qImp.rf qImp.rf))))
def bX10_refusal_36 (G : Nat × Nat × Nat × Option (Nat × (Nat → Int32)) × (Option Value → qW → Prop)) : qK := (s_iconst 2 (s_ireturn (mX10_refusal, G)))
theorem oX10_refusal_36 (G : Nat × Nat × Nat × Option (Nat × (Nat → Int32)) × (Option Value → qW → Prop)) : qImp (bX10_refusal_36 G) (AW (mX10_refusal, G) 36) := (r_iconst dX10_refusal_36 rfl (r_ireturn dX10_refusal_37 rfl))
def bX10_refusal_38 (G : Nat × Nat × Nat × Option (Nat × (Nat → Int32)) × (Option Value → qW → Prop)) : qK := (s_aload 0 (s_getfield 10 2 (s_iload 4 (AW (mX10_refusal, G) 44))))
theorem oX10_refusal_38 (G : Nat × Nat × Nat × Option (Nat × (Nat → Int32)) × (Option Value → qW → Prop)) : qImp (bX10_refusal_38 G) (AW (mX10_refusal, G) 38) := (r_aload_n dX10_refusal_38 rfl (r_getfield dX10_refusal_39 fgX10_24 (r_iload dX10_refusal_42 qImp.rf)))
def bX10_refusal_47 (G : Nat × Nat × Nat × Option (Nat × (Nat → Int32)) × (Option Value → qW → Prop)) : qK := (s_iconst 1 (s_iload 1 (s_ishl (s_iconst 1 (s_iload 2 (s_ishl (s_ior (s_iand (s_if_eq (AW (mX10_refusal, G) 60) (s_iconst 3 (s_ireturn (mX10_refusal, G))))))))))))
theorem oX10_refusal_47 (G : Nat × Nat × Nat × Option (Nat × (Nat → Int32)) × (Option Value → qW → Prop)) : qImp (bX10_refusal_47 G) (AW (mX10_refusal, G) 47) := (r_iconst dX10_refusal_47 rfl (r_iload_n dX10_refusal_48 rfl (r_ishl dX10_refusal_49 (r_iconst dX10_refusal_50 rfl (r_iload_n dX10_refusal_51 rfl (r_ishl dX10_refusal_52 (r_ior dX10_refusal_53 (r_iand dX10_refusal_54 (r_if_eq (tgt := 60) dX10_refusal_55 rfl qImp.rf (r_iconst dX10_refusal_58 rfl (r_ireturn dX10_refusal_59 rfl)))))))))))
def bX10_refusal_60 (G : Nat × Nat × Nat × Option (Nat × (Nat → Int32)) × (Option Value → qW → Prop)) : qK := (s_aload 0 (s_getfield 10 7 (s_iload 3 (AW (mX10_refusal, G) 65))))
theorem oX10_refusal_60 (G : Nat × Nat × Nat × Option (Nat × (Nat → Int32)) × (Option Value → qW → Prop)) : qImp (bX10_refusal_60 G) (AW (mX10_refusal, G) 60) := (r_aload_n dX10_refusal_60 rfl (r_getfield dX10_refusal_61 fgX10_59 (r_iload_n dX10_refusal_64 rfl qImp.rf)))
def bX10_refusal_68 (G : Nat × Nat × Nat × Option (Nat × (Nat → Int32)) × (Option Value → qW → Prop)) : qK := (s_if_ne (AW (mX10_refusal, G) 73) (s_iconst 4 (s_ireturn (mX10_refusal, G))))
theorem oX10_refusal_68 (G : Nat × Nat × Nat × Option (Nat × (Nat → Int32)) × (Option Value → qW → Prop)) : qImp (bX10_refusal_68 G) (AW (mX10_refusal, G) 68) := (r_if_ne (tgt := 73) dX10_refusal_68 rfl qImp.rf (r_iconst dX10_refusal_71 rfl (r_ireturn dX10_refusal_72 rfl)))
def bX10_refusal_73 (G : Nat × Nat × Nat × Option (Nat × (Nat → Int32)) × (Option Value → qW → Prop)) : qK := (s_aload 0 (s_getfield 10 2 (s_iload 4 (AW (mX10_refusal, G) 79))))
theorem oX10_refusal_73 (G : Nat × Nat × Nat × Option (Nat × (Nat → Int32)) × (Option Value → qW → Prop)) : qImp (bX10_refusal_73 G) (AW (mX10_refusal, G) 73) := (r_aload_n dX10_refusal_73 rfl (r_getfield dX10_refusal_74 fgX10_24 (r_iload dX10_refusal_77 qImp.rf)))
def bX10_refusal_82 (G : Nat × Nat × Nat × Option (Nat × (Nat → Int32)) × (Option Value → qW → Prop)) : qK := (s_if_ne (AW (mX10_refusal, G) 87) (s_iconst 5 (s_ireturn (mX10_refusal, G))))
theorem oX10_refusal_82 (G : Nat × Nat × Nat × Option (Nat × (Nat → Int32)) × (Option Value → qW → Prop)) : qImp (bX10_refusal_82 G) (AW (mX10_refusal, G) 82) := (r_if_ne (tgt := 87) dX10_refusal_82 rfl qImp.rf (r_iconst dX10_refusal_85 rfl (r_ireturn dX10_refusal_86 rfl)))
def bX10_refusal_87 (G : Nat × Nat × Nat × Option (Nat × (Nat → Int32)) × (Option Value → qW → Prop)) : qK := (s_aload 0 (s_iload 4 (AW (mX10_refusal, G) 90)))
theorem oX10_refusal_87 (G : Nat × Nat × Nat × Option (Nat × (Nat → Int32)) × (Option Value → qW → Prop)) : qImp (bX10_refusal_87 G) (AW (mX10_refusal, G) 87) := (r_aload_n dX10_refusal_87 rfl (r_iload dX10_refusal_88 qImp.rf))
def bX10_refusal_93 (G : Nat × Nat × Nat × Option (Nat × (Nat → Int32)) × (Option Value → qW → Prop)) : qK := (s_if_ne (AW (mX10_refusal, G) 99) (s_iconst 6 (s_ireturn (mX10_refusal, G))))
theorem oX10_refusal_93 (G : Nat × Nat × Nat × Option (Nat × (Nat → Int32)) × (Option Value → qW → Prop)) : qImp (bX10_refusal_93 G) (AW (mX10_refusal, G) 93) := (r_if_ne (tgt := 99) dX10_refusal_93 rfl qImp.rf (r_bipush dX10_refusal_96 rfl (r_ireturn dX10_refusal_98 rfl)))
def bX10_refusal_99 (G : Nat × Nat × Nat × Option (Nat × (Nat → Int32)) × (Option Value → qW → Prop)) : qK := (s_aload 0 (s_iload 4 (AW (mX10_refusal, G) 102)))
theorem oX10_refusal_99 (G : Nat × Nat × Nat × Option (Nat × (Nat → Int32)) × (Option Value → qW → Prop)) : qImp (bX10_refusal_99 G) (AW (mX10_refusal, G) 99) := (r_aload_n dX10_refusal_99 rfl (r_iload dX10_refusal_100 qImp.rf))
def bX10_refusal_105 (G : Nat × Nat × Nat × Option (Nat × (Nat → Int32)) × (Option Value → qW → Prop)) : qK := (s_if_eq (AW (mX10_refusal, G) 111) (s_iconst 7 (s_ireturn (mX10_refusal, G))))
theorem oX10_refusal_105 (G : Nat × Nat × Nat × Option (Nat × (Nat → Int32)) × (Option Value → qW → Prop)) : qImp (bX10_refusal_105 G) (AW (mX10_refusal, G) 105) := (r_if_eq (tgt := 111) dX10_refusal_105 rfl qImp.rf (r_bipush dX10_refusal_108 rfl (r_ireturn dX10_refusal_110 rfl)))
def bX10_refusal_111 (G : Nat × Nat × Nat × Option (Nat × (Nat → Int32)) × (Option Value → qW → Prop)) : qK := (s_aload 0 (s_getfield 10 0 (AW (mX10_refusal, G) 115)))
theorem oX10_refusal_111 (G : Nat × Nat × Nat × Option (Nat × (Nat → Int32)) × (Option Value → qW → Prop)) : qImp (bX10_refusal_111 G) (AW (mX10_refusal, G) 111) := (r_aload_n dX10_refusal_111 rfl (r_getfield dX10_refusal_112 fgX10_14 qImp.rf))
def bX10_refusal_118 (G : Nat × Nat × Nat × Option (Nat × (Nat → Int32)) × (Option Value → qW → Prop)) : qK := (s_if_eq (AW (mX10_refusal, G) 126) (s_iconst 8 (AW (mX10_refusal, G) 127)))
theorem oX10_refusal_118 (G : Nat × Nat × Nat × Option (Nat × (Nat → Int32)) × (Option Value → qW → Prop)) : qImp (bX10_refusal_118 G) (AW (mX10_refusal, G) 118) := (r_if_eq (tgt := 126) dX10_refusal_118 rfl qImp.rf (r_bipush dX10_refusal_121 rfl (r_goto (tgt := 127) dX10_refusal_123 rfl qImp.rf)))
def bX10_refusal_126 (G : Nat × Nat × Nat × Option (Nat × (Nat → Int32)) × (Option Value → qW → Prop)) : qK := (s_iconst 0 (AW (mX10_refusal, G) 127))
theorem oX10_refusal_126 (G : Nat × Nat × Nat × Option (Nat × (Nat → Int32)) × (Option Value → qW → Prop)) : qImp (bX10_refusal_126 G) (AW (mX10_refusal, G) 126) := (r_iconst dX10_refusal_126 rfl qImp.rf)
def bX10_refusal_127 (G : Nat × Nat × Nat × Option (Nat × (Nat → Int32)) × (Option Value → qW → Prop)) : qK := (s_ireturn (mX10_refusal, G))
theorem oX10_refusal_127 (G : Nat × Nat × Nat × Option (Nat × (Nat → Int32)) × (Option Value → qW → Prop)) : qImp (bX10_refusal_127 G) (AW (mX10_refusal, G) 127) := (r_ireturn dX10_refusal_127 rfl)
theorem kX10_refusal_4 {G : Nat × Nat × Nat × Option (Nat × (Nat → Int32)) × (Option Value → qW → Prop)} {L : qL} {w : qW} {kc ks : Nat} {rest : List Value} {q : Nat}  {d mc ms : Nat} {Q : Option Value → qW → Prop} (hC : CT mX4_first d mc ms [.ref q] w Q) (hq : qci w q = some 4) (hst : rest.length ≤ 4) (hdp : d + 1 ≤ G.1) (hmc : kc + mc ≤ G.2.1 ∧ ks + ms ≤ G.2.2.1) (k : ∀ r w', Q r w' → AW (mX10_refusal, G) 7 L (r.toList ++ rest) w' (kc + mc) (ks + ms)) : AW (mX10_refusal, G) 4 L (.ref q :: rest) w kc ks := a_callV [] rest dX10_refusal_4 vX4_first lk626 hC hq rfl rfl hst hdp hmc k
theorem kX10_refusal_18 {G : Nat × Nat × Nat × Option (Nat × (Nat → Int32)) × (Option Value → qW → Prop)} {L : qL} {w : qW} {kc ks : Nat} {rest : List Value}  {x0 : Int32} {d mc ms : Nat} {Q : Option Value → qW → Prop} (hC : CT mX10_isHand d mc ms [.int x0] w Q) (hst : rest.length ≤ 4) (hdp : d + 1 ≤ G.1) (hmc : kc + mc ≤ G.2.1 ∧ ks + ms ≤ G.2.2.1) (k : ∀ r w', Q r w' → AW (mX10_refusal, G) 21 L (r.toList ++ rest) w' (kc + mc) (ks + ms)) : AW (mX10_refusal, G) 18 L (.int x0 :: rest) w kc ks := a_callS [.int x0] rest dX10_refusal_18 tX10_isHand lk338 hC rfl hst hdp hmc k
theorem kX10_refusal_25 {G : Nat × Nat × Nat × Option (Nat × (Nat → Int32)) × (Option Value → qW → Prop)} {L : qL} {w : qW} {kc ks : Nat} {rest : List Value}  {x0 : Int32} {d mc ms : Nat} {Q : Option Value → qW → Prop} (hC : CT mX10_isHand d mc ms [.int x0] w Q) (hst : rest.length ≤ 4) (hdp : d + 1 ≤ G.1) (hmc : kc + mc ≤ G.2.1 ∧ ks + ms ≤ G.2.2.1) (k : ∀ r w', Q r w' → AW (mX10_refusal, G) 28 L (r.toList ++ rest) w' (kc + mc) (ks + ms)) : AW (mX10_refusal, G) 25 L (.int x0 :: rest) w kc ks := a_callS [.int x0] rest dX10_refusal_25 tX10_isHand lk338 hC rfl hst hdp hmc k
theorem kX10_refusal_44 {G : Nat × Nat × Nat × Option (Nat × (Nat → Int32)) × (Option Value → qW → Prop)} {L : qL} {w : qW} {kc ks : Nat} {rest : List Value} {q : Nat} {x0 : Int32} {d mc ms : Nat} {Q : Option Value → qW → Prop} (hC : CT mX7_makersOf d mc ms [.ref q, .int x0] w Q) (hq : qci w q = some 7) (hst : rest.length ≤ 4) (hdp : d + 1 ≤ G.1) (hmc : kc + mc ≤ G.2.1 ∧ ks + ms ≤ G.2.2.1) (k : ∀ r w', Q r w' → AW (mX10_refusal, G) 47 L (r.toList ++ rest) w' (kc + mc) (ks + ms)) : AW (mX10_refusal, G) 44 L (.int x0 :: .ref q :: rest) w kc ks := a_callV [.int x0] rest dX10_refusal_44 vX7_makersOf lk627 hC hq rfl rfl hst hdp hmc k
theorem kX10_refusal_65 {G : Nat × Nat × Nat × Option (Nat × (Nat → Int32)) × (Option Value → qW → Prop)} {L : qL} {w : qW} {kc ks : Nat} {rest : List Value} {q : Nat} {x0 : Int32} {d mc ms : Nat} {Q : Option Value → qW → Prop} (hC : CT mX2_canSeal d mc ms [.ref q, .int x0] w Q) (hq : qci w q = some 2) (hst : rest.length ≤ 4) (hdp : d + 1 ≤ G.1) (hmc : kc + mc ≤ G.2.1 ∧ ks + ms ≤ G.2.2.1) (k : ∀ r w', Q r w' → AW (mX10_refusal, G) 68 L (r.toList ++ rest) w' (kc + mc) (ks + ms)) : AW (mX10_refusal, G) 65 L (.int x0 :: .ref q :: rest) w kc ks := a_callV [.int x0] rest dX10_refusal_65 vX2_canSeal lk632 hC hq rfl rfl hst hdp hmc k
theorem kX10_refusal_79 {G : Nat × Nat × Nat × Option (Nat × (Nat → Int32)) × (Option Value → qW → Prop)} {L : qL} {w : qW} {kc ks : Nat} {rest : List Value} {q : Nat} {x0 : Int32} {d mc ms : Nat} {Q : Option Value → qW → Prop} (hC : CT mX7_isClean d mc ms [.ref q, .int x0] w Q) (hq : qci w q = some 7) (hst : rest.length ≤ 4) (hdp : d + 1 ≤ G.1) (hmc : kc + mc ≤ G.2.1 ∧ ks + ms ≤ G.2.2.1) (k : ∀ r w', Q r w' → AW (mX10_refusal, G) 82 L (r.toList ++ rest) w' (kc + mc) (ks + ms)) : AW (mX10_refusal, G) 79 L (.int x0 :: .ref q :: rest) w kc ks := a_callV [.int x0] rest dX10_refusal_79 vX7_isClean lk643 hC hq rfl rfl hst hdp hmc k
theorem kX10_refusal_90 {G : Nat × Nat × Nat × Option (Nat × (Nat → Int32)) × (Option Value → qW → Prop)} {L : qL} {w : qW} {kc ks : Nat} {rest : List Value} {q : Nat} {x0 : Int32} {d mc ms : Nat} {Q : Option Value → qW → Prop} (hC : CT mX10_ruleHolds d mc ms [.ref q, .int x0] w Q) (hq : qci w q = some 10) (hst : rest.length ≤ 4) (hdp : d + 1 ≤ G.1) (hmc : kc + mc ≤ G.2.1 ∧ ks + ms ≤ G.2.2.1) (k : ∀ r w', Q r w' → AW (mX10_refusal, G) 93 L (r.toList ++ rest) w' (kc + mc) (ks + ms)) : AW (mX10_refusal, G) 90 L (.int x0 :: .ref q :: rest) w kc ks := a_callV [.int x0] rest dX10_refusal_90 vX10_ruleHolds lk644 hC hq rfl rfl hst hdp hmc k
theorem kX10_refusal_102 {G : Nat × Nat × Nat × Option (Nat × (Nat → Int32)) × (Option Value → qW → Prop)} {L : qL} {w : qW} {kc ks : Nat} {rest : List Value} {q : Nat} {x0 : Int32} {d mc ms : Nat} {Q : Option Value → qW → Prop} (hC : CT mX10_isCalledBack d mc ms [.ref q, .int x0] w Q) (hq : qci w q = some 10) (hst : rest.length ≤ 4) (hdp : d + 1 ≤ G.1) (hmc : kc + mc ≤ G.2.1 ∧ ks + ms ≤ G.2.2.1) (k : ∀ r w', Q r w' → AW (mX10_refusal, G) 105 L (r.toList ++ rest) w' (kc + mc) (ks + ms)) : AW (mX10_refusal, G) 102 L (.int x0 :: .ref q :: rest) w kc ks := a_callV [.int x0] rest dX10_refusal_102 vX10_isCalledBack lk681 hC hq rfl rfl hst hdp hmc k
theorem kX10_refusal_115 {G : Nat × Nat × Nat × Option (Nat × (Nat → Int32)) × (Option Value → qW → Prop)} {L : qL} {w : qW} {kc ks : Nat} {rest : List Value} {q : Nat}  {d mc ms : Nat} {Q : Option Value → qW → Prop} (hC : CT mX8_isFull d mc ms [.ref q] w Q) (hq : qci w q = some 8) (hst : rest.length ≤ 4) (hdp : d + 1 ≤ G.1) (hmc : kc + mc ≤ G.2.1 ∧ ks + ms ≤ G.2.2.1) (k : ∀ r w', Q r w' → AW (mX10_refusal, G) 118 L (r.toList ++ rest) w' (kc + mc) (ks + ms)) : AW (mX10_refusal, G) 115 L (.ref q :: rest) w kc ks := a_callV [] rest dX10_refusal_115 vX8_isFull lk341 hC hq rfl rfl hst hdp hmc k
theorem dX10_seal_0 : decode cX10_seal 0 = .ok (.aload_n 0, 1) := by decide +kernel
theorem dX10_seal_1 : decode cX10_seal 1 = .ok (.iload_n 1, 1) := by decide +kernel
theorem dX10_seal_2 : decode cX10_seal 2 = .ok (.iload_n 2, 1) := by decide +kernel
theorem dX10_seal_3 : decode cX10_seal 3 = .ok (.iload_n 3, 1) := by decide +kernel
theorem dX10_seal_4 : decode cX10_seal 4 = .ok (.invokevirtual 174, 3) := by decide +kernel
theorem dX10_seal_7 : decode cX10_seal 7 = .ok (.ifCond .eq 5, 3) := by decide +kernel
theorem dX10_seal_10 : decode cX10_seal 10 = .ok (.iconst (-1), 1) := by decide +kernel
theorem dX10_seal_11 : decode cX10_seal 11 = .ok (.ireturn, 1) := by decide +kernel
theorem dX10_seal_12 : decode cX10_seal 12 = .ok (.aload_n 0, 1) := by decide +kernel
theorem dX10_seal_13 : decode cX10_seal 13 = .ok (.getfield 52, 3) := by decide +kernel
theorem dX10_seal_16 : decode cX10_seal 16 = .ok (.invokevirtual 171, 3) := by decide +kernel
theorem dX10_seal_19 : decode cX10_seal 19 = .ok (.istore 4, 2) := by decide +kernel
theorem dX10_seal_21 : decode cX10_seal 21 = .ok (.aload_n 0, 1) := by decide +kernel
theorem dX10_seal_22 : decode cX10_seal 22 = .ok (.iconst 4, 1) := by decide +kernel
theorem dX10_seal_23 : decode cX10_seal 23 = .ok (.iload 4, 2) := by decide +kernel
theorem dX10_seal_25 : decode cX10_seal 25 = .ok (.iload_n 1, 1) := by decide +kernel
theorem dX10_seal_26 : decode cX10_seal 26 = .ok (.invokevirtual 95, 3) := by decide +kernel
theorem dX10_seal_29 : decode cX10_seal 29 = .ok (.istore 5, 2) := by decide +kernel
theorem dX10_seal_31 : decode cX10_seal 31 = .ok (.aload_n 0, 1) := by decide +kernel
theorem dX10_seal_32 : decode cX10_seal 32 = .ok (.getfield 18, 3) := by decide +kernel
theorem dX10_seal_35 : decode cX10_seal 35 = .ok (.invokevirtual 177, 3) := by decide +kernel
theorem dX10_seal_38 : decode cX10_seal 38 = .ok (.istore 6, 2) := by decide +kernel
theorem dX10_seal_40 : decode cX10_seal 40 = .ok (.aload_n 0, 1) := by decide +kernel
theorem dX10_seal_41 : decode cX10_seal 41 = .ok (.getfield 18, 3) := by decide +kernel
theorem dX10_seal_44 : decode cX10_seal 44 = .ok (.iload 6, 2) := by decide +kernel
theorem dX10_seal_46 : decode cX10_seal 46 = .ok (.iconst 0, 1) := by decide +kernel
theorem dX10_seal_47 : decode cX10_seal 47 = .ok (.iload 4, 2) := by decide +kernel
theorem dX10_seal_49 : decode cX10_seal 49 = .ok (.invokevirtual 124, 3) := by decide +kernel
theorem dX10_seal_52 : decode cX10_seal 52 = .ok (.aload_n 0, 1) := by decide +kernel
theorem dX10_seal_53 : decode cX10_seal 53 = .ok (.getfield 18, 3) := by decide +kernel
theorem dX10_seal_56 : decode cX10_seal 56 = .ok (.iload 6, 2) := by decide +kernel
theorem dX10_seal_58 : decode cX10_seal 58 = .ok (.iconst 1, 1) := by decide +kernel
theorem dX10_seal_59 : decode cX10_seal 59 = .ok (.iload_n 3, 1) := by decide +kernel
theorem dX10_seal_60 : decode cX10_seal 60 = .ok (.invokevirtual 124, 3) := by decide +kernel
theorem dX10_seal_63 : decode cX10_seal 63 = .ok (.aload_n 0, 1) := by decide +kernel
theorem dX10_seal_64 : decode cX10_seal 64 = .ok (.getfield 18, 3) := by decide +kernel
theorem dX10_seal_67 : decode cX10_seal 67 = .ok (.iload 6, 2) := by decide +kernel
theorem dX10_seal_69 : decode cX10_seal 69 = .ok (.iconst 2, 1) := by decide +kernel
theorem dX10_seal_70 : decode cX10_seal 70 = .ok (.iload 5, 2) := by decide +kernel
theorem dX10_seal_72 : decode cX10_seal 72 = .ok (.invokevirtual 124, 3) := by decide +kernel
theorem dX10_seal_75 : decode cX10_seal 75 = .ok (.aload_n 0, 1) := by decide +kernel
theorem dX10_seal_76 : decode cX10_seal 76 = .ok (.getfield 18, 3) := by decide +kernel
theorem dX10_seal_79 : decode cX10_seal 79 = .ok (.iload 6, 2) := by decide +kernel
theorem dX10_seal_81 : decode cX10_seal 81 = .ok (.iconst 3, 1) := by decide +kernel
theorem dX10_seal_82 : decode cX10_seal 82 = .ok (.iload_n 1, 1) := by decide +kernel
theorem dX10_seal_83 : decode cX10_seal 83 = .ok (.invokevirtual 124, 3) := by decide +kernel
theorem dX10_seal_86 : decode cX10_seal 86 = .ok (.aload_n 0, 1) := by decide +kernel
theorem dX10_seal_87 : decode cX10_seal 87 = .ok (.getfield 18, 3) := by decide +kernel
theorem dX10_seal_90 : decode cX10_seal 90 = .ok (.iload 6, 2) := by decide +kernel
theorem dX10_seal_92 : decode cX10_seal 92 = .ok (.iconst 4, 1) := by decide +kernel
theorem dX10_seal_93 : decode cX10_seal 93 = .ok (.iload_n 2, 1) := by decide +kernel
theorem dX10_seal_94 : decode cX10_seal 94 = .ok (.invokevirtual 124, 3) := by decide +kernel
theorem dX10_seal_97 : decode cX10_seal 97 = .ok (.aload_n 0, 1) := by decide +kernel
theorem dX10_seal_98 : decode cX10_seal 98 = .ok (.getfield 18, 3) := by decide +kernel
theorem dX10_seal_101 : decode cX10_seal 101 = .ok (.iload 6, 2) := by decide +kernel
theorem dX10_seal_103 : decode cX10_seal 103 = .ok (.iconst 5, 1) := by decide +kernel
theorem dX10_seal_104 : decode cX10_seal 104 = .ok (.aload_n 0, 1) := by decide +kernel
theorem dX10_seal_105 : decode cX10_seal 105 = .ok (.getfield 79, 3) := by decide +kernel
theorem dX10_seal_108 : decode cX10_seal 108 = .ok (.iconst 1, 1) := by decide +kernel
theorem dX10_seal_109 : decode cX10_seal 109 = .ok (.isub, 1) := by decide +kernel
theorem dX10_seal_110 : decode cX10_seal 110 = .ok (.invokevirtual 124, 3) := by decide +kernel
theorem dX10_seal_113 : decode cX10_seal 113 = .ok (.aload_n 0, 1) := by decide +kernel
theorem dX10_seal_114 : decode cX10_seal 114 = .ok (.getfield 59, 3) := by decide +kernel
theorem dX10_seal_117 : decode cX10_seal 117 = .ok (.iload_n 3, 1) := by decide +kernel
theorem dX10_seal_118 : decode cX10_seal 118 = .ok (.invokevirtual 180, 3) := by decide +kernel
theorem dX10_seal_121 : decode cX10_seal 121 = .ok (.iload 6, 2) := by decide +kernel
theorem dX10_seal_123 : decode cX10_seal 123 = .ok (.ireturn, 1) := by decide +kernel
/-! SealLine.seal(III)I -/
theorem eX10_seal {d mc ms : Nat} {w : qW} {Q : Option Value → qW → Prop} {q : Nat} {x0 : Int32} {x1 : Int32} {x2 : Int32} (h : AW (mX10_seal, d, mc, ms, none, Q) 0 [some (.ref q), some (.int x0), some (.int x1), some (.int x2), none, none, none] [] w 0 0) : CT mX10_seal d mc ms [.ref q, .int x0, .int x1, .int x2] w Q := CT_of (by decide +kernel) rfl (Nat.le_of_ble_eq_true rfl) h
def bX10_seal_0 (G : Nat × Nat × Nat × Option (Nat × (Nat → Int32)) × (Option Value → qW → Prop)) : qK := (s_aload 0 (s_iload 1 (s_iload 2 (s_iload 3 (AW (mX10_seal, G) 4)))))
theorem oX10_seal_0 (G : Nat × Nat × Nat × Option (Nat × (Nat → Int32)) × (Option Value → qW → Prop)) : qImp (bX10_seal_0 G) (AW (mX10_seal, G) 0) := (r_aload_n dX10_seal_0 rfl (r_iload_n dX10_seal_1 rfl (r_iload_n dX10_seal_2 rfl (r_iload_n dX10_seal_3 rfl qImp.rf))))
def bX10_seal_7 (G : Nat × Nat × Nat × Option (Nat × (Nat → Int32)) × (Option Value → qW → Prop)) : qK := (s_if_eq (AW (mX10_seal, G) 12) (s_iconst (-1) (s_ireturn (mX10_seal, G))))
theorem oX10_seal_7 (G : Nat × Nat × Nat × Option (Nat × (Nat → Int32)) × (Option Value → qW → Prop)) : qImp (bX10_seal_7 G) (AW (mX10_seal, G) 7) := (r_if_eq (tgt := 12) dX10_seal_7 rfl qImp.rf (r_iconst dX10_seal_10 rfl (r_ireturn dX10_seal_11 rfl)))
def bX10_seal_12 (G : Nat × Nat × Nat × Option (Nat × (Nat → Int32)) × (Option Value → qW → Prop)) : qK := (s_aload 0 (s_getfield 10 6 (AW (mX10_seal, G) 16)))
theorem oX10_seal_12 (G : Nat × Nat × Nat × Option (Nat × (Nat → Int32)) × (Option Value → qW → Prop)) : qImp (bX10_seal_12 G) (AW (mX10_seal, G) 12) := (r_aload_n dX10_seal_12 rfl (r_getfield dX10_seal_13 fgX10_52 qImp.rf))
def bX10_seal_19 (G : Nat × Nat × Nat × Option (Nat × (Nat → Int32)) × (Option Value → qW → Prop)) : qK := (s_istore 4 3 (s_aload 0 (s_iconst 4 (s_iload 4 (s_iload 1 (AW (mX10_seal, G) 26))))))
theorem oX10_seal_19 (G : Nat × Nat × Nat × Option (Nat × (Nat → Int32)) × (Option Value → qW → Prop)) : qImp (bX10_seal_19 G) (AW (mX10_seal, G) 19) := (r_istore dX10_seal_19 (Or.inr rfl) (Nat.le_of_ble_eq_true rfl) (r_aload_n dX10_seal_21 rfl (r_iconst dX10_seal_22 rfl (r_iload dX10_seal_23 (r_iload_n dX10_seal_25 rfl qImp.rf)))))
def bX10_seal_29 (G : Nat × Nat × Nat × Option (Nat × (Nat → Int32)) × (Option Value → qW → Prop)) : qK := (s_istore 5 4 (s_aload 0 (s_getfield 10 1 (AW (mX10_seal, G) 35))))
theorem oX10_seal_29 (G : Nat × Nat × Nat × Option (Nat × (Nat → Int32)) × (Option Value → qW → Prop)) : qImp (bX10_seal_29 G) (AW (mX10_seal, G) 29) := (r_istore dX10_seal_29 (Or.inr rfl) (Nat.le_of_ble_eq_true rfl) (r_aload_n dX10_seal_31 rfl (r_getfield dX10_seal_32 fgX10_18 qImp.rf)))
def bX10_seal_38 (G : Nat × Nat × Nat × Option (Nat × (Nat → Int32)) × (Option Value → qW → Prop)) : qK := (s_istore 6 5 (s_aload 0 (s_getfield 10 1 (s_iload 6 (s_iconst 0 (s_iload 4 (AW (mX10_seal, G) 49)))))))
theorem oX10_seal_38 (G : Nat × Nat × Nat × Option (Nat × (Nat → Int32)) × (Option Value → qW → Prop)) : qImp (bX10_seal_38 G) (AW (mX10_seal, G) 38) := (r_istore dX10_seal_38 (Or.inr rfl) (Nat.le_of_ble_eq_true rfl) (r_aload_n dX10_seal_40 rfl (r_getfield dX10_seal_41 fgX10_18 (r_iload dX10_seal_44 (r_iconst dX10_seal_46 rfl (r_iload dX10_seal_47 qImp.rf))))))
def bX10_seal_52 (G : Nat × Nat × Nat × Option (Nat × (Nat → Int32)) × (Option Value → qW → Prop)) : qK := (s_aload 0 (s_getfield 10 1 (s_iload 6 (s_iconst 1 (s_iload 3 (AW (mX10_seal, G) 60))))))
theorem oX10_seal_52 (G : Nat × Nat × Nat × Option (Nat × (Nat → Int32)) × (Option Value → qW → Prop)) : qImp (bX10_seal_52 G) (AW (mX10_seal, G) 52) := (r_aload_n dX10_seal_52 rfl (r_getfield dX10_seal_53 fgX10_18 (r_iload dX10_seal_56 (r_iconst dX10_seal_58 rfl (r_iload_n dX10_seal_59 rfl qImp.rf)))))
def bX10_seal_63 (G : Nat × Nat × Nat × Option (Nat × (Nat → Int32)) × (Option Value → qW → Prop)) : qK := (s_aload 0 (s_getfield 10 1 (s_iload 6 (s_iconst 2 (s_iload 5 (AW (mX10_seal, G) 72))))))
theorem oX10_seal_63 (G : Nat × Nat × Nat × Option (Nat × (Nat → Int32)) × (Option Value → qW → Prop)) : qImp (bX10_seal_63 G) (AW (mX10_seal, G) 63) := (r_aload_n dX10_seal_63 rfl (r_getfield dX10_seal_64 fgX10_18 (r_iload dX10_seal_67 (r_iconst dX10_seal_69 rfl (r_iload dX10_seal_70 qImp.rf)))))
def bX10_seal_75 (G : Nat × Nat × Nat × Option (Nat × (Nat → Int32)) × (Option Value → qW → Prop)) : qK := (s_aload 0 (s_getfield 10 1 (s_iload 6 (s_iconst 3 (s_iload 1 (AW (mX10_seal, G) 83))))))
theorem oX10_seal_75 (G : Nat × Nat × Nat × Option (Nat × (Nat → Int32)) × (Option Value → qW → Prop)) : qImp (bX10_seal_75 G) (AW (mX10_seal, G) 75) := (r_aload_n dX10_seal_75 rfl (r_getfield dX10_seal_76 fgX10_18 (r_iload dX10_seal_79 (r_iconst dX10_seal_81 rfl (r_iload_n dX10_seal_82 rfl qImp.rf)))))
def bX10_seal_86 (G : Nat × Nat × Nat × Option (Nat × (Nat → Int32)) × (Option Value → qW → Prop)) : qK := (s_aload 0 (s_getfield 10 1 (s_iload 6 (s_iconst 4 (s_iload 2 (AW (mX10_seal, G) 94))))))
theorem oX10_seal_86 (G : Nat × Nat × Nat × Option (Nat × (Nat → Int32)) × (Option Value → qW → Prop)) : qImp (bX10_seal_86 G) (AW (mX10_seal, G) 86) := (r_aload_n dX10_seal_86 rfl (r_getfield dX10_seal_87 fgX10_18 (r_iload dX10_seal_90 (r_iconst dX10_seal_92 rfl (r_iload_n dX10_seal_93 rfl qImp.rf)))))
def bX10_seal_97 (G : Nat × Nat × Nat × Option (Nat × (Nat → Int32)) × (Option Value → qW → Prop)) : qK := (s_aload 0 (s_getfield 10 1 (s_iload 6 (s_iconst 5 (s_aload 0 (s_getfield 10 10 (s_iconst 1 (s_isub (AW (mX10_seal, G) 110)))))))))
theorem oX10_seal_97 (G : Nat × Nat × Nat × Option (Nat × (Nat → Int32)) × (Option Value → qW → Prop)) : qImp (bX10_seal_97 G) (AW (mX10_seal, G) 97) := (r_aload_n dX10_seal_97 rfl (r_getfield dX10_seal_98 fgX10_18 (r_iload dX10_seal_101 (r_iconst dX10_seal_103 rfl (r_aload_n dX10_seal_104 rfl (r_getfield dX10_seal_105 fgX10_79 (r_iconst dX10_seal_108 rfl (r_isub dX10_seal_109 qImp.rf))))))))
def bX10_seal_113 (G : Nat × Nat × Nat × Option (Nat × (Nat → Int32)) × (Option Value → qW → Prop)) : qK := (s_aload 0 (s_getfield 10 7 (s_iload 3 (AW (mX10_seal, G) 118))))
theorem oX10_seal_113 (G : Nat × Nat × Nat × Option (Nat × (Nat → Int32)) × (Option Value → qW → Prop)) : qImp (bX10_seal_113 G) (AW (mX10_seal, G) 113) := (r_aload_n dX10_seal_113 rfl (r_getfield dX10_seal_114 fgX10_59 (r_iload_n dX10_seal_117 rfl qImp.rf)))
def bX10_seal_121 (G : Nat × Nat × Nat × Option (Nat × (Nat → Int32)) × (Option Value → qW → Prop)) : qK := (s_iload 6 (s_ireturn (mX10_seal, G)))
theorem oX10_seal_121 (G : Nat × Nat × Nat × Option (Nat × (Nat → Int32)) × (Option Value → qW → Prop)) : qImp (bX10_seal_121 G) (AW (mX10_seal, G) 121) := (r_iload dX10_seal_121 (r_ireturn dX10_seal_123 rfl))
theorem kX10_seal_4 {G : Nat × Nat × Nat × Option (Nat × (Nat → Int32)) × (Option Value → qW → Prop)} {L : qL} {w : qW} {kc ks : Nat} {rest : List Value} {q : Nat} {x0 : Int32} {x1 : Int32} {x2 : Int32} {d mc ms : Nat} {Q : Option Value → qW → Prop} (hC : CT mX10_refusal d mc ms [.ref q, .int x0, .int x1, .int x2] w Q) (hq : qci w q = some 10) (hst : rest.length ≤ 4) (hdp : d + 1 ≤ G.1) (hmc : kc + mc ≤ G.2.1 ∧ ks + ms ≤ G.2.2.1) (k : ∀ r w', Q r w' → AW (mX10_seal, G) 7 L (r.toList ++ rest) w' (kc + mc) (ks + ms)) : AW (mX10_seal, G) 4 L (.int x2 :: .int x1 :: .int x0 :: .ref q :: rest) w kc ks := a_callV [.int x0, .int x1, .int x2] rest dX10_seal_4 vX10_refusal lk622 hC hq rfl rfl hst hdp hmc k
theorem kX10_seal_16 {G : Nat × Nat × Nat × Option (Nat × (Nat → Int32)) × (Option Value → qW → Prop)} {L : qL} {w : qW} {kc ks : Nat} {rest : List Value} {q : Nat}  {d mc ms : Nat} {Q : Option Value → qW → Prop} (hC : CT mX4_removeFirst d mc ms [.ref q] w Q) (hq : qci w q = some 4) (hst : rest.length ≤ 4) (hdp : d + 1 ≤ G.1) (hmc : kc + mc ≤ G.2.1 ∧ ks + ms ≤ G.2.2.1) (k : ∀ r w', Q r w' → AW (mX10_seal, G) 19 L (r.toList ++ rest) w' (kc + mc) (ks + ms)) : AW (mX10_seal, G) 16 L (.ref q :: rest) w kc ks := a_callV [] rest dX10_seal_16 vX4_removeFirst lk609 hC hq rfl rfl hst hdp hmc k
theorem kX10_seal_26 {G : Nat × Nat × Nat × Option (Nat × (Nat → Int32)) × (Option Value → qW → Prop)} {L : qL} {w : qW} {kc ks : Nat} {rest : List Value} {q : Nat} {x0 : Int32} {x1 : Int32} {x2 : Int32} {d mc ms : Nat} {Q : Option Value → qW → Prop} (hC : CT mX10_addNote d mc ms [.ref q, .int x0, .int x1, .int x2] w Q) (hq : qci w q = some 10) (hst : rest.length ≤ 4) (hdp : d + 1 ≤ G.1) (hmc : kc + mc ≤ G.2.1 ∧ ks + ms ≤ G.2.2.1) (k : ∀ r w', Q r w' → AW (mX10_seal, G) 29 L (r.toList ++ rest) w' (kc + mc) (ks + ms)) : AW (mX10_seal, G) 26 L (.int x2 :: .int x1 :: .int x0 :: .ref q :: rest) w kc ks := a_callV [.int x0, .int x1, .int x2] rest dX10_seal_26 vX10_addNote lk357 hC hq rfl rfl hst hdp hmc k
theorem kX10_seal_35 {G : Nat × Nat × Nat × Option (Nat × (Nat → Int32)) × (Option Value → qW → Prop)} {L : qL} {w : qW} {kc ks : Nat} {rest : List Value} {q : Nat}  {d mc ms : Nat} {Q : Option Value → qW → Prop} (hC : CT mX8_addRow d mc ms [.ref q] w Q) (hq : qci w q = some 8) (hst : rest.length ≤ 4) (hdp : d + 1 ≤ G.1) (hmc : kc + mc ≤ G.2.1 ∧ ks + ms ≤ G.2.2.1) (k : ∀ r w', Q r w' → AW (mX10_seal, G) 38 L (r.toList ++ rest) w' (kc + mc) (ks + ms)) : AW (mX10_seal, G) 35 L (.ref q :: rest) w kc ks := a_callV [] rest dX10_seal_35 vX8_addRow lk361 hC hq rfl rfl hst hdp hmc k
theorem kX10_seal_49 {G : Nat × Nat × Nat × Option (Nat × (Nat → Int32)) × (Option Value → qW → Prop)} {L : qL} {w : qW} {kc ks : Nat} {rest : List Value} {q : Nat} {x0 : Int32} {x1 : Int32} {x2 : Int32} {d mc ms : Nat} {Q : Option Value → qW → Prop} (hC : CT mX8_set d mc ms [.ref q, .int x0, .int x1, .int x2] w Q) (hq : qci w q = some 8) (hst : rest.length ≤ 4) (hdp : d + 1 ≤ G.1) (hmc : kc + mc ≤ G.2.1 ∧ ks + ms ≤ G.2.2.1) (k : ∀ r w', Q r w' → AW (mX10_seal, G) 52 L (r.toList ++ rest) w' (kc + mc) (ks + ms)) : AW (mX10_seal, G) 49 L (.int x2 :: .int x1 :: .int x0 :: .ref q :: rest) w kc ks := a_callV [.int x0, .int x1, .int x2] rest dX10_seal_49 vX8_set lk366 hC hq rfl rfl hst hdp hmc k
theorem kX10_seal_60 {G : Nat × Nat × Nat × Option (Nat × (Nat → Int32)) × (Option Value → qW → Prop)} {L : qL} {w : qW} {kc ks : Nat} {rest : List Value} {q : Nat} {x0 : Int32} {x1 : Int32} {x2 : Int32} {d mc ms : Nat} {Q : Option Value → qW → Prop} (hC : CT mX8_set d mc ms [.ref q, .int x0, .int x1, .int x2] w Q) (hq : qci w q = some 8) (hst : rest.length ≤ 4) (hdp : d + 1 ≤ G.1) (hmc : kc + mc ≤ G.2.1 ∧ ks + ms ≤ G.2.2.1) (k : ∀ r w', Q r w' → AW (mX10_seal, G) 63 L (r.toList ++ rest) w' (kc + mc) (ks + ms)) : AW (mX10_seal, G) 60 L (.int x2 :: .int x1 :: .int x0 :: .ref q :: rest) w kc ks := a_callV [.int x0, .int x1, .int x2] rest dX10_seal_60 vX8_set lk366 hC hq rfl rfl hst hdp hmc k
theorem kX10_seal_72 {G : Nat × Nat × Nat × Option (Nat × (Nat → Int32)) × (Option Value → qW → Prop)} {L : qL} {w : qW} {kc ks : Nat} {rest : List Value} {q : Nat} {x0 : Int32} {x1 : Int32} {x2 : Int32} {d mc ms : Nat} {Q : Option Value → qW → Prop} (hC : CT mX8_set d mc ms [.ref q, .int x0, .int x1, .int x2] w Q) (hq : qci w q = some 8) (hst : rest.length ≤ 4) (hdp : d + 1 ≤ G.1) (hmc : kc + mc ≤ G.2.1 ∧ ks + ms ≤ G.2.2.1) (k : ∀ r w', Q r w' → AW (mX10_seal, G) 75 L (r.toList ++ rest) w' (kc + mc) (ks + ms)) : AW (mX10_seal, G) 72 L (.int x2 :: .int x1 :: .int x0 :: .ref q :: rest) w kc ks := a_callV [.int x0, .int x1, .int x2] rest dX10_seal_72 vX8_set lk366 hC hq rfl rfl hst hdp hmc k
theorem kX10_seal_83 {G : Nat × Nat × Nat × Option (Nat × (Nat → Int32)) × (Option Value → qW → Prop)} {L : qL} {w : qW} {kc ks : Nat} {rest : List Value} {q : Nat} {x0 : Int32} {x1 : Int32} {x2 : Int32} {d mc ms : Nat} {Q : Option Value → qW → Prop} (hC : CT mX8_set d mc ms [.ref q, .int x0, .int x1, .int x2] w Q) (hq : qci w q = some 8) (hst : rest.length ≤ 4) (hdp : d + 1 ≤ G.1) (hmc : kc + mc ≤ G.2.1 ∧ ks + ms ≤ G.2.2.1) (k : ∀ r w', Q r w' → AW (mX10_seal, G) 86 L (r.toList ++ rest) w' (kc + mc) (ks + ms)) : AW (mX10_seal, G) 83 L (.int x2 :: .int x1 :: .int x0 :: .ref q :: rest) w kc ks := a_callV [.int x0, .int x1, .int x2] rest dX10_seal_83 vX8_set lk366 hC hq rfl rfl hst hdp hmc k
theorem kX10_seal_94 {G : Nat × Nat × Nat × Option (Nat × (Nat → Int32)) × (Option Value → qW → Prop)} {L : qL} {w : qW} {kc ks : Nat} {rest : List Value} {q : Nat} {x0 : Int32} {x1 : Int32} {x2 : Int32} {d mc ms : Nat} {Q : Option Value → qW → Prop} (hC : CT mX8_set d mc ms [.ref q, .int x0, .int x1, .int x2] w Q) (hq : qci w q = some 8) (hst : rest.length ≤ 4) (hdp : d + 1 ≤ G.1) (hmc : kc + mc ≤ G.2.1 ∧ ks + ms ≤ G.2.2.1) (k : ∀ r w', Q r w' → AW (mX10_seal, G) 97 L (r.toList ++ rest) w' (kc + mc) (ks + ms)) : AW (mX10_seal, G) 94 L (.int x2 :: .int x1 :: .int x0 :: .ref q :: rest) w kc ks := a_callV [.int x0, .int x1, .int x2] rest dX10_seal_94 vX8_set lk366 hC hq rfl rfl hst hdp hmc k
theorem kX10_seal_110 {G : Nat × Nat × Nat × Option (Nat × (Nat → Int32)) × (Option Value → qW → Prop)} {L : qL} {w : qW} {kc ks : Nat} {rest : List Value} {q : Nat} {x0 : Int32} {x1 : Int32} {x2 : Int32} {d mc ms : Nat} {Q : Option Value → qW → Prop} (hC : CT mX8_set d mc ms [.ref q, .int x0, .int x1, .int x2] w Q) (hq : qci w q = some 8) (hst : rest.length ≤ 4) (hdp : d + 1 ≤ G.1) (hmc : kc + mc ≤ G.2.1 ∧ ks + ms ≤ G.2.2.1) (k : ∀ r w', Q r w' → AW (mX10_seal, G) 113 L (r.toList ++ rest) w' (kc + mc) (ks + ms)) : AW (mX10_seal, G) 110 L (.int x2 :: .int x1 :: .int x0 :: .ref q :: rest) w kc ks := a_callV [.int x0, .int x1, .int x2] rest dX10_seal_110 vX8_set lk366 hC hq rfl rfl hst hdp hmc k
theorem kX10_seal_118 {G : Nat × Nat × Nat × Option (Nat × (Nat → Int32)) × (Option Value → qW → Prop)} {L : qL} {w : qW} {kc ks : Nat} {rest : List Value} {q : Nat} {x0 : Int32} {d mc ms : Nat} {Q : Option Value → qW → Prop} (hC : CT mX2_useOnce d mc ms [.ref q, .int x0] w Q) (hq : qci w q = some 2) (hst : rest.length ≤ 4) (hdp : d + 1 ≤ G.1) (hmc : kc + mc ≤ G.2.1 ∧ ks + ms ≤ G.2.2.1) (k : ∀ r w', Q r w' → AW (mX10_seal, G) 121 L (r.toList ++ rest) w' (kc + mc) (ks + ms)) : AW (mX10_seal, G) 118 L (.int x0 :: .ref q :: rest) w kc ks := a_callV [.int x0] rest dX10_seal_118 vX2_useOnce lk697 hC hq rfl rfl hst hdp hmc k
theorem dX10_why_0 : decode cX10_why 0 = .ok (.aload_n 0, 1) := by decide +kernel
theorem dX10_why_1 : decode cX10_why 1 = .ok (.iload_n 1, 1) := by decide +kernel
theorem dX10_why_2 : decode cX10_why 2 = .ok (.iload_n 2, 1) := by decide +kernel
theorem dX10_why_3 : decode cX10_why 3 = .ok (.iload_n 3, 1) := by decide +kernel
theorem dX10_why_4 : decode cX10_why 4 = .ok (.invokevirtual 174, 3) := by decide +kernel
theorem dX10_why_7 : decode cX10_why 7 = .ok (.ireturn, 1) := by decide +kernel
/-! SealLine.why(III)I -/
theorem eX10_why {d mc ms : Nat} {w : qW} {Q : Option Value → qW → Prop} {q : Nat} {x0 : Int32} {x1 : Int32} {x2 : Int32} (h : AW (mX10_why, d, mc, ms, none, Q) 0 [some (.ref q), some (.int x0), some (.int x1), some (.int x2)] [] w 0 0) : CT mX10_why d mc ms [.ref q, .int x0, .int x1, .int x2] w Q := CT_of (by decide +kernel) rfl (Nat.le_of_ble_eq_true rfl) h
def bX10_why_0 (G : Nat × Nat × Nat × Option (Nat × (Nat → Int32)) × (Option Value → qW → Prop)) : qK := (s_aload 0 (s_iload 1 (s_iload 2 (s_iload 3 (AW (mX10_why, G) 4)))))
theorem oX10_why_0 (G : Nat × Nat × Nat × Option (Nat × (Nat → Int32)) × (Option Value → qW → Prop)) : qImp (bX10_why_0 G) (AW (mX10_why, G) 0) := (r_aload_n dX10_why_0 rfl (r_iload_n dX10_why_1 rfl (r_iload_n dX10_why_2 rfl (r_iload_n dX10_why_3 rfl qImp.rf))))
def bX10_why_7 (G : Nat × Nat × Nat × Option (Nat × (Nat → Int32)) × (Option Value → qW → Prop)) : qK := (s_ireturn (mX10_why, G))
theorem oX10_why_7 (G : Nat × Nat × Nat × Option (Nat × (Nat → Int32)) × (Option Value → qW → Prop)) : qImp (bX10_why_7 G) (AW (mX10_why, G) 7) := (r_ireturn dX10_why_7 rfl)
theorem kX10_why_4 {G : Nat × Nat × Nat × Option (Nat × (Nat → Int32)) × (Option Value → qW → Prop)} {L : qL} {w : qW} {kc ks : Nat} {rest : List Value} {q : Nat} {x0 : Int32} {x1 : Int32} {x2 : Int32} {d mc ms : Nat} {Q : Option Value → qW → Prop} (hC : CT mX10_refusal d mc ms [.ref q, .int x0, .int x1, .int x2] w Q) (hq : qci w q = some 10) (hst : rest.length ≤ 4) (hdp : d + 1 ≤ G.1) (hmc : kc + mc ≤ G.2.1 ∧ ks + ms ≤ G.2.2.1) (k : ∀ r w', Q r w' → AW (mX10_why, G) 7 L (r.toList ++ rest) w' (kc + mc) (ks + ms)) : AW (mX10_why, G) 4 L (.int x2 :: .int x1 :: .int x0 :: .ref q :: rest) w kc ks := a_callV [.int x0, .int x1, .int x2] rest dX10_why_4 vX10_refusal lk622 hC hq rfl rfl hst hdp hmc k
theorem dX10_uses_0 : decode cX10_uses 0 = .ok (.aload_n 0, 1) := by decide +kernel
theorem dX10_uses_1 : decode cX10_uses 1 = .ok (.getfield 59, 3) := by decide +kernel
theorem dX10_uses_4 : decode cX10_uses 4 = .ok (.iload_n 1, 1) := by decide +kernel
theorem dX10_uses_5 : decode cX10_uses 5 = .ok (.iload_n 2, 1) := by decide +kernel
theorem dX10_uses_6 : decode cX10_uses 6 = .ok (.invokevirtual 183, 3) := by decide +kernel
theorem dX10_uses_9 : decode cX10_uses 9 = .ok (.ireturn, 1) := by decide +kernel
/-! SealLine.uses(II)I -/
theorem eX10_uses {d mc ms : Nat} {w : qW} {Q : Option Value → qW → Prop} {q : Nat} {x0 : Int32} {x1 : Int32} (h : AW (mX10_uses, d, mc, ms, none, Q) 0 [some (.ref q), some (.int x0), some (.int x1)] [] w 0 0) : CT mX10_uses d mc ms [.ref q, .int x0, .int x1] w Q := CT_of (by decide +kernel) rfl (Nat.le_of_ble_eq_true rfl) h
def bX10_uses_0 (G : Nat × Nat × Nat × Option (Nat × (Nat → Int32)) × (Option Value → qW → Prop)) : qK := (s_aload 0 (s_getfield 10 7 (s_iload 1 (s_iload 2 (AW (mX10_uses, G) 6)))))
theorem oX10_uses_0 (G : Nat × Nat × Nat × Option (Nat × (Nat → Int32)) × (Option Value → qW → Prop)) : qImp (bX10_uses_0 G) (AW (mX10_uses, G) 0) := (r_aload_n dX10_uses_0 rfl (r_getfield dX10_uses_1 fgX10_59 (r_iload_n dX10_uses_4 rfl (r_iload_n dX10_uses_5 rfl qImp.rf))))
def bX10_uses_9 (G : Nat × Nat × Nat × Option (Nat × (Nat → Int32)) × (Option Value → qW → Prop)) : qK := (s_ireturn (mX10_uses, G))
theorem oX10_uses_9 (G : Nat × Nat × Nat × Option (Nat × (Nat → Int32)) × (Option Value → qW → Prop)) : qImp (bX10_uses_9 G) (AW (mX10_uses, G) 9) := (r_ireturn dX10_uses_9 rfl)
theorem kX10_uses_6 {G : Nat × Nat × Nat × Option (Nat × (Nat → Int32)) × (Option Value → qW → Prop)} {L : qL} {w : qW} {kc ks : Nat} {rest : List Value} {q : Nat} {x0 : Int32} {x1 : Int32} {d mc ms : Nat} {Q : Option Value → qW → Prop} (hC : CT mX2_addUses d mc ms [.ref q, .int x0, .int x1] w Q) (hq : qci w q = some 2) (hst : rest.length ≤ 4) (hdp : d + 1 ≤ G.1) (hmc : kc + mc ≤ G.2.1 ∧ ks + ms ≤ G.2.2.1) (k : ∀ r w', Q r w' → AW (mX10_uses, G) 9 L (r.toList ++ rest) w' (kc + mc) (ks + ms)) : AW (mX10_uses, G) 6 L (.int x1 :: .int x0 :: .ref q :: rest) w kc ks := a_callV [.int x0, .int x1] rest dX10_uses_6 vX2_addUses lk710 hC hq rfl rfl hst hdp hmc k
theorem dX10_finish_0 : decode cX10_finish 0 = .ok (.aload_n 0, 1) := by decide +kernel
theorem dX10_finish_1 : decode cX10_finish 1 = .ok (.getfield 59, 3) := by decide +kernel
theorem dX10_finish_4 : decode cX10_finish 4 = .ok (.iload_n 1, 1) := by decide +kernel
theorem dX10_finish_5 : decode cX10_finish 5 = .ok (.invokevirtual 187, 3) := by decide +kernel
theorem dX10_finish_8 : decode cX10_finish 8 = .ok (.ireturn, 1) := by decide +kernel
/-! SealLine.finish(I)Z -/
theorem eX10_finish {d mc ms : Nat} {w : qW} {Q : Option Value → qW → Prop} {q : Nat} {x0 : Int32} (h : AW (mX10_finish, d, mc, ms, none, Q) 0 [some (.ref q), some (.int x0)] [] w 0 0) : CT mX10_finish d mc ms [.ref q, .int x0] w Q := CT_of (by decide +kernel) rfl (Nat.le_of_ble_eq_true rfl) h
def bX10_finish_0 (G : Nat × Nat × Nat × Option (Nat × (Nat → Int32)) × (Option Value → qW → Prop)) : qK := (s_aload 0 (s_getfield 10 7 (s_iload 1 (AW (mX10_finish, G) 5))))
theorem oX10_finish_0 (G : Nat × Nat × Nat × Option (Nat × (Nat → Int32)) × (Option Value → qW → Prop)) : qImp (bX10_finish_0 G) (AW (mX10_finish, G) 0) := (r_aload_n dX10_finish_0 rfl (r_getfield dX10_finish_1 fgX10_59 (r_iload_n dX10_finish_4 rfl qImp.rf)))
def bX10_finish_8 (G : Nat × Nat × Nat × Option (Nat × (Nat → Int32)) × (Option Value → qW → Prop)) : qK := (s_zreturn (mX10_finish, G))
theorem oX10_finish_8 (G : Nat × Nat × Nat × Option (Nat × (Nat → Int32)) × (Option Value → qW → Prop)) : qImp (bX10_finish_8 G) (AW (mX10_finish, G) 8) := (r_zreturn dX10_finish_8 rfl)
theorem kX10_finish_5 {G : Nat × Nat × Nat × Option (Nat × (Nat → Int32)) × (Option Value → qW → Prop)} {L : qL} {w : qW} {kc ks : Nat} {rest : List Value} {q : Nat} {x0 : Int32} {d mc ms : Nat} {Q : Option Value → qW → Prop} (hC : CT mX2_endOne d mc ms [.ref q, .int x0] w Q) (hq : qci w q = some 2) (hst : rest.length ≤ 4) (hdp : d + 1 ≤ G.1) (hmc : kc + mc ≤ G.2.1 ∧ ks + ms ≤ G.2.2.1) (k : ∀ r w', Q r w' → AW (mX10_finish, G) 8 L (r.toList ++ rest) w' (kc + mc) (ks + ms)) : AW (mX10_finish, G) 5 L (.int x0 :: .ref q :: rest) w kc ks := a_callV [.int x0] rest dX10_finish_5 vX2_endOne lk719 hC hq rfl rfl hst hdp hmc k
theorem dX10_lose_0 : decode cX10_lose 0 = .ok (.iload_n 2, 1) := by decide +kernel
theorem dX10_lose_1 : decode cX10_lose 1 = .ok (.ifCond .lt 26, 3) := by decide +kernel
theorem dX10_lose_4 : decode cX10_lose 4 = .ok (.iload_n 2, 1) := by decide +kernel
theorem dX10_lose_5 : decode cX10_lose 5 = .ok (.aload_n 0, 1) := by decide +kernel
theorem dX10_lose_6 : decode cX10_lose 6 = .ok (.getfield 14, 3) := by decide +kernel
theorem dX10_lose_9 : decode cX10_lose 9 = .ok (.invokevirtual 190, 3) := by decide +kernel
theorem dX10_lose_12 : decode cX10_lose 12 = .ok (.if_icmp .gt 15, 3) := by decide +kernel
theorem dX10_lose_15 : decode cX10_lose 15 = .ok (.aload_n 0, 1) := by decide +kernel
theorem dX10_lose_16 : decode cX10_lose 16 = .ok (.getfield 59, 3) := by decide +kernel
theorem dX10_lose_19 : decode cX10_lose 19 = .ok (.iload_n 1, 1) := by decide +kernel
theorem dX10_lose_20 : decode cX10_lose 20 = .ok (.iload_n 2, 1) := by decide +kernel
theorem dX10_lose_21 : decode cX10_lose 21 = .ok (.invokevirtual 193, 3) := by decide +kernel
theorem dX10_lose_24 : decode cX10_lose 24 = .ok (.ifCond .ne 5, 3) := by decide +kernel
theorem dX10_lose_27 : decode cX10_lose 27 = .ok (.iconst (-1), 1) := by decide +kernel
theorem dX10_lose_28 : decode cX10_lose 28 = .ok (.ireturn, 1) := by decide +kernel
theorem dX10_lose_29 : decode cX10_lose 29 = .ok (.iconst 0, 1) := by decide +kernel
theorem dX10_lose_30 : decode cX10_lose 30 = .ok (.istore_n 3, 1) := by decide +kernel
theorem dX10_lose_31 : decode cX10_lose 31 = .ok (.iconst 0, 1) := by decide +kernel
theorem dX10_lose_32 : decode cX10_lose 32 = .ok (.istore 4, 2) := by decide +kernel
theorem dX10_lose_34 : decode cX10_lose 34 = .ok (.iload 4, 2) := by decide +kernel
theorem dX10_lose_36 : decode cX10_lose 36 = .ok (.aload_n 0, 1) := by decide +kernel
theorem dX10_lose_37 : decode cX10_lose 37 = .ok (.getfield 18, 3) := by decide +kernel
theorem dX10_lose_40 : decode cX10_lose 40 = .ok (.invokevirtual 190, 3) := by decide +kernel
theorem dX10_lose_43 : decode cX10_lose 43 = .ok (.if_icmp .ge 40, 3) := by decide +kernel
theorem dX10_lose_46 : decode cX10_lose 46 = .ok (.aload_n 0, 1) := by decide +kernel
theorem dX10_lose_47 : decode cX10_lose 47 = .ok (.getfield 18, 3) := by decide +kernel
theorem dX10_lose_50 : decode cX10_lose 50 = .ok (.iload 4, 2) := by decide +kernel
theorem dX10_lose_52 : decode cX10_lose 52 = .ok (.iconst 1, 1) := by decide +kernel
theorem dX10_lose_53 : decode cX10_lose 53 = .ok (.invokevirtual 197, 3) := by decide +kernel
theorem dX10_lose_56 : decode cX10_lose 56 = .ok (.iload_n 1, 1) := by decide +kernel
theorem dX10_lose_57 : decode cX10_lose 57 = .ok (.if_icmp .ne 20, 3) := by decide +kernel
theorem dX10_lose_60 : decode cX10_lose 60 = .ok (.aload_n 0, 1) := by decide +kernel
theorem dX10_lose_61 : decode cX10_lose 61 = .ok (.getfield 18, 3) := by decide +kernel
theorem dX10_lose_64 : decode cX10_lose 64 = .ok (.iload 4, 2) := by decide +kernel
theorem dX10_lose_66 : decode cX10_lose 66 = .ok (.iconst 2, 1) := by decide +kernel
theorem dX10_lose_67 : decode cX10_lose 67 = .ok (.invokevirtual 197, 3) := by decide +kernel
theorem dX10_lose_70 : decode cX10_lose 70 = .ok (.iload_n 2, 1) := by decide +kernel
theorem dX10_lose_71 : decode cX10_lose 71 = .ok (.if_icmp .lt 6, 3) := by decide +kernel
theorem dX10_lose_74 : decode cX10_lose 74 = .ok (.iinc 3 1, 3) := by decide +kernel
theorem dX10_lose_77 : decode cX10_lose 77 = .ok (.iinc 4 1, 3) := by decide +kernel
theorem dX10_lose_80 : decode cX10_lose 80 = .ok (.goto (-46), 3) := by decide +kernel
theorem dX10_lose_83 : decode cX10_lose 83 = .ok (.iload_n 3, 1) := by decide +kernel
theorem dX10_lose_84 : decode cX10_lose 84 = .ok (.ireturn, 1) := by decide +kernel
/-! SealLine.lose(II)I -/
theorem eX10_lose {d mc ms : Nat} {w : qW} {Q : Option Value → qW → Prop} {q : Nat} {x0 : Int32} {x1 : Int32} (h : AW (mX10_lose, d, mc, ms, none, Q) 0 [some (.ref q), some (.int x0), some (.int x1), none, none] [] w 0 0) : CT mX10_lose d mc ms [.ref q, .int x0, .int x1] w Q := CT_of (by decide +kernel) rfl (Nat.le_of_ble_eq_true rfl) h
def bX10_lose_0 (G : Nat × Nat × Nat × Option (Nat × (Nat → Int32)) × (Option Value → qW → Prop)) : qK := (s_iload 2 (s_if_lt (AW (mX10_lose, G) 27) (s_iload 2 (s_aload 0 (s_getfield 10 0 (AW (mX10_lose, G) 9))))))
theorem oX10_lose_0 (G : Nat × Nat × Nat × Option (Nat × (Nat → Int32)) × (Option Value → qW → Prop)) : qImp (bX10_lose_0 G) (AW (mX10_lose, G) 0) := (r_iload_n dX10_lose_0 rfl (r_if_lt (tgt := 27) dX10_lose_1 rfl qImp.rf (r_iload_n dX10_lose_4 rfl (r_aload_n dX10_lose_5 rfl (r_getfield dX10_lose_6 fgX10_14 qImp.rf)))))
def bX10_lose_12 (G : Nat × Nat × Nat × Option (Nat × (Nat → Int32)) × (Option Value → qW → Prop)) : qK := (s_ic_gt (AW (mX10_lose, G) 27) (s_aload 0 (s_getfield 10 7 (s_iload 1 (s_iload 2 (AW (mX10_lose, G) 21))))))
theorem oX10_lose_12 (G : Nat × Nat × Nat × Option (Nat × (Nat → Int32)) × (Option Value → qW → Prop)) : qImp (bX10_lose_12 G) (AW (mX10_lose, G) 12) := (r_ic_gt (tgt := 27) dX10_lose_12 rfl qImp.rf (r_aload_n dX10_lose_15 rfl (r_getfield dX10_lose_16 fgX10_59 (r_iload_n dX10_lose_19 rfl (r_iload_n dX10_lose_20 rfl qImp.rf)))))
def bX10_lose_24 (G : Nat × Nat × Nat × Option (Nat × (Nat → Int32)) × (Option Value → qW → Prop)) : qK := (s_if_ne (AW (mX10_lose, G) 29) (AW (mX10_lose, G) 27))
theorem oX10_lose_24 (G : Nat × Nat × Nat × Option (Nat × (Nat → Int32)) × (Option Value → qW → Prop)) : qImp (bX10_lose_24 G) (AW (mX10_lose, G) 24) := (r_if_ne (tgt := 29) dX10_lose_24 rfl qImp.rf qImp.rf)
def bX10_lose_27 (G : Nat × Nat × Nat × Option (Nat × (Nat → Int32)) × (Option Value → qW → Prop)) : qK := (s_iconst (-1) (s_ireturn (mX10_lose, G)))
theorem oX10_lose_27 (G : Nat × Nat × Nat × Option (Nat × (Nat → Int32)) × (Option Value → qW → Prop)) : qImp (bX10_lose_27 G) (AW (mX10_lose, G) 27) := (r_iconst dX10_lose_27 rfl (r_ireturn dX10_lose_28 rfl))
def bX10_lose_29 (G : Nat × Nat × Nat × Option (Nat × (Nat → Int32)) × (Option Value → qW → Prop)) : qK := (s_iconst 0 (s_istore 3 2 (s_iconst 0 (s_istore 4 3 (AW (mX10_lose, G) 34)))))
theorem oX10_lose_29 (G : Nat × Nat × Nat × Option (Nat × (Nat → Int32)) × (Option Value → qW → Prop)) : qImp (bX10_lose_29 G) (AW (mX10_lose, G) 29) := (r_iconst dX10_lose_29 rfl (r_istore_n dX10_lose_30 rfl (Or.inr rfl) (Nat.le_of_ble_eq_true rfl) (r_iconst dX10_lose_31 rfl (r_istore dX10_lose_32 (Or.inr rfl) (Nat.le_of_ble_eq_true rfl) qImp.rf))))
def bX10_lose_34 (G : Nat × Nat × Nat × Option (Nat × (Nat → Int32)) × (Option Value → qW → Prop)) : qK := (s_iload 4 (s_aload 0 (s_getfield 10 1 (AW (mX10_lose, G) 40))))
theorem oX10_lose_34 (G : Nat × Nat × Nat × Option (Nat × (Nat → Int32)) × (Option Value → qW → Prop)) : qImp (bX10_lose_34 G) (AW (mX10_lose, G) 34) := (r_iload dX10_lose_34 (r_aload_n dX10_lose_36 rfl (r_getfield dX10_lose_37 fgX10_18 qImp.rf)))
def bX10_lose_43 (G : Nat × Nat × Nat × Option (Nat × (Nat → Int32)) × (Option Value → qW → Prop)) : qK := (s_ic_ge (AW (mX10_lose, G) 83) (s_aload 0 (s_getfield 10 1 (s_iload 4 (s_iconst 1 (AW (mX10_lose, G) 53))))))
theorem oX10_lose_43 (G : Nat × Nat × Nat × Option (Nat × (Nat → Int32)) × (Option Value → qW → Prop)) : qImp (bX10_lose_43 G) (AW (mX10_lose, G) 43) := (r_ic_ge (tgt := 83) dX10_lose_43 rfl qImp.rf (r_aload_n dX10_lose_46 rfl (r_getfield dX10_lose_47 fgX10_18 (r_iload dX10_lose_50 (r_iconst dX10_lose_52 rfl qImp.rf)))))
def bX10_lose_56 (G : Nat × Nat × Nat × Option (Nat × (Nat → Int32)) × (Option Value → qW → Prop)) : qK := (s_iload 1 (s_ic_ne (AW (mX10_lose, G) 77) (s_aload 0 (s_getfield 10 1 (s_iload 4 (s_iconst 2 (AW (mX10_lose, G) 67)))))))
theorem oX10_lose_56 (G : Nat × Nat × Nat × Option (Nat × (Nat → Int32)) × (Option Value → qW → Prop)) : qImp (bX10_lose_56 G) (AW (mX10_lose, G) 56) := (r_iload_n dX10_lose_56 rfl (r_ic_ne (tgt := 77) dX10_lose_57 rfl qImp.rf (r_aload_n dX10_lose_60 rfl (r_getfield dX10_lose_61 fgX10_18 (r_iload dX10_lose_64 (r_iconst dX10_lose_66 rfl qImp.rf))))))
def bX10_lose_70 (G : Nat × Nat × Nat × Option (Nat × (Nat → Int32)) × (Option Value → qW → Prop)) : qK := (s_iload 2 (s_ic_lt (AW (mX10_lose, G) 77) (s_iinc 3 2 1 (AW (mX10_lose, G) 77))))
theorem oX10_lose_70 (G : Nat × Nat × Nat × Option (Nat × (Nat → Int32)) × (Option Value → qW → Prop)) : qImp (bX10_lose_70 G) (AW (mX10_lose, G) 70) := (r_iload_n dX10_lose_70 rfl (r_ic_lt (tgt := 77) dX10_lose_71 rfl qImp.rf (r_iinc dX10_lose_74 rfl (Or.inr rfl) (Nat.le_of_ble_eq_true rfl) qImp.rf)))
def bX10_lose_77 (G : Nat × Nat × Nat × Option (Nat × (Nat → Int32)) × (Option Value → qW → Prop)) : qK := (s_iinc 4 3 1 (AW (mX10_lose, G) 34))
theorem oX10_lose_77 (G : Nat × Nat × Nat × Option (Nat × (Nat → Int32)) × (Option Value → qW → Prop)) : qImp (bX10_lose_77 G) (AW (mX10_lose, G) 77) := (r_iinc dX10_lose_77 rfl (Or.inr rfl) (Nat.le_of_ble_eq_true rfl) (r_goto (tgt := 34) dX10_lose_80 rfl qImp.rf))
def bX10_lose_83 (G : Nat × Nat × Nat × Option (Nat × (Nat → Int32)) × (Option Value → qW → Prop)) : qK := (s_iload 3 (s_ireturn (mX10_lose, G)))
theorem oX10_lose_83 (G : Nat × Nat × Nat × Option (Nat × (Nat → Int32)) × (Option Value → qW → Prop)) : qImp (bX10_lose_83 G) (AW (mX10_lose, G) 83) := (r_iload_n dX10_lose_83 rfl (r_ireturn dX10_lose_84 rfl))
theorem kX10_lose_9 {G : Nat × Nat × Nat × Option (Nat × (Nat → Int32)) × (Option Value → qW → Prop)} {L : qL} {w : qW} {kc ks : Nat} {rest : List Value} {q : Nat}  {d mc ms : Nat} {Q : Option Value → qW → Prop} (hC : CT mX8_size d mc ms [.ref q] w Q) (hq : qci w q = some 8) (hst : rest.length ≤ 4) (hdp : d + 1 ≤ G.1) (hmc : kc + mc ≤ G.2.1 ∧ ks + ms ≤ G.2.2.1) (k : ∀ r w', Q r w' → AW (mX10_lose, G) 12 L (r.toList ++ rest) w' (kc + mc) (ks + ms)) : AW (mX10_lose, G) 9 L (.ref q :: rest) w kc ks := a_callV [] rest dX10_lose_9 vX8_size lk727 hC hq rfl rfl hst hdp hmc k
theorem kX10_lose_21 {G : Nat × Nat × Nat × Option (Nat × (Nat → Int32)) × (Option Value → qW → Prop)} {L : qL} {w : qW} {kc ks : Nat} {rest : List Value} {q : Nat} {x0 : Int32} {x1 : Int32} {d mc ms : Nat} {Q : Option Value → qW → Prop} (hC : CT mX2_loseOne d mc ms [.ref q, .int x0, .int x1] w Q) (hq : qci w q = some 2) (hst : rest.length ≤ 4) (hdp : d + 1 ≤ G.1) (hmc : kc + mc ≤ G.2.1 ∧ ks + ms ≤ G.2.2.1) (k : ∀ r w', Q r w' → AW (mX10_lose, G) 24 L (r.toList ++ rest) w' (kc + mc) (ks + ms)) : AW (mX10_lose, G) 21 L (.int x1 :: .int x0 :: .ref q :: rest) w kc ks := a_callV [.int x0, .int x1] rest dX10_lose_21 vX2_loseOne lk728 hC hq rfl rfl hst hdp hmc k
theorem kX10_lose_40 {G : Nat × Nat × Nat × Option (Nat × (Nat → Int32)) × (Option Value → qW → Prop)} {L : qL} {w : qW} {kc ks : Nat} {rest : List Value} {q : Nat}  {d mc ms : Nat} {Q : Option Value → qW → Prop} (hC : CT mX8_size d mc ms [.ref q] w Q) (hq : qci w q = some 8) (hst : rest.length ≤ 4) (hdp : d + 1 ≤ G.1) (hmc : kc + mc ≤ G.2.1 ∧ ks + ms ≤ G.2.2.1) (k : ∀ r w', Q r w' → AW (mX10_lose, G) 43 L (r.toList ++ rest) w' (kc + mc) (ks + ms)) : AW (mX10_lose, G) 40 L (.ref q :: rest) w kc ks := a_callV [] rest dX10_lose_40 vX8_size lk727 hC hq rfl rfl hst hdp hmc k
theorem kX10_lose_53 {G : Nat × Nat × Nat × Option (Nat × (Nat → Int32)) × (Option Value → qW → Prop)} {L : qL} {w : qW} {kc ks : Nat} {rest : List Value} {q : Nat} {x0 : Int32} {x1 : Int32} {d mc ms : Nat} {Q : Option Value → qW → Prop} (hC : CT mX8_cell d mc ms [.ref q, .int x0, .int x1] w Q) (hq : qci w q = some 8) (hst : rest.length ≤ 4) (hdp : d + 1 ≤ G.1) (hmc : kc + mc ≤ G.2.1 ∧ ks + ms ≤ G.2.2.1) (k : ∀ r w', Q r w' → AW (mX10_lose, G) 56 L (r.toList ++ rest) w' (kc + mc) (ks + ms)) : AW (mX10_lose, G) 53 L (.int x1 :: .int x0 :: .ref q :: rest) w kc ks := a_callV [.int x0, .int x1] rest dX10_lose_53 vX8_cell lk732 hC hq rfl rfl hst hdp hmc k
theorem kX10_lose_67 {G : Nat × Nat × Nat × Option (Nat × (Nat → Int32)) × (Option Value → qW → Prop)} {L : qL} {w : qW} {kc ks : Nat} {rest : List Value} {q : Nat} {x0 : Int32} {x1 : Int32} {d mc ms : Nat} {Q : Option Value → qW → Prop} (hC : CT mX8_cell d mc ms [.ref q, .int x0, .int x1] w Q) (hq : qci w q = some 8) (hst : rest.length ≤ 4) (hdp : d + 1 ≤ G.1) (hmc : kc + mc ≤ G.2.1 ∧ ks + ms ≤ G.2.2.1) (k : ∀ r w', Q r w' → AW (mX10_lose, G) 70 L (r.toList ++ rest) w' (kc + mc) (ks + ms)) : AW (mX10_lose, G) 67 L (.int x1 :: .int x0 :: .ref q :: rest) w kc ks := a_callV [.int x0, .int x1] rest dX10_lose_67 vX8_cell lk732 hC hq rfl rfl hst hdp hmc k
theorem dX10_manyCalledBack_0 : decode cX10_manyCalledBack 0 = .ok (.iconst 0, 1) := by decide +kernel
theorem dX10_manyCalledBack_1 : decode cX10_manyCalledBack 1 = .ok (.istore_n 1, 1) := by decide +kernel
theorem dX10_manyCalledBack_2 : decode cX10_manyCalledBack 2 = .ok (.iconst 0, 1) := by decide +kernel
theorem dX10_manyCalledBack_3 : decode cX10_manyCalledBack 3 = .ok (.istore_n 2, 1) := by decide +kernel
theorem dX10_manyCalledBack_4 : decode cX10_manyCalledBack 4 = .ok (.iload_n 2, 1) := by decide +kernel
theorem dX10_manyCalledBack_5 : decode cX10_manyCalledBack 5 = .ok (.aload_n 0, 1) := by decide +kernel
theorem dX10_manyCalledBack_6 : decode cX10_manyCalledBack 6 = .ok (.getfield 24, 3) := by decide +kernel
theorem dX10_manyCalledBack_9 : decode cX10_manyCalledBack 9 = .ok (.invokevirtual 255, 3) := by decide +kernel
theorem dX10_manyCalledBack_12 : decode cX10_manyCalledBack 12 = .ok (.if_icmp .ge 20, 3) := by decide +kernel
theorem dX10_manyCalledBack_15 : decode cX10_manyCalledBack 15 = .ok (.iload_n 1, 1) := by decide +kernel
theorem dX10_manyCalledBack_16 : decode cX10_manyCalledBack 16 = .ok (.aload_n 0, 1) := by decide +kernel
theorem dX10_manyCalledBack_17 : decode cX10_manyCalledBack 17 = .ok (.iload_n 2, 1) := by decide +kernel
theorem dX10_manyCalledBack_18 : decode cX10_manyCalledBack 18 = .ok (.invokevirtual 213, 3) := by decide +kernel
theorem dX10_manyCalledBack_21 : decode cX10_manyCalledBack 21 = .ok (.invokestatic 128, 3) := by decide +kernel
theorem dX10_manyCalledBack_24 : decode cX10_manyCalledBack 24 = .ok (.iadd, 1) := by decide +kernel
theorem dX10_manyCalledBack_25 : decode cX10_manyCalledBack 25 = .ok (.istore_n 1, 1) := by decide +kernel
theorem dX10_manyCalledBack_26 : decode cX10_manyCalledBack 26 = .ok (.iinc 2 1, 3) := by decide +kernel
theorem dX10_manyCalledBack_29 : decode cX10_manyCalledBack 29 = .ok (.goto (-25), 3) := by decide +kernel
theorem dX10_manyCalledBack_32 : decode cX10_manyCalledBack 32 = .ok (.iload_n 1, 1) := by decide +kernel
theorem dX10_manyCalledBack_33 : decode cX10_manyCalledBack 33 = .ok (.ireturn, 1) := by decide +kernel
/-! SealLine.manyCalledBack()I -/
theorem eX10_manyCalledBack {d mc ms : Nat} {w : qW} {Q : Option Value → qW → Prop} {q : Nat} (h : AW (mX10_manyCalledBack, d, mc, ms, none, Q) 0 [some (.ref q), none, none] [] w 0 0) : CT mX10_manyCalledBack d mc ms [.ref q] w Q := CT_of (by decide +kernel) rfl (Nat.le_of_ble_eq_true rfl) h
def bX10_manyCalledBack_0 (G : Nat × Nat × Nat × Option (Nat × (Nat → Int32)) × (Option Value → qW → Prop)) : qK := (s_iconst 0 (s_istore 1 0 (s_iconst 0 (s_istore 2 1 (AW (mX10_manyCalledBack, G) 4)))))
theorem oX10_manyCalledBack_0 (G : Nat × Nat × Nat × Option (Nat × (Nat → Int32)) × (Option Value → qW → Prop)) : qImp (bX10_manyCalledBack_0 G) (AW (mX10_manyCalledBack, G) 0) := (r_iconst dX10_manyCalledBack_0 rfl (r_istore_n dX10_manyCalledBack_1 rfl (Or.inr rfl) (Nat.le_of_ble_eq_true rfl) (r_iconst dX10_manyCalledBack_2 rfl (r_istore_n dX10_manyCalledBack_3 rfl (Or.inr rfl) (Nat.le_of_ble_eq_true rfl) qImp.rf))))
def bX10_manyCalledBack_4 (G : Nat × Nat × Nat × Option (Nat × (Nat → Int32)) × (Option Value → qW → Prop)) : qK := (s_iload 2 (s_aload 0 (s_getfield 10 2 (AW (mX10_manyCalledBack, G) 9))))
theorem oX10_manyCalledBack_4 (G : Nat × Nat × Nat × Option (Nat × (Nat → Int32)) × (Option Value → qW → Prop)) : qImp (bX10_manyCalledBack_4 G) (AW (mX10_manyCalledBack, G) 4) := (r_iload_n dX10_manyCalledBack_4 rfl (r_aload_n dX10_manyCalledBack_5 rfl (r_getfield dX10_manyCalledBack_6 fgX10_24 qImp.rf)))
def bX10_manyCalledBack_12 (G : Nat × Nat × Nat × Option (Nat × (Nat → Int32)) × (Option Value → qW → Prop)) : qK := (s_ic_ge (AW (mX10_manyCalledBack, G) 32) (s_iload 1 (s_aload 0 (s_iload 2 (AW (mX10_manyCalledBack, G) 18)))))
theorem oX10_manyCalledBack_12 (G : Nat × Nat × Nat × Option (Nat × (Nat → Int32)) × (Option Value → qW → Prop)) : qImp (bX10_manyCalledBack_12 G) (AW (mX10_manyCalledBack, G) 12) := (r_ic_ge (tgt := 32) dX10_manyCalledBack_12 rfl qImp.rf (r_iload_n dX10_manyCalledBack_15 rfl (r_aload_n dX10_manyCalledBack_16 rfl (r_iload_n dX10_manyCalledBack_17 rfl qImp.rf))))
def bX10_manyCalledBack_24 (G : Nat × Nat × Nat × Option (Nat × (Nat → Int32)) × (Option Value → qW → Prop)) : qK := (s_iadd (s_istore 1 0 (s_iinc 2 1 1 (AW (mX10_manyCalledBack, G) 4))))
theorem oX10_manyCalledBack_24 (G : Nat × Nat × Nat × Option (Nat × (Nat → Int32)) × (Option Value → qW → Prop)) : qImp (bX10_manyCalledBack_24 G) (AW (mX10_manyCalledBack, G) 24) := (r_iadd dX10_manyCalledBack_24 (r_istore_n dX10_manyCalledBack_25 rfl (Or.inr rfl) (Nat.le_of_ble_eq_true rfl) (r_iinc dX10_manyCalledBack_26 rfl (Or.inr rfl) (Nat.le_of_ble_eq_true rfl) (r_goto (tgt := 4) dX10_manyCalledBack_29 rfl qImp.rf))))
def bX10_manyCalledBack_32 (G : Nat × Nat × Nat × Option (Nat × (Nat → Int32)) × (Option Value → qW → Prop)) : qK := (s_iload 1 (s_ireturn (mX10_manyCalledBack, G)))
theorem oX10_manyCalledBack_32 (G : Nat × Nat × Nat × Option (Nat × (Nat → Int32)) × (Option Value → qW → Prop)) : qImp (bX10_manyCalledBack_32 G) (AW (mX10_manyCalledBack, G) 32) := (r_iload_n dX10_manyCalledBack_32 rfl (r_ireturn dX10_manyCalledBack_33 rfl))
theorem kX10_manyCalledBack_9 {G : Nat × Nat × Nat × Option (Nat × (Nat → Int32)) × (Option Value → qW → Prop)} {L : qL} {w : qW} {kc ks : Nat} {rest : List Value} {q : Nat}  {d mc ms : Nat} {Q : Option Value → qW → Prop} (hC : CT mX7_size d mc ms [.ref q] w Q) (hq : qci w q = some 7) (hst : rest.length ≤ 4) (hdp : d + 1 ≤ G.1) (hmc : kc + mc ≤ G.2.1 ∧ ks + ms ≤ G.2.2.1) (k : ∀ r w', Q r w' → AW (mX10_manyCalledBack, G) 12 L (r.toList ++ rest) w' (kc + mc) (ks + ms)) : AW (mX10_manyCalledBack, G) 9 L (.ref q :: rest) w kc ks := a_callV [] rest dX10_manyCalledBack_9 vX7_size lk754 hC hq rfl rfl hst hdp hmc k
theorem kX10_manyCalledBack_18 {G : Nat × Nat × Nat × Option (Nat × (Nat → Int32)) × (Option Value → qW → Prop)} {L : qL} {w : qW} {kc ks : Nat} {rest : List Value} {q : Nat} {x0 : Int32} {d mc ms : Nat} {Q : Option Value → qW → Prop} (hC : CT mX10_isCalledBack d mc ms [.ref q, .int x0] w Q) (hq : qci w q = some 10) (hst : rest.length ≤ 4) (hdp : d + 1 ≤ G.1) (hmc : kc + mc ≤ G.2.1 ∧ ks + ms ≤ G.2.2.1) (k : ∀ r w', Q r w' → AW (mX10_manyCalledBack, G) 21 L (r.toList ++ rest) w' (kc + mc) (ks + ms)) : AW (mX10_manyCalledBack, G) 18 L (.int x0 :: .ref q :: rest) w kc ks := a_callV [.int x0] rest dX10_manyCalledBack_18 vX10_isCalledBack lk681 hC hq rfl rfl hst hdp hmc k
theorem kX10_manyCalledBack_21 {G : Nat × Nat × Nat × Option (Nat × (Nat → Int32)) × (Option Value → qW → Prop)} {L : qL} {w : qW} {kc ks : Nat} {rest : List Value}  {x0 : Int32} {d mc ms : Nat} {Q : Option Value → qW → Prop} (hC : CT mX10_bit d mc ms [.int x0] w Q) (hst : rest.length ≤ 4) (hdp : d + 1 ≤ G.1) (hmc : kc + mc ≤ G.2.1 ∧ ks + ms ≤ G.2.2.1) (k : ∀ r w', Q r w' → AW (mX10_manyCalledBack, G) 24 L (r.toList ++ rest) w' (kc + mc) (ks + ms)) : AW (mX10_manyCalledBack, G) 21 L (.int x0 :: rest) w kc ks := a_callS [.int x0] rest dX10_manyCalledBack_21 tX10_bit lk467 hC rfl hst hdp hmc k
