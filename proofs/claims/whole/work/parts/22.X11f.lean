theorem dX11_least_0 : decode cX11_least 0 = .ok (.aload_n 0, 1) := by decide +kernel
theorem dX11_least_1 : decode cX11_least 1 = .ok (.invokevirtual 256, 3) := by decide +kernel
theorem dX11_least_4 : decode cX11_least 4 = .ok (.istore_n 1, 1) := by decide +kernel
theorem dX11_least_5 : decode cX11_least 5 = .ok (.iload_n 1, 1) := by decide +kernel
theorem dX11_least_6 : decode cX11_least 6 = .ok (.iconst (-1), 1) := by decide +kernel
theorem dX11_least_7 : decode cX11_least 7 = .ok (.if_icmp .ne 7, 3) := by decide +kernel
theorem dX11_least_10 : decode cX11_least 10 = .ok (.iconst (-1), 1) := by decide +kernel
theorem dX11_least_11 : decode cX11_least 11 = .ok (.goto 7, 3) := by decide +kernel
theorem dX11_least_14 : decode cX11_least 14 = .ok (.iload_n 1, 1) := by decide +kernel
theorem dX11_least_15 : decode cX11_least 15 = .ok (.bipush 16, 2) := by decide +kernel
theorem dX11_least_17 : decode cX11_least 17 = .ok (.idiv, 1) := by decide +kernel
theorem dX11_least_18 : decode cX11_least 18 = .ok (.ireturn, 1) := by decide +kernel
/-! SealLineModel.least()I -/
theorem eX11_least {d mc ms : Nat} {w : qW} {Q : Option Value → qW → Prop} {q : Nat} (h : AW (mX11_least, d, mc, ms, none, Q) 0 [some (.ref q), none] [] w 0 0) : CT mX11_least d mc ms [.ref q] w Q := CT_of (by decide +kernel) rfl (Nat.le_of_ble_eq_true rfl) h
def bX11_least_0 (G : Nat × Nat × Nat × Option (Nat × (Nat → Int32)) × (Option Value → qW → Prop)) : qK := (s_aload 0 (AW (mX11_least, G) 1))
theorem oX11_least_0 (G : Nat × Nat × Nat × Option (Nat × (Nat → Int32)) × (Option Value → qW → Prop)) : qImp (bX11_least_0 G) (AW (mX11_least, G) 0) := (r_aload_n dX11_least_0 rfl qImp.rf)
def bX11_least_4 (G : Nat × Nat × Nat × Option (Nat × (Nat → Int32)) × (Option Value → qW → Prop)) : qK := (s_istore 1 0 (s_iload 1 (s_iconst (-1) (s_ic_ne (AW (mX11_least, G) 14) (s_iconst (-1) (AW (mX11_least, G) 18))))))
theorem oX11_least_4 (G : Nat × Nat × Nat × Option (Nat × (Nat → Int32)) × (Option Value → qW → Prop)) : qImp (bX11_least_4 G) (AW (mX11_least, G) 4) := (r_istore_n dX11_least_4 rfl (Or.inr rfl) (Nat.le_of_ble_eq_true rfl) (r_iload_n dX11_least_5 rfl (r_iconst dX11_least_6 rfl (r_ic_ne (tgt := 14) dX11_least_7 rfl qImp.rf (r_iconst dX11_least_10 rfl (r_goto (tgt := 18) dX11_least_11 rfl qImp.rf))))))
def bX11_least_14 (G : Nat × Nat × Nat × Option (Nat × (Nat → Int32)) × (Option Value → qW → Prop)) : qK := (s_iload 1 (s_iconst 16 (s_idiv (AW (mX11_least, G) 18))))
theorem oX11_least_14 (G : Nat × Nat × Nat × Option (Nat × (Nat → Int32)) × (Option Value → qW → Prop)) : qImp (bX11_least_14 G) (AW (mX11_least, G) 14) := (r_iload_n dX11_least_14 rfl (r_bipush dX11_least_15 rfl (r_idiv dX11_least_17 qImp.rf)))
def bX11_least_18 (G : Nat × Nat × Nat × Option (Nat × (Nat → Int32)) × (Option Value → qW → Prop)) : qK := (s_ireturn (mX11_least, G))
theorem oX11_least_18 (G : Nat × Nat × Nat × Option (Nat × (Nat → Int32)) × (Option Value → qW → Prop)) : qImp (bX11_least_18 G) (AW (mX11_least, G) 18) := (r_ireturn dX11_least_18 rfl)
theorem kX11_least_1 {G : Nat × Nat × Nat × Option (Nat × (Nat → Int32)) × (Option Value → qW → Prop)} {L : qL} {w : qW} {kc ks : Nat} {rest : List Value} {q : Nat}  {d mc ms : Nat} {Q : Option Value → qW → Prop} (hC : CT mX11_judged d mc ms [.ref q] w Q) (hq : qci w q = some 11) (hst : rest.length ≤ 4) (hdp : d + 1 ≤ G.1) (hmc : kc + mc ≤ G.2.1 ∧ ks + ms ≤ G.2.2.1) (k : ∀ r w', Q r w' → AW (mX11_least, G) 4 L (r.toList ++ rest) w' (kc + mc) (ks + ms)) : AW (mX11_least, G) 1 L (.ref q :: rest) w kc ks := a_callV [] rest dX11_least_1 vX11_judged lk1236 hC hq rfl rfl hst hdp hmc k
theorem dX11_makers_0 : decode cX11_makers 0 = .ok (.aload_n 0, 1) := by decide +kernel
theorem dX11_makers_1 : decode cX11_makers 1 = .ok (.invokevirtual 256, 3) := by decide +kernel
theorem dX11_makers_4 : decode cX11_makers 4 = .ok (.istore_n 1, 1) := by decide +kernel
theorem dX11_makers_5 : decode cX11_makers 5 = .ok (.iload_n 1, 1) := by decide +kernel
theorem dX11_makers_6 : decode cX11_makers 6 = .ok (.iconst (-1), 1) := by decide +kernel
theorem dX11_makers_7 : decode cX11_makers 7 = .ok (.if_icmp .ne 7, 3) := by decide +kernel
theorem dX11_makers_10 : decode cX11_makers 10 = .ok (.iconst (-1), 1) := by decide +kernel
theorem dX11_makers_11 : decode cX11_makers 11 = .ok (.goto 7, 3) := by decide +kernel
theorem dX11_makers_14 : decode cX11_makers 14 = .ok (.iload_n 1, 1) := by decide +kernel
theorem dX11_makers_15 : decode cX11_makers 15 = .ok (.bipush 16, 2) := by decide +kernel
theorem dX11_makers_17 : decode cX11_makers 17 = .ok (.irem, 1) := by decide +kernel
theorem dX11_makers_18 : decode cX11_makers 18 = .ok (.ireturn, 1) := by decide +kernel
/-! SealLineModel.makers()I -/
theorem eX11_makers {d mc ms : Nat} {w : qW} {Q : Option Value → qW → Prop} {q : Nat} (h : AW (mX11_makers, d, mc, ms, none, Q) 0 [some (.ref q), none] [] w 0 0) : CT mX11_makers d mc ms [.ref q] w Q := CT_of (by decide +kernel) rfl (Nat.le_of_ble_eq_true rfl) h
def bX11_makers_0 (G : Nat × Nat × Nat × Option (Nat × (Nat → Int32)) × (Option Value → qW → Prop)) : qK := (s_aload 0 (AW (mX11_makers, G) 1))
theorem oX11_makers_0 (G : Nat × Nat × Nat × Option (Nat × (Nat → Int32)) × (Option Value → qW → Prop)) : qImp (bX11_makers_0 G) (AW (mX11_makers, G) 0) := (r_aload_n dX11_makers_0 rfl qImp.rf)
def bX11_makers_4 (G : Nat × Nat × Nat × Option (Nat × (Nat → Int32)) × (Option Value → qW → Prop)) : qK := (s_istore 1 0 (s_iload 1 (s_iconst (-1) (s_ic_ne (AW (mX11_makers, G) 14) (s_iconst (-1) (AW (mX11_makers, G) 18))))))
theorem oX11_makers_4 (G : Nat × Nat × Nat × Option (Nat × (Nat → Int32)) × (Option Value → qW → Prop)) : qImp (bX11_makers_4 G) (AW (mX11_makers, G) 4) := (r_istore_n dX11_makers_4 rfl (Or.inr rfl) (Nat.le_of_ble_eq_true rfl) (r_iload_n dX11_makers_5 rfl (r_iconst dX11_makers_6 rfl (r_ic_ne (tgt := 14) dX11_makers_7 rfl qImp.rf (r_iconst dX11_makers_10 rfl (r_goto (tgt := 18) dX11_makers_11 rfl qImp.rf))))))
def bX11_makers_14 (G : Nat × Nat × Nat × Option (Nat × (Nat → Int32)) × (Option Value → qW → Prop)) : qK := (s_iload 1 (s_iconst 16 (s_irem (AW (mX11_makers, G) 18))))
theorem oX11_makers_14 (G : Nat × Nat × Nat × Option (Nat × (Nat → Int32)) × (Option Value → qW → Prop)) : qImp (bX11_makers_14 G) (AW (mX11_makers, G) 14) := (r_iload_n dX11_makers_14 rfl (r_bipush dX11_makers_15 rfl (r_irem dX11_makers_17 qImp.rf)))
def bX11_makers_18 (G : Nat × Nat × Nat × Option (Nat × (Nat → Int32)) × (Option Value → qW → Prop)) : qK := (s_ireturn (mX11_makers, G))
theorem oX11_makers_18 (G : Nat × Nat × Nat × Option (Nat × (Nat → Int32)) × (Option Value → qW → Prop)) : qImp (bX11_makers_18 G) (AW (mX11_makers, G) 18) := (r_ireturn dX11_makers_18 rfl)
theorem kX11_makers_1 {G : Nat × Nat × Nat × Option (Nat × (Nat → Int32)) × (Option Value → qW → Prop)} {L : qL} {w : qW} {kc ks : Nat} {rest : List Value} {q : Nat}  {d mc ms : Nat} {Q : Option Value → qW → Prop} (hC : CT mX11_judged d mc ms [.ref q] w Q) (hq : qci w q = some 11) (hst : rest.length ≤ 4) (hdp : d + 1 ≤ G.1) (hmc : kc + mc ≤ G.2.1 ∧ ks + ms ≤ G.2.2.1) (k : ∀ r w', Q r w' → AW (mX11_makers, G) 4 L (r.toList ++ rest) w' (kc + mc) (ks + ms)) : AW (mX11_makers, G) 1 L (.ref q :: rest) w kc ks := a_callV [] rest dX11_makers_1 vX11_judged lk1236 hC hq rfl rfl hst hdp hmc k
theorem dX11_firstOf_0 : decode cX11_firstOf 0 = .ok (.iconst 0, 1) := by decide +kernel
theorem dX11_firstOf_1 : decode cX11_firstOf 1 = .ok (.istore_n 2, 1) := by decide +kernel
theorem dX11_firstOf_2 : decode cX11_firstOf 2 = .ok (.iload_n 2, 1) := by decide +kernel
theorem dX11_firstOf_3 : decode cX11_firstOf 3 = .ok (.aload_n 0, 1) := by decide +kernel
theorem dX11_firstOf_4 : decode cX11_firstOf 4 = .ok (.getfield 104, 3) := by decide +kernel
theorem dX11_firstOf_7 : decode cX11_firstOf 7 = .ok (.if_icmp .ge 58, 3) := by decide +kernel
theorem dX11_firstOf_10 : decode cX11_firstOf 10 = .ok (.aload_n 0, 1) := by decide +kernel
theorem dX11_firstOf_11 : decode cX11_firstOf 11 = .ok (.getfield 17, 3) := by decide +kernel
theorem dX11_firstOf_14 : decode cX11_firstOf 14 = .ok (.iload_n 2, 1) := by decide +kernel
theorem dX11_firstOf_15 : decode cX11_firstOf 15 = .ok (.iaload, 1) := by decide +kernel
theorem dX11_firstOf_16 : decode cX11_firstOf 16 = .ok (.iload_n 1, 1) := by decide +kernel
theorem dX11_firstOf_17 : decode cX11_firstOf 17 = .ok (.if_icmp .ne 42, 3) := by decide +kernel
theorem dX11_firstOf_20 : decode cX11_firstOf 20 = .ok (.aload_n 0, 1) := by decide +kernel
theorem dX11_firstOf_21 : decode cX11_firstOf 21 = .ok (.getfield 13, 3) := by decide +kernel
theorem dX11_firstOf_24 : decode cX11_firstOf 24 = .ok (.iload_n 2, 1) := by decide +kernel
theorem dX11_firstOf_25 : decode cX11_firstOf 25 = .ok (.iaload, 1) := by decide +kernel
theorem dX11_firstOf_26 : decode cX11_firstOf 26 = .ok (.ifCond .eq 31, 3) := by decide +kernel
theorem dX11_firstOf_29 : decode cX11_firstOf 29 = .ok (.aload_n 0, 1) := by decide +kernel
theorem dX11_firstOf_30 : decode cX11_firstOf 30 = .ok (.getfield 13, 3) := by decide +kernel
theorem dX11_firstOf_33 : decode cX11_firstOf 33 = .ok (.iload_n 2, 1) := by decide +kernel
theorem dX11_firstOf_34 : decode cX11_firstOf 34 = .ok (.iaload, 1) := by decide +kernel
theorem dX11_firstOf_35 : decode cX11_firstOf 35 = .ok (.iconst 1, 1) := by decide +kernel
theorem dX11_firstOf_36 : decode cX11_firstOf 36 = .ok (.if_icmp .ne 23, 3) := by decide +kernel
theorem dX11_firstOf_39 : decode cX11_firstOf 39 = .ok (.aload_n 0, 1) := by decide +kernel
theorem dX11_firstOf_40 : decode cX11_firstOf 40 = .ok (.getfield 38, 3) := by decide +kernel
theorem dX11_firstOf_43 : decode cX11_firstOf 43 = .ok (.iload_n 2, 1) := by decide +kernel
theorem dX11_firstOf_44 : decode cX11_firstOf 44 = .ok (.iaload, 1) := by decide +kernel
theorem dX11_firstOf_45 : decode cX11_firstOf 45 = .ok (.iconst 1, 1) := by decide +kernel
theorem dX11_firstOf_46 : decode cX11_firstOf 46 = .ok (.if_icmp .ne 13, 3) := by decide +kernel
theorem dX11_firstOf_49 : decode cX11_firstOf 49 = .ok (.aload_n 0, 1) := by decide +kernel
theorem dX11_firstOf_50 : decode cX11_firstOf 50 = .ok (.iload_n 2, 1) := by decide +kernel
theorem dX11_firstOf_51 : decode cX11_firstOf 51 = .ok (.invokevirtual 151, 3) := by decide +kernel
theorem dX11_firstOf_54 : decode cX11_firstOf 54 = .ok (.ifCond .eq 5, 3) := by decide +kernel
theorem dX11_firstOf_57 : decode cX11_firstOf 57 = .ok (.iload_n 2, 1) := by decide +kernel
theorem dX11_firstOf_58 : decode cX11_firstOf 58 = .ok (.ireturn, 1) := by decide +kernel
theorem dX11_firstOf_59 : decode cX11_firstOf 59 = .ok (.iinc 2 1, 3) := by decide +kernel
theorem dX11_firstOf_62 : decode cX11_firstOf 62 = .ok (.goto (-60), 3) := by decide +kernel
theorem dX11_firstOf_65 : decode cX11_firstOf 65 = .ok (.iconst (-1), 1) := by decide +kernel
theorem dX11_firstOf_66 : decode cX11_firstOf 66 = .ok (.ireturn, 1) := by decide +kernel
/-! SealLineModel.firstOf(I)I -/
theorem eX11_firstOf {d mc ms : Nat} {w : qW} {Q : Option Value → qW → Prop} {q : Nat} {x0 : Int32} (h : AW (mX11_firstOf, d, mc, ms, none, Q) 0 [some (.ref q), some (.int x0), none] [] w 0 0) : CT mX11_firstOf d mc ms [.ref q, .int x0] w Q := CT_of (by decide +kernel) rfl (Nat.le_of_ble_eq_true rfl) h
def bX11_firstOf_0 (G : Nat × Nat × Nat × Option (Nat × (Nat → Int32)) × (Option Value → qW → Prop)) : qK := (s_iconst 0 (s_istore 2 1 (AW (mX11_firstOf, G) 2)))
theorem oX11_firstOf_0 (G : Nat × Nat × Nat × Option (Nat × (Nat → Int32)) × (Option Value → qW → Prop)) : qImp (bX11_firstOf_0 G) (AW (mX11_firstOf, G) 0) := (r_iconst dX11_firstOf_0 rfl (r_istore_n dX11_firstOf_1 rfl (Or.inr rfl) (Nat.le_of_ble_eq_true rfl) qImp.rf))
def bX11_firstOf_2 (G : Nat × Nat × Nat × Option (Nat × (Nat → Int32)) × (Option Value → qW → Prop)) : qK := (s_iload 2 (s_aload 0 (s_getfield 11 0 (s_ic_ge (AW (mX11_firstOf, G) 65) (s_aload 0 (s_getfield 11 8 (s_iload 2 (s_iaload (mX11_firstOf, G) (s_iload 1 (s_ic_ne (AW (mX11_firstOf, G) 59) (s_aload 0 (s_getfield 11 7 (s_iload 2 (s_iaload (mX11_firstOf, G) (s_if_eq (AW (mX11_firstOf, G) 57) (s_aload 0 (s_getfield 11 7 (s_iload 2 (s_iaload (mX11_firstOf, G) (s_iconst 1 (s_ic_ne (AW (mX11_firstOf, G) 59) (s_aload 0 (s_getfield 11 15 (s_iload 2 (s_iaload (mX11_firstOf, G) (s_iconst 1 (s_ic_ne (AW (mX11_firstOf, G) 59) (s_aload 0 (s_iload 2 (AW (mX11_firstOf, G) 51))))))))))))))))))))))))))))))
theorem oX11_firstOf_2 (G : Nat × Nat × Nat × Option (Nat × (Nat → Int32)) × (Option Value → qW → Prop)) : qImp (bX11_firstOf_2 G) (AW (mX11_firstOf, G) 2) := (r_iload_n dX11_firstOf_2 rfl (r_aload_n dX11_firstOf_3 rfl (r_getfield dX11_firstOf_4 fgX11_104 (r_ic_ge (tgt := 65) dX11_firstOf_7 rfl qImp.rf (r_aload_n dX11_firstOf_10 rfl (r_getfield dX11_firstOf_11 fgX11_17 (r_iload_n dX11_firstOf_14 rfl (r_iaload dX11_firstOf_15 (r_iload_n dX11_firstOf_16 rfl (r_ic_ne (tgt := 59) dX11_firstOf_17 rfl qImp.rf (r_aload_n dX11_firstOf_20 rfl (r_getfield dX11_firstOf_21 fgX11_13 (r_iload_n dX11_firstOf_24 rfl (r_iaload dX11_firstOf_25 (r_if_eq (tgt := 57) dX11_firstOf_26 rfl qImp.rf (r_aload_n dX11_firstOf_29 rfl (r_getfield dX11_firstOf_30 fgX11_13 (r_iload_n dX11_firstOf_33 rfl (r_iaload dX11_firstOf_34 (r_iconst dX11_firstOf_35 rfl (r_ic_ne (tgt := 59) dX11_firstOf_36 rfl qImp.rf (r_aload_n dX11_firstOf_39 rfl (r_getfield dX11_firstOf_40 fgX11_38 (r_iload_n dX11_firstOf_43 rfl (r_iaload dX11_firstOf_44 (r_iconst dX11_firstOf_45 rfl (r_ic_ne (tgt := 59) dX11_firstOf_46 rfl qImp.rf (r_aload_n dX11_firstOf_49 rfl (r_iload_n dX11_firstOf_50 rfl qImp.rf)))))))))))))))))))))))))))))
def bX11_firstOf_54 (G : Nat × Nat × Nat × Option (Nat × (Nat → Int32)) × (Option Value → qW → Prop)) : qK := (s_if_eq (AW (mX11_firstOf, G) 59) (AW (mX11_firstOf, G) 57))
theorem oX11_firstOf_54 (G : Nat × Nat × Nat × Option (Nat × (Nat → Int32)) × (Option Value → qW → Prop)) : qImp (bX11_firstOf_54 G) (AW (mX11_firstOf, G) 54) := (r_if_eq (tgt := 59) dX11_firstOf_54 rfl qImp.rf qImp.rf)
def bX11_firstOf_57 (G : Nat × Nat × Nat × Option (Nat × (Nat → Int32)) × (Option Value → qW → Prop)) : qK := (s_iload 2 (s_ireturn (mX11_firstOf, G)))
theorem oX11_firstOf_57 (G : Nat × Nat × Nat × Option (Nat × (Nat → Int32)) × (Option Value → qW → Prop)) : qImp (bX11_firstOf_57 G) (AW (mX11_firstOf, G) 57) := (r_iload_n dX11_firstOf_57 rfl (r_ireturn dX11_firstOf_58 rfl))
def bX11_firstOf_59 (G : Nat × Nat × Nat × Option (Nat × (Nat → Int32)) × (Option Value → qW → Prop)) : qK := (s_iinc 2 1 1 (AW (mX11_firstOf, G) 2))
theorem oX11_firstOf_59 (G : Nat × Nat × Nat × Option (Nat × (Nat → Int32)) × (Option Value → qW → Prop)) : qImp (bX11_firstOf_59 G) (AW (mX11_firstOf, G) 59) := (r_iinc dX11_firstOf_59 rfl (Or.inr rfl) (Nat.le_of_ble_eq_true rfl) (r_goto (tgt := 2) dX11_firstOf_62 rfl qImp.rf))
def bX11_firstOf_65 (G : Nat × Nat × Nat × Option (Nat × (Nat → Int32)) × (Option Value → qW → Prop)) : qK := (s_iconst (-1) (s_ireturn (mX11_firstOf, G)))
theorem oX11_firstOf_65 (G : Nat × Nat × Nat × Option (Nat × (Nat → Int32)) × (Option Value → qW → Prop)) : qImp (bX11_firstOf_65 G) (AW (mX11_firstOf, G) 65) := (r_iconst dX11_firstOf_65 rfl (r_ireturn dX11_firstOf_66 rfl))
theorem kX11_firstOf_51 {G : Nat × Nat × Nat × Option (Nat × (Nat → Int32)) × (Option Value → qW → Prop)} {L : qL} {w : qW} {kc ks : Nat} {rest : List Value} {q : Nat} {x0 : Int32} {d mc ms : Nat} {Q : Option Value → qW → Prop} (hC : CT mX11_allClean d mc ms [.ref q, .int x0] w Q) (hq : qci w q = some 11) (hst : rest.length ≤ 4) (hdp : d + 1 ≤ G.1) (hmc : kc + mc ≤ G.2.1 ∧ ks + ms ≤ G.2.2.1) (k : ∀ r w', Q r w' → AW (mX11_firstOf, G) 54 L (r.toList ++ rest) w' (kc + mc) (ks + ms)) : AW (mX11_firstOf, G) 51 L (.int x0 :: .ref q :: rest) w kc ks := a_callV [.int x0] rest dX11_firstOf_51 vX11_allClean lk1160 hC hq rfl rfl hst hdp hmc k
theorem dX11_proof_0 : decode cX11_proof 0 = .ok (.aload_n 0, 1) := by decide +kernel
theorem dX11_proof_1 : decode cX11_proof 1 = .ok (.iload_n 1, 1) := by decide +kernel
theorem dX11_proof_2 : decode cX11_proof 2 = .ok (.invokevirtual 130, 3) := by decide +kernel
theorem dX11_proof_5 : decode cX11_proof 5 = .ok (.ifCond .eq 15, 3) := by decide +kernel
theorem dX11_proof_8 : decode cX11_proof 8 = .ok (.iload_n 2, 1) := by decide +kernel
theorem dX11_proof_9 : decode cX11_proof 9 = .ok (.ifCond .lt 11, 3) := by decide +kernel
theorem dX11_proof_12 : decode cX11_proof 12 = .ok (.aload_n 0, 1) := by decide +kernel
theorem dX11_proof_13 : decode cX11_proof 13 = .ok (.iload_n 1, 1) := by decide +kernel
theorem dX11_proof_14 : decode cX11_proof 14 = .ok (.invokevirtual 221, 3) := by decide +kernel
theorem dX11_proof_17 : decode cX11_proof 17 = .ok (.ifCond .ne 5, 3) := by decide +kernel
theorem dX11_proof_20 : decode cX11_proof 20 = .ok (.iconst (-1), 1) := by decide +kernel
theorem dX11_proof_21 : decode cX11_proof 21 = .ok (.ireturn, 1) := by decide +kernel
theorem dX11_proof_22 : decode cX11_proof 22 = .ok (.iconst 0, 1) := by decide +kernel
theorem dX11_proof_23 : decode cX11_proof 23 = .ok (.istore_n 3, 1) := by decide +kernel
theorem dX11_proof_24 : decode cX11_proof 24 = .ok (.iload_n 3, 1) := by decide +kernel
theorem dX11_proof_25 : decode cX11_proof 25 = .ok (.sipush 400, 3) := by decide +kernel
theorem dX11_proof_28 : decode cX11_proof 28 = .ok (.if_icmp .ge 16, 3) := by decide +kernel
theorem dX11_proof_31 : decode cX11_proof 31 = .ok (.aload_n 0, 1) := by decide +kernel
theorem dX11_proof_32 : decode cX11_proof 32 = .ok (.getfield 93, 3) := by decide +kernel
theorem dX11_proof_35 : decode cX11_proof 35 = .ok (.iload_n 3, 1) := by decide +kernel
theorem dX11_proof_36 : decode cX11_proof 36 = .ok (.iconst 0, 1) := by decide +kernel
theorem dX11_proof_37 : decode cX11_proof 37 = .ok (.bastore, 1) := by decide +kernel
theorem dX11_proof_38 : decode cX11_proof 38 = .ok (.iinc 3 1, 3) := by decide +kernel
theorem dX11_proof_41 : decode cX11_proof 41 = .ok (.goto (-17), 3) := by decide +kernel
theorem dX11_proof_44 : decode cX11_proof 44 = .ok (.iconst 0, 1) := by decide +kernel
theorem dX11_proof_45 : decode cX11_proof 45 = .ok (.istore_n 3, 1) := by decide +kernel
theorem dX11_proof_46 : decode cX11_proof 46 = .ok (.aload_n 0, 1) := by decide +kernel
theorem dX11_proof_47 : decode cX11_proof 47 = .ok (.getfield 75, 3) := by decide +kernel
theorem dX11_proof_50 : decode cX11_proof 50 = .ok (.iload_n 3, 1) := by decide +kernel
theorem dX11_proof_51 : decode cX11_proof 51 = .ok (.iload_n 1, 1) := by decide +kernel
theorem dX11_proof_52 : decode cX11_proof 52 = .ok (.iastore, 1) := by decide +kernel
theorem dX11_proof_53 : decode cX11_proof 53 = .ok (.iinc 3 1, 3) := by decide +kernel
theorem dX11_proof_56 : decode cX11_proof 56 = .ok (.iconst 0, 1) := by decide +kernel
theorem dX11_proof_57 : decode cX11_proof 57 = .ok (.istore 4, 2) := by decide +kernel
theorem dX11_proof_59 : decode cX11_proof 59 = .ok (.iload 4, 2) := by decide +kernel
theorem dX11_proof_61 : decode cX11_proof 61 = .ok (.bipush 100, 2) := by decide +kernel
theorem dX11_proof_63 : decode cX11_proof 63 = .ok (.if_icmp .ge 27, 3) := by decide +kernel
theorem dX11_proof_66 : decode cX11_proof 66 = .ok (.aload_n 0, 1) := by decide +kernel
theorem dX11_proof_67 : decode cX11_proof 67 = .ok (.getfield 72, 3) := by decide +kernel
theorem dX11_proof_70 : decode cX11_proof 70 = .ok (.iload 4, 2) := by decide +kernel
theorem dX11_proof_72 : decode cX11_proof 72 = .ok (.iload 4, 2) := by decide +kernel
theorem dX11_proof_74 : decode cX11_proof 74 = .ok (.iload_n 1, 1) := by decide +kernel
theorem dX11_proof_75 : decode cX11_proof 75 = .ok (.if_icmp .ne 7, 3) := by decide +kernel
theorem dX11_proof_78 : decode cX11_proof 78 = .ok (.iconst 1, 1) := by decide +kernel
theorem dX11_proof_79 : decode cX11_proof 79 = .ok (.goto 4, 3) := by decide +kernel
theorem dX11_proof_82 : decode cX11_proof 82 = .ok (.iconst 0, 1) := by decide +kernel
theorem dX11_proof_83 : decode cX11_proof 83 = .ok (.bastore, 1) := by decide +kernel
theorem dX11_proof_84 : decode cX11_proof 84 = .ok (.iinc 4 1, 3) := by decide +kernel
theorem dX11_proof_87 : decode cX11_proof 87 = .ok (.goto (-28), 3) := by decide +kernel
theorem dX11_proof_90 : decode cX11_proof 90 = .ok (.iload_n 3, 1) := by decide +kernel
theorem dX11_proof_91 : decode cX11_proof 91 = .ok (.ifCond .le 89, 3) := by decide +kernel
theorem dX11_proof_94 : decode cX11_proof 94 = .ok (.iinc 3 (-1), 3) := by decide +kernel
theorem dX11_proof_97 : decode cX11_proof 97 = .ok (.aload_n 0, 1) := by decide +kernel
theorem dX11_proof_98 : decode cX11_proof 98 = .ok (.aload_n 0, 1) := by decide +kernel
theorem dX11_proof_99 : decode cX11_proof 99 = .ok (.getfield 75, 3) := by decide +kernel
theorem dX11_proof_102 : decode cX11_proof 102 = .ok (.iload_n 3, 1) := by decide +kernel
theorem dX11_proof_103 : decode cX11_proof 103 = .ok (.iaload, 1) := by decide +kernel
theorem dX11_proof_104 : decode cX11_proof 104 = .ok (.invokevirtual 259, 3) := by decide +kernel
theorem dX11_proof_107 : decode cX11_proof 107 = .ok (.istore 4, 2) := by decide +kernel
theorem dX11_proof_109 : decode cX11_proof 109 = .ok (.aload_n 0, 1) := by decide +kernel
theorem dX11_proof_110 : decode cX11_proof 110 = .ok (.getfield 93, 3) := by decide +kernel
theorem dX11_proof_113 : decode cX11_proof 113 = .ok (.iload 4, 2) := by decide +kernel
theorem dX11_proof_115 : decode cX11_proof 115 = .ok (.iconst 1, 1) := by decide +kernel
theorem dX11_proof_116 : decode cX11_proof 116 = .ok (.bastore, 1) := by decide +kernel
theorem dX11_proof_117 : decode cX11_proof 117 = .ok (.iconst 0, 1) := by decide +kernel
theorem dX11_proof_118 : decode cX11_proof 118 = .ok (.istore 5, 2) := by decide +kernel
theorem dX11_proof_120 : decode cX11_proof 120 = .ok (.iload 5, 2) := by decide +kernel
theorem dX11_proof_122 : decode cX11_proof 122 = .ok (.iconst 3, 1) := by decide +kernel
theorem dX11_proof_123 : decode cX11_proof 123 = .ok (.if_icmp .ge 54, 3) := by decide +kernel
theorem dX11_proof_126 : decode cX11_proof 126 = .ok (.aload_n 0, 1) := by decide +kernel
theorem dX11_proof_127 : decode cX11_proof 127 = .ok (.iload 4, 2) := by decide +kernel
theorem dX11_proof_129 : decode cX11_proof 129 = .ok (.iload 5, 2) := by decide +kernel
theorem dX11_proof_131 : decode cX11_proof 131 = .ok (.invokevirtual 122, 3) := by decide +kernel
theorem dX11_proof_134 : decode cX11_proof 134 = .ok (.istore 6, 2) := by decide +kernel
theorem dX11_proof_136 : decode cX11_proof 136 = .ok (.iload 6, 2) := by decide +kernel
theorem dX11_proof_138 : decode cX11_proof 138 = .ok (.iconst (-1), 1) := by decide +kernel
theorem dX11_proof_139 : decode cX11_proof 139 = .ok (.if_icmp .eq 32, 3) := by decide +kernel
theorem dX11_proof_142 : decode cX11_proof 142 = .ok (.aload_n 0, 1) := by decide +kernel
theorem dX11_proof_143 : decode cX11_proof 143 = .ok (.getfield 72, 3) := by decide +kernel
theorem dX11_proof_146 : decode cX11_proof 146 = .ok (.iload 6, 2) := by decide +kernel
theorem dX11_proof_148 : decode cX11_proof 148 = .ok (.baload, 1) := by decide +kernel
theorem dX11_proof_149 : decode cX11_proof 149 = .ok (.ifCond .ne 22, 3) := by decide +kernel
theorem dX11_proof_152 : decode cX11_proof 152 = .ok (.aload_n 0, 1) := by decide +kernel
theorem dX11_proof_153 : decode cX11_proof 153 = .ok (.getfield 72, 3) := by decide +kernel
theorem dX11_proof_156 : decode cX11_proof 156 = .ok (.iload 6, 2) := by decide +kernel
theorem dX11_proof_158 : decode cX11_proof 158 = .ok (.iconst 1, 1) := by decide +kernel
theorem dX11_proof_159 : decode cX11_proof 159 = .ok (.bastore, 1) := by decide +kernel
theorem dX11_proof_160 : decode cX11_proof 160 = .ok (.aload_n 0, 1) := by decide +kernel
theorem dX11_proof_161 : decode cX11_proof 161 = .ok (.getfield 75, 3) := by decide +kernel
theorem dX11_proof_164 : decode cX11_proof 164 = .ok (.iload_n 3, 1) := by decide +kernel
theorem dX11_proof_165 : decode cX11_proof 165 = .ok (.iload 6, 2) := by decide +kernel
theorem dX11_proof_167 : decode cX11_proof 167 = .ok (.iastore, 1) := by decide +kernel
theorem dX11_proof_168 : decode cX11_proof 168 = .ok (.iinc 3 1, 3) := by decide +kernel
theorem dX11_proof_171 : decode cX11_proof 171 = .ok (.iinc 5 1, 3) := by decide +kernel
theorem dX11_proof_174 : decode cX11_proof 174 = .ok (.goto (-54), 3) := by decide +kernel
theorem dX11_proof_177 : decode cX11_proof 177 = .ok (.goto (-87), 3) := by decide +kernel
theorem dX11_proof_180 : decode cX11_proof 180 = .ok (.iconst 0, 1) := by decide +kernel
theorem dX11_proof_181 : decode cX11_proof 181 = .ok (.istore 4, 2) := by decide +kernel
theorem dX11_proof_183 : decode cX11_proof 183 = .ok (.iconst 0, 1) := by decide +kernel
theorem dX11_proof_184 : decode cX11_proof 184 = .ok (.istore 5, 2) := by decide +kernel
theorem dX11_proof_186 : decode cX11_proof 186 = .ok (.iload 5, 2) := by decide +kernel
theorem dX11_proof_188 : decode cX11_proof 188 = .ok (.aload_n 0, 1) := by decide +kernel
theorem dX11_proof_189 : decode cX11_proof 189 = .ok (.getfield 104, 3) := by decide +kernel
theorem dX11_proof_192 : decode cX11_proof 192 = .ok (.if_icmp .ge 31, 3) := by decide +kernel
theorem dX11_proof_195 : decode cX11_proof 195 = .ok (.aload_n 0, 1) := by decide +kernel
theorem dX11_proof_196 : decode cX11_proof 196 = .ok (.getfield 93, 3) := by decide +kernel
theorem dX11_proof_199 : decode cX11_proof 199 = .ok (.iload 5, 2) := by decide +kernel
theorem dX11_proof_201 : decode cX11_proof 201 = .ok (.baload, 1) := by decide +kernel
theorem dX11_proof_202 : decode cX11_proof 202 = .ok (.ifCond .eq 15, 3) := by decide +kernel
theorem dX11_proof_205 : decode cX11_proof 205 = .ok (.iload 4, 2) := by decide +kernel
theorem dX11_proof_207 : decode cX11_proof 207 = .ok (.iload_n 2, 1) := by decide +kernel
theorem dX11_proof_208 : decode cX11_proof 208 = .ok (.if_icmp .ne 6, 3) := by decide +kernel
theorem dX11_proof_211 : decode cX11_proof 211 = .ok (.iload 5, 2) := by decide +kernel
theorem dX11_proof_213 : decode cX11_proof 213 = .ok (.ireturn, 1) := by decide +kernel
theorem dX11_proof_214 : decode cX11_proof 214 = .ok (.iinc 4 1, 3) := by decide +kernel
theorem dX11_proof_217 : decode cX11_proof 217 = .ok (.iinc 5 1, 3) := by decide +kernel
theorem dX11_proof_220 : decode cX11_proof 220 = .ok (.goto (-34), 3) := by decide +kernel
theorem dX11_proof_223 : decode cX11_proof 223 = .ok (.iconst (-1), 1) := by decide +kernel
theorem dX11_proof_224 : decode cX11_proof 224 = .ok (.ireturn, 1) := by decide +kernel
/-! SealLineModel.proof(II)I -/
theorem eX11_proof {d mc ms : Nat} {w : qW} {Q : Option Value → qW → Prop} {q : Nat} {x0 : Int32} {x1 : Int32} (h : AW (mX11_proof, d, mc, ms, none, Q) 0 [some (.ref q), some (.int x0), some (.int x1), none, none, none, none] [] w 0 0) : CT mX11_proof d mc ms [.ref q, .int x0, .int x1] w Q := CT_of (by decide +kernel) rfl (Nat.le_of_ble_eq_true rfl) h
def bX11_proof_0 (G : Nat × Nat × Nat × Option (Nat × (Nat → Int32)) × (Option Value → qW → Prop)) : qK := (s_aload 0 (s_iload 1 (AW (mX11_proof, G) 2)))
theorem oX11_proof_0 (G : Nat × Nat × Nat × Option (Nat × (Nat → Int32)) × (Option Value → qW → Prop)) : qImp (bX11_proof_0 G) (AW (mX11_proof, G) 0) := (r_aload_n dX11_proof_0 rfl (r_iload_n dX11_proof_1 rfl qImp.rf))
def bX11_proof_5 (G : Nat × Nat × Nat × Option (Nat × (Nat → Int32)) × (Option Value → qW → Prop)) : qK := (s_if_eq (AW (mX11_proof, G) 20) (s_iload 2 (s_if_lt (AW (mX11_proof, G) 20) (s_aload 0 (s_iload 1 (AW (mX11_proof, G) 14))))))
theorem oX11_proof_5 (G : Nat × Nat × Nat × Option (Nat × (Nat → Int32)) × (Option Value → qW → Prop)) : qImp (bX11_proof_5 G) (AW (mX11_proof, G) 5) := (r_if_eq (tgt := 20) dX11_proof_5 rfl qImp.rf (r_iload_n dX11_proof_8 rfl (r_if_lt (tgt := 20) dX11_proof_9 rfl qImp.rf (r_aload_n dX11_proof_12 rfl (r_iload_n dX11_proof_13 rfl qImp.rf)))))
def bX11_proof_17 (G : Nat × Nat × Nat × Option (Nat × (Nat → Int32)) × (Option Value → qW → Prop)) : qK := (s_if_ne (AW (mX11_proof, G) 22) (AW (mX11_proof, G) 20))
theorem oX11_proof_17 (G : Nat × Nat × Nat × Option (Nat × (Nat → Int32)) × (Option Value → qW → Prop)) : qImp (bX11_proof_17 G) (AW (mX11_proof, G) 17) := (r_if_ne (tgt := 22) dX11_proof_17 rfl qImp.rf qImp.rf)
def bX11_proof_20 (G : Nat × Nat × Nat × Option (Nat × (Nat → Int32)) × (Option Value → qW → Prop)) : qK := (s_iconst (-1) (s_ireturn (mX11_proof, G)))
theorem oX11_proof_20 (G : Nat × Nat × Nat × Option (Nat × (Nat → Int32)) × (Option Value → qW → Prop)) : qImp (bX11_proof_20 G) (AW (mX11_proof, G) 20) := (r_iconst dX11_proof_20 rfl (r_ireturn dX11_proof_21 rfl))
def bX11_proof_22 (G : Nat × Nat × Nat × Option (Nat × (Nat → Int32)) × (Option Value → qW → Prop)) : qK := (s_iconst 0 (s_istore 3 2 (AW (mX11_proof, G) 24)))
theorem oX11_proof_22 (G : Nat × Nat × Nat × Option (Nat × (Nat → Int32)) × (Option Value → qW → Prop)) : qImp (bX11_proof_22 G) (AW (mX11_proof, G) 22) := (r_iconst dX11_proof_22 rfl (r_istore_n dX11_proof_23 rfl (Or.inr rfl) (Nat.le_of_ble_eq_true rfl) qImp.rf))
def bX11_proof_24 (G : Nat × Nat × Nat × Option (Nat × (Nat → Int32)) × (Option Value → qW → Prop)) : qK := (s_iload 3 (s_iconst 400 (s_ic_ge (AW (mX11_proof, G) 44) (s_aload 0 (s_getfield 11 38 (s_iload 3 (s_iconst 0 (s_bastore (s_iinc 3 2 1 (AW (mX11_proof, G) 24))))))))))
theorem oX11_proof_24 (G : Nat × Nat × Nat × Option (Nat × (Nat → Int32)) × (Option Value → qW → Prop)) : qImp (bX11_proof_24 G) (AW (mX11_proof, G) 24) := (r_iload_n dX11_proof_24 rfl (r_sipush dX11_proof_25 rfl (r_ic_ge (tgt := 44) dX11_proof_28 rfl qImp.rf (r_aload_n dX11_proof_31 rfl (r_getfield dX11_proof_32 fgX11_93 (r_iload_n dX11_proof_35 rfl (r_iconst dX11_proof_36 rfl (r_bastore dX11_proof_37 (r_iinc dX11_proof_38 rfl (Or.inr rfl) (Nat.le_of_ble_eq_true rfl) (r_goto (tgt := 24) dX11_proof_41 rfl qImp.rf))))))))))
def bX11_proof_44 (G : Nat × Nat × Nat × Option (Nat × (Nat → Int32)) × (Option Value → qW → Prop)) : qK := (s_iconst 0 (s_istore 3 2 (s_aload 0 (s_getfield 11 27 (s_iload 3 (s_iload 1 (s_iastore (s_iinc 3 2 1 (s_iconst 0 (s_istore 4 3 (AW (mX11_proof, G) 59)))))))))))
theorem oX11_proof_44 (G : Nat × Nat × Nat × Option (Nat × (Nat → Int32)) × (Option Value → qW → Prop)) : qImp (bX11_proof_44 G) (AW (mX11_proof, G) 44) := (r_iconst dX11_proof_44 rfl (r_istore_n dX11_proof_45 rfl (Or.inr rfl) (Nat.le_of_ble_eq_true rfl) (r_aload_n dX11_proof_46 rfl (r_getfield dX11_proof_47 fgX11_75 (r_iload_n dX11_proof_50 rfl (r_iload_n dX11_proof_51 rfl (r_iastore dX11_proof_52 (r_iinc dX11_proof_53 rfl (Or.inr rfl) (Nat.le_of_ble_eq_true rfl) (r_iconst dX11_proof_56 rfl (r_istore dX11_proof_57 (Or.inr rfl) (Nat.le_of_ble_eq_true rfl) qImp.rf))))))))))
def bX11_proof_59 (G : Nat × Nat × Nat × Option (Nat × (Nat → Int32)) × (Option Value → qW → Prop)) : qK := (s_iload 4 (s_iconst 100 (s_ic_ge (AW (mX11_proof, G) 90) (s_aload 0 (s_getfield 11 26 (s_iload 4 (s_iload 4 (s_iload 1 (s_ic_ne (AW (mX11_proof, G) 82) (s_iconst 1 (AW (mX11_proof, G) 83)))))))))))
theorem oX11_proof_59 (G : Nat × Nat × Nat × Option (Nat × (Nat → Int32)) × (Option Value → qW → Prop)) : qImp (bX11_proof_59 G) (AW (mX11_proof, G) 59) := (r_iload dX11_proof_59 (r_bipush dX11_proof_61 rfl (r_ic_ge (tgt := 90) dX11_proof_63 rfl qImp.rf (r_aload_n dX11_proof_66 rfl (r_getfield dX11_proof_67 fgX11_72 (r_iload dX11_proof_70 (r_iload dX11_proof_72 (r_iload_n dX11_proof_74 rfl (r_ic_ne (tgt := 82) dX11_proof_75 rfl qImp.rf (r_iconst dX11_proof_78 rfl (r_goto (tgt := 83) dX11_proof_79 rfl qImp.rf)))))))))))
def bX11_proof_82 (G : Nat × Nat × Nat × Option (Nat × (Nat → Int32)) × (Option Value → qW → Prop)) : qK := (s_iconst 0 (AW (mX11_proof, G) 83))
theorem oX11_proof_82 (G : Nat × Nat × Nat × Option (Nat × (Nat → Int32)) × (Option Value → qW → Prop)) : qImp (bX11_proof_82 G) (AW (mX11_proof, G) 82) := (r_iconst dX11_proof_82 rfl qImp.rf)
def bX11_proof_83 (G : Nat × Nat × Nat × Option (Nat × (Nat → Int32)) × (Option Value → qW → Prop)) : qK := (s_bastore (s_iinc 4 3 1 (AW (mX11_proof, G) 59)))
theorem oX11_proof_83 (G : Nat × Nat × Nat × Option (Nat × (Nat → Int32)) × (Option Value → qW → Prop)) : qImp (bX11_proof_83 G) (AW (mX11_proof, G) 83) := (r_bastore dX11_proof_83 (r_iinc dX11_proof_84 rfl (Or.inr rfl) (Nat.le_of_ble_eq_true rfl) (r_goto (tgt := 59) dX11_proof_87 rfl qImp.rf)))
def bX11_proof_90 (G : Nat × Nat × Nat × Option (Nat × (Nat → Int32)) × (Option Value → qW → Prop)) : qK := (s_iload 3 (s_if_le (AW (mX11_proof, G) 180) (s_iinc 3 2 (-1) (s_aload 0 (s_aload 0 (s_getfield 11 27 (s_iload 3 (s_iaload (mX11_proof, G) (AW (mX11_proof, G) 104)))))))))
theorem oX11_proof_90 (G : Nat × Nat × Nat × Option (Nat × (Nat → Int32)) × (Option Value → qW → Prop)) : qImp (bX11_proof_90 G) (AW (mX11_proof, G) 90) := (r_iload_n dX11_proof_90 rfl (r_if_le (tgt := 180) dX11_proof_91 rfl qImp.rf (r_iinc dX11_proof_94 rfl (Or.inr rfl) (Nat.le_of_ble_eq_true rfl) (r_aload_n dX11_proof_97 rfl (r_aload_n dX11_proof_98 rfl (r_getfield dX11_proof_99 fgX11_75 (r_iload_n dX11_proof_102 rfl (r_iaload dX11_proof_103 qImp.rf))))))))
def bX11_proof_107 (G : Nat × Nat × Nat × Option (Nat × (Nat → Int32)) × (Option Value → qW → Prop)) : qK := (s_istore 4 3 (s_aload 0 (s_getfield 11 38 (s_iload 4 (s_iconst 1 (s_bastore (s_iconst 0 (s_istore 5 4 (AW (mX11_proof, G) 120)))))))))
theorem oX11_proof_107 (G : Nat × Nat × Nat × Option (Nat × (Nat → Int32)) × (Option Value → qW → Prop)) : qImp (bX11_proof_107 G) (AW (mX11_proof, G) 107) := (r_istore dX11_proof_107 (Or.inr rfl) (Nat.le_of_ble_eq_true rfl) (r_aload_n dX11_proof_109 rfl (r_getfield dX11_proof_110 fgX11_93 (r_iload dX11_proof_113 (r_iconst dX11_proof_115 rfl (r_bastore dX11_proof_116 (r_iconst dX11_proof_117 rfl (r_istore dX11_proof_118 (Or.inr rfl) (Nat.le_of_ble_eq_true rfl) qImp.rf))))))))
def bX11_proof_120 (G : Nat × Nat × Nat × Option (Nat × (Nat → Int32)) × (Option Value → qW → Prop)) : qK := (s_iload 5 (s_iconst 3 (s_ic_ge (AW (mX11_proof, G) 177) (s_aload 0 (s_iload 4 (s_iload 5 (AW (mX11_proof, G) 131)))))))
theorem oX11_proof_120 (G : Nat × Nat × Nat × Option (Nat × (Nat → Int32)) × (Option Value → qW → Prop)) : qImp (bX11_proof_120 G) (AW (mX11_proof, G) 120) := (r_iload dX11_proof_120 (r_iconst dX11_proof_122 rfl (r_ic_ge (tgt := 177) dX11_proof_123 rfl qImp.rf (r_aload_n dX11_proof_126 rfl (r_iload dX11_proof_127 (r_iload dX11_proof_129 qImp.rf))))))
def bX11_proof_134 (G : Nat × Nat × Nat × Option (Nat × (Nat → Int32)) × (Option Value → qW → Prop)) : qK := (s_istore 6 5 (s_iload 6 (s_iconst (-1) (s_ic_eq (AW (mX11_proof, G) 171) (s_aload 0 (s_getfield 11 26 (s_iload 6 (s_baload (s_if_ne (AW (mX11_proof, G) 171) (s_aload 0 (s_getfield 11 26 (s_iload 6 (s_iconst 1 (s_bastore (s_aload 0 (s_getfield 11 27 (s_iload 3 (s_iload 6 (s_iastore (s_iinc 3 2 1 (AW (mX11_proof, G) 171)))))))))))))))))))))
theorem oX11_proof_134 (G : Nat × Nat × Nat × Option (Nat × (Nat → Int32)) × (Option Value → qW → Prop)) : qImp (bX11_proof_134 G) (AW (mX11_proof, G) 134) := (r_istore dX11_proof_134 (Or.inr rfl) (Nat.le_of_ble_eq_true rfl) (r_iload dX11_proof_136 (r_iconst dX11_proof_138 rfl (r_ic_eq (tgt := 171) dX11_proof_139 rfl qImp.rf (r_aload_n dX11_proof_142 rfl (r_getfield dX11_proof_143 fgX11_72 (r_iload dX11_proof_146 (r_baload dX11_proof_148 (r_if_ne (tgt := 171) dX11_proof_149 rfl qImp.rf (r_aload_n dX11_proof_152 rfl (r_getfield dX11_proof_153 fgX11_72 (r_iload dX11_proof_156 (r_iconst dX11_proof_158 rfl (r_bastore dX11_proof_159 (r_aload_n dX11_proof_160 rfl (r_getfield dX11_proof_161 fgX11_75 (r_iload_n dX11_proof_164 rfl (r_iload dX11_proof_165 (r_iastore dX11_proof_167 (r_iinc dX11_proof_168 rfl (Or.inr rfl) (Nat.le_of_ble_eq_true rfl) qImp.rf))))))))))))))))))))
def bX11_proof_171 (G : Nat × Nat × Nat × Option (Nat × (Nat → Int32)) × (Option Value → qW → Prop)) : qK := (s_iinc 5 4 1 (AW (mX11_proof, G) 120))
theorem oX11_proof_171 (G : Nat × Nat × Nat × Option (Nat × (Nat → Int32)) × (Option Value → qW → Prop)) : qImp (bX11_proof_171 G) (AW (mX11_proof, G) 171) := (r_iinc dX11_proof_171 rfl (Or.inr rfl) (Nat.le_of_ble_eq_true rfl) (r_goto (tgt := 120) dX11_proof_174 rfl qImp.rf))
def bX11_proof_177 (G : Nat × Nat × Nat × Option (Nat × (Nat → Int32)) × (Option Value → qW → Prop)) : qK := (AW (mX11_proof, G) 90)
theorem oX11_proof_177 (G : Nat × Nat × Nat × Option (Nat × (Nat → Int32)) × (Option Value → qW → Prop)) : qImp (bX11_proof_177 G) (AW (mX11_proof, G) 177) := (r_goto (tgt := 90) dX11_proof_177 rfl qImp.rf)
def bX11_proof_180 (G : Nat × Nat × Nat × Option (Nat × (Nat → Int32)) × (Option Value → qW → Prop)) : qK := (s_iconst 0 (s_istore 4 3 (s_iconst 0 (s_istore 5 4 (AW (mX11_proof, G) 186)))))
theorem oX11_proof_180 (G : Nat × Nat × Nat × Option (Nat × (Nat → Int32)) × (Option Value → qW → Prop)) : qImp (bX11_proof_180 G) (AW (mX11_proof, G) 180) := (r_iconst dX11_proof_180 rfl (r_istore dX11_proof_181 (Or.inr rfl) (Nat.le_of_ble_eq_true rfl) (r_iconst dX11_proof_183 rfl (r_istore dX11_proof_184 (Or.inr rfl) (Nat.le_of_ble_eq_true rfl) qImp.rf))))
def bX11_proof_186 (G : Nat × Nat × Nat × Option (Nat × (Nat → Int32)) × (Option Value → qW → Prop)) : qK := (s_iload 5 (s_aload 0 (s_getfield 11 0 (s_ic_ge (AW (mX11_proof, G) 223) (s_aload 0 (s_getfield 11 38 (s_iload 5 (s_baload (s_if_eq (AW (mX11_proof, G) 217) (s_iload 4 (s_iload 2 (s_ic_ne (AW (mX11_proof, G) 214) (s_iload 5 (s_ireturn (mX11_proof, G)))))))))))))))
theorem oX11_proof_186 (G : Nat × Nat × Nat × Option (Nat × (Nat → Int32)) × (Option Value → qW → Prop)) : qImp (bX11_proof_186 G) (AW (mX11_proof, G) 186) := (r_iload dX11_proof_186 (r_aload_n dX11_proof_188 rfl (r_getfield dX11_proof_189 fgX11_104 (r_ic_ge (tgt := 223) dX11_proof_192 rfl qImp.rf (r_aload_n dX11_proof_195 rfl (r_getfield dX11_proof_196 fgX11_93 (r_iload dX11_proof_199 (r_baload dX11_proof_201 (r_if_eq (tgt := 217) dX11_proof_202 rfl qImp.rf (r_iload dX11_proof_205 (r_iload_n dX11_proof_207 rfl (r_ic_ne (tgt := 214) dX11_proof_208 rfl qImp.rf (r_iload dX11_proof_211 (r_ireturn dX11_proof_213 rfl))))))))))))))
def bX11_proof_214 (G : Nat × Nat × Nat × Option (Nat × (Nat → Int32)) × (Option Value → qW → Prop)) : qK := (s_iinc 4 3 1 (AW (mX11_proof, G) 217))
theorem oX11_proof_214 (G : Nat × Nat × Nat × Option (Nat × (Nat → Int32)) × (Option Value → qW → Prop)) : qImp (bX11_proof_214 G) (AW (mX11_proof, G) 214) := (r_iinc dX11_proof_214 rfl (Or.inr rfl) (Nat.le_of_ble_eq_true rfl) qImp.rf)
def bX11_proof_217 (G : Nat × Nat × Nat × Option (Nat × (Nat → Int32)) × (Option Value → qW → Prop)) : qK := (s_iinc 5 4 1 (AW (mX11_proof, G) 186))
theorem oX11_proof_217 (G : Nat × Nat × Nat × Option (Nat × (Nat → Int32)) × (Option Value → qW → Prop)) : qImp (bX11_proof_217 G) (AW (mX11_proof, G) 217) := (r_iinc dX11_proof_217 rfl (Or.inr rfl) (Nat.le_of_ble_eq_true rfl) (r_goto (tgt := 186) dX11_proof_220 rfl qImp.rf))
def bX11_proof_223 (G : Nat × Nat × Nat × Option (Nat × (Nat → Int32)) × (Option Value → qW → Prop)) : qK := (s_iconst (-1) (s_ireturn (mX11_proof, G)))
theorem oX11_proof_223 (G : Nat × Nat × Nat × Option (Nat × (Nat → Int32)) × (Option Value → qW → Prop)) : qImp (bX11_proof_223 G) (AW (mX11_proof, G) 223) := (r_iconst dX11_proof_223 rfl (r_ireturn dX11_proof_224 rfl))
theorem kX11_proof_2 {G : Nat × Nat × Nat × Option (Nat × (Nat → Int32)) × (Option Value → qW → Prop)} {L : qL} {w : qW} {kc ks : Nat} {rest : List Value} {q : Nat} {x0 : Int32} {d mc ms : Nat} {Q : Option Value → qW → Prop} (hC : CT mX11_isFile d mc ms [.ref q, .int x0] w Q) (hq : qci w q = some 11) (hst : rest.length ≤ 4) (hdp : d + 1 ≤ G.1) (hmc : kc + mc ≤ G.2.1 ∧ ks + ms ≤ G.2.2.1) (k : ∀ r w', Q r w' → AW (mX11_proof, G) 5 L (r.toList ++ rest) w' (kc + mc) (ks + ms)) : AW (mX11_proof, G) 2 L (.int x0 :: .ref q :: rest) w kc ks := a_callV [.int x0] rest dX11_proof_2 vX11_isFile lk1050 hC hq rfl rfl hst hdp hmc k
theorem kX11_proof_14 {G : Nat × Nat × Nat × Option (Nat × (Nat → Int32)) × (Option Value → qW → Prop)} {L : qL} {w : qW} {kc ks : Nat} {rest : List Value} {q : Nat} {x0 : Int32} {d mc ms : Nat} {Q : Option Value → qW → Prop} (hC : CT mX11_isClean d mc ms [.ref q, .int x0] w Q) (hq : qci w q = some 11) (hst : rest.length ≤ 4) (hdp : d + 1 ≤ G.1) (hmc : kc + mc ≤ G.2.1 ∧ ks + ms ≤ G.2.2.1) (k : ∀ r w', Q r w' → AW (mX11_proof, G) 17 L (r.toList ++ rest) w' (kc + mc) (ks + ms)) : AW (mX11_proof, G) 14 L (.int x0 :: .ref q :: rest) w kc ks := a_callV [.int x0] rest dX11_proof_14 vX11_isClean lk1152 hC hq rfl rfl hst hdp hmc k
theorem kX11_proof_104 {G : Nat × Nat × Nat × Option (Nat × (Nat → Int32)) × (Option Value → qW → Prop)} {L : qL} {w : qW} {kc ks : Nat} {rest : List Value} {q : Nat} {x0 : Int32} {d mc ms : Nat} {Q : Option Value → qW → Prop} (hC : CT mX11_firstOf d mc ms [.ref q, .int x0] w Q) (hq : qci w q = some 11) (hst : rest.length ≤ 4) (hdp : d + 1 ≤ G.1) (hmc : kc + mc ≤ G.2.1 ∧ ks + ms ≤ G.2.2.1) (k : ∀ r w', Q r w' → AW (mX11_proof, G) 107 L (r.toList ++ rest) w' (kc + mc) (ks + ms)) : AW (mX11_proof, G) 104 L (.int x0 :: .ref q :: rest) w kc ks := a_callV [.int x0] rest dX11_proof_104 vX11_firstOf lk1252 hC hq rfl rfl hst hdp hmc k
theorem kX11_proof_131 {G : Nat × Nat × Nat × Option (Nat × (Nat → Int32)) × (Option Value → qW → Prop)} {L : qL} {w : qW} {kc ks : Nat} {rest : List Value} {q : Nat} {x0 : Int32} {x1 : Int32} {d mc ms : Nat} {Q : Option Value → qW → Prop} (hC : CT mX11_went d mc ms [.ref q, .int x0, .int x1] w Q) (hq : qci w q = some 11) (hst : rest.length ≤ 4) (hdp : d + 1 ≤ G.1) (hmc : kc + mc ≤ G.2.1 ∧ ks + ms ≤ G.2.2.1) (k : ∀ r w', Q r w' → AW (mX11_proof, G) 134 L (r.toList ++ rest) w' (kc + mc) (ks + ms)) : AW (mX11_proof, G) 131 L (.int x1 :: .int x0 :: .ref q :: rest) w kc ks := a_callV [.int x0, .int x1] rest dX11_proof_131 vX11_went lk1072 hC hq rfl rfl hst hdp hmc k
theorem dX11_called_0 : decode cX11_called 0 = .ok (.iconst 0, 1) := by decide +kernel
theorem dX11_called_1 : decode cX11_called 1 = .ok (.istore_n 2, 1) := by decide +kernel
theorem dX11_called_2 : decode cX11_called 2 = .ok (.iconst 0, 1) := by decide +kernel
theorem dX11_called_3 : decode cX11_called 3 = .ok (.istore_n 3, 1) := by decide +kernel
theorem dX11_called_4 : decode cX11_called 4 = .ok (.iload_n 3, 1) := by decide +kernel
theorem dX11_called_5 : decode cX11_called 5 = .ok (.aload_n 0, 1) := by decide +kernel
theorem dX11_called_6 : decode cX11_called 6 = .ok (.getfield 96, 3) := by decide +kernel
theorem dX11_called_9 : decode cX11_called 9 = .ok (.if_icmp .ge 31, 3) := by decide +kernel
theorem dX11_called_12 : decode cX11_called 12 = .ok (.iload_n 1, 1) := by decide +kernel
theorem dX11_called_13 : decode cX11_called 13 = .ok (.ifCond .lt 27, 3) := by decide +kernel
theorem dX11_called_16 : decode cX11_called 16 = .ok (.aload_n 0, 1) := by decide +kernel
theorem dX11_called_17 : decode cX11_called 17 = .ok (.iload_n 3, 1) := by decide +kernel
theorem dX11_called_18 : decode cX11_called 18 = .ok (.invokevirtual 233, 3) := by decide +kernel
theorem dX11_called_21 : decode cX11_called 21 = .ok (.ifCond .eq 13, 3) := by decide +kernel
theorem dX11_called_24 : decode cX11_called 24 = .ok (.iload_n 2, 1) := by decide +kernel
theorem dX11_called_25 : decode cX11_called 25 = .ok (.iload_n 1, 1) := by decide +kernel
theorem dX11_called_26 : decode cX11_called 26 = .ok (.if_icmp .ne 5, 3) := by decide +kernel
theorem dX11_called_29 : decode cX11_called 29 = .ok (.iload_n 3, 1) := by decide +kernel
theorem dX11_called_30 : decode cX11_called 30 = .ok (.ireturn, 1) := by decide +kernel
theorem dX11_called_31 : decode cX11_called 31 = .ok (.iinc 2 1, 3) := by decide +kernel
theorem dX11_called_34 : decode cX11_called 34 = .ok (.iinc 3 1, 3) := by decide +kernel
theorem dX11_called_37 : decode cX11_called 37 = .ok (.goto (-33), 3) := by decide +kernel
theorem dX11_called_40 : decode cX11_called 40 = .ok (.iconst (-1), 1) := by decide +kernel
theorem dX11_called_41 : decode cX11_called 41 = .ok (.ireturn, 1) := by decide +kernel
/-! SealLineModel.called(I)I -/
theorem eX11_called {d mc ms : Nat} {w : qW} {Q : Option Value → qW → Prop} {q : Nat} {x0 : Int32} (h : AW (mX11_called, d, mc, ms, none, Q) 0 [some (.ref q), some (.int x0), none, none] [] w 0 0) : CT mX11_called d mc ms [.ref q, .int x0] w Q := CT_of (by decide +kernel) rfl (Nat.le_of_ble_eq_true rfl) h
def bX11_called_0 (G : Nat × Nat × Nat × Option (Nat × (Nat → Int32)) × (Option Value → qW → Prop)) : qK := (s_iconst 0 (s_istore 2 1 (s_iconst 0 (s_istore 3 2 (AW (mX11_called, G) 4)))))
theorem oX11_called_0 (G : Nat × Nat × Nat × Option (Nat × (Nat → Int32)) × (Option Value → qW → Prop)) : qImp (bX11_called_0 G) (AW (mX11_called, G) 0) := (r_iconst dX11_called_0 rfl (r_istore_n dX11_called_1 rfl (Or.inr rfl) (Nat.le_of_ble_eq_true rfl) (r_iconst dX11_called_2 rfl (r_istore_n dX11_called_3 rfl (Or.inr rfl) (Nat.le_of_ble_eq_true rfl) qImp.rf))))
def bX11_called_4 (G : Nat × Nat × Nat × Option (Nat × (Nat → Int32)) × (Option Value → qW → Prop)) : qK := (s_iload 3 (s_aload 0 (s_getfield 11 1 (s_ic_ge (AW (mX11_called, G) 40) (s_iload 1 (s_if_lt (AW (mX11_called, G) 40) (s_aload 0 (s_iload 3 (AW (mX11_called, G) 18)))))))))
theorem oX11_called_4 (G : Nat × Nat × Nat × Option (Nat × (Nat → Int32)) × (Option Value → qW → Prop)) : qImp (bX11_called_4 G) (AW (mX11_called, G) 4) := (r_iload_n dX11_called_4 rfl (r_aload_n dX11_called_5 rfl (r_getfield dX11_called_6 fgX11_96 (r_ic_ge (tgt := 40) dX11_called_9 rfl qImp.rf (r_iload_n dX11_called_12 rfl (r_if_lt (tgt := 40) dX11_called_13 rfl qImp.rf (r_aload_n dX11_called_16 rfl (r_iload_n dX11_called_17 rfl qImp.rf))))))))
def bX11_called_21 (G : Nat × Nat × Nat × Option (Nat × (Nat → Int32)) × (Option Value → qW → Prop)) : qK := (s_if_eq (AW (mX11_called, G) 34) (s_iload 2 (s_iload 1 (s_ic_ne (AW (mX11_called, G) 31) (s_iload 3 (s_ireturn (mX11_called, G)))))))
theorem oX11_called_21 (G : Nat × Nat × Nat × Option (Nat × (Nat → Int32)) × (Option Value → qW → Prop)) : qImp (bX11_called_21 G) (AW (mX11_called, G) 21) := (r_if_eq (tgt := 34) dX11_called_21 rfl qImp.rf (r_iload_n dX11_called_24 rfl (r_iload_n dX11_called_25 rfl (r_ic_ne (tgt := 31) dX11_called_26 rfl qImp.rf (r_iload_n dX11_called_29 rfl (r_ireturn dX11_called_30 rfl))))))
def bX11_called_31 (G : Nat × Nat × Nat × Option (Nat × (Nat → Int32)) × (Option Value → qW → Prop)) : qK := (s_iinc 2 1 1 (AW (mX11_called, G) 34))
theorem oX11_called_31 (G : Nat × Nat × Nat × Option (Nat × (Nat → Int32)) × (Option Value → qW → Prop)) : qImp (bX11_called_31 G) (AW (mX11_called, G) 31) := (r_iinc dX11_called_31 rfl (Or.inr rfl) (Nat.le_of_ble_eq_true rfl) qImp.rf)
def bX11_called_34 (G : Nat × Nat × Nat × Option (Nat × (Nat → Int32)) × (Option Value → qW → Prop)) : qK := (s_iinc 3 2 1 (AW (mX11_called, G) 4))
theorem oX11_called_34 (G : Nat × Nat × Nat × Option (Nat × (Nat → Int32)) × (Option Value → qW → Prop)) : qImp (bX11_called_34 G) (AW (mX11_called, G) 34) := (r_iinc dX11_called_34 rfl (Or.inr rfl) (Nat.le_of_ble_eq_true rfl) (r_goto (tgt := 4) dX11_called_37 rfl qImp.rf))
def bX11_called_40 (G : Nat × Nat × Nat × Option (Nat × (Nat → Int32)) × (Option Value → qW → Prop)) : qK := (s_iconst (-1) (s_ireturn (mX11_called, G)))
theorem oX11_called_40 (G : Nat × Nat × Nat × Option (Nat × (Nat → Int32)) × (Option Value → qW → Prop)) : qImp (bX11_called_40 G) (AW (mX11_called, G) 40) := (r_iconst dX11_called_40 rfl (r_ireturn dX11_called_41 rfl))
theorem kX11_called_18 {G : Nat × Nat × Nat × Option (Nat × (Nat → Int32)) × (Option Value → qW → Prop)} {L : qL} {w : qW} {kc ks : Nat} {rest : List Value} {q : Nat} {x0 : Int32} {d mc ms : Nat} {Q : Option Value → qW → Prop} (hC : CT mX11_isCalled d mc ms [.ref q, .int x0] w Q) (hq : qci w q = some 11) (hst : rest.length ≤ 4) (hdp : d + 1 ≤ G.1) (hmc : kc + mc ≤ G.2.1 ∧ ks + ms ≤ G.2.2.1) (k : ∀ r w', Q r w' → AW (mX11_called, G) 21 L (r.toList ++ rest) w' (kc + mc) (ks + ms)) : AW (mX11_called, G) 18 L (.int x0 :: .ref q :: rest) w kc ks := a_callV [.int x0] rest dX11_called_18 vX11_isCalled lk1177 hC hq rfl rfl hst hdp hmc k
theorem dX11_count_0 : decode cX11_count 0 = .ok (.iconst 0, 1) := by decide +kernel
theorem dX11_count_1 : decode cX11_count 1 = .ok (.istore_n 2, 1) := by decide +kernel
theorem dX11_count_2 : decode cX11_count 2 = .ok (.iconst 0, 1) := by decide +kernel
theorem dX11_count_3 : decode cX11_count 3 = .ok (.istore_n 3, 1) := by decide +kernel
theorem dX11_count_4 : decode cX11_count 4 = .ok (.iload_n 3, 1) := by decide +kernel
theorem dX11_count_5 : decode cX11_count 5 = .ok (.aload_n 0, 1) := by decide +kernel
theorem dX11_count_6 : decode cX11_count 6 = .ok (.getfield 242, 3) := by decide +kernel
theorem dX11_count_9 : decode cX11_count 9 = .ok (.if_icmp .ge 31, 3) := by decide +kernel
theorem dX11_count_12 : decode cX11_count 12 = .ok (.iload_n 1, 1) := by decide +kernel
theorem dX11_count_13 : decode cX11_count 13 = .ok (.bipush 6, 2) := by decide +kernel
theorem dX11_count_15 : decode cX11_count 15 = .ok (.if_icmp .ne 25, 3) := by decide +kernel
theorem dX11_count_18 : decode cX11_count 18 = .ok (.iload_n 2, 1) := by decide +kernel
theorem dX11_count_19 : decode cX11_count 19 = .ok (.aload_n 0, 1) := by decide +kernel
theorem dX11_count_20 : decode cX11_count 20 = .ok (.iload_n 3, 1) := by decide +kernel
theorem dX11_count_21 : decode cX11_count 21 = .ok (.invokevirtual 249, 3) := by decide +kernel
theorem dX11_count_24 : decode cX11_count 24 = .ok (.ifCond .eq 7, 3) := by decide +kernel
theorem dX11_count_27 : decode cX11_count 27 = .ok (.iconst 1, 1) := by decide +kernel
theorem dX11_count_28 : decode cX11_count 28 = .ok (.goto 4, 3) := by decide +kernel
theorem dX11_count_31 : decode cX11_count 31 = .ok (.iconst 0, 1) := by decide +kernel
theorem dX11_count_32 : decode cX11_count 32 = .ok (.iadd, 1) := by decide +kernel
theorem dX11_count_33 : decode cX11_count 33 = .ok (.istore_n 2, 1) := by decide +kernel
theorem dX11_count_34 : decode cX11_count 34 = .ok (.iinc 3 1, 3) := by decide +kernel
theorem dX11_count_37 : decode cX11_count 37 = .ok (.goto (-33), 3) := by decide +kernel
theorem dX11_count_40 : decode cX11_count 40 = .ok (.iload_n 1, 1) := by decide +kernel
theorem dX11_count_41 : decode cX11_count 41 = .ok (.tableswitch 106 0 8 #[51, 56, 61, 66, 71, 76, 81, 83, 88], 51) := by decide +kernel
theorem dX11_count_92 : decode cX11_count 92 = .ok (.aload_n 0, 1) := by decide +kernel
theorem dX11_count_93 : decode cX11_count 93 = .ok (.getfield 104, 3) := by decide +kernel
theorem dX11_count_96 : decode cX11_count 96 = .ok (.ireturn, 1) := by decide +kernel
theorem dX11_count_97 : decode cX11_count 97 = .ok (.aload_n 0, 1) := by decide +kernel
theorem dX11_count_98 : decode cX11_count 98 = .ok (.getfield 96, 3) := by decide +kernel
theorem dX11_count_101 : decode cX11_count 101 = .ok (.ireturn, 1) := by decide +kernel
theorem dX11_count_102 : decode cX11_count 102 = .ok (.aload_n 0, 1) := by decide +kernel
theorem dX11_count_103 : decode cX11_count 103 = .ok (.getfield 203, 3) := by decide +kernel
theorem dX11_count_106 : decode cX11_count 106 = .ok (.ireturn, 1) := by decide +kernel
theorem dX11_count_107 : decode cX11_count 107 = .ok (.aload_n 0, 1) := by decide +kernel
theorem dX11_count_108 : decode cX11_count 108 = .ok (.getfield 242, 3) := by decide +kernel
theorem dX11_count_111 : decode cX11_count 111 = .ok (.ireturn, 1) := by decide +kernel
theorem dX11_count_112 : decode cX11_count 112 = .ok (.aload_n 0, 1) := by decide +kernel
theorem dX11_count_113 : decode cX11_count 113 = .ok (.getfield 209, 3) := by decide +kernel
theorem dX11_count_116 : decode cX11_count 116 = .ok (.ireturn, 1) := by decide +kernel
theorem dX11_count_117 : decode cX11_count 117 = .ok (.aload_n 0, 1) := by decide +kernel
theorem dX11_count_118 : decode cX11_count 118 = .ok (.getfield 169, 3) := by decide +kernel
theorem dX11_count_121 : decode cX11_count 121 = .ok (.ireturn, 1) := by decide +kernel
theorem dX11_count_122 : decode cX11_count 122 = .ok (.iload_n 2, 1) := by decide +kernel
theorem dX11_count_123 : decode cX11_count 123 = .ok (.ireturn, 1) := by decide +kernel
theorem dX11_count_124 : decode cX11_count 124 = .ok (.aload_n 0, 1) := by decide +kernel
theorem dX11_count_125 : decode cX11_count 125 = .ok (.invokevirtual 246, 3) := by decide +kernel
theorem dX11_count_128 : decode cX11_count 128 = .ok (.ireturn, 1) := by decide +kernel
theorem dX11_count_129 : decode cX11_count 129 = .ok (.aload_n 0, 1) := by decide +kernel
theorem dX11_count_130 : decode cX11_count 130 = .ok (.getfield 209, 3) := by decide +kernel
theorem dX11_count_133 : decode cX11_count 133 = .ok (.ifCond .ne 7, 3) := by decide +kernel
theorem dX11_count_136 : decode cX11_count 136 = .ok (.iconst (-1), 1) := by decide +kernel
theorem dX11_count_137 : decode cX11_count 137 = .ok (.goto 9, 3) := by decide +kernel
theorem dX11_count_140 : decode cX11_count 140 = .ok (.aload_n 0, 1) := by decide +kernel
theorem dX11_count_141 : decode cX11_count 141 = .ok (.getfield 50, 3) := by decide +kernel
theorem dX11_count_144 : decode cX11_count 144 = .ok (.iconst 0, 1) := by decide +kernel
theorem dX11_count_145 : decode cX11_count 145 = .ok (.iaload, 1) := by decide +kernel
theorem dX11_count_146 : decode cX11_count 146 = .ok (.ireturn, 1) := by decide +kernel
theorem dX11_count_147 : decode cX11_count 147 = .ok (.iconst (-1), 1) := by decide +kernel
theorem dX11_count_148 : decode cX11_count 148 = .ok (.ireturn, 1) := by decide +kernel
/-! SealLineModel.count(I)I -/
theorem eX11_count {d mc ms : Nat} {w : qW} {Q : Option Value → qW → Prop} {q : Nat} {x0 : Int32} (h : AW (mX11_count, d, mc, ms, none, Q) 0 [some (.ref q), some (.int x0), none, none] [] w 0 0) : CT mX11_count d mc ms [.ref q, .int x0] w Q := CT_of (by decide +kernel) rfl (Nat.le_of_ble_eq_true rfl) h
def bX11_count_0 (G : Nat × Nat × Nat × Option (Nat × (Nat → Int32)) × (Option Value → qW → Prop)) : qK := (s_iconst 0 (s_istore 2 1 (s_iconst 0 (s_istore 3 2 (AW (mX11_count, G) 4)))))
theorem oX11_count_0 (G : Nat × Nat × Nat × Option (Nat × (Nat → Int32)) × (Option Value → qW → Prop)) : qImp (bX11_count_0 G) (AW (mX11_count, G) 0) := (r_iconst dX11_count_0 rfl (r_istore_n dX11_count_1 rfl (Or.inr rfl) (Nat.le_of_ble_eq_true rfl) (r_iconst dX11_count_2 rfl (r_istore_n dX11_count_3 rfl (Or.inr rfl) (Nat.le_of_ble_eq_true rfl) qImp.rf))))
def bX11_count_4 (G : Nat × Nat × Nat × Option (Nat × (Nat → Int32)) × (Option Value → qW → Prop)) : qK := (s_iload 3 (s_aload 0 (s_getfield 11 5 (s_ic_ge (AW (mX11_count, G) 40) (s_iload 1 (s_iconst 6 (s_ic_ne (AW (mX11_count, G) 40) (s_iload 2 (s_aload 0 (s_iload 3 (AW (mX11_count, G) 21)))))))))))
theorem oX11_count_4 (G : Nat × Nat × Nat × Option (Nat × (Nat → Int32)) × (Option Value → qW → Prop)) : qImp (bX11_count_4 G) (AW (mX11_count, G) 4) := (r_iload_n dX11_count_4 rfl (r_aload_n dX11_count_5 rfl (r_getfield dX11_count_6 fgX11_242 (r_ic_ge (tgt := 40) dX11_count_9 rfl qImp.rf (r_iload_n dX11_count_12 rfl (r_bipush dX11_count_13 rfl (r_ic_ne (tgt := 40) dX11_count_15 rfl qImp.rf (r_iload_n dX11_count_18 rfl (r_aload_n dX11_count_19 rfl (r_iload_n dX11_count_20 rfl qImp.rf))))))))))
def bX11_count_24 (G : Nat × Nat × Nat × Option (Nat × (Nat → Int32)) × (Option Value → qW → Prop)) : qK := (s_if_eq (AW (mX11_count, G) 31) (s_iconst 1 (AW (mX11_count, G) 32)))
theorem oX11_count_24 (G : Nat × Nat × Nat × Option (Nat × (Nat → Int32)) × (Option Value → qW → Prop)) : qImp (bX11_count_24 G) (AW (mX11_count, G) 24) := (r_if_eq (tgt := 31) dX11_count_24 rfl qImp.rf (r_iconst dX11_count_27 rfl (r_goto (tgt := 32) dX11_count_28 rfl qImp.rf)))
def bX11_count_31 (G : Nat × Nat × Nat × Option (Nat × (Nat → Int32)) × (Option Value → qW → Prop)) : qK := (s_iconst 0 (AW (mX11_count, G) 32))
theorem oX11_count_31 (G : Nat × Nat × Nat × Option (Nat × (Nat → Int32)) × (Option Value → qW → Prop)) : qImp (bX11_count_31 G) (AW (mX11_count, G) 31) := (r_iconst dX11_count_31 rfl qImp.rf)
def bX11_count_32 (G : Nat × Nat × Nat × Option (Nat × (Nat → Int32)) × (Option Value → qW → Prop)) : qK := (s_iadd (s_istore 2 1 (s_iinc 3 2 1 (AW (mX11_count, G) 4))))
theorem oX11_count_32 (G : Nat × Nat × Nat × Option (Nat × (Nat → Int32)) × (Option Value → qW → Prop)) : qImp (bX11_count_32 G) (AW (mX11_count, G) 32) := (r_iadd dX11_count_32 (r_istore_n dX11_count_33 rfl (Or.inr rfl) (Nat.le_of_ble_eq_true rfl) (r_iinc dX11_count_34 rfl (Or.inr rfl) (Nat.le_of_ble_eq_true rfl) (r_goto (tgt := 4) dX11_count_37 rfl qImp.rf))))
def bX11_count_40 (G : Nat × Nat × Nat × Option (Nat × (Nat → Int32)) × (Option Value → qW → Prop)) : qK := (s_iload 1 (AW (mX11_count, G) 41))
theorem oX11_count_40 (G : Nat × Nat × Nat × Option (Nat × (Nat → Int32)) × (Option Value → qW → Prop)) : qImp (bX11_count_40 G) (AW (mX11_count, G) 40) := (r_iload_n dX11_count_40 rfl qImp.rf)
def bX11_count_92 (G : Nat × Nat × Nat × Option (Nat × (Nat → Int32)) × (Option Value → qW → Prop)) : qK := (s_aload 0 (s_getfield 11 0 (s_ireturn (mX11_count, G))))
theorem oX11_count_92 (G : Nat × Nat × Nat × Option (Nat × (Nat → Int32)) × (Option Value → qW → Prop)) : qImp (bX11_count_92 G) (AW (mX11_count, G) 92) := (r_aload_n dX11_count_92 rfl (r_getfield dX11_count_93 fgX11_104 (r_ireturn dX11_count_96 rfl)))
def bX11_count_97 (G : Nat × Nat × Nat × Option (Nat × (Nat → Int32)) × (Option Value → qW → Prop)) : qK := (s_aload 0 (s_getfield 11 1 (s_ireturn (mX11_count, G))))
theorem oX11_count_97 (G : Nat × Nat × Nat × Option (Nat × (Nat → Int32)) × (Option Value → qW → Prop)) : qImp (bX11_count_97 G) (AW (mX11_count, G) 97) := (r_aload_n dX11_count_97 rfl (r_getfield dX11_count_98 fgX11_96 (r_ireturn dX11_count_101 rfl)))
def bX11_count_102 (G : Nat × Nat × Nat × Option (Nat × (Nat → Int32)) × (Option Value → qW → Prop)) : qK := (s_aload 0 (s_getfield 11 2 (s_ireturn (mX11_count, G))))
theorem oX11_count_102 (G : Nat × Nat × Nat × Option (Nat × (Nat → Int32)) × (Option Value → qW → Prop)) : qImp (bX11_count_102 G) (AW (mX11_count, G) 102) := (r_aload_n dX11_count_102 rfl (r_getfield dX11_count_103 fgX11_203 (r_ireturn dX11_count_106 rfl)))
def bX11_count_107 (G : Nat × Nat × Nat × Option (Nat × (Nat → Int32)) × (Option Value → qW → Prop)) : qK := (s_aload 0 (s_getfield 11 5 (s_ireturn (mX11_count, G))))
theorem oX11_count_107 (G : Nat × Nat × Nat × Option (Nat × (Nat → Int32)) × (Option Value → qW → Prop)) : qImp (bX11_count_107 G) (AW (mX11_count, G) 107) := (r_aload_n dX11_count_107 rfl (r_getfield dX11_count_108 fgX11_242 (r_ireturn dX11_count_111 rfl)))
def bX11_count_112 (G : Nat × Nat × Nat × Option (Nat × (Nat → Int32)) × (Option Value → qW → Prop)) : qK := (s_aload 0 (s_getfield 11 4 (s_ireturn (mX11_count, G))))
theorem oX11_count_112 (G : Nat × Nat × Nat × Option (Nat × (Nat → Int32)) × (Option Value → qW → Prop)) : qImp (bX11_count_112 G) (AW (mX11_count, G) 112) := (r_aload_n dX11_count_112 rfl (r_getfield dX11_count_113 fgX11_209 (r_ireturn dX11_count_116 rfl)))
def bX11_count_117 (G : Nat × Nat × Nat × Option (Nat × (Nat → Int32)) × (Option Value → qW → Prop)) : qK := (s_aload 0 (s_getfield 11 32 (s_ireturn (mX11_count, G))))
theorem oX11_count_117 (G : Nat × Nat × Nat × Option (Nat × (Nat → Int32)) × (Option Value → qW → Prop)) : qImp (bX11_count_117 G) (AW (mX11_count, G) 117) := (r_aload_n dX11_count_117 rfl (r_getfield dX11_count_118 fgX11_169 (r_ireturn dX11_count_121 rfl)))
def bX11_count_122 (G : Nat × Nat × Nat × Option (Nat × (Nat → Int32)) × (Option Value → qW → Prop)) : qK := (s_iload 2 (s_ireturn (mX11_count, G)))
theorem oX11_count_122 (G : Nat × Nat × Nat × Option (Nat × (Nat → Int32)) × (Option Value → qW → Prop)) : qImp (bX11_count_122 G) (AW (mX11_count, G) 122) := (r_iload_n dX11_count_122 rfl (r_ireturn dX11_count_123 rfl))
def bX11_count_124 (G : Nat × Nat × Nat × Option (Nat × (Nat → Int32)) × (Option Value → qW → Prop)) : qK := (s_aload 0 (AW (mX11_count, G) 125))
theorem oX11_count_124 (G : Nat × Nat × Nat × Option (Nat × (Nat → Int32)) × (Option Value → qW → Prop)) : qImp (bX11_count_124 G) (AW (mX11_count, G) 124) := (r_aload_n dX11_count_124 rfl qImp.rf)
def bX11_count_128 (G : Nat × Nat × Nat × Option (Nat × (Nat → Int32)) × (Option Value → qW → Prop)) : qK := (s_ireturn (mX11_count, G))
theorem oX11_count_128 (G : Nat × Nat × Nat × Option (Nat × (Nat → Int32)) × (Option Value → qW → Prop)) : qImp (bX11_count_128 G) (AW (mX11_count, G) 128) := (r_ireturn dX11_count_128 rfl)
def bX11_count_129 (G : Nat × Nat × Nat × Option (Nat × (Nat → Int32)) × (Option Value → qW → Prop)) : qK := (s_aload 0 (s_getfield 11 4 (s_if_ne (AW (mX11_count, G) 140) (s_iconst (-1) (AW (mX11_count, G) 146)))))
theorem oX11_count_129 (G : Nat × Nat × Nat × Option (Nat × (Nat → Int32)) × (Option Value → qW → Prop)) : qImp (bX11_count_129 G) (AW (mX11_count, G) 129) := (r_aload_n dX11_count_129 rfl (r_getfield dX11_count_130 fgX11_209 (r_if_ne (tgt := 140) dX11_count_133 rfl qImp.rf (r_iconst dX11_count_136 rfl (r_goto (tgt := 146) dX11_count_137 rfl qImp.rf)))))
def bX11_count_140 (G : Nat × Nat × Nat × Option (Nat × (Nat → Int32)) × (Option Value → qW → Prop)) : qK := (s_aload 0 (s_getfield 11 19 (s_iconst 0 (s_iaload (mX11_count, G) (AW (mX11_count, G) 146)))))
theorem oX11_count_140 (G : Nat × Nat × Nat × Option (Nat × (Nat → Int32)) × (Option Value → qW → Prop)) : qImp (bX11_count_140 G) (AW (mX11_count, G) 140) := (r_aload_n dX11_count_140 rfl (r_getfield dX11_count_141 fgX11_50 (r_iconst dX11_count_144 rfl (r_iaload dX11_count_145 qImp.rf))))
def bX11_count_146 (G : Nat × Nat × Nat × Option (Nat × (Nat → Int32)) × (Option Value → qW → Prop)) : qK := (s_ireturn (mX11_count, G))
theorem oX11_count_146 (G : Nat × Nat × Nat × Option (Nat × (Nat → Int32)) × (Option Value → qW → Prop)) : qImp (bX11_count_146 G) (AW (mX11_count, G) 146) := (r_ireturn dX11_count_146 rfl)
def bX11_count_147 (G : Nat × Nat × Nat × Option (Nat × (Nat → Int32)) × (Option Value → qW → Prop)) : qK := (s_iconst (-1) (s_ireturn (mX11_count, G)))
theorem oX11_count_147 (G : Nat × Nat × Nat × Option (Nat × (Nat → Int32)) × (Option Value → qW → Prop)) : qImp (bX11_count_147 G) (AW (mX11_count, G) 147) := (r_iconst dX11_count_147 rfl (r_ireturn dX11_count_148 rfl))
theorem kX11_count_21 {G : Nat × Nat × Nat × Option (Nat × (Nat → Int32)) × (Option Value → qW → Prop)} {L : qL} {w : qW} {kc ks : Nat} {rest : List Value} {q : Nat} {x0 : Int32} {d mc ms : Nat} {Q : Option Value → qW → Prop} (hC : CT mX11_stands d mc ms [.ref q, .int x0] w Q) (hq : qci w q = some 11) (hst : rest.length ≤ 4) (hdp : d + 1 ≤ G.1) (hmc : kc + mc ≤ G.2.1 ∧ ks + ms ≤ G.2.2.1) (k : ∀ r w', Q r w' → AW (mX11_count, G) 24 L (r.toList ++ rest) w' (kc + mc) (ks + ms)) : AW (mX11_count, G) 21 L (.int x0 :: .ref q :: rest) w kc ks := a_callV [.int x0] rest dX11_count_21 vX11_stands lk1216 hC hq rfl rfl hst hdp hmc k
theorem kX11_count_125 {G : Nat × Nat × Nat × Option (Nat × (Nat → Int32)) × (Option Value → qW → Prop)} {L : qL} {w : qW} {kc ks : Nat} {rest : List Value} {q : Nat}  {d mc ms : Nat} {Q : Option Value → qW → Prop} (hC : CT mX11_calledMany d mc ms [.ref q] w Q) (hq : qci w q = some 11) (hst : rest.length ≤ 4) (hdp : d + 1 ≤ G.1) (hmc : kc + mc ≤ G.2.1 ∧ ks + ms ≤ G.2.2.1) (k : ∀ r w', Q r w' → AW (mX11_count, G) 128 L (r.toList ++ rest) w' (kc + mc) (ks + ms)) : AW (mX11_count, G) 125 L (.ref q :: rest) w kc ks := a_callV [] rest dX11_count_125 vX11_calledMany lk1208 hC hq rfl rfl hst hdp hmc k
theorem dX11_key_0 : decode cX11_key 0 = .ok (.iload_n 1, 1) := by decide +kernel
theorem dX11_key_1 : decode cX11_key 1 = .ok (.invokestatic 218, 3) := by decide +kernel
theorem dX11_key_4 : decode cX11_key 4 = .ok (.ifCond .ne 5, 3) := by decide +kernel
theorem dX11_key_7 : decode cX11_key 7 = .ok (.iconst (-1), 1) := by decide +kernel
theorem dX11_key_8 : decode cX11_key 8 = .ok (.ireturn, 1) := by decide +kernel
theorem dX11_key_9 : decode cX11_key 9 = .ok (.iconst 0, 1) := by decide +kernel
theorem dX11_key_10 : decode cX11_key 10 = .ok (.istore_n 3, 1) := by decide +kernel
theorem dX11_key_11 : decode cX11_key 11 = .ok (.iconst 0, 1) := by decide +kernel
theorem dX11_key_12 : decode cX11_key 12 = .ok (.istore 4, 2) := by decide +kernel
theorem dX11_key_14 : decode cX11_key 14 = .ok (.iload 4, 2) := by decide +kernel
theorem dX11_key_16 : decode cX11_key 16 = .ok (.aload_n 0, 1) := by decide +kernel
theorem dX11_key_17 : decode cX11_key 17 = .ok (.getfield 242, 3) := by decide +kernel
theorem dX11_key_20 : decode cX11_key 20 = .ok (.if_icmp .ge 33, 3) := by decide +kernel
theorem dX11_key_23 : decode cX11_key 23 = .ok (.iload_n 3, 1) := by decide +kernel
theorem dX11_key_24 : decode cX11_key 24 = .ok (.aload_n 0, 1) := by decide +kernel
theorem dX11_key_25 : decode cX11_key 25 = .ok (.getfield 41, 3) := by decide +kernel
theorem dX11_key_28 : decode cX11_key 28 = .ok (.aload_n 0, 1) := by decide +kernel
theorem dX11_key_29 : decode cX11_key 29 = .ok (.getfield 47, 3) := by decide +kernel
theorem dX11_key_32 : decode cX11_key 32 = .ok (.iload 4, 2) := by decide +kernel
theorem dX11_key_34 : decode cX11_key 34 = .ok (.iaload, 1) := by decide +kernel
theorem dX11_key_35 : decode cX11_key 35 = .ok (.iaload, 1) := by decide +kernel
theorem dX11_key_36 : decode cX11_key 36 = .ok (.iload_n 1, 1) := by decide +kernel
theorem dX11_key_37 : decode cX11_key 37 = .ok (.if_icmp .ne 7, 3) := by decide +kernel
theorem dX11_key_40 : decode cX11_key 40 = .ok (.iconst 1, 1) := by decide +kernel
theorem dX11_key_41 : decode cX11_key 41 = .ok (.goto 4, 3) := by decide +kernel
theorem dX11_key_44 : decode cX11_key 44 = .ok (.iconst 0, 1) := by decide +kernel
theorem dX11_key_45 : decode cX11_key 45 = .ok (.iadd, 1) := by decide +kernel
theorem dX11_key_46 : decode cX11_key 46 = .ok (.istore_n 3, 1) := by decide +kernel
theorem dX11_key_47 : decode cX11_key 47 = .ok (.iinc 4 1, 3) := by decide +kernel
theorem dX11_key_50 : decode cX11_key 50 = .ok (.goto (-36), 3) := by decide +kernel
theorem dX11_key_53 : decode cX11_key 53 = .ok (.iload_n 2, 1) := by decide +kernel
theorem dX11_key_54 : decode cX11_key 54 = .ok (.ifCond .ne 12, 3) := by decide +kernel
theorem dX11_key_57 : decode cX11_key 57 = .ok (.aload_n 0, 1) := by decide +kernel
theorem dX11_key_58 : decode cX11_key 58 = .ok (.getfield 53, 3) := by decide +kernel
theorem dX11_key_61 : decode cX11_key 61 = .ok (.iload_n 1, 1) := by decide +kernel
theorem dX11_key_62 : decode cX11_key 62 = .ok (.iaload, 1) := by decide +kernel
theorem dX11_key_63 : decode cX11_key 63 = .ok (.goto 49, 3) := by decide +kernel
theorem dX11_key_66 : decode cX11_key 66 = .ok (.iload_n 2, 1) := by decide +kernel
theorem dX11_key_67 : decode cX11_key 67 = .ok (.iconst 1, 1) := by decide +kernel
theorem dX11_key_68 : decode cX11_key 68 = .ok (.if_icmp .ne 20, 3) := by decide +kernel
theorem dX11_key_71 : decode cX11_key 71 = .ok (.aload_n 0, 1) := by decide +kernel
theorem dX11_key_72 : decode cX11_key 72 = .ok (.getfield 56, 3) := by decide +kernel
theorem dX11_key_75 : decode cX11_key 75 = .ok (.iload_n 1, 1) := by decide +kernel
theorem dX11_key_76 : decode cX11_key 76 = .ok (.baload, 1) := by decide +kernel
theorem dX11_key_77 : decode cX11_key 77 = .ok (.ifCond .eq 7, 3) := by decide +kernel
theorem dX11_key_80 : decode cX11_key 80 = .ok (.iconst 1, 1) := by decide +kernel
theorem dX11_key_81 : decode cX11_key 81 = .ok (.goto 31, 3) := by decide +kernel
theorem dX11_key_84 : decode cX11_key 84 = .ok (.iconst 0, 1) := by decide +kernel
theorem dX11_key_85 : decode cX11_key 85 = .ok (.goto 27, 3) := by decide +kernel
theorem dX11_key_88 : decode cX11_key 88 = .ok (.iload_n 2, 1) := by decide +kernel
theorem dX11_key_89 : decode cX11_key 89 = .ok (.iconst 2, 1) := by decide +kernel
theorem dX11_key_90 : decode cX11_key 90 = .ok (.if_icmp .ne 12, 3) := by decide +kernel
theorem dX11_key_93 : decode cX11_key 93 = .ok (.aload_n 0, 1) := by decide +kernel
theorem dX11_key_94 : decode cX11_key 94 = .ok (.getfield 60, 3) := by decide +kernel
theorem dX11_key_97 : decode cX11_key 97 = .ok (.iload_n 1, 1) := by decide +kernel
theorem dX11_key_98 : decode cX11_key 98 = .ok (.iaload, 1) := by decide +kernel
theorem dX11_key_99 : decode cX11_key 99 = .ok (.goto 13, 3) := by decide +kernel
theorem dX11_key_102 : decode cX11_key 102 = .ok (.iload_n 2, 1) := by decide +kernel
theorem dX11_key_103 : decode cX11_key 103 = .ok (.iconst 3, 1) := by decide +kernel
theorem dX11_key_104 : decode cX11_key 104 = .ok (.if_icmp .ne 7, 3) := by decide +kernel
theorem dX11_key_107 : decode cX11_key 107 = .ok (.iload_n 3, 1) := by decide +kernel
theorem dX11_key_108 : decode cX11_key 108 = .ok (.goto 4, 3) := by decide +kernel
theorem dX11_key_111 : decode cX11_key 111 = .ok (.iconst (-1), 1) := by decide +kernel
theorem dX11_key_112 : decode cX11_key 112 = .ok (.ireturn, 1) := by decide +kernel
/-! SealLineModel.key(II)I -/
theorem eX11_key {d mc ms : Nat} {w : qW} {Q : Option Value → qW → Prop} {q : Nat} {x0 : Int32} {x1 : Int32} (h : AW (mX11_key, d, mc, ms, none, Q) 0 [some (.ref q), some (.int x0), some (.int x1), none, none] [] w 0 0) : CT mX11_key d mc ms [.ref q, .int x0, .int x1] w Q := CT_of (by decide +kernel) rfl (Nat.le_of_ble_eq_true rfl) h
def bX11_key_0 (G : Nat × Nat × Nat × Option (Nat × (Nat → Int32)) × (Option Value → qW → Prop)) : qK := (s_iload 1 (AW (mX11_key, G) 1))
theorem oX11_key_0 (G : Nat × Nat × Nat × Option (Nat × (Nat → Int32)) × (Option Value → qW → Prop)) : qImp (bX11_key_0 G) (AW (mX11_key, G) 0) := (r_iload_n dX11_key_0 rfl qImp.rf)
def bX11_key_4 (G : Nat × Nat × Nat × Option (Nat × (Nat → Int32)) × (Option Value → qW → Prop)) : qK := (s_if_ne (AW (mX11_key, G) 9) (s_iconst (-1) (s_ireturn (mX11_key, G))))
theorem oX11_key_4 (G : Nat × Nat × Nat × Option (Nat × (Nat → Int32)) × (Option Value → qW → Prop)) : qImp (bX11_key_4 G) (AW (mX11_key, G) 4) := (r_if_ne (tgt := 9) dX11_key_4 rfl qImp.rf (r_iconst dX11_key_7 rfl (r_ireturn dX11_key_8 rfl)))
def bX11_key_9 (G : Nat × Nat × Nat × Option (Nat × (Nat → Int32)) × (Option Value → qW → Prop)) : qK := (s_iconst 0 (s_istore 3 2 (s_iconst 0 (s_istore 4 3 (AW (mX11_key, G) 14)))))
theorem oX11_key_9 (G : Nat × Nat × Nat × Option (Nat × (Nat → Int32)) × (Option Value → qW → Prop)) : qImp (bX11_key_9 G) (AW (mX11_key, G) 9) := (r_iconst dX11_key_9 rfl (r_istore_n dX11_key_10 rfl (Or.inr rfl) (Nat.le_of_ble_eq_true rfl) (r_iconst dX11_key_11 rfl (r_istore dX11_key_12 (Or.inr rfl) (Nat.le_of_ble_eq_true rfl) qImp.rf))))
def bX11_key_14 (G : Nat × Nat × Nat × Option (Nat × (Nat → Int32)) × (Option Value → qW → Prop)) : qK := (s_iload 4 (s_aload 0 (s_getfield 11 5 (s_ic_ge (AW (mX11_key, G) 53) (s_iload 3 (s_aload 0 (s_getfield 11 16 (s_aload 0 (s_getfield 11 18 (s_iload 4 (s_iaload (mX11_key, G) (s_iaload (mX11_key, G) (s_iload 1 (s_ic_ne (AW (mX11_key, G) 44) (s_iconst 1 (AW (mX11_key, G) 45))))))))))))))))
theorem oX11_key_14 (G : Nat × Nat × Nat × Option (Nat × (Nat → Int32)) × (Option Value → qW → Prop)) : qImp (bX11_key_14 G) (AW (mX11_key, G) 14) := (r_iload dX11_key_14 (r_aload_n dX11_key_16 rfl (r_getfield dX11_key_17 fgX11_242 (r_ic_ge (tgt := 53) dX11_key_20 rfl qImp.rf (r_iload_n dX11_key_23 rfl (r_aload_n dX11_key_24 rfl (r_getfield dX11_key_25 fgX11_41 (r_aload_n dX11_key_28 rfl (r_getfield dX11_key_29 fgX11_47 (r_iload dX11_key_32 (r_iaload dX11_key_34 (r_iaload dX11_key_35 (r_iload_n dX11_key_36 rfl (r_ic_ne (tgt := 44) dX11_key_37 rfl qImp.rf (r_iconst dX11_key_40 rfl (r_goto (tgt := 45) dX11_key_41 rfl qImp.rf))))))))))))))))
def bX11_key_44 (G : Nat × Nat × Nat × Option (Nat × (Nat → Int32)) × (Option Value → qW → Prop)) : qK := (s_iconst 0 (AW (mX11_key, G) 45))
theorem oX11_key_44 (G : Nat × Nat × Nat × Option (Nat × (Nat → Int32)) × (Option Value → qW → Prop)) : qImp (bX11_key_44 G) (AW (mX11_key, G) 44) := (r_iconst dX11_key_44 rfl qImp.rf)
def bX11_key_45 (G : Nat × Nat × Nat × Option (Nat × (Nat → Int32)) × (Option Value → qW → Prop)) : qK := (s_iadd (s_istore 3 2 (s_iinc 4 3 1 (AW (mX11_key, G) 14))))
theorem oX11_key_45 (G : Nat × Nat × Nat × Option (Nat × (Nat → Int32)) × (Option Value → qW → Prop)) : qImp (bX11_key_45 G) (AW (mX11_key, G) 45) := (r_iadd dX11_key_45 (r_istore_n dX11_key_46 rfl (Or.inr rfl) (Nat.le_of_ble_eq_true rfl) (r_iinc dX11_key_47 rfl (Or.inr rfl) (Nat.le_of_ble_eq_true rfl) (r_goto (tgt := 14) dX11_key_50 rfl qImp.rf))))
def bX11_key_53 (G : Nat × Nat × Nat × Option (Nat × (Nat → Int32)) × (Option Value → qW → Prop)) : qK := (s_iload 2 (s_if_ne (AW (mX11_key, G) 66) (s_aload 0 (s_getfield 11 20 (s_iload 1 (s_iaload (mX11_key, G) (AW (mX11_key, G) 112)))))))
theorem oX11_key_53 (G : Nat × Nat × Nat × Option (Nat × (Nat → Int32)) × (Option Value → qW → Prop)) : qImp (bX11_key_53 G) (AW (mX11_key, G) 53) := (r_iload_n dX11_key_53 rfl (r_if_ne (tgt := 66) dX11_key_54 rfl qImp.rf (r_aload_n dX11_key_57 rfl (r_getfield dX11_key_58 fgX11_53 (r_iload_n dX11_key_61 rfl (r_iaload dX11_key_62 (r_goto (tgt := 112) dX11_key_63 rfl qImp.rf)))))))
def bX11_key_66 (G : Nat × Nat × Nat × Option (Nat × (Nat → Int32)) × (Option Value → qW → Prop)) : qK := (s_iload 2 (s_iconst 1 (s_ic_ne (AW (mX11_key, G) 88) (s_aload 0 (s_getfield 11 21 (s_iload 1 (s_baload (s_if_eq (AW (mX11_key, G) 84) (s_iconst 1 (AW (mX11_key, G) 112))))))))))
theorem oX11_key_66 (G : Nat × Nat × Nat × Option (Nat × (Nat → Int32)) × (Option Value → qW → Prop)) : qImp (bX11_key_66 G) (AW (mX11_key, G) 66) := (r_iload_n dX11_key_66 rfl (r_iconst dX11_key_67 rfl (r_ic_ne (tgt := 88) dX11_key_68 rfl qImp.rf (r_aload_n dX11_key_71 rfl (r_getfield dX11_key_72 fgX11_56 (r_iload_n dX11_key_75 rfl (r_baload dX11_key_76 (r_if_eq (tgt := 84) dX11_key_77 rfl qImp.rf (r_iconst dX11_key_80 rfl (r_goto (tgt := 112) dX11_key_81 rfl qImp.rf))))))))))
def bX11_key_84 (G : Nat × Nat × Nat × Option (Nat × (Nat → Int32)) × (Option Value → qW → Prop)) : qK := (s_iconst 0 (AW (mX11_key, G) 112))
theorem oX11_key_84 (G : Nat × Nat × Nat × Option (Nat × (Nat → Int32)) × (Option Value → qW → Prop)) : qImp (bX11_key_84 G) (AW (mX11_key, G) 84) := (r_iconst dX11_key_84 rfl (r_goto (tgt := 112) dX11_key_85 rfl qImp.rf))
def bX11_key_88 (G : Nat × Nat × Nat × Option (Nat × (Nat → Int32)) × (Option Value → qW → Prop)) : qK := (s_iload 2 (s_iconst 2 (s_ic_ne (AW (mX11_key, G) 102) (s_aload 0 (s_getfield 11 22 (s_iload 1 (s_iaload (mX11_key, G) (AW (mX11_key, G) 112))))))))
theorem oX11_key_88 (G : Nat × Nat × Nat × Option (Nat × (Nat → Int32)) × (Option Value → qW → Prop)) : qImp (bX11_key_88 G) (AW (mX11_key, G) 88) := (r_iload_n dX11_key_88 rfl (r_iconst dX11_key_89 rfl (r_ic_ne (tgt := 102) dX11_key_90 rfl qImp.rf (r_aload_n dX11_key_93 rfl (r_getfield dX11_key_94 fgX11_60 (r_iload_n dX11_key_97 rfl (r_iaload dX11_key_98 (r_goto (tgt := 112) dX11_key_99 rfl qImp.rf))))))))
def bX11_key_102 (G : Nat × Nat × Nat × Option (Nat × (Nat → Int32)) × (Option Value → qW → Prop)) : qK := (s_iload 2 (s_iconst 3 (s_ic_ne (AW (mX11_key, G) 111) (s_iload 3 (AW (mX11_key, G) 112)))))
theorem oX11_key_102 (G : Nat × Nat × Nat × Option (Nat × (Nat → Int32)) × (Option Value → qW → Prop)) : qImp (bX11_key_102 G) (AW (mX11_key, G) 102) := (r_iload_n dX11_key_102 rfl (r_iconst dX11_key_103 rfl (r_ic_ne (tgt := 111) dX11_key_104 rfl qImp.rf (r_iload_n dX11_key_107 rfl (r_goto (tgt := 112) dX11_key_108 rfl qImp.rf)))))
def bX11_key_111 (G : Nat × Nat × Nat × Option (Nat × (Nat → Int32)) × (Option Value → qW → Prop)) : qK := (s_iconst (-1) (AW (mX11_key, G) 112))
theorem oX11_key_111 (G : Nat × Nat × Nat × Option (Nat × (Nat → Int32)) × (Option Value → qW → Prop)) : qImp (bX11_key_111 G) (AW (mX11_key, G) 111) := (r_iconst dX11_key_111 rfl qImp.rf)
def bX11_key_112 (G : Nat × Nat × Nat × Option (Nat × (Nat → Int32)) × (Option Value → qW → Prop)) : qK := (s_ireturn (mX11_key, G))
theorem oX11_key_112 (G : Nat × Nat × Nat × Option (Nat × (Nat → Int32)) × (Option Value → qW → Prop)) : qImp (bX11_key_112 G) (AW (mX11_key, G) 112) := (r_ireturn dX11_key_112 rfl)
theorem kX11_key_1 {G : Nat × Nat × Nat × Option (Nat × (Nat → Int32)) × (Option Value → qW → Prop)} {L : qL} {w : qW} {kc ks : Nat} {rest : List Value}  {x0 : Int32} {d mc ms : Nat} {Q : Option Value → qW → Prop} (hC : CT mX11_isKey d mc ms [.int x0] w Q) (hst : rest.length ≤ 4) (hdp : d + 1 ≤ G.1) (hmc : kc + mc ≤ G.2.1 ∧ ks + ms ≤ G.2.2.1) (k : ∀ r w', Q r w' → AW (mX11_key, G) 4 L (r.toList ++ rest) w' (kc + mc) (ks + ms)) : AW (mX11_key, G) 1 L (.int x0 :: rest) w kc ks := a_callS [.int x0] rest dX11_key_1 tX11_isKey lk1149 hC rfl hst hdp hmc k
