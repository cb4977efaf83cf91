theorem dX11_lose_0 : decode cX11_lose 0 = .ok (.iload_n 1, 1) := by decide +kernel
theorem dX11_lose_1 : decode cX11_lose 1 = .ok (.invokestatic 218, 3) := by decide +kernel
theorem dX11_lose_4 : decode cX11_lose 4 = .ok (.ifCond .eq 25, 3) := by decide +kernel
theorem dX11_lose_7 : decode cX11_lose 7 = .ok (.iload_n 2, 1) := by decide +kernel
theorem dX11_lose_8 : decode cX11_lose 8 = .ok (.iconst 0, 1) := by decide +kernel
theorem dX11_lose_9 : decode cX11_lose 9 = .ok (.aload_n 0, 1) := by decide +kernel
theorem dX11_lose_10 : decode cX11_lose 10 = .ok (.getfield 104, 3) := by decide +kernel
theorem dX11_lose_13 : decode cX11_lose 13 = .ok (.invokestatic 100, 3) := by decide +kernel
theorem dX11_lose_16 : decode cX11_lose 16 = .ok (.ifCond .eq 13, 3) := by decide +kernel
theorem dX11_lose_19 : decode cX11_lose 19 = .ok (.aload_n 0, 1) := by decide +kernel
theorem dX11_lose_20 : decode cX11_lose 20 = .ok (.getfield 60, 3) := by decide +kernel
theorem dX11_lose_23 : decode cX11_lose 23 = .ok (.iload_n 1, 1) := by decide +kernel
theorem dX11_lose_24 : decode cX11_lose 24 = .ok (.iaload, 1) := by decide +kernel
theorem dX11_lose_25 : decode cX11_lose 25 = .ok (.iconst (-1), 1) := by decide +kernel
theorem dX11_lose_26 : decode cX11_lose 26 = .ok (.if_icmp .eq 5, 3) := by decide +kernel
theorem dX11_lose_29 : decode cX11_lose 29 = .ok (.iconst (-1), 1) := by decide +kernel
theorem dX11_lose_30 : decode cX11_lose 30 = .ok (.ireturn, 1) := by decide +kernel
theorem dX11_lose_31 : decode cX11_lose 31 = .ok (.aload_n 0, 1) := by decide +kernel
theorem dX11_lose_32 : decode cX11_lose 32 = .ok (.getfield 60, 3) := by decide +kernel
theorem dX11_lose_35 : decode cX11_lose 35 = .ok (.iload_n 1, 1) := by decide +kernel
theorem dX11_lose_36 : decode cX11_lose 36 = .ok (.iload_n 2, 1) := by decide +kernel
theorem dX11_lose_37 : decode cX11_lose 37 = .ok (.iastore, 1) := by decide +kernel
theorem dX11_lose_38 : decode cX11_lose 38 = .ok (.iconst 0, 1) := by decide +kernel
theorem dX11_lose_39 : decode cX11_lose 39 = .ok (.istore_n 3, 1) := by decide +kernel
theorem dX11_lose_40 : decode cX11_lose 40 = .ok (.iconst 0, 1) := by decide +kernel
theorem dX11_lose_41 : decode cX11_lose 41 = .ok (.istore 4, 2) := by decide +kernel
theorem dX11_lose_43 : decode cX11_lose 43 = .ok (.iload 4, 2) := by decide +kernel
theorem dX11_lose_45 : decode cX11_lose 45 = .ok (.aload_n 0, 1) := by decide +kernel
theorem dX11_lose_46 : decode cX11_lose 46 = .ok (.getfield 242, 3) := by decide +kernel
theorem dX11_lose_49 : decode cX11_lose 49 = .ok (.if_icmp .ge 44, 3) := by decide +kernel
theorem dX11_lose_52 : decode cX11_lose 52 = .ok (.iload_n 3, 1) := by decide +kernel
theorem dX11_lose_53 : decode cX11_lose 53 = .ok (.aload_n 0, 1) := by decide +kernel
theorem dX11_lose_54 : decode cX11_lose 54 = .ok (.getfield 41, 3) := by decide +kernel
theorem dX11_lose_57 : decode cX11_lose 57 = .ok (.aload_n 0, 1) := by decide +kernel
theorem dX11_lose_58 : decode cX11_lose 58 = .ok (.getfield 47, 3) := by decide +kernel
theorem dX11_lose_61 : decode cX11_lose 61 = .ok (.iload 4, 2) := by decide +kernel
theorem dX11_lose_63 : decode cX11_lose 63 = .ok (.iaload, 1) := by decide +kernel
theorem dX11_lose_64 : decode cX11_lose 64 = .ok (.iaload, 1) := by decide +kernel
theorem dX11_lose_65 : decode cX11_lose 65 = .ok (.iload_n 1, 1) := by decide +kernel
theorem dX11_lose_66 : decode cX11_lose 66 = .ok (.if_icmp .ne 18, 3) := by decide +kernel
theorem dX11_lose_69 : decode cX11_lose 69 = .ok (.aload_n 0, 1) := by decide +kernel
theorem dX11_lose_70 : decode cX11_lose 70 = .ok (.getfield 47, 3) := by decide +kernel
theorem dX11_lose_73 : decode cX11_lose 73 = .ok (.iload 4, 2) := by decide +kernel
theorem dX11_lose_75 : decode cX11_lose 75 = .ok (.iaload, 1) := by decide +kernel
theorem dX11_lose_76 : decode cX11_lose 76 = .ok (.iload_n 2, 1) := by decide +kernel
theorem dX11_lose_77 : decode cX11_lose 77 = .ok (.if_icmp .lt 7, 3) := by decide +kernel
theorem dX11_lose_80 : decode cX11_lose 80 = .ok (.iconst 1, 1) := by decide +kernel
theorem dX11_lose_81 : decode cX11_lose 81 = .ok (.goto 4, 3) := by decide +kernel
theorem dX11_lose_84 : decode cX11_lose 84 = .ok (.iconst 0, 1) := by decide +kernel
theorem dX11_lose_85 : decode cX11_lose 85 = .ok (.iadd, 1) := by decide +kernel
theorem dX11_lose_86 : decode cX11_lose 86 = .ok (.istore_n 3, 1) := by decide +kernel
theorem dX11_lose_87 : decode cX11_lose 87 = .ok (.iinc 4 1, 3) := by decide +kernel
theorem dX11_lose_90 : decode cX11_lose 90 = .ok (.goto (-47), 3) := by decide +kernel
theorem dX11_lose_93 : decode cX11_lose 93 = .ok (.iload_n 3, 1) := by decide +kernel
theorem dX11_lose_94 : decode cX11_lose 94 = .ok (.ireturn, 1) := by decide +kernel
/-! SealLineModel.lose(II)I -/
theorem eX11_lose {d mc ms : Nat} {w : qW} {Q : Option Value → qW → Prop} {q : Nat} {x0 : Int32} {x1 : Int32} (h : AW (mX11_lose, d, mc, ms, none, Q) 0 [some (.ref q), some (.int x0), some (.int x1), none, none] [] w 0 0) : CT mX11_lose d mc ms [.ref q, .int x0, .int x1] w Q := CT_of (by decide +kernel) rfl (Nat.le_of_ble_eq_true rfl) h
def bX11_lose_0 (G : Nat × Nat × Nat × Option (Nat × (Nat → Int32)) × (Option Value → qW → Prop)) : qK := (s_iload 1 (AW (mX11_lose, G) 1))
theorem oX11_lose_0 (G : Nat × Nat × Nat × Option (Nat × (Nat → Int32)) × (Option Value → qW → Prop)) : qImp (bX11_lose_0 G) (AW (mX11_lose, G) 0) := (r_iload_n dX11_lose_0 rfl qImp.rf)
def bX11_lose_4 (G : Nat × Nat × Nat × Option (Nat × (Nat → Int32)) × (Option Value → qW → Prop)) : qK := (s_if_eq (AW (mX11_lose, G) 29) (s_iload 2 (s_iconst 0 (s_aload 0 (s_getfield 11 0 (AW (mX11_lose, G) 13))))))
theorem oX11_lose_4 (G : Nat × Nat × Nat × Option (Nat × (Nat → Int32)) × (Option Value → qW → Prop)) : qImp (bX11_lose_4 G) (AW (mX11_lose, G) 4) := (r_if_eq (tgt := 29) dX11_lose_4 rfl qImp.rf (r_iload_n dX11_lose_7 rfl (r_iconst dX11_lose_8 rfl (r_aload_n dX11_lose_9 rfl (r_getfield dX11_lose_10 fgX11_104 qImp.rf)))))
def bX11_lose_16 (G : Nat × Nat × Nat × Option (Nat × (Nat → Int32)) × (Option Value → qW → Prop)) : qK := (s_if_eq (AW (mX11_lose, G) 29) (s_aload 0 (s_getfield 11 22 (s_iload 1 (s_iaload (mX11_lose, G) (s_iconst (-1) (s_ic_eq (AW (mX11_lose, G) 31) (AW (mX11_lose, G) 29))))))))
theorem oX11_lose_16 (G : Nat × Nat × Nat × Option (Nat × (Nat → Int32)) × (Option Value → qW → Prop)) : qImp (bX11_lose_16 G) (AW (mX11_lose, G) 16) := (r_if_eq (tgt := 29) dX11_lose_16 rfl qImp.rf (r_aload_n dX11_lose_19 rfl (r_getfield dX11_lose_20 fgX11_60 (r_iload_n dX11_lose_23 rfl (r_iaload dX11_lose_24 (r_iconst dX11_lose_25 rfl (r_ic_eq (tgt := 31) dX11_lose_26 rfl qImp.rf qImp.rf)))))))
def bX11_lose_29 (G : Nat × Nat × Nat × Option (Nat × (Nat → Int32)) × (Option Value → qW → Prop)) : qK := (s_iconst (-1) (s_ireturn (mX11_lose, G)))
theorem oX11_lose_29 (G : Nat × Nat × Nat × Option (Nat × (Nat → Int32)) × (Option Value → qW → Prop)) : qImp (bX11_lose_29 G) (AW (mX11_lose, G) 29) := (r_iconst dX11_lose_29 rfl (r_ireturn dX11_lose_30 rfl))
def bX11_lose_31 (G : Nat × Nat × Nat × Option (Nat × (Nat → Int32)) × (Option Value → qW → Prop)) : qK := (s_aload 0 (s_getfield 11 22 (s_iload 1 (s_iload 2 (s_iastore (s_iconst 0 (s_istore 3 2 (s_iconst 0 (s_istore 4 3 (AW (mX11_lose, G) 43))))))))))
theorem oX11_lose_31 (G : Nat × Nat × Nat × Option (Nat × (Nat → Int32)) × (Option Value → qW → Prop)) : qImp (bX11_lose_31 G) (AW (mX11_lose, G) 31) := (r_aload_n dX11_lose_31 rfl (r_getfield dX11_lose_32 fgX11_60 (r_iload_n dX11_lose_35 rfl (r_iload_n dX11_lose_36 rfl (r_iastore dX11_lose_37 (r_iconst dX11_lose_38 rfl (r_istore_n dX11_lose_39 rfl (Or.inr rfl) (Nat.le_of_ble_eq_true rfl) (r_iconst dX11_lose_40 rfl (r_istore dX11_lose_41 (Or.inr rfl) (Nat.le_of_ble_eq_true rfl) qImp.rf)))))))))
def bX11_lose_43 (G : Nat × Nat × Nat × Option (Nat × (Nat → Int32)) × (Option Value → qW → Prop)) : qK := (s_iload 4 (s_aload 0 (s_getfield 11 5 (s_ic_ge (AW (mX11_lose, G) 93) (s_iload 3 (s_aload 0 (s_getfield 11 16 (s_aload 0 (s_getfield 11 18 (s_iload 4 (s_iaload (mX11_lose, G) (s_iaload (mX11_lose, G) (s_iload 1 (s_ic_ne (AW (mX11_lose, G) 84) (s_aload 0 (s_getfield 11 18 (s_iload 4 (s_iaload (mX11_lose, G) (s_iload 2 (s_ic_lt (AW (mX11_lose, G) 84) (s_iconst 1 (AW (mX11_lose, G) 85))))))))))))))))))))))
theorem oX11_lose_43 (G : Nat × Nat × Nat × Option (Nat × (Nat → Int32)) × (Option Value → qW → Prop)) : qImp (bX11_lose_43 G) (AW (mX11_lose, G) 43) := (r_iload dX11_lose_43 (r_aload_n dX11_lose_45 rfl (r_getfield dX11_lose_46 fgX11_242 (r_ic_ge (tgt := 93) dX11_lose_49 rfl qImp.rf (r_iload_n dX11_lose_52 rfl (r_aload_n dX11_lose_53 rfl (r_getfield dX11_lose_54 fgX11_41 (r_aload_n dX11_lose_57 rfl (r_getfield dX11_lose_58 fgX11_47 (r_iload dX11_lose_61 (r_iaload dX11_lose_63 (r_iaload dX11_lose_64 (r_iload_n dX11_lose_65 rfl (r_ic_ne (tgt := 84) dX11_lose_66 rfl qImp.rf (r_aload_n dX11_lose_69 rfl (r_getfield dX11_lose_70 fgX11_47 (r_iload dX11_lose_73 (r_iaload dX11_lose_75 (r_iload_n dX11_lose_76 rfl (r_ic_lt (tgt := 84) dX11_lose_77 rfl qImp.rf (r_iconst dX11_lose_80 rfl (r_goto (tgt := 85) dX11_lose_81 rfl qImp.rf))))))))))))))))))))))
def bX11_lose_84 (G : Nat × Nat × Nat × Option (Nat × (Nat → Int32)) × (Option Value → qW → Prop)) : qK := (s_iconst 0 (AW (mX11_lose, G) 85))
theorem oX11_lose_84 (G : Nat × Nat × Nat × Option (Nat × (Nat → Int32)) × (Option Value → qW → Prop)) : qImp (bX11_lose_84 G) (AW (mX11_lose, G) 84) := (r_iconst dX11_lose_84 rfl qImp.rf)
def bX11_lose_85 (G : Nat × Nat × Nat × Option (Nat × (Nat → Int32)) × (Option Value → qW → Prop)) : qK := (s_iadd (s_istore 3 2 (s_iinc 4 3 1 (AW (mX11_lose, G) 43))))
theorem oX11_lose_85 (G : Nat × Nat × Nat × Option (Nat × (Nat → Int32)) × (Option Value → qW → Prop)) : qImp (bX11_lose_85 G) (AW (mX11_lose, G) 85) := (r_iadd dX11_lose_85 (r_istore_n dX11_lose_86 rfl (Or.inr rfl) (Nat.le_of_ble_eq_true rfl) (r_iinc dX11_lose_87 rfl (Or.inr rfl) (Nat.le_of_ble_eq_true rfl) (r_goto (tgt := 43) dX11_lose_90 rfl qImp.rf))))
def bX11_lose_93 (G : Nat × Nat × Nat × Option (Nat × (Nat → Int32)) × (Option Value → qW → Prop)) : qK := (s_iload 3 (s_ireturn (mX11_lose, G)))
theorem oX11_lose_93 (G : Nat × Nat × Nat × Option (Nat × (Nat → Int32)) × (Option Value → qW → Prop)) : qImp (bX11_lose_93 G) (AW (mX11_lose, G) 93) := (r_iload_n dX11_lose_93 rfl (r_ireturn dX11_lose_94 rfl))
theorem kX11_lose_1 {G : Nat × Nat × Nat × Option (Nat × (Nat → Int32)) × (Option Value → qW → Prop)} {L : qL} {w : qW} {kc ks : Nat} {rest : List Value}  {x0 : Int32} {d mc ms : Nat} {Q : Option Value → qW → Prop} (hC : CT mX11_isKey d mc ms [.int x0] w Q) (hst : rest.length ≤ 4) (hdp : d + 1 ≤ G.1) (hmc : kc + mc ≤ G.2.1 ∧ ks + ms ≤ G.2.2.1) (k : ∀ r w', Q r w' → AW (mX11_lose, G) 4 L (r.toList ++ rest) w' (kc + mc) (ks + ms)) : AW (mX11_lose, G) 1 L (.int x0 :: rest) w kc ks := a_callS [.int x0] rest dX11_lose_1 tX11_isKey lk1149 hC rfl hst hdp hmc k
theorem kX11_lose_13 {G : Nat × Nat × Nat × Option (Nat × (Nat → Int32)) × (Option Value → qW → Prop)} {L : qL} {w : qW} {kc ks : Nat} {rest : List Value}  {x0 : Int32} {x1 : Int32} {x2 : Int32} {d mc ms : Nat} {Q : Option Value → qW → Prop} (hC : CT mX11_in d mc ms [.int x0, .int x1, .int x2] w Q) (hst : rest.length ≤ 4) (hdp : d + 1 ≤ G.1) (hmc : kc + mc ≤ G.2.1 ∧ ks + ms ≤ G.2.2.1) (k : ∀ r w', Q r w' → AW (mX11_lose, G) 16 L (r.toList ++ rest) w' (kc + mc) (ks + ms)) : AW (mX11_lose, G) 13 L (.int x2 :: .int x1 :: .int x0 :: rest) w kc ks := a_callS [.int x0, .int x1, .int x2] rest dX11_lose_13 tX11_in lk1030 hC rfl hst hdp hmc k
theorem dX11_calledMany_0 : decode cX11_calledMany 0 = .ok (.iconst 0, 1) := by decide +kernel
theorem dX11_calledMany_1 : decode cX11_calledMany 1 = .ok (.istore_n 1, 1) := by decide +kernel
theorem dX11_calledMany_2 : decode cX11_calledMany 2 = .ok (.iconst 0, 1) := by decide +kernel
theorem dX11_calledMany_3 : decode cX11_calledMany 3 = .ok (.istore_n 2, 1) := by decide +kernel
theorem dX11_calledMany_4 : decode cX11_calledMany 4 = .ok (.iload_n 2, 1) := by decide +kernel
theorem dX11_calledMany_5 : decode cX11_calledMany 5 = .ok (.aload_n 0, 1) := by decide +kernel
theorem dX11_calledMany_6 : decode cX11_calledMany 6 = .ok (.getfield 96, 3) := by decide +kernel
theorem dX11_calledMany_9 : decode cX11_calledMany 9 = .ok (.if_icmp .ge 25, 3) := by decide +kernel
theorem dX11_calledMany_12 : decode cX11_calledMany 12 = .ok (.iload_n 1, 1) := by decide +kernel
theorem dX11_calledMany_13 : decode cX11_calledMany 13 = .ok (.aload_n 0, 1) := by decide +kernel
theorem dX11_calledMany_14 : decode cX11_calledMany 14 = .ok (.iload_n 2, 1) := by decide +kernel
theorem dX11_calledMany_15 : decode cX11_calledMany 15 = .ok (.invokevirtual 233, 3) := by decide +kernel
theorem dX11_calledMany_18 : decode cX11_calledMany 18 = .ok (.ifCond .eq 7, 3) := by decide +kernel
theorem dX11_calledMany_21 : decode cX11_calledMany 21 = .ok (.iconst 1, 1) := by decide +kernel
theorem dX11_calledMany_22 : decode cX11_calledMany 22 = .ok (.goto 4, 3) := by decide +kernel
theorem dX11_calledMany_25 : decode cX11_calledMany 25 = .ok (.iconst 0, 1) := by decide +kernel
theorem dX11_calledMany_26 : decode cX11_calledMany 26 = .ok (.iadd, 1) := by decide +kernel
theorem dX11_calledMany_27 : decode cX11_calledMany 27 = .ok (.istore_n 1, 1) := by decide +kernel
theorem dX11_calledMany_28 : decode cX11_calledMany 28 = .ok (.iinc 2 1, 3) := by decide +kernel
theorem dX11_calledMany_31 : decode cX11_calledMany 31 = .ok (.goto (-27), 3) := by decide +kernel
theorem dX11_calledMany_34 : decode cX11_calledMany 34 = .ok (.iload_n 1, 1) := by decide +kernel
theorem dX11_calledMany_35 : decode cX11_calledMany 35 = .ok (.ireturn, 1) := by decide +kernel
/-! SealLineModel.calledMany()I -/
theorem eX11_calledMany {d mc ms : Nat} {w : qW} {Q : Option Value → qW → Prop} {q : Nat} (h : AW (mX11_calledMany, d, mc, ms, none, Q) 0 [some (.ref q), none, none] [] w 0 0) : CT mX11_calledMany d mc ms [.ref q] w Q := CT_of (by decide +kernel) rfl (Nat.le_of_ble_eq_true rfl) h
def bX11_calledMany_0 (G : Nat × Nat × Nat × Option (Nat × (Nat → Int32)) × (Option Value → qW → Prop)) : qK := (s_iconst 0 (s_istore 1 0 (s_iconst 0 (s_istore 2 1 (AW (mX11_calledMany, G) 4)))))
theorem oX11_calledMany_0 (G : Nat × Nat × Nat × Option (Nat × (Nat → Int32)) × (Option Value → qW → Prop)) : qImp (bX11_calledMany_0 G) (AW (mX11_calledMany, G) 0) := (r_iconst dX11_calledMany_0 rfl (r_istore_n dX11_calledMany_1 rfl (Or.inr rfl) (Nat.le_of_ble_eq_true rfl) (r_iconst dX11_calledMany_2 rfl (r_istore_n dX11_calledMany_3 rfl (Or.inr rfl) (Nat.le_of_ble_eq_true rfl) qImp.rf))))
def bX11_calledMany_4 (G : Nat × Nat × Nat × Option (Nat × (Nat → Int32)) × (Option Value → qW → Prop)) : qK := (s_iload 2 (s_aload 0 (s_getfield 11 1 (s_ic_ge (AW (mX11_calledMany, G) 34) (s_iload 1 (s_aload 0 (s_iload 2 (AW (mX11_calledMany, G) 15))))))))
theorem oX11_calledMany_4 (G : Nat × Nat × Nat × Option (Nat × (Nat → Int32)) × (Option Value → qW → Prop)) : qImp (bX11_calledMany_4 G) (AW (mX11_calledMany, G) 4) := (r_iload_n dX11_calledMany_4 rfl (r_aload_n dX11_calledMany_5 rfl (r_getfield dX11_calledMany_6 fgX11_96 (r_ic_ge (tgt := 34) dX11_calledMany_9 rfl qImp.rf (r_iload_n dX11_calledMany_12 rfl (r_aload_n dX11_calledMany_13 rfl (r_iload_n dX11_calledMany_14 rfl qImp.rf)))))))
def bX11_calledMany_18 (G : Nat × Nat × Nat × Option (Nat × (Nat → Int32)) × (Option Value → qW → Prop)) : qK := (s_if_eq (AW (mX11_calledMany, G) 25) (s_iconst 1 (AW (mX11_calledMany, G) 26)))
theorem oX11_calledMany_18 (G : Nat × Nat × Nat × Option (Nat × (Nat → Int32)) × (Option Value → qW → Prop)) : qImp (bX11_calledMany_18 G) (AW (mX11_calledMany, G) 18) := (r_if_eq (tgt := 25) dX11_calledMany_18 rfl qImp.rf (r_iconst dX11_calledMany_21 rfl (r_goto (tgt := 26) dX11_calledMany_22 rfl qImp.rf)))
def bX11_calledMany_25 (G : Nat × Nat × Nat × Option (Nat × (Nat → Int32)) × (Option Value → qW → Prop)) : qK := (s_iconst 0 (AW (mX11_calledMany, G) 26))
theorem oX11_calledMany_25 (G : Nat × Nat × Nat × Option (Nat × (Nat → Int32)) × (Option Value → qW → Prop)) : qImp (bX11_calledMany_25 G) (AW (mX11_calledMany, G) 25) := (r_iconst dX11_calledMany_25 rfl qImp.rf)
def bX11_calledMany_26 (G : Nat × Nat × Nat × Option (Nat × (Nat → Int32)) × (Option Value → qW → Prop)) : qK := (s_iadd (s_istore 1 0 (s_iinc 2 1 1 (AW (mX11_calledMany, G) 4))))
theorem oX11_calledMany_26 (G : Nat × Nat × Nat × Option (Nat × (Nat → Int32)) × (Option Value → qW → Prop)) : qImp (bX11_calledMany_26 G) (AW (mX11_calledMany, G) 26) := (r_iadd dX11_calledMany_26 (r_istore_n dX11_calledMany_27 rfl (Or.inr rfl) (Nat.le_of_ble_eq_true rfl) (r_iinc dX11_calledMany_28 rfl (Or.inr rfl) (Nat.le_of_ble_eq_true rfl) (r_goto (tgt := 4) dX11_calledMany_31 rfl qImp.rf))))
def bX11_calledMany_34 (G : Nat × Nat × Nat × Option (Nat × (Nat → Int32)) × (Option Value → qW → Prop)) : qK := (s_iload 1 (s_ireturn (mX11_calledMany, G)))
theorem oX11_calledMany_34 (G : Nat × Nat × Nat × Option (Nat × (Nat → Int32)) × (Option Value → qW → Prop)) : qImp (bX11_calledMany_34 G) (AW (mX11_calledMany, G) 34) := (r_iload_n dX11_calledMany_34 rfl (r_ireturn dX11_calledMany_35 rfl))
theorem kX11_calledMany_15 {G : Nat × Nat × Nat × Option (Nat × (Nat → Int32)) × (Option Value → qW → Prop)} {L : qL} {w : qW} {kc ks : Nat} {rest : List Value} {q : Nat} {x0 : Int32} {d mc ms : Nat} {Q : Option Value → qW → Prop} (hC : CT mX11_isCalled d mc ms [.ref q, .int x0] w Q) (hq : qci w q = some 11) (hst : rest.length ≤ 4) (hdp : d + 1 ≤ G.1) (hmc : kc + mc ≤ G.2.1 ∧ ks + ms ≤ G.2.2.1) (k : ∀ r w', Q r w' → AW (mX11_calledMany, G) 18 L (r.toList ++ rest) w' (kc + mc) (ks + ms)) : AW (mX11_calledMany, G) 15 L (.int x0 :: .ref q :: rest) w kc ks := a_callV [.int x0] rest dX11_calledMany_15 vX11_isCalled lk1177 hC hq rfl rfl hst hdp hmc k
theorem dX11_recall_0 : decode cX11_recall 0 = .ok (.iload_n 1, 1) := by decide +kernel
theorem dX11_recall_1 : decode cX11_recall 1 = .ok (.ifCond .ne 11, 3) := by decide +kernel
theorem dX11_recall_4 : decode cX11_recall 4 = .ok (.aload_n 0, 1) := by decide +kernel
theorem dX11_recall_5 : decode cX11_recall 5 = .ok (.iload_n 2, 1) := by decide +kernel
theorem dX11_recall_6 : decode cX11_recall 6 = .ok (.invokevirtual 130, 3) := by decide +kernel
theorem dX11_recall_9 : decode cX11_recall 9 = .ok (.goto 34, 3) := by decide +kernel
theorem dX11_recall_12 : decode cX11_recall 12 = .ok (.iload_n 1, 1) := by decide +kernel
theorem dX11_recall_13 : decode cX11_recall 13 = .ok (.iconst 1, 1) := by decide +kernel
theorem dX11_recall_14 : decode cX11_recall 14 = .ok (.if_icmp .ne 12, 3) := by decide +kernel
theorem dX11_recall_17 : decode cX11_recall 17 = .ok (.iload_n 2, 1) := by decide +kernel
theorem dX11_recall_18 : decode cX11_recall 18 = .ok (.iconst 0, 1) := by decide +kernel
theorem dX11_recall_19 : decode cX11_recall 19 = .ok (.iconst 5, 1) := by decide +kernel
theorem dX11_recall_20 : decode cX11_recall 20 = .ok (.invokestatic 100, 3) := by decide +kernel
theorem dX11_recall_23 : decode cX11_recall 23 = .ok (.goto 20, 3) := by decide +kernel
theorem dX11_recall_26 : decode cX11_recall 26 = .ok (.iload_n 1, 1) := by decide +kernel
theorem dX11_recall_27 : decode cX11_recall 27 = .ok (.iconst 2, 1) := by decide +kernel
theorem dX11_recall_28 : decode cX11_recall 28 = .ok (.if_icmp .ne 14, 3) := by decide +kernel
theorem dX11_recall_31 : decode cX11_recall 31 = .ok (.iload_n 2, 1) := by decide +kernel
theorem dX11_recall_32 : decode cX11_recall 32 = .ok (.invokestatic 111, 3) := by decide +kernel
theorem dX11_recall_35 : decode cX11_recall 35 = .ok (.ifCond .eq 7, 3) := by decide +kernel
theorem dX11_recall_38 : decode cX11_recall 38 = .ok (.iconst 1, 1) := by decide +kernel
theorem dX11_recall_39 : decode cX11_recall 39 = .ok (.goto 4, 3) := by decide +kernel
theorem dX11_recall_42 : decode cX11_recall 42 = .ok (.iconst 0, 1) := by decide +kernel
theorem dX11_recall_43 : decode cX11_recall 43 = .ok (.istore 4, 2) := by decide +kernel
theorem dX11_recall_45 : decode cX11_recall 45 = .ok (.iload 4, 2) := by decide +kernel
theorem dX11_recall_47 : decode cX11_recall 47 = .ok (.ifCond .eq 27, 3) := by decide +kernel
theorem dX11_recall_50 : decode cX11_recall 50 = .ok (.iload_n 1, 1) := by decide +kernel
theorem dX11_recall_51 : decode cX11_recall 51 = .ok (.ifCond .eq 14, 3) := by decide +kernel
theorem dX11_recall_54 : decode cX11_recall 54 = .ok (.iload_n 3, 1) := by decide +kernel
theorem dX11_recall_55 : decode cX11_recall 55 = .ok (.iconst 0, 1) := by decide +kernel
theorem dX11_recall_56 : decode cX11_recall 56 = .ok (.sipush 400, 3) := by decide +kernel
theorem dX11_recall_59 : decode cX11_recall 59 = .ok (.invokestatic 100, 3) := by decide +kernel
theorem dX11_recall_62 : decode cX11_recall 62 = .ok (.ifCond .eq 12, 3) := by decide +kernel
theorem dX11_recall_65 : decode cX11_recall 65 = .ok (.aload_n 0, 1) := by decide +kernel
theorem dX11_recall_66 : decode cX11_recall 66 = .ok (.getfield 157, 3) := by decide +kernel
theorem dX11_recall_69 : decode cX11_recall 69 = .ok (.bipush 50, 2) := by decide +kernel
theorem dX11_recall_71 : decode cX11_recall 71 = .ok (.if_icmp .ne 5, 3) := by decide +kernel
theorem dX11_recall_74 : decode cX11_recall 74 = .ok (.iconst (-1), 1) := by decide +kernel
theorem dX11_recall_75 : decode cX11_recall 75 = .ok (.ireturn, 1) := by decide +kernel
theorem dX11_recall_76 : decode cX11_recall 76 = .ok (.aload_n 0, 1) := by decide +kernel
theorem dX11_recall_77 : decode cX11_recall 77 = .ok (.getfield 63, 3) := by decide +kernel
theorem dX11_recall_80 : decode cX11_recall 80 = .ok (.aload_n 0, 1) := by decide +kernel
theorem dX11_recall_81 : decode cX11_recall 81 = .ok (.getfield 157, 3) := by decide +kernel
theorem dX11_recall_84 : decode cX11_recall 84 = .ok (.iload_n 1, 1) := by decide +kernel
theorem dX11_recall_85 : decode cX11_recall 85 = .ok (.iastore, 1) := by decide +kernel
theorem dX11_recall_86 : decode cX11_recall 86 = .ok (.aload_n 0, 1) := by decide +kernel
theorem dX11_recall_87 : decode cX11_recall 87 = .ok (.getfield 66, 3) := by decide +kernel
theorem dX11_recall_90 : decode cX11_recall 90 = .ok (.aload_n 0, 1) := by decide +kernel
theorem dX11_recall_91 : decode cX11_recall 91 = .ok (.getfield 157, 3) := by decide +kernel
theorem dX11_recall_94 : decode cX11_recall 94 = .ok (.iload_n 2, 1) := by decide +kernel
theorem dX11_recall_95 : decode cX11_recall 95 = .ok (.iastore, 1) := by decide +kernel
theorem dX11_recall_96 : decode cX11_recall 96 = .ok (.aload_n 0, 1) := by decide +kernel
theorem dX11_recall_97 : decode cX11_recall 97 = .ok (.getfield 69, 3) := by decide +kernel
theorem dX11_recall_100 : decode cX11_recall 100 = .ok (.aload_n 0, 1) := by decide +kernel
theorem dX11_recall_101 : decode cX11_recall 101 = .ok (.getfield 157, 3) := by decide +kernel
theorem dX11_recall_104 : decode cX11_recall 104 = .ok (.iload_n 3, 1) := by decide +kernel
theorem dX11_recall_105 : decode cX11_recall 105 = .ok (.iastore, 1) := by decide +kernel
theorem dX11_recall_106 : decode cX11_recall 106 = .ok (.aload_n 0, 1) := by decide +kernel
theorem dX11_recall_107 : decode cX11_recall 107 = .ok (.dup, 1) := by decide +kernel
theorem dX11_recall_108 : decode cX11_recall 108 = .ok (.getfield 157, 3) := by decide +kernel
theorem dX11_recall_111 : decode cX11_recall 111 = .ok (.iconst 1, 1) := by decide +kernel
theorem dX11_recall_112 : decode cX11_recall 112 = .ok (.iadd, 1) := by decide +kernel
theorem dX11_recall_113 : decode cX11_recall 113 = .ok (.putfield 157, 3) := by decide +kernel
theorem dX11_recall_116 : decode cX11_recall 116 = .ok (.aload_n 0, 1) := by decide +kernel
theorem dX11_recall_117 : decode cX11_recall 117 = .ok (.invokevirtual 246, 3) := by decide +kernel
theorem dX11_recall_120 : decode cX11_recall 120 = .ok (.ireturn, 1) := by decide +kernel
/-! SealLineModel.recall(III)I -/
theorem eX11_recall {d mc ms : Nat} {w : qW} {Q : Option Value → qW → Prop} {q : Nat} {x0 : Int32} {x1 : Int32} {x2 : Int32} (h : AW (mX11_recall, d, mc, ms, none, Q) 0 [some (.ref q), some (.int x0), some (.int x1), some (.int x2), none] [] w 0 0) : CT mX11_recall d mc ms [.ref q, .int x0, .int x1, .int x2] w Q := CT_of (by decide +kernel) rfl (Nat.le_of_ble_eq_true rfl) h
def bX11_recall_0 (G : Nat × Nat × Nat × Option (Nat × (Nat → Int32)) × (Option Value → qW → Prop)) : qK := (s_iload 1 (s_if_ne (AW (mX11_recall, G) 12) (s_aload 0 (s_iload 2 (AW (mX11_recall, G) 6)))))
theorem oX11_recall_0 (G : Nat × Nat × Nat × Option (Nat × (Nat → Int32)) × (Option Value → qW → Prop)) : qImp (bX11_recall_0 G) (AW (mX11_recall, G) 0) := (r_iload_n dX11_recall_0 rfl (r_if_ne (tgt := 12) dX11_recall_1 rfl qImp.rf (r_aload_n dX11_recall_4 rfl (r_iload_n dX11_recall_5 rfl qImp.rf))))
def bX11_recall_9 (G : Nat × Nat × Nat × Option (Nat × (Nat → Int32)) × (Option Value → qW → Prop)) : qK := (AW (mX11_recall, G) 43)
theorem oX11_recall_9 (G : Nat × Nat × Nat × Option (Nat × (Nat → Int32)) × (Option Value → qW → Prop)) : qImp (bX11_recall_9 G) (AW (mX11_recall, G) 9) := (r_goto (tgt := 43) dX11_recall_9 rfl qImp.rf)
def bX11_recall_12 (G : Nat × Nat × Nat × Option (Nat × (Nat → Int32)) × (Option Value → qW → Prop)) : qK := (s_iload 1 (s_iconst 1 (s_ic_ne (AW (mX11_recall, G) 26) (s_iload 2 (s_iconst 0 (s_iconst 5 (AW (mX11_recall, G) 20)))))))
theorem oX11_recall_12 (G : Nat × Nat × Nat × Option (Nat × (Nat → Int32)) × (Option Value → qW → Prop)) : qImp (bX11_recall_12 G) (AW (mX11_recall, G) 12) := (r_iload_n dX11_recall_12 rfl (r_iconst dX11_recall_13 rfl (r_ic_ne (tgt := 26) dX11_recall_14 rfl qImp.rf (r_iload_n dX11_recall_17 rfl (r_iconst dX11_recall_18 rfl (r_iconst dX11_recall_19 rfl qImp.rf))))))
def bX11_recall_23 (G : Nat × Nat × Nat × Option (Nat × (Nat → Int32)) × (Option Value → qW → Prop)) : qK := (AW (mX11_recall, G) 43)
theorem oX11_recall_23 (G : Nat × Nat × Nat × Option (Nat × (Nat → Int32)) × (Option Value → qW → Prop)) : qImp (bX11_recall_23 G) (AW (mX11_recall, G) 23) := (r_goto (tgt := 43) dX11_recall_23 rfl qImp.rf)
def bX11_recall_26 (G : Nat × Nat × Nat × Option (Nat × (Nat → Int32)) × (Option Value → qW → Prop)) : qK := (s_iload 1 (s_iconst 2 (s_ic_ne (AW (mX11_recall, G) 42) (s_iload 2 (AW (mX11_recall, G) 32)))))
theorem oX11_recall_26 (G : Nat × Nat × Nat × Option (Nat × (Nat → Int32)) × (Option Value → qW → Prop)) : qImp (bX11_recall_26 G) (AW (mX11_recall, G) 26) := (r_iload_n dX11_recall_26 rfl (r_iconst dX11_recall_27 rfl (r_ic_ne (tgt := 42) dX11_recall_28 rfl qImp.rf (r_iload_n dX11_recall_31 rfl qImp.rf))))
def bX11_recall_35 (G : Nat × Nat × Nat × Option (Nat × (Nat → Int32)) × (Option Value → qW → Prop)) : qK := (s_if_eq (AW (mX11_recall, G) 42) (s_iconst 1 (AW (mX11_recall, G) 43)))
theorem oX11_recall_35 (G : Nat × Nat × Nat × Option (Nat × (Nat → Int32)) × (Option Value → qW → Prop)) : qImp (bX11_recall_35 G) (AW (mX11_recall, G) 35) := (r_if_eq (tgt := 42) dX11_recall_35 rfl qImp.rf (r_iconst dX11_recall_38 rfl (r_goto (tgt := 43) dX11_recall_39 rfl qImp.rf)))
def bX11_recall_42 (G : Nat × Nat × Nat × Option (Nat × (Nat → Int32)) × (Option Value → qW → Prop)) : qK := (s_iconst 0 (AW (mX11_recall, G) 43))
theorem oX11_recall_42 (G : Nat × Nat × Nat × Option (Nat × (Nat → Int32)) × (Option Value → qW → Prop)) : qImp (bX11_recall_42 G) (AW (mX11_recall, G) 42) := (r_iconst dX11_recall_42 rfl qImp.rf)
def bX11_recall_43 (G : Nat × Nat × Nat × Option (Nat × (Nat → Int32)) × (Option Value → qW → Prop)) : qK := (s_istore 4 3 (s_iload 4 (s_if_eq (AW (mX11_recall, G) 74) (s_iload 1 (s_if_eq (AW (mX11_recall, G) 65) (s_iload 3 (s_iconst 0 (s_iconst 400 (AW (mX11_recall, G) 59)))))))))
theorem oX11_recall_43 (G : Nat × Nat × Nat × Option (Nat × (Nat → Int32)) × (Option Value → qW → Prop)) : qImp (bX11_recall_43 G) (AW (mX11_recall, G) 43) := (r_istore dX11_recall_43 (Or.inr rfl) (Nat.le_of_ble_eq_true rfl) (r_iload dX11_recall_45 (r_if_eq (tgt := 74) dX11_recall_47 rfl qImp.rf (r_iload_n dX11_recall_50 rfl (r_if_eq (tgt := 65) dX11_recall_51 rfl qImp.rf (r_iload_n dX11_recall_54 rfl (r_iconst dX11_recall_55 rfl (r_sipush dX11_recall_56 rfl qImp.rf))))))))
def bX11_recall_62 (G : Nat × Nat × Nat × Option (Nat × (Nat → Int32)) × (Option Value → qW → Prop)) : qK := (s_if_eq (AW (mX11_recall, G) 74) (AW (mX11_recall, G) 65))
theorem oX11_recall_62 (G : Nat × Nat × Nat × Option (Nat × (Nat → Int32)) × (Option Value → qW → Prop)) : qImp (bX11_recall_62 G) (AW (mX11_recall, G) 62) := (r_if_eq (tgt := 74) dX11_recall_62 rfl qImp.rf qImp.rf)
def bX11_recall_65 (G : Nat × Nat × Nat × Option (Nat × (Nat → Int32)) × (Option Value → qW → Prop)) : qK := (s_aload 0 (s_getfield 11 3 (s_iconst 50 (s_ic_ne (AW (mX11_recall, G) 76) (AW (mX11_recall, G) 74)))))
theorem oX11_recall_65 (G : Nat × Nat × Nat × Option (Nat × (Nat → Int32)) × (Option Value → qW → Prop)) : qImp (bX11_recall_65 G) (AW (mX11_recall, G) 65) := (r_aload_n dX11_recall_65 rfl (r_getfield dX11_recall_66 fgX11_157 (r_bipush dX11_recall_69 rfl (r_ic_ne (tgt := 76) dX11_recall_71 rfl qImp.rf qImp.rf))))
def bX11_recall_74 (G : Nat × Nat × Nat × Option (Nat × (Nat → Int32)) × (Option Value → qW → Prop)) : qK := (s_iconst (-1) (s_ireturn (mX11_recall, G)))
theorem oX11_recall_74 (G : Nat × Nat × Nat × Option (Nat × (Nat → Int32)) × (Option Value → qW → Prop)) : qImp (bX11_recall_74 G) (AW (mX11_recall, G) 74) := (r_iconst dX11_recall_74 rfl (r_ireturn dX11_recall_75 rfl))
def bX11_recall_76 (G : Nat × Nat × Nat × Option (Nat × (Nat → Int32)) × (Option Value → qW → Prop)) : qK := (s_aload 0 (s_getfield 11 23 (s_aload 0 (s_getfield 11 3 (s_iload 1 (s_iastore (s_aload 0 (s_getfield 11 24 (s_aload 0 (s_getfield 11 3 (s_iload 2 (s_iastore (s_aload 0 (s_getfield 11 25 (s_aload 0 (s_getfield 11 3 (s_iload 3 (s_iastore (s_aload 0 (s_dup (s_getfield 11 3 (s_iconst 1 (s_iadd (s_putI 11 3 (s_aload 0 (AW (mX11_recall, G) 117))))))))))))))))))))))))))
theorem oX11_recall_76 (G : Nat × Nat × Nat × Option (Nat × (Nat → Int32)) × (Option Value → qW → Prop)) : qImp (bX11_recall_76 G) (AW (mX11_recall, G) 76) := (r_aload_n dX11_recall_76 rfl (r_getfield dX11_recall_77 fgX11_63 (r_aload_n dX11_recall_80 rfl (r_getfield dX11_recall_81 fgX11_157 (r_iload_n dX11_recall_84 rfl (r_iastore dX11_recall_85 (r_aload_n dX11_recall_86 rfl (r_getfield dX11_recall_87 fgX11_66 (r_aload_n dX11_recall_90 rfl (r_getfield dX11_recall_91 fgX11_157 (r_iload_n dX11_recall_94 rfl (r_iastore dX11_recall_95 (r_aload_n dX11_recall_96 rfl (r_getfield dX11_recall_97 fgX11_69 (r_aload_n dX11_recall_100 rfl (r_getfield dX11_recall_101 fgX11_157 (r_iload_n dX11_recall_104 rfl (r_iastore dX11_recall_105 (r_aload_n dX11_recall_106 rfl (r_dup dX11_recall_107 (r_getfield dX11_recall_108 fgX11_157 (r_iconst dX11_recall_111 rfl (r_iadd dX11_recall_112 (r_putI dX11_recall_113 fpX11_157 (fun q hq => by cases hq; rfl) (r_aload_n dX11_recall_116 rfl qImp.rf)))))))))))))))))))))))))
def bX11_recall_120 (G : Nat × Nat × Nat × Option (Nat × (Nat → Int32)) × (Option Value → qW → Prop)) : qK := (s_ireturn (mX11_recall, G))
theorem oX11_recall_120 (G : Nat × Nat × Nat × Option (Nat × (Nat → Int32)) × (Option Value → qW → Prop)) : qImp (bX11_recall_120 G) (AW (mX11_recall, G) 120) := (r_ireturn dX11_recall_120 rfl)
theorem kX11_recall_6 {G : Nat × Nat × Nat × Option (Nat × (Nat → Int32)) × (Option Value → qW → Prop)} {L : qL} {w : qW} {kc ks : Nat} {rest : List Value} {q : Nat} {x0 : Int32} {d mc ms : Nat} {Q : Option Value → qW → Prop} (hC : CT mX11_isFile d mc ms [.ref q, .int x0] w Q) (hq : qci w q = some 11) (hst : rest.length ≤ 4) (hdp : d + 1 ≤ G.1) (hmc : kc + mc ≤ G.2.1 ∧ ks + ms ≤ G.2.2.1) (k : ∀ r w', Q r w' → AW (mX11_recall, G) 9 L (r.toList ++ rest) w' (kc + mc) (ks + ms)) : AW (mX11_recall, G) 6 L (.int x0 :: .ref q :: rest) w kc ks := a_callV [.int x0] rest dX11_recall_6 vX11_isFile lk1050 hC hq rfl rfl hst hdp hmc k
theorem kX11_recall_20 {G : Nat × Nat × Nat × Option (Nat × (Nat → Int32)) × (Option Value → qW → Prop)} {L : qL} {w : qW} {kc ks : Nat} {rest : List Value}  {x0 : Int32} {x1 : Int32} {x2 : Int32} {d mc ms : Nat} {Q : Option Value → qW → Prop} (hC : CT mX11_in d mc ms [.int x0, .int x1, .int x2] w Q) (hst : rest.length ≤ 4) (hdp : d + 1 ≤ G.1) (hmc : kc + mc ≤ G.2.1 ∧ ks + ms ≤ G.2.2.1) (k : ∀ r w', Q r w' → AW (mX11_recall, G) 23 L (r.toList ++ rest) w' (kc + mc) (ks + ms)) : AW (mX11_recall, G) 20 L (.int x2 :: .int x1 :: .int x0 :: rest) w kc ks := a_callS [.int x0, .int x1, .int x2] rest dX11_recall_20 tX11_in lk1030 hC rfl hst hdp hmc k
theorem kX11_recall_32 {G : Nat × Nat × Nat × Option (Nat × (Nat → Int32)) × (Option Value → qW → Prop)} {L : qL} {w : qW} {kc ks : Nat} {rest : List Value}  {x0 : Int32} {d mc ms : Nat} {Q : Option Value → qW → Prop} (hC : CT mX11_isHand d mc ms [.int x0] w Q) (hst : rest.length ≤ 4) (hdp : d + 1 ≤ G.1) (hmc : kc + mc ≤ G.2.1 ∧ ks + ms ≤ G.2.2.1) (k : ∀ r w', Q r w' → AW (mX11_recall, G) 35 L (r.toList ++ rest) w' (kc + mc) (ks + ms)) : AW (mX11_recall, G) 32 L (.int x0 :: rest) w kc ks := a_callS [.int x0] rest dX11_recall_32 tX11_isHand lk1027 hC rfl hst hdp hmc k
theorem kX11_recall_59 {G : Nat × Nat × Nat × Option (Nat × (Nat → Int32)) × (Option Value → qW → Prop)} {L : qL} {w : qW} {kc ks : Nat} {rest : List Value}  {x0 : Int32} {x1 : Int32} {x2 : Int32} {d mc ms : Nat} {Q : Option Value → qW → Prop} (hC : CT mX11_in d mc ms [.int x0, .int x1, .int x2] w Q) (hst : rest.length ≤ 4) (hdp : d + 1 ≤ G.1) (hmc : kc + mc ≤ G.2.1 ∧ ks + ms ≤ G.2.2.1) (k : ∀ r w', Q r w' → AW (mX11_recall, G) 62 L (r.toList ++ rest) w' (kc + mc) (ks + ms)) : AW (mX11_recall, G) 59 L (.int x2 :: .int x1 :: .int x0 :: rest) w kc ks := a_callS [.int x0, .int x1, .int x2] rest dX11_recall_59 tX11_in lk1030 hC rfl hst hdp hmc k
theorem kX11_recall_117 {G : Nat × Nat × Nat × Option (Nat × (Nat → Int32)) × (Option Value → qW → Prop)} {L : qL} {w : qW} {kc ks : Nat} {rest : List Value} {q : Nat}  {d mc ms : Nat} {Q : Option Value → qW → Prop} (hC : CT mX11_calledMany d mc ms [.ref q] w Q) (hq : qci w q = some 11) (hst : rest.length ≤ 4) (hdp : d + 1 ≤ G.1) (hmc : kc + mc ≤ G.2.1 ∧ ks + ms ≤ G.2.2.1) (k : ∀ r w', Q r w' → AW (mX11_recall, G) 120 L (r.toList ++ rest) w' (kc + mc) (ks + ms)) : AW (mX11_recall, G) 117 L (.ref q :: rest) w kc ks := a_callV [] rest dX11_recall_117 vX11_calledMany lk1208 hC hq rfl rfl hst hdp hmc k
theorem dX11_file_0 : decode cX11_file 0 = .ok (.aload_n 0, 1) := by decide +kernel
theorem dX11_file_1 : decode cX11_file 1 = .ok (.iload_n 1, 1) := by decide +kernel
theorem dX11_file_2 : decode cX11_file 2 = .ok (.invokevirtual 130, 3) := by decide +kernel
theorem dX11_file_5 : decode cX11_file 5 = .ok (.ifCond .ne 5, 3) := by decide +kernel
theorem dX11_file_8 : decode cX11_file 8 = .ok (.iconst (-1), 1) := by decide +kernel
theorem dX11_file_9 : decode cX11_file 9 = .ok (.ireturn, 1) := by decide +kernel
theorem dX11_file_10 : decode cX11_file 10 = .ok (.iconst 0, 1) := by decide +kernel
theorem dX11_file_11 : decode cX11_file 11 = .ok (.istore_n 3, 1) := by decide +kernel
theorem dX11_file_12 : decode cX11_file 12 = .ok (.iload_n 2, 1) := by decide +kernel
theorem dX11_file_13 : decode cX11_file 13 = .ok (.tableswitch 213 0 8 #[51, 65, 79, 87, 99, 105, 148, 154, 160], 51) := by decide +kernel
theorem dX11_file_64 : decode cX11_file 64 = .ok (.aload_n 0, 1) := by decide +kernel
theorem dX11_file_65 : decode cX11_file 65 = .ok (.iload_n 1, 1) := by decide +kernel
theorem dX11_file_66 : decode cX11_file 66 = .ok (.invokevirtual 221, 3) := by decide +kernel
theorem dX11_file_69 : decode cX11_file 69 = .ok (.ifCond .eq 7, 3) := by decide +kernel
theorem dX11_file_72 : decode cX11_file 72 = .ok (.iconst 1, 1) := by decide +kernel
theorem dX11_file_73 : decode cX11_file 73 = .ok (.goto 4, 3) := by decide +kernel
theorem dX11_file_76 : decode cX11_file 76 = .ok (.iconst 0, 1) := by decide +kernel
theorem dX11_file_77 : decode cX11_file 77 = .ok (.ireturn, 1) := by decide +kernel
theorem dX11_file_78 : decode cX11_file 78 = .ok (.aload_n 0, 1) := by decide +kernel
theorem dX11_file_79 : decode cX11_file 79 = .ok (.iload_n 1, 1) := by decide +kernel
theorem dX11_file_80 : decode cX11_file 80 = .ok (.invokevirtual 233, 3) := by decide +kernel
theorem dX11_file_83 : decode cX11_file 83 = .ok (.ifCond .eq 7, 3) := by decide +kernel
theorem dX11_file_86 : decode cX11_file 86 = .ok (.iconst 1, 1) := by decide +kernel
theorem dX11_file_87 : decode cX11_file 87 = .ok (.goto 4, 3) := by decide +kernel
theorem dX11_file_90 : decode cX11_file 90 = .ok (.iconst 0, 1) := by decide +kernel
theorem dX11_file_91 : decode cX11_file 91 = .ok (.ireturn, 1) := by decide +kernel
theorem dX11_file_92 : decode cX11_file 92 = .ok (.aload_n 0, 1) := by decide +kernel
theorem dX11_file_93 : decode cX11_file 93 = .ok (.iconst 2, 1) := by decide +kernel
theorem dX11_file_94 : decode cX11_file 94 = .ok (.iload_n 1, 1) := by decide +kernel
theorem dX11_file_95 : decode cX11_file 95 = .ok (.iconst 0, 1) := by decide +kernel
theorem dX11_file_96 : decode cX11_file 96 = .ok (.invokevirtual 224, 3) := by decide +kernel
theorem dX11_file_99 : decode cX11_file 99 = .ok (.ireturn, 1) := by decide +kernel
theorem dX11_file_100 : decode cX11_file 100 = .ok (.aload_n 0, 1) := by decide +kernel
theorem dX11_file_101 : decode cX11_file 101 = .ok (.iconst 3, 1) := by decide +kernel
theorem dX11_file_102 : decode cX11_file 102 = .ok (.iload_n 1, 1) := by decide +kernel
theorem dX11_file_103 : decode cX11_file 103 = .ok (.aload_n 0, 1) := by decide +kernel
theorem dX11_file_104 : decode cX11_file 104 = .ok (.iload_n 1, 1) := by decide +kernel
theorem dX11_file_105 : decode cX11_file 105 = .ok (.invokevirtual 215, 3) := by decide +kernel
theorem dX11_file_108 : decode cX11_file 108 = .ok (.invokevirtual 224, 3) := by decide +kernel
theorem dX11_file_111 : decode cX11_file 111 = .ok (.ireturn, 1) := by decide +kernel
theorem dX11_file_112 : decode cX11_file 112 = .ok (.aload_n 0, 1) := by decide +kernel
theorem dX11_file_113 : decode cX11_file 113 = .ok (.iload_n 1, 1) := by decide +kernel
theorem dX11_file_114 : decode cX11_file 114 = .ok (.invokevirtual 227, 3) := by decide +kernel
theorem dX11_file_117 : decode cX11_file 117 = .ok (.ireturn, 1) := by decide +kernel
theorem dX11_file_118 : decode cX11_file 118 = .ok (.aload_n 0, 1) := by decide +kernel
theorem dX11_file_119 : decode cX11_file 119 = .ok (.iload_n 1, 1) := by decide +kernel
theorem dX11_file_120 : decode cX11_file 120 = .ok (.invokevirtual 144, 3) := by decide +kernel
theorem dX11_file_123 : decode cX11_file 123 = .ok (.iconst 0, 1) := by decide +kernel
theorem dX11_file_124 : decode cX11_file 124 = .ok (.istore 4, 2) := by decide +kernel
theorem dX11_file_126 : decode cX11_file 126 = .ok (.iload 4, 2) := by decide +kernel
theorem dX11_file_128 : decode cX11_file 128 = .ok (.aload_n 0, 1) := by decide +kernel
theorem dX11_file_129 : decode cX11_file 129 = .ok (.getfield 96, 3) := by decide +kernel
theorem dX11_file_132 : decode cX11_file 132 = .ok (.if_icmp .ge 27, 3) := by decide +kernel
theorem dX11_file_135 : decode cX11_file 135 = .ok (.iload_n 3, 1) := by decide +kernel
theorem dX11_file_136 : decode cX11_file 136 = .ok (.aload_n 0, 1) := by decide +kernel
theorem dX11_file_137 : decode cX11_file 137 = .ok (.getfield 72, 3) := by decide +kernel
theorem dX11_file_140 : decode cX11_file 140 = .ok (.iload 4, 2) := by decide +kernel
theorem dX11_file_142 : decode cX11_file 142 = .ok (.baload, 1) := by decide +kernel
theorem dX11_file_143 : decode cX11_file 143 = .ok (.ifCond .eq 7, 3) := by decide +kernel
theorem dX11_file_146 : decode cX11_file 146 = .ok (.iconst 1, 1) := by decide +kernel
theorem dX11_file_147 : decode cX11_file 147 = .ok (.goto 4, 3) := by decide +kernel
theorem dX11_file_150 : decode cX11_file 150 = .ok (.iconst 0, 1) := by decide +kernel
theorem dX11_file_151 : decode cX11_file 151 = .ok (.iadd, 1) := by decide +kernel
theorem dX11_file_152 : decode cX11_file 152 = .ok (.istore_n 3, 1) := by decide +kernel
theorem dX11_file_153 : decode cX11_file 153 = .ok (.iinc 4 1, 3) := by decide +kernel
theorem dX11_file_156 : decode cX11_file 156 = .ok (.goto (-30), 3) := by decide +kernel
theorem dX11_file_159 : decode cX11_file 159 = .ok (.iload_n 3, 1) := by decide +kernel
theorem dX11_file_160 : decode cX11_file 160 = .ok (.ireturn, 1) := by decide +kernel
theorem dX11_file_161 : decode cX11_file 161 = .ok (.aload_n 0, 1) := by decide +kernel
theorem dX11_file_162 : decode cX11_file 162 = .ok (.iload_n 1, 1) := by decide +kernel
theorem dX11_file_163 : decode cX11_file 163 = .ok (.invokevirtual 215, 3) := by decide +kernel
theorem dX11_file_166 : decode cX11_file 166 = .ok (.ireturn, 1) := by decide +kernel
theorem dX11_file_167 : decode cX11_file 167 = .ok (.aload_n 0, 1) := by decide +kernel
theorem dX11_file_168 : decode cX11_file 168 = .ok (.iload_n 1, 1) := by decide +kernel
theorem dX11_file_169 : decode cX11_file 169 = .ok (.invokevirtual 212, 3) := by decide +kernel
theorem dX11_file_172 : decode cX11_file 172 = .ok (.ireturn, 1) := by decide +kernel
theorem dX11_file_173 : decode cX11_file 173 = .ok (.iconst 0, 1) := by decide +kernel
theorem dX11_file_174 : decode cX11_file 174 = .ok (.istore 4, 2) := by decide +kernel
theorem dX11_file_176 : decode cX11_file 176 = .ok (.iload 4, 2) := by decide +kernel
theorem dX11_file_178 : decode cX11_file 178 = .ok (.aload_n 0, 1) := by decide +kernel
theorem dX11_file_179 : decode cX11_file 179 = .ok (.getfield 242, 3) := by decide +kernel
theorem dX11_file_182 : decode cX11_file 182 = .ok (.if_icmp .ge 42, 3) := by decide +kernel
theorem dX11_file_185 : decode cX11_file 185 = .ok (.iload_n 3, 1) := by decide +kernel
theorem dX11_file_186 : decode cX11_file 186 = .ok (.aload_n 0, 1) := by decide +kernel
theorem dX11_file_187 : decode cX11_file 187 = .ok (.getfield 17, 3) := by decide +kernel
theorem dX11_file_190 : decode cX11_file 190 = .ok (.aload_n 0, 1) := by decide +kernel
theorem dX11_file_191 : decode cX11_file 191 = .ok (.getfield 47, 3) := by decide +kernel
theorem dX11_file_194 : decode cX11_file 194 = .ok (.iload 4, 2) := by decide +kernel
theorem dX11_file_196 : decode cX11_file 196 = .ok (.iaload, 1) := by decide +kernel
theorem dX11_file_197 : decode cX11_file 197 = .ok (.iaload, 1) := by decide +kernel
theorem dX11_file_198 : decode cX11_file 198 = .ok (.iload_n 1, 1) := by decide +kernel
theorem dX11_file_199 : decode cX11_file 199 = .ok (.if_icmp .ne 16, 3) := by decide +kernel
theorem dX11_file_202 : decode cX11_file 202 = .ok (.aload_n 0, 1) := by decide +kernel
theorem dX11_file_203 : decode cX11_file 203 = .ok (.iload 4, 2) := by decide +kernel
theorem dX11_file_205 : decode cX11_file 205 = .ok (.invokevirtual 249, 3) := by decide +kernel
theorem dX11_file_208 : decode cX11_file 208 = .ok (.ifCond .eq 7, 3) := by decide +kernel
theorem dX11_file_211 : decode cX11_file 211 = .ok (.iconst 1, 1) := by decide +kernel
theorem dX11_file_212 : decode cX11_file 212 = .ok (.goto 4, 3) := by decide +kernel
theorem dX11_file_215 : decode cX11_file 215 = .ok (.iconst 0, 1) := by decide +kernel
theorem dX11_file_216 : decode cX11_file 216 = .ok (.iadd, 1) := by decide +kernel
theorem dX11_file_217 : decode cX11_file 217 = .ok (.istore_n 3, 1) := by decide +kernel
theorem dX11_file_218 : decode cX11_file 218 = .ok (.iinc 4 1, 3) := by decide +kernel
theorem dX11_file_221 : decode cX11_file 221 = .ok (.goto (-45), 3) := by decide +kernel
theorem dX11_file_224 : decode cX11_file 224 = .ok (.iload_n 3, 1) := by decide +kernel
theorem dX11_file_225 : decode cX11_file 225 = .ok (.ireturn, 1) := by decide +kernel
theorem dX11_file_226 : decode cX11_file 226 = .ok (.iconst (-1), 1) := by decide +kernel
theorem dX11_file_227 : decode cX11_file 227 = .ok (.ireturn, 1) := by decide +kernel
/-! SealLineModel.file(II)I -/
theorem eX11_file {d mc ms : Nat} {w : qW} {Q : Option Value → qW → Prop} {q : Nat} {x0 : Int32} {x1 : Int32} (h : AW (mX11_file, d, mc, ms, none, Q) 0 [some (.ref q), some (.int x0), some (.int x1), none, none] [] w 0 0) : CT mX11_file d mc ms [.ref q, .int x0, .int x1] w Q := CT_of (by decide +kernel) rfl (Nat.le_of_ble_eq_true rfl) h
def bX11_file_0 (G : Nat × Nat × Nat × Option (Nat × (Nat → Int32)) × (Option Value → qW → Prop)) : qK := (s_aload 0 (s_iload 1 (AW (mX11_file, G) 2)))
theorem oX11_file_0 (G : Nat × Nat × Nat × Option (Nat × (Nat → Int32)) × (Option Value → qW → Prop)) : qImp (bX11_file_0 G) (AW (mX11_file, G) 0) := (r_aload_n dX11_file_0 rfl (r_iload_n dX11_file_1 rfl qImp.rf))
def bX11_file_5 (G : Nat × Nat × Nat × Option (Nat × (Nat → Int32)) × (Option Value → qW → Prop)) : qK := (s_if_ne (AW (mX11_file, G) 10) (s_iconst (-1) (s_ireturn (mX11_file, G))))
theorem oX11_file_5 (G : Nat × Nat × Nat × Option (Nat × (Nat → Int32)) × (Option Value → qW → Prop)) : qImp (bX11_file_5 G) (AW (mX11_file, G) 5) := (r_if_ne (tgt := 10) dX11_file_5 rfl qImp.rf (r_iconst dX11_file_8 rfl (r_ireturn dX11_file_9 rfl)))
def bX11_file_10 (G : Nat × Nat × Nat × Option (Nat × (Nat → Int32)) × (Option Value → qW → Prop)) : qK := (s_iconst 0 (s_istore 3 2 (s_iload 2 (AW (mX11_file, G) 13))))
theorem oX11_file_10 (G : Nat × Nat × Nat × Option (Nat × (Nat → Int32)) × (Option Value → qW → Prop)) : qImp (bX11_file_10 G) (AW (mX11_file, G) 10) := (r_iconst dX11_file_10 rfl (r_istore_n dX11_file_11 rfl (Or.inr rfl) (Nat.le_of_ble_eq_true rfl) (r_iload_n dX11_file_12 rfl qImp.rf)))
def bX11_file_64 (G : Nat × Nat × Nat × Option (Nat × (Nat → Int32)) × (Option Value → qW → Prop)) : qK := (s_aload 0 (s_iload 1 (AW (mX11_file, G) 66)))
theorem oX11_file_64 (G : Nat × Nat × Nat × Option (Nat × (Nat → Int32)) × (Option Value → qW → Prop)) : qImp (bX11_file_64 G) (AW (mX11_file, G) 64) := (r_aload_n dX11_file_64 rfl (r_iload_n dX11_file_65 rfl qImp.rf))
def bX11_file_69 (G : Nat × Nat × Nat × Option (Nat × (Nat → Int32)) × (Option Value → qW → Prop)) : qK := (s_if_eq (AW (mX11_file, G) 76) (s_iconst 1 (AW (mX11_file, G) 77)))
theorem oX11_file_69 (G : Nat × Nat × Nat × Option (Nat × (Nat → Int32)) × (Option Value → qW → Prop)) : qImp (bX11_file_69 G) (AW (mX11_file, G) 69) := (r_if_eq (tgt := 76) dX11_file_69 rfl qImp.rf (r_iconst dX11_file_72 rfl (r_goto (tgt := 77) dX11_file_73 rfl qImp.rf)))
def bX11_file_76 (G : Nat × Nat × Nat × Option (Nat × (Nat → Int32)) × (Option Value → qW → Prop)) : qK := (s_iconst 0 (AW (mX11_file, G) 77))
theorem oX11_file_76 (G : Nat × Nat × Nat × Option (Nat × (Nat → Int32)) × (Option Value → qW → Prop)) : qImp (bX11_file_76 G) (AW (mX11_file, G) 76) := (r_iconst dX11_file_76 rfl qImp.rf)
def bX11_file_77 (G : Nat × Nat × Nat × Option (Nat × (Nat → Int32)) × (Option Value → qW → Prop)) : qK := (s_ireturn (mX11_file, G))
theorem oX11_file_77 (G : Nat × Nat × Nat × Option (Nat × (Nat → Int32)) × (Option Value → qW → Prop)) : qImp (bX11_file_77 G) (AW (mX11_file, G) 77) := (r_ireturn dX11_file_77 rfl)
def bX11_file_78 (G : Nat × Nat × Nat × Option (Nat × (Nat → Int32)) × (Option Value → qW → Prop)) : qK := (s_aload 0 (s_iload 1 (AW (mX11_file, G) 80)))
theorem oX11_file_78 (G : Nat × Nat × Nat × Option (Nat × (Nat → Int32)) × (Option Value → qW → Prop)) : qImp (bX11_file_78 G) (AW (mX11_file, G) 78) := (r_aload_n dX11_file_78 rfl (r_iload_n dX11_file_79 rfl qImp.rf))
def bX11_file_83 (G : Nat × Nat × Nat × Option (Nat × (Nat → Int32)) × (Option Value → qW → Prop)) : qK := (s_if_eq (AW (mX11_file, G) 90) (s_iconst 1 (AW (mX11_file, G) 91)))
theorem oX11_file_83 (G : Nat × Nat × Nat × Option (Nat × (Nat → Int32)) × (Option Value → qW → Prop)) : qImp (bX11_file_83 G) (AW (mX11_file, G) 83) := (r_if_eq (tgt := 90) dX11_file_83 rfl qImp.rf (r_iconst dX11_file_86 rfl (r_goto (tgt := 91) dX11_file_87 rfl qImp.rf)))
def bX11_file_90 (G : Nat × Nat × Nat × Option (Nat × (Nat → Int32)) × (Option Value → qW → Prop)) : qK := (s_iconst 0 (AW (mX11_file, G) 91))
theorem oX11_file_90 (G : Nat × Nat × Nat × Option (Nat × (Nat → Int32)) × (Option Value → qW → Prop)) : qImp (bX11_file_90 G) (AW (mX11_file, G) 90) := (r_iconst dX11_file_90 rfl qImp.rf)
def bX11_file_91 (G : Nat × Nat × Nat × Option (Nat × (Nat → Int32)) × (Option Value → qW → Prop)) : qK := (s_ireturn (mX11_file, G))
theorem oX11_file_91 (G : Nat × Nat × Nat × Option (Nat × (Nat → Int32)) × (Option Value → qW → Prop)) : qImp (bX11_file_91 G) (AW (mX11_file, G) 91) := (r_ireturn dX11_file_91 rfl)
def bX11_file_92 (G : Nat × Nat × Nat × Option (Nat × (Nat → Int32)) × (Option Value → qW → Prop)) : qK := (s_aload 0 (s_iconst 2 (s_iload 1 (s_iconst 0 (AW (mX11_file, G) 96)))))
theorem oX11_file_92 (G : Nat × Nat × Nat × Option (Nat × (Nat → Int32)) × (Option Value → qW → Prop)) : qImp (bX11_file_92 G) (AW (mX11_file, G) 92) := (r_aload_n dX11_file_92 rfl (r_iconst dX11_file_93 rfl (r_iload_n dX11_file_94 rfl (r_iconst dX11_file_95 rfl qImp.rf))))
def bX11_file_99 (G : Nat × Nat × Nat × Option (Nat × (Nat → Int32)) × (Option Value → qW → Prop)) : qK := (s_ireturn (mX11_file, G))
theorem oX11_file_99 (G : Nat × Nat × Nat × Option (Nat × (Nat → Int32)) × (Option Value → qW → Prop)) : qImp (bX11_file_99 G) (AW (mX11_file, G) 99) := (r_ireturn dX11_file_99 rfl)
def bX11_file_100 (G : Nat × Nat × Nat × Option (Nat × (Nat → Int32)) × (Option Value → qW → Prop)) : qK := (s_aload 0 (s_iconst 3 (s_iload 1 (s_aload 0 (s_iload 1 (AW (mX11_file, G) 105))))))
theorem oX11_file_100 (G : Nat × Nat × Nat × Option (Nat × (Nat → Int32)) × (Option Value → qW → Prop)) : qImp (bX11_file_100 G) (AW (mX11_file, G) 100) := (r_aload_n dX11_file_100 rfl (r_iconst dX11_file_101 rfl (r_iload_n dX11_file_102 rfl (r_aload_n dX11_file_103 rfl (r_iload_n dX11_file_104 rfl qImp.rf)))))
def bX11_file_111 (G : Nat × Nat × Nat × Option (Nat × (Nat → Int32)) × (Option Value → qW → Prop)) : qK := (s_ireturn (mX11_file, G))
theorem oX11_file_111 (G : Nat × Nat × Nat × Option (Nat × (Nat → Int32)) × (Option Value → qW → Prop)) : qImp (bX11_file_111 G) (AW (mX11_file, G) 111) := (r_ireturn dX11_file_111 rfl)
def bX11_file_112 (G : Nat × Nat × Nat × Option (Nat × (Nat → Int32)) × (Option Value → qW → Prop)) : qK := (s_aload 0 (s_iload 1 (AW (mX11_file, G) 114)))
theorem oX11_file_112 (G : Nat × Nat × Nat × Option (Nat × (Nat → Int32)) × (Option Value → qW → Prop)) : qImp (bX11_file_112 G) (AW (mX11_file, G) 112) := (r_aload_n dX11_file_112 rfl (r_iload_n dX11_file_113 rfl qImp.rf))
def bX11_file_117 (G : Nat × Nat × Nat × Option (Nat × (Nat → Int32)) × (Option Value → qW → Prop)) : qK := (s_ireturn (mX11_file, G))
theorem oX11_file_117 (G : Nat × Nat × Nat × Option (Nat × (Nat → Int32)) × (Option Value → qW → Prop)) : qImp (bX11_file_117 G) (AW (mX11_file, G) 117) := (r_ireturn dX11_file_117 rfl)
def bX11_file_118 (G : Nat × Nat × Nat × Option (Nat × (Nat → Int32)) × (Option Value → qW → Prop)) : qK := (s_aload 0 (s_iload 1 (AW (mX11_file, G) 120)))
theorem oX11_file_118 (G : Nat × Nat × Nat × Option (Nat × (Nat → Int32)) × (Option Value → qW → Prop)) : qImp (bX11_file_118 G) (AW (mX11_file, G) 118) := (r_aload_n dX11_file_118 rfl (r_iload_n dX11_file_119 rfl qImp.rf))
def bX11_file_123 (G : Nat × Nat × Nat × Option (Nat × (Nat → Int32)) × (Option Value → qW → Prop)) : qK := (s_iconst 0 (s_istore 4 3 (AW (mX11_file, G) 126)))
theorem oX11_file_123 (G : Nat × Nat × Nat × Option (Nat × (Nat → Int32)) × (Option Value → qW → Prop)) : qImp (bX11_file_123 G) (AW (mX11_file, G) 123) := (r_iconst dX11_file_123 rfl (r_istore dX11_file_124 (Or.inr rfl) (Nat.le_of_ble_eq_true rfl) qImp.rf))
def bX11_file_126 (G : Nat × Nat × Nat × Option (Nat × (Nat → Int32)) × (Option Value → qW → Prop)) : qK := (s_iload 4 (s_aload 0 (s_getfield 11 1 (s_ic_ge (AW (mX11_file, G) 159) (s_iload 3 (s_aload 0 (s_getfield 11 26 (s_iload 4 (s_baload (s_if_eq (AW (mX11_file, G) 150) (s_iconst 1 (AW (mX11_file, G) 151))))))))))))
theorem oX11_file_126 (G : Nat × Nat × Nat × Option (Nat × (Nat → Int32)) × (Option Value → qW → Prop)) : qImp (bX11_file_126 G) (AW (mX11_file, G) 126) := (r_iload dX11_file_126 (r_aload_n dX11_file_128 rfl (r_getfield dX11_file_129 fgX11_96 (r_ic_ge (tgt := 159) dX11_file_132 rfl qImp.rf (r_iload_n dX11_file_135 rfl (r_aload_n dX11_file_136 rfl (r_getfield dX11_file_137 fgX11_72 (r_iload dX11_file_140 (r_baload dX11_file_142 (r_if_eq (tgt := 150) dX11_file_143 rfl qImp.rf (r_iconst dX11_file_146 rfl (r_goto (tgt := 151) dX11_file_147 rfl qImp.rf))))))))))))
def bX11_file_150 (G : Nat × Nat × Nat × Option (Nat × (Nat → Int32)) × (Option Value → qW → Prop)) : qK := (s_iconst 0 (AW (mX11_file, G) 151))
theorem oX11_file_150 (G : Nat × Nat × Nat × Option (Nat × (Nat → Int32)) × (Option Value → qW → Prop)) : qImp (bX11_file_150 G) (AW (mX11_file, G) 150) := (r_iconst dX11_file_150 rfl qImp.rf)
def bX11_file_151 (G : Nat × Nat × Nat × Option (Nat × (Nat → Int32)) × (Option Value → qW → Prop)) : qK := (s_iadd (s_istore 3 2 (s_iinc 4 3 1 (AW (mX11_file, G) 126))))
theorem oX11_file_151 (G : Nat × Nat × Nat × Option (Nat × (Nat → Int32)) × (Option Value → qW → Prop)) : qImp (bX11_file_151 G) (AW (mX11_file, G) 151) := (r_iadd dX11_file_151 (r_istore_n dX11_file_152 rfl (Or.inr rfl) (Nat.le_of_ble_eq_true rfl) (r_iinc dX11_file_153 rfl (Or.inr rfl) (Nat.le_of_ble_eq_true rfl) (r_goto (tgt := 126) dX11_file_156 rfl qImp.rf))))
def bX11_file_159 (G : Nat × Nat × Nat × Option (Nat × (Nat → Int32)) × (Option Value → qW → Prop)) : qK := (s_iload 3 (s_ireturn (mX11_file, G)))
theorem oX11_file_159 (G : Nat × Nat × Nat × Option (Nat × (Nat → Int32)) × (Option Value → qW → Prop)) : qImp (bX11_file_159 G) (AW (mX11_file, G) 159) := (r_iload_n dX11_file_159 rfl (r_ireturn dX11_file_160 rfl))
def bX11_file_161 (G : Nat × Nat × Nat × Option (Nat × (Nat → Int32)) × (Option Value → qW → Prop)) : qK := (s_aload 0 (s_iload 1 (AW (mX11_file, G) 163)))
theorem oX11_file_161 (G : Nat × Nat × Nat × Option (Nat × (Nat → Int32)) × (Option Value → qW → Prop)) : qImp (bX11_file_161 G) (AW (mX11_file, G) 161) := (r_aload_n dX11_file_161 rfl (r_iload_n dX11_file_162 rfl qImp.rf))
def bX11_file_166 (G : Nat × Nat × Nat × Option (Nat × (Nat → Int32)) × (Option Value → qW → Prop)) : qK := (s_ireturn (mX11_file, G))
theorem oX11_file_166 (G : Nat × Nat × Nat × Option (Nat × (Nat → Int32)) × (Option Value → qW → Prop)) : qImp (bX11_file_166 G) (AW (mX11_file, G) 166) := (r_ireturn dX11_file_166 rfl)
def bX11_file_167 (G : Nat × Nat × Nat × Option (Nat × (Nat → Int32)) × (Option Value → qW → Prop)) : qK := (s_aload 0 (s_iload 1 (AW (mX11_file, G) 169)))
theorem oX11_file_167 (G : Nat × Nat × Nat × Option (Nat × (Nat → Int32)) × (Option Value → qW → Prop)) : qImp (bX11_file_167 G) (AW (mX11_file, G) 167) := (r_aload_n dX11_file_167 rfl (r_iload_n dX11_file_168 rfl qImp.rf))
def bX11_file_172 (G : Nat × Nat × Nat × Option (Nat × (Nat → Int32)) × (Option Value → qW → Prop)) : qK := (s_ireturn (mX11_file, G))
theorem oX11_file_172 (G : Nat × Nat × Nat × Option (Nat × (Nat → Int32)) × (Option Value → qW → Prop)) : qImp (bX11_file_172 G) (AW (mX11_file, G) 172) := (r_ireturn dX11_file_172 rfl)
def bX11_file_173 (G : Nat × Nat × Nat × Option (Nat × (Nat → Int32)) × (Option Value → qW → Prop)) : qK := (s_iconst 0 (s_istore 4 3 (AW (mX11_file, G) 176)))
theorem oX11_file_173 (G : Nat × Nat × Nat × Option (Nat × (Nat → Int32)) × (Option Value → qW → Prop)) : qImp (bX11_file_173 G) (AW (mX11_file, G) 173) := (r_iconst dX11_file_173 rfl (r_istore dX11_file_174 (Or.inr rfl) (Nat.le_of_ble_eq_true rfl) qImp.rf))
def bX11_file_176 (G : Nat × Nat × Nat × Option (Nat × (Nat → Int32)) × (Option Value → qW → Prop)) : qK := (s_iload 4 (s_aload 0 (s_getfield 11 5 (s_ic_ge (AW (mX11_file, G) 224) (s_iload 3 (s_aload 0 (s_getfield 11 8 (s_aload 0 (s_getfield 11 18 (s_iload 4 (s_iaload (mX11_file, G) (s_iaload (mX11_file, G) (s_iload 1 (s_ic_ne (AW (mX11_file, G) 215) (s_aload 0 (s_iload 4 (AW (mX11_file, G) 205)))))))))))))))))
theorem oX11_file_176 (G : Nat × Nat × Nat × Option (Nat × (Nat → Int32)) × (Option Value → qW → Prop)) : qImp (bX11_file_176 G) (AW (mX11_file, G) 176) := (r_iload dX11_file_176 (r_aload_n dX11_file_178 rfl (r_getfield dX11_file_179 fgX11_242 (r_ic_ge (tgt := 224) dX11_file_182 rfl qImp.rf (r_iload_n dX11_file_185 rfl (r_aload_n dX11_file_186 rfl (r_getfield dX11_file_187 fgX11_17 (r_aload_n dX11_file_190 rfl (r_getfield dX11_file_191 fgX11_47 (r_iload dX11_file_194 (r_iaload dX11_file_196 (r_iaload dX11_file_197 (r_iload_n dX11_file_198 rfl (r_ic_ne (tgt := 215) dX11_file_199 rfl qImp.rf (r_aload_n dX11_file_202 rfl (r_iload dX11_file_203 qImp.rf))))))))))))))))
def bX11_file_208 (G : Nat × Nat × Nat × Option (Nat × (Nat → Int32)) × (Option Value → qW → Prop)) : qK := (s_if_eq (AW (mX11_file, G) 215) (s_iconst 1 (AW (mX11_file, G) 216)))
theorem oX11_file_208 (G : Nat × Nat × Nat × Option (Nat × (Nat → Int32)) × (Option Value → qW → Prop)) : qImp (bX11_file_208 G) (AW (mX11_file, G) 208) := (r_if_eq (tgt := 215) dX11_file_208 rfl qImp.rf (r_iconst dX11_file_211 rfl (r_goto (tgt := 216) dX11_file_212 rfl qImp.rf)))
def bX11_file_215 (G : Nat × Nat × Nat × Option (Nat × (Nat → Int32)) × (Option Value → qW → Prop)) : qK := (s_iconst 0 (AW (mX11_file, G) 216))
theorem oX11_file_215 (G : Nat × Nat × Nat × Option (Nat × (Nat → Int32)) × (Option Value → qW → Prop)) : qImp (bX11_file_215 G) (AW (mX11_file, G) 215) := (r_iconst dX11_file_215 rfl qImp.rf)
def bX11_file_216 (G : Nat × Nat × Nat × Option (Nat × (Nat → Int32)) × (Option Value → qW → Prop)) : qK := (s_iadd (s_istore 3 2 (s_iinc 4 3 1 (AW (mX11_file, G) 176))))
theorem oX11_file_216 (G : Nat × Nat × Nat × Option (Nat × (Nat → Int32)) × (Option Value → qW → Prop)) : qImp (bX11_file_216 G) (AW (mX11_file, G) 216) := (r_iadd dX11_file_216 (r_istore_n dX11_file_217 rfl (Or.inr rfl) (Nat.le_of_ble_eq_true rfl) (r_iinc dX11_file_218 rfl (Or.inr rfl) (Nat.le_of_ble_eq_true rfl) (r_goto (tgt := 176) dX11_file_221 rfl qImp.rf))))
def bX11_file_224 (G : Nat × Nat × Nat × Option (Nat × (Nat → Int32)) × (Option Value → qW → Prop)) : qK := (s_iload 3 (s_ireturn (mX11_file, G)))
theorem oX11_file_224 (G : Nat × Nat × Nat × Option (Nat × (Nat → Int32)) × (Option Value → qW → Prop)) : qImp (bX11_file_224 G) (AW (mX11_file, G) 224) := (r_iload_n dX11_file_224 rfl (r_ireturn dX11_file_225 rfl))
def bX11_file_226 (G : Nat × Nat × Nat × Option (Nat × (Nat → Int32)) × (Option Value → qW → Prop)) : qK := (s_iconst (-1) (s_ireturn (mX11_file, G)))
theorem oX11_file_226 (G : Nat × Nat × Nat × Option (Nat × (Nat → Int32)) × (Option Value → qW → Prop)) : qImp (bX11_file_226 G) (AW (mX11_file, G) 226) := (r_iconst dX11_file_226 rfl (r_ireturn dX11_file_227 rfl))
theorem kX11_file_2 {G : Nat × Nat × Nat × Option (Nat × (Nat → Int32)) × (Option Value → qW → Prop)} {L : qL} {w : qW} {kc ks : Nat} {rest : List Value} {q : Nat} {x0 : Int32} {d mc ms : Nat} {Q : Option Value → qW → Prop} (hC : CT mX11_isFile d mc ms [.ref q, .int x0] w Q) (hq : qci w q = some 11) (hst : rest.length ≤ 4) (hdp : d + 1 ≤ G.1) (hmc : kc + mc ≤ G.2.1 ∧ ks + ms ≤ G.2.2.1) (k : ∀ r w', Q r w' → AW (mX11_file, G) 5 L (r.toList ++ rest) w' (kc + mc) (ks + ms)) : AW (mX11_file, G) 2 L (.int x0 :: .ref q :: rest) w kc ks := a_callV [.int x0] rest dX11_file_2 vX11_isFile lk1050 hC hq rfl rfl hst hdp hmc k
theorem kX11_file_66 {G : Nat × Nat × Nat × Option (Nat × (Nat → Int32)) × (Option Value → qW → Prop)} {L : qL} {w : qW} {kc ks : Nat} {rest : List Value} {q : Nat} {x0 : Int32} {d mc ms : Nat} {Q : Option Value → qW → Prop} (hC : CT mX11_isClean d mc ms [.ref q, .int x0] w Q) (hq : qci w q = some 11) (hst : rest.length ≤ 4) (hdp : d + 1 ≤ G.1) (hmc : kc + mc ≤ G.2.1 ∧ ks + ms ≤ G.2.2.1) (k : ∀ r w', Q r w' → AW (mX11_file, G) 69 L (r.toList ++ rest) w' (kc + mc) (ks + ms)) : AW (mX11_file, G) 66 L (.int x0 :: .ref q :: rest) w kc ks := a_callV [.int x0] rest dX11_file_66 vX11_isClean lk1152 hC hq rfl rfl hst hdp hmc k
theorem kX11_file_80 {G : Nat × Nat × Nat × Option (Nat × (Nat → Int32)) × (Option Value → qW → Prop)} {L : qL} {w : qW} {kc ks : Nat} {rest : List Value} {q : Nat} {x0 : Int32} {d mc ms : Nat} {Q : Option Value → qW → Prop} (hC : CT mX11_isCalled d mc ms [.ref q, .int x0] w Q) (hq : qci w q = some 11) (hst : rest.length ≤ 4) (hdp : d + 1 ≤ G.1) (hmc : kc + mc ≤ G.2.1 ∧ ks + ms ≤ G.2.2.1) (k : ∀ r w', Q r w' → AW (mX11_file, G) 83 L (r.toList ++ rest) w' (kc + mc) (ks + ms)) : AW (mX11_file, G) 80 L (.int x0 :: .ref q :: rest) w kc ks := a_callV [.int x0] rest dX11_file_80 vX11_isCalled lk1177 hC hq rfl rfl hst hdp hmc k
theorem kX11_file_96 {G : Nat × Nat × Nat × Option (Nat × (Nat → Int32)) × (Option Value → qW → Prop)} {L : qL} {w : qW} {kc ks : Nat} {rest : List Value} {q : Nat} {x0 : Int32} {x1 : Int32} {x2 : Int32} {d mc ms : Nat} {Q : Option Value → qW → Prop} (hC : CT mX11_handsWith d mc ms [.ref q, .int x0, .int x1, .int x2] w Q) (hq : qci w q = some 11) (hst : rest.length ≤ 4) (hdp : d + 1 ≤ G.1) (hmc : kc + mc ≤ G.2.1 ∧ ks + ms ≤ G.2.2.1) (k : ∀ r w', Q r w' → AW (mX11_file, G) 99 L (r.toList ++ rest) w' (kc + mc) (ks + ms)) : AW (mX11_file, G) 96 L (.int x2 :: .int x1 :: .int x0 :: .ref q :: rest) w kc ks := a_callV [.int x0, .int x1, .int x2] rest dX11_file_96 vX11_handsWith lk1164 hC hq rfl rfl hst hdp hmc k
theorem kX11_file_105 {G : Nat × Nat × Nat × Option (Nat × (Nat → Int32)) × (Option Value → qW → Prop)} {L : qL} {w : qW} {kc ks : Nat} {rest : List Value} {q : Nat} {x0 : Int32} {d mc ms : Nat} {Q : Option Value → qW → Prop} (hC : CT mX11_makersOf d mc ms [.ref q, .int x0] w Q) (hq : qci w q = some 11) (hst : rest.length ≤ 4) (hdp : d + 1 ≤ G.1) (hmc : kc + mc ≤ G.2.1 ∧ ks + ms ≤ G.2.2.1) (k : ∀ r w', Q r w' → AW (mX11_file, G) 108 L (r.toList ++ rest) w' (kc + mc) (ks + ms)) : AW (mX11_file, G) 105 L (.int x0 :: .ref q :: rest) w kc ks := a_callV [.int x0] rest dX11_file_105 vX11_makersOf lk1145 hC hq rfl rfl hst hdp hmc k
theorem kX11_file_108 {G : Nat × Nat × Nat × Option (Nat × (Nat → Int32)) × (Option Value → qW → Prop)} {L : qL} {w : qW} {kc ks : Nat} {rest : List Value} {q : Nat} {x0 : Int32} {x1 : Int32} {x2 : Int32} {d mc ms : Nat} {Q : Option Value → qW → Prop} (hC : CT mX11_handsWith d mc ms [.ref q, .int x0, .int x1, .int x2] w Q) (hq : qci w q = some 11) (hst : rest.length ≤ 4) (hdp : d + 1 ≤ G.1) (hmc : kc + mc ≤ G.2.1 ∧ ks + ms ≤ G.2.2.1) (k : ∀ r w', Q r w' → AW (mX11_file, G) 111 L (r.toList ++ rest) w' (kc + mc) (ks + ms)) : AW (mX11_file, G) 108 L (.int x2 :: .int x1 :: .int x0 :: .ref q :: rest) w kc ks := a_callV [.int x0, .int x1, .int x2] rest dX11_file_108 vX11_handsWith lk1164 hC hq rfl rfl hst hdp hmc k
theorem kX11_file_114 {G : Nat × Nat × Nat × Option (Nat × (Nat → Int32)) × (Option Value → qW → Prop)} {L : qL} {w : qW} {kc ks : Nat} {rest : List Value} {q : Nat} {x0 : Int32} {d mc ms : Nat} {Q : Option Value → qW → Prop} (hC : CT mX11_builders d mc ms [.ref q, .int x0] w Q) (hq : qci w q = some 11) (hst : rest.length ≤ 4) (hdp : d + 1 ≤ G.1) (hmc : kc + mc ≤ G.2.1 ∧ ks + ms ≤ G.2.2.1) (k : ∀ r w', Q r w' → AW (mX11_file, G) 117 L (r.toList ++ rest) w' (kc + mc) (ks + ms)) : AW (mX11_file, G) 114 L (.int x0 :: .ref q :: rest) w kc ks := a_callV [.int x0] rest dX11_file_114 vX11_builders lk1168 hC hq rfl rfl hst hdp hmc k
theorem kX11_file_120 {G : Nat × Nat × Nat × Option (Nat × (Nat → Int32)) × (Option Value → qW → Prop)} {L : qL} {w : qW} {kc ks : Nat} {rest : List Value} {q : Nat} {x0 : Int32} {d mc ms : Nat} {Q : Option Value → qW → Prop} (hC : CT mX11_rowOf d mc ms [.ref q, .int x0] w Q) (hq : qci w q = some 11) (hst : rest.length ≤ 4) (hdp : d + 1 ≤ G.1) (hmc : kc + mc ≤ G.2.1 ∧ ks + ms ≤ G.2.2.1) (k : ∀ r w', Q r w' → AW (mX11_file, G) 123 L (r.toList ++ rest) w' (kc + mc) (ks + ms)) : AW (mX11_file, G) 120 L (.int x0 :: .ref q :: rest) w kc ks := a_callV [.int x0] rest dX11_file_120 vX11_rowOf lk1064 hC hq rfl rfl hst hdp hmc k
theorem kX11_file_163 {G : Nat × Nat × Nat × Option (Nat × (Nat → Int32)) × (Option Value → qW → Prop)} {L : qL} {w : qW} {kc ks : Nat} {rest : List Value} {q : Nat} {x0 : Int32} {d mc ms : Nat} {Q : Option Value → qW → Prop} (hC : CT mX11_makersOf d mc ms [.ref q, .int x0] w Q) (hq : qci w q = some 11) (hst : rest.length ≤ 4) (hdp : d + 1 ≤ G.1) (hmc : kc + mc ≤ G.2.1 ∧ ks + ms ≤ G.2.2.1) (k : ∀ r w', Q r w' → AW (mX11_file, G) 166 L (r.toList ++ rest) w' (kc + mc) (ks + ms)) : AW (mX11_file, G) 163 L (.int x0 :: .ref q :: rest) w kc ks := a_callV [.int x0] rest dX11_file_163 vX11_makersOf lk1145 hC hq rfl rfl hst hdp hmc k
theorem kX11_file_169 {G : Nat × Nat × Nat × Option (Nat × (Nat → Int32)) × (Option Value → qW → Prop)} {L : qL} {w : qW} {kc ks : Nat} {rest : List Value} {q : Nat} {x0 : Int32} {d mc ms : Nat} {Q : Option Value → qW → Prop} (hC : CT mX11_placeOf d mc ms [.ref q, .int x0] w Q) (hq : qci w q = some 11) (hst : rest.length ≤ 4) (hdp : d + 1 ≤ G.1) (hmc : kc + mc ≤ G.2.1 ∧ ks + ms ≤ G.2.2.1) (k : ∀ r w', Q r w' → AW (mX11_file, G) 172 L (r.toList ++ rest) w' (kc + mc) (ks + ms)) : AW (mX11_file, G) 169 L (.int x0 :: .ref q :: rest) w kc ks := a_callV [.int x0] rest dX11_file_169 vX11_placeOf lk1133 hC hq rfl rfl hst hdp hmc k
theorem kX11_file_205 {G : Nat × Nat × Nat × Option (Nat × (Nat → Int32)) × (Option Value → qW → Prop)} {L : qL} {w : qW} {kc ks : Nat} {rest : List Value} {q : Nat} {x0 : Int32} {d mc ms : Nat} {Q : Option Value → qW → Prop} (hC : CT mX11_stands d mc ms [.ref q, .int x0] w Q) (hq : qci w q = some 11) (hst : rest.length ≤ 4) (hdp : d + 1 ≤ G.1) (hmc : kc + mc ≤ G.2.1 ∧ ks + ms ≤ G.2.2.1) (k : ∀ r w', Q r w' → AW (mX11_file, G) 208 L (r.toList ++ rest) w' (kc + mc) (ks + ms)) : AW (mX11_file, G) 205 L (.int x0 :: .ref q :: rest) w kc ks := a_callV [.int x0] rest dX11_file_205 vX11_stands lk1216 hC hq rfl rfl hst hdp hmc k
theorem dX11_hash_0 : decode cX11_hash 0 = .ok (.aload_n 0, 1) := by decide +kernel
theorem dX11_hash_1 : decode cX11_hash 1 = .ok (.iload_n 1, 1) := by decide +kernel
theorem dX11_hash_2 : decode cX11_hash 2 = .ok (.invokevirtual 130, 3) := by decide +kernel
theorem dX11_hash_5 : decode cX11_hash 5 = .ok (.ifCond .eq 12, 3) := by decide +kernel
theorem dX11_hash_8 : decode cX11_hash 8 = .ok (.aload_n 0, 1) := by decide +kernel
theorem dX11_hash_9 : decode cX11_hash 9 = .ok (.getfield 9, 3) := by decide +kernel
theorem dX11_hash_12 : decode cX11_hash 12 = .ok (.iload_n 1, 1) := by decide +kernel
theorem dX11_hash_13 : decode cX11_hash 13 = .ok (.laload, 1) := by decide +kernel
theorem dX11_hash_14 : decode cX11_hash 14 = .ok (.goto 4, 3) := by decide +kernel
theorem dX11_hash_17 : decode cX11_hash 17 = .ok (.lconst 0, 1) := by decide +kernel
theorem dX11_hash_18 : decode cX11_hash 18 = .ok (.lreturn, 1) := by decide +kernel
/-! SealLineModel.hash(I)J -/
theorem eX11_hash {d mc ms : Nat} {w : qW} {Q : Option Value → qW → Prop} {q : Nat} {x0 : Int32} (h : AW (mX11_hash, d, mc, ms, none, Q) 0 [some (.ref q), some (.int x0)] [] w 0 0) : CT mX11_hash d mc ms [.ref q, .int x0] w Q := CT_of (by decide +kernel) rfl (Nat.le_of_ble_eq_true rfl) h
def bX11_hash_0 (G : Nat × Nat × Nat × Option (Nat × (Nat → Int32)) × (Option Value → qW → Prop)) : qK := (s_aload 0 (s_iload 1 (AW (mX11_hash, G) 2)))
theorem oX11_hash_0 (G : Nat × Nat × Nat × Option (Nat × (Nat → Int32)) × (Option Value → qW → Prop)) : qImp (bX11_hash_0 G) (AW (mX11_hash, G) 0) := (r_aload_n dX11_hash_0 rfl (r_iload_n dX11_hash_1 rfl qImp.rf))
def bX11_hash_5 (G : Nat × Nat × Nat × Option (Nat × (Nat → Int32)) × (Option Value → qW → Prop)) : qK := (s_if_eq (AW (mX11_hash, G) 17) (s_aload 0 (s_getfield 11 6 (s_iload 1 (s_laload (AW (mX11_hash, G) 18))))))
theorem oX11_hash_5 (G : Nat × Nat × Nat × Option (Nat × (Nat → Int32)) × (Option Value → qW → Prop)) : qImp (bX11_hash_5 G) (AW (mX11_hash, G) 5) := (r_if_eq (tgt := 17) dX11_hash_5 rfl qImp.rf (r_aload_n dX11_hash_8 rfl (r_getfield dX11_hash_9 fgX11_9 (r_iload_n dX11_hash_12 rfl (r_laload dX11_hash_13 (r_goto (tgt := 18) dX11_hash_14 rfl qImp.rf))))))
def bX11_hash_17 (G : Nat × Nat × Nat × Option (Nat × (Nat → Int32)) × (Option Value → qW → Prop)) : qK := (s_lconst 0 (AW (mX11_hash, G) 18))
theorem oX11_hash_17 (G : Nat × Nat × Nat × Option (Nat × (Nat → Int32)) × (Option Value → qW → Prop)) : qImp (bX11_hash_17 G) (AW (mX11_hash, G) 17) := (r_lconst dX11_hash_17 rfl qImp.rf)
def bX11_hash_18 (G : Nat × Nat × Nat × Option (Nat × (Nat → Int32)) × (Option Value → qW → Prop)) : qK := (s_lreturn (mX11_hash, G))
theorem oX11_hash_18 (G : Nat × Nat × Nat × Option (Nat × (Nat → Int32)) × (Option Value → qW → Prop)) : qImp (bX11_hash_18 G) (AW (mX11_hash, G) 18) := (r_lreturn dX11_hash_18 rfl)
theorem kX11_hash_2 {G : Nat × Nat × Nat × Option (Nat × (Nat → Int32)) × (Option Value → qW → Prop)} {L : qL} {w : qW} {kc ks : Nat} {rest : List Value} {q : Nat} {x0 : Int32} {d mc ms : Nat} {Q : Option Value → qW → Prop} (hC : CT mX11_isFile d mc ms [.ref q, .int x0] w Q) (hq : qci w q = some 11) (hst : rest.length ≤ 4) (hdp : d + 1 ≤ G.1) (hmc : kc + mc ≤ G.2.1 ∧ ks + ms ≤ G.2.2.1) (k : ∀ r w', Q r w' → AW (mX11_hash, G) 5 L (r.toList ++ rest) w' (kc + mc) (ks + ms)) : AW (mX11_hash, G) 2 L (.int x0 :: .ref q :: rest) w kc ks := a_callV [.int x0] rest dX11_hash_2 vX11_isFile lk1050 hC hq rfl rfl hst hdp hmc k
theorem dX11_sealed_0 : decode cX11_sealed 0 = .ok (.iload_n 1, 1) := by decide +kernel
theorem dX11_sealed_1 : decode cX11_sealed 1 = .ok (.iconst 0, 1) := by decide +kernel
theorem dX11_sealed_2 : decode cX11_sealed 2 = .ok (.aload_n 0, 1) := by decide +kernel
theorem dX11_sealed_3 : decode cX11_sealed 3 = .ok (.getfield 242, 3) := by decide +kernel
theorem dX11_sealed_6 : decode cX11_sealed 6 = .ok (.iconst 1, 1) := by decide +kernel
theorem dX11_sealed_7 : decode cX11_sealed 7 = .ok (.isub, 1) := by decide +kernel
theorem dX11_sealed_8 : decode cX11_sealed 8 = .ok (.invokestatic 100, 3) := by decide +kernel
theorem dX11_sealed_11 : decode cX11_sealed 11 = .ok (.ifCond .ne 5, 3) := by decide +kernel
theorem dX11_sealed_14 : decode cX11_sealed 14 = .ok (.iconst (-1), 1) := by decide +kernel
theorem dX11_sealed_15 : decode cX11_sealed 15 = .ok (.ireturn, 1) := by decide +kernel
theorem dX11_sealed_16 : decode cX11_sealed 16 = .ok (.aload_n 0, 1) := by decide +kernel
theorem dX11_sealed_17 : decode cX11_sealed 17 = .ok (.getfield 47, 3) := by decide +kernel
theorem dX11_sealed_20 : decode cX11_sealed 20 = .ok (.iload_n 1, 1) := by decide +kernel
theorem dX11_sealed_21 : decode cX11_sealed 21 = .ok (.iaload, 1) := by decide +kernel
theorem dX11_sealed_22 : decode cX11_sealed 22 = .ok (.istore_n 3, 1) := by decide +kernel
theorem dX11_sealed_23 : decode cX11_sealed 23 = .ok (.iload_n 2, 1) := by decide +kernel
theorem dX11_sealed_24 : decode cX11_sealed 24 = .ok (.tableswitch 95 0 6 #[44, 51, 58, 60, 67, 74, 81], 44) := by decide +kernel
theorem dX11_sealed_68 : decode cX11_sealed 68 = .ok (.aload_n 0, 1) := by decide +kernel
theorem dX11_sealed_69 : decode cX11_sealed 69 = .ok (.getfield 17, 3) := by decide +kernel
theorem dX11_sealed_72 : decode cX11_sealed 72 = .ok (.iload_n 3, 1) := by decide +kernel
theorem dX11_sealed_73 : decode cX11_sealed 73 = .ok (.iaload, 1) := by decide +kernel
theorem dX11_sealed_74 : decode cX11_sealed 74 = .ok (.ireturn, 1) := by decide +kernel
theorem dX11_sealed_75 : decode cX11_sealed 75 = .ok (.aload_n 0, 1) := by decide +kernel
theorem dX11_sealed_76 : decode cX11_sealed 76 = .ok (.getfield 41, 3) := by decide +kernel
theorem dX11_sealed_79 : decode cX11_sealed 79 = .ok (.iload_n 3, 1) := by decide +kernel
theorem dX11_sealed_80 : decode cX11_sealed 80 = .ok (.iaload, 1) := by decide +kernel
theorem dX11_sealed_81 : decode cX11_sealed 81 = .ok (.ireturn, 1) := by decide +kernel
theorem dX11_sealed_82 : decode cX11_sealed 82 = .ok (.iload_n 3, 1) := by decide +kernel
theorem dX11_sealed_83 : decode cX11_sealed 83 = .ok (.ireturn, 1) := by decide +kernel
theorem dX11_sealed_84 : decode cX11_sealed 84 = .ok (.aload_n 0, 1) := by decide +kernel
theorem dX11_sealed_85 : decode cX11_sealed 85 = .ok (.getfield 20, 3) := by decide +kernel
theorem dX11_sealed_88 : decode cX11_sealed 88 = .ok (.iload_n 3, 1) := by decide +kernel
theorem dX11_sealed_89 : decode cX11_sealed 89 = .ok (.iaload, 1) := by decide +kernel
theorem dX11_sealed_90 : decode cX11_sealed 90 = .ok (.ireturn, 1) := by decide +kernel
theorem dX11_sealed_91 : decode cX11_sealed 91 = .ok (.aload_n 0, 1) := by decide +kernel
theorem dX11_sealed_92 : decode cX11_sealed 92 = .ok (.getfield 23, 3) := by decide +kernel
theorem dX11_sealed_95 : decode cX11_sealed 95 = .ok (.iload_n 3, 1) := by decide +kernel
theorem dX11_sealed_96 : decode cX11_sealed 96 = .ok (.iaload, 1) := by decide +kernel
theorem dX11_sealed_97 : decode cX11_sealed 97 = .ok (.ireturn, 1) := by decide +kernel
theorem dX11_sealed_98 : decode cX11_sealed 98 = .ok (.aload_n 0, 1) := by decide +kernel
theorem dX11_sealed_99 : decode cX11_sealed 99 = .ok (.getfield 44, 3) := by decide +kernel
theorem dX11_sealed_102 : decode cX11_sealed 102 = .ok (.iload_n 3, 1) := by decide +kernel
theorem dX11_sealed_103 : decode cX11_sealed 103 = .ok (.iaload, 1) := by decide +kernel
theorem dX11_sealed_104 : decode cX11_sealed 104 = .ok (.ireturn, 1) := by decide +kernel
theorem dX11_sealed_105 : decode cX11_sealed 105 = .ok (.aload_n 0, 1) := by decide +kernel
theorem dX11_sealed_106 : decode cX11_sealed 106 = .ok (.iload_n 1, 1) := by decide +kernel
theorem dX11_sealed_107 : decode cX11_sealed 107 = .ok (.invokevirtual 249, 3) := by decide +kernel
theorem dX11_sealed_110 : decode cX11_sealed 110 = .ok (.ifCond .eq 7, 3) := by decide +kernel
theorem dX11_sealed_113 : decode cX11_sealed 113 = .ok (.iconst 1, 1) := by decide +kernel
theorem dX11_sealed_114 : decode cX11_sealed 114 = .ok (.goto 4, 3) := by decide +kernel
theorem dX11_sealed_117 : decode cX11_sealed 117 = .ok (.iconst 0, 1) := by decide +kernel
theorem dX11_sealed_118 : decode cX11_sealed 118 = .ok (.ireturn, 1) := by decide +kernel
theorem dX11_sealed_119 : decode cX11_sealed 119 = .ok (.iconst (-1), 1) := by decide +kernel
theorem dX11_sealed_120 : decode cX11_sealed 120 = .ok (.ireturn, 1) := by decide +kernel
/-! SealLineModel.sealed(II)I -/
theorem eX11_sealed {d mc ms : Nat} {w : qW} {Q : Option Value → qW → Prop} {q : Nat} {x0 : Int32} {x1 : Int32} (h : AW (mX11_sealed, d, mc, ms, none, Q) 0 [some (.ref q), some (.int x0), some (.int x1), none] [] w 0 0) : CT mX11_sealed d mc ms [.ref q, .int x0, .int x1] w Q := CT_of (by decide +kernel) rfl (Nat.le_of_ble_eq_true rfl) h
def bX11_sealed_0 (G : Nat × Nat × Nat × Option (Nat × (Nat → Int32)) × (Option Value → qW → Prop)) : qK := (s_iload 1 (s_iconst 0 (s_aload 0 (s_getfield 11 5 (s_iconst 1 (s_isub (AW (mX11_sealed, G) 8)))))))
theorem oX11_sealed_0 (G : Nat × Nat × Nat × Option (Nat × (Nat → Int32)) × (Option Value → qW → Prop)) : qImp (bX11_sealed_0 G) (AW (mX11_sealed, G) 0) := (r_iload_n dX11_sealed_0 rfl (r_iconst dX11_sealed_1 rfl (r_aload_n dX11_sealed_2 rfl (r_getfield dX11_sealed_3 fgX11_242 (r_iconst dX11_sealed_6 rfl (r_isub dX11_sealed_7 qImp.rf))))))
def bX11_sealed_11 (G : Nat × Nat × Nat × Option (Nat × (Nat → Int32)) × (Option Value → qW → Prop)) : qK := (s_if_ne (AW (mX11_sealed, G) 16) (s_iconst (-1) (s_ireturn (mX11_sealed, G))))
theorem oX11_sealed_11 (G : Nat × Nat × Nat × Option (Nat × (Nat → Int32)) × (Option Value → qW → Prop)) : qImp (bX11_sealed_11 G) (AW (mX11_sealed, G) 11) := (r_if_ne (tgt := 16) dX11_sealed_11 rfl qImp.rf (r_iconst dX11_sealed_14 rfl (r_ireturn dX11_sealed_15 rfl)))
def bX11_sealed_16 (G : Nat × Nat × Nat × Option (Nat × (Nat → Int32)) × (Option Value → qW → Prop)) : qK := (s_aload 0 (s_getfield 11 18 (s_iload 1 (s_iaload (mX11_sealed, G) (s_istore 3 2 (s_iload 2 (AW (mX11_sealed, G) 24)))))))
theorem oX11_sealed_16 (G : Nat × Nat × Nat × Option (Nat × (Nat → Int32)) × (Option Value → qW → Prop)) : qImp (bX11_sealed_16 G) (AW (mX11_sealed, G) 16) := (r_aload_n dX11_sealed_16 rfl (r_getfield dX11_sealed_17 fgX11_47 (r_iload_n dX11_sealed_20 rfl (r_iaload dX11_sealed_21 (r_istore_n dX11_sealed_22 rfl (Or.inr rfl) (Nat.le_of_ble_eq_true rfl) (r_iload_n dX11_sealed_23 rfl qImp.rf))))))
def bX11_sealed_68 (G : Nat × Nat × Nat × Option (Nat × (Nat → Int32)) × (Option Value → qW → Prop)) : qK := (s_aload 0 (s_getfield 11 8 (s_iload 3 (s_iaload (mX11_sealed, G) (s_ireturn (mX11_sealed, G))))))
theorem oX11_sealed_68 (G : Nat × Nat × Nat × Option (Nat × (Nat → Int32)) × (Option Value → qW → Prop)) : qImp (bX11_sealed_68 G) (AW (mX11_sealed, G) 68) := (r_aload_n dX11_sealed_68 rfl (r_getfield dX11_sealed_69 fgX11_17 (r_iload_n dX11_sealed_72 rfl (r_iaload dX11_sealed_73 (r_ireturn dX11_sealed_74 rfl)))))
def bX11_sealed_75 (G : Nat × Nat × Nat × Option (Nat × (Nat → Int32)) × (Option Value → qW → Prop)) : qK := (s_aload 0 (s_getfield 11 16 (s_iload 3 (s_iaload (mX11_sealed, G) (s_ireturn (mX11_sealed, G))))))
theorem oX11_sealed_75 (G : Nat × Nat × Nat × Option (Nat × (Nat → Int32)) × (Option Value → qW → Prop)) : qImp (bX11_sealed_75 G) (AW (mX11_sealed, G) 75) := (r_aload_n dX11_sealed_75 rfl (r_getfield dX11_sealed_76 fgX11_41 (r_iload_n dX11_sealed_79 rfl (r_iaload dX11_sealed_80 (r_ireturn dX11_sealed_81 rfl)))))
def bX11_sealed_82 (G : Nat × Nat × Nat × Option (Nat × (Nat → Int32)) × (Option Value → qW → Prop)) : qK := (s_iload 3 (s_ireturn (mX11_sealed, G)))
theorem oX11_sealed_82 (G : Nat × Nat × Nat × Option (Nat × (Nat → Int32)) × (Option Value → qW → Prop)) : qImp (bX11_sealed_82 G) (AW (mX11_sealed, G) 82) := (r_iload_n dX11_sealed_82 rfl (r_ireturn dX11_sealed_83 rfl))
def bX11_sealed_84 (G : Nat × Nat × Nat × Option (Nat × (Nat → Int32)) × (Option Value → qW → Prop)) : qK := (s_aload 0 (s_getfield 11 9 (s_iload 3 (s_iaload (mX11_sealed, G) (s_ireturn (mX11_sealed, G))))))
theorem oX11_sealed_84 (G : Nat × Nat × Nat × Option (Nat × (Nat → Int32)) × (Option Value → qW → Prop)) : qImp (bX11_sealed_84 G) (AW (mX11_sealed, G) 84) := (r_aload_n dX11_sealed_84 rfl (r_getfield dX11_sealed_85 fgX11_20 (r_iload_n dX11_sealed_88 rfl (r_iaload dX11_sealed_89 (r_ireturn dX11_sealed_90 rfl)))))
def bX11_sealed_91 (G : Nat × Nat × Nat × Option (Nat × (Nat → Int32)) × (Option Value → qW → Prop)) : qK := (s_aload 0 (s_getfield 11 10 (s_iload 3 (s_iaload (mX11_sealed, G) (s_ireturn (mX11_sealed, G))))))
theorem oX11_sealed_91 (G : Nat × Nat × Nat × Option (Nat × (Nat → Int32)) × (Option Value → qW → Prop)) : qImp (bX11_sealed_91 G) (AW (mX11_sealed, G) 91) := (r_aload_n dX11_sealed_91 rfl (r_getfield dX11_sealed_92 fgX11_23 (r_iload_n dX11_sealed_95 rfl (r_iaload dX11_sealed_96 (r_ireturn dX11_sealed_97 rfl)))))
def bX11_sealed_98 (G : Nat × Nat × Nat × Option (Nat × (Nat → Int32)) × (Option Value → qW → Prop)) : qK := (s_aload 0 (s_getfield 11 17 (s_iload 3 (s_iaload (mX11_sealed, G) (s_ireturn (mX11_sealed, G))))))
theorem oX11_sealed_98 (G : Nat × Nat × Nat × Option (Nat × (Nat → Int32)) × (Option Value → qW → Prop)) : qImp (bX11_sealed_98 G) (AW (mX11_sealed, G) 98) := (r_aload_n dX11_sealed_98 rfl (r_getfield dX11_sealed_99 fgX11_44 (r_iload_n dX11_sealed_102 rfl (r_iaload dX11_sealed_103 (r_ireturn dX11_sealed_104 rfl)))))
def bX11_sealed_105 (G : Nat × Nat × Nat × Option (Nat × (Nat → Int32)) × (Option Value → qW → Prop)) : qK := (s_aload 0 (s_iload 1 (AW (mX11_sealed, G) 107)))
theorem oX11_sealed_105 (G : Nat × Nat × Nat × Option (Nat × (Nat → Int32)) × (Option Value → qW → Prop)) : qImp (bX11_sealed_105 G) (AW (mX11_sealed, G) 105) := (r_aload_n dX11_sealed_105 rfl (r_iload_n dX11_sealed_106 rfl qImp.rf))
def bX11_sealed_110 (G : Nat × Nat × Nat × Option (Nat × (Nat → Int32)) × (Option Value → qW → Prop)) : qK := (s_if_eq (AW (mX11_sealed, G) 117) (s_iconst 1 (AW (mX11_sealed, G) 118)))
theorem oX11_sealed_110 (G : Nat × Nat × Nat × Option (Nat × (Nat → Int32)) × (Option Value → qW → Prop)) : qImp (bX11_sealed_110 G) (AW (mX11_sealed, G) 110) := (r_if_eq (tgt := 117) dX11_sealed_110 rfl qImp.rf (r_iconst dX11_sealed_113 rfl (r_goto (tgt := 118) dX11_sealed_114 rfl qImp.rf)))
def bX11_sealed_117 (G : Nat × Nat × Nat × Option (Nat × (Nat → Int32)) × (Option Value → qW → Prop)) : qK := (s_iconst 0 (AW (mX11_sealed, G) 118))
theorem oX11_sealed_117 (G : Nat × Nat × Nat × Option (Nat × (Nat → Int32)) × (Option Value → qW → Prop)) : qImp (bX11_sealed_117 G) (AW (mX11_sealed, G) 117) := (r_iconst dX11_sealed_117 rfl qImp.rf)
def bX11_sealed_118 (G : Nat × Nat × Nat × Option (Nat × (Nat → Int32)) × (Option Value → qW → Prop)) : qK := (s_ireturn (mX11_sealed, G))
theorem oX11_sealed_118 (G : Nat × Nat × Nat × Option (Nat × (Nat → Int32)) × (Option Value → qW → Prop)) : qImp (bX11_sealed_118 G) (AW (mX11_sealed, G) 118) := (r_ireturn dX11_sealed_118 rfl)
def bX11_sealed_119 (G : Nat × Nat × Nat × Option (Nat × (Nat → Int32)) × (Option Value → qW → Prop)) : qK := (s_iconst (-1) (s_ireturn (mX11_sealed, G)))
theorem oX11_sealed_119 (G : Nat × Nat × Nat × Option (Nat × (Nat → Int32)) × (Option Value → qW → Prop)) : qImp (bX11_sealed_119 G) (AW (mX11_sealed, G) 119) := (r_iconst dX11_sealed_119 rfl (r_ireturn dX11_sealed_120 rfl))
theorem kX11_sealed_8 {G : Nat × Nat × Nat × Option (Nat × (Nat → Int32)) × (Option Value → qW → Prop)} {L : qL} {w : qW} {kc ks : Nat} {rest : List Value}  {x0 : Int32} {x1 : Int32} {x2 : Int32} {d mc ms : Nat} {Q : Option Value → qW → Prop} (hC : CT mX11_in d mc ms [.int x0, .int x1, .int x2] w Q) (hst : rest.length ≤ 4) (hdp : d + 1 ≤ G.1) (hmc : kc + mc ≤ G.2.1 ∧ ks + ms ≤ G.2.2.1) (k : ∀ r w', Q r w' → AW (mX11_sealed, G) 11 L (r.toList ++ rest) w' (kc + mc) (ks + ms)) : AW (mX11_sealed, G) 8 L (.int x2 :: .int x1 :: .int x0 :: rest) w kc ks := a_callS [.int x0, .int x1, .int x2] rest dX11_sealed_8 tX11_in lk1030 hC rfl hst hdp hmc k
theorem kX11_sealed_107 {G : Nat × Nat × Nat × Option (Nat × (Nat → Int32)) × (Option Value → qW → Prop)} {L : qL} {w : qW} {kc ks : Nat} {rest : List Value} {q : Nat} {x0 : Int32} {d mc ms : Nat} {Q : Option Value → qW → Prop} (hC : CT mX11_stands d mc ms [.ref q, .int x0] w Q) (hq : qci w q = some 11) (hst : rest.length ≤ 4) (hdp : d + 1 ≤ G.1) (hmc : kc + mc ≤ G.2.1 ∧ ks + ms ≤ G.2.2.1) (k : ∀ r w', Q r w' → AW (mX11_sealed, G) 110 L (r.toList ++ rest) w' (kc + mc) (ks + ms)) : AW (mX11_sealed, G) 107 L (.int x0 :: .ref q :: rest) w kc ks := a_callV [.int x0] rest dX11_sealed_107 vX11_stands lk1216 hC hq rfl rfl hst hdp hmc k
theorem dX11_note_0 : decode cX11_note 0 = .ok (.iload_n 1, 1) := by decide +kernel
theorem dX11_note_1 : decode cX11_note 1 = .ok (.iconst 0, 1) := by decide +kernel
theorem dX11_note_2 : decode cX11_note 2 = .ok (.aload_n 0, 1) := by decide +kernel
theorem dX11_note_3 : decode cX11_note 3 = .ok (.getfield 104, 3) := by decide +kernel
theorem dX11_note_6 : decode cX11_note 6 = .ok (.iconst 1, 1) := by decide +kernel
theorem dX11_note_7 : decode cX11_note 7 = .ok (.isub, 1) := by decide +kernel
theorem dX11_note_8 : decode cX11_note 8 = .ok (.invokestatic 100, 3) := by decide +kernel
theorem dX11_note_11 : decode cX11_note 11 = .ok (.ifCond .ne 5, 3) := by decide +kernel
theorem dX11_note_14 : decode cX11_note 14 = .ok (.iconst (-1), 1) := by decide +kernel
theorem dX11_note_15 : decode cX11_note 15 = .ok (.ireturn, 1) := by decide +kernel
theorem dX11_note_16 : decode cX11_note 16 = .ok (.iload_n 2, 1) := by decide +kernel
theorem dX11_note_17 : decode cX11_note 17 = .ok (.tableswitch 103 0 7 #[47, 54, 61, 68, 75, 82, 89, 96], 47) := by decide +kernel
theorem dX11_note_64 : decode cX11_note 64 = .ok (.aload_n 0, 1) := by decide +kernel
theorem dX11_note_65 : decode cX11_note 65 = .ok (.getfield 13, 3) := by decide +kernel
theorem dX11_note_68 : decode cX11_note 68 = .ok (.iload_n 1, 1) := by decide +kernel
theorem dX11_note_69 : decode cX11_note 69 = .ok (.iaload, 1) := by decide +kernel
theorem dX11_note_70 : decode cX11_note 70 = .ok (.ireturn, 1) := by decide +kernel
theorem dX11_note_71 : decode cX11_note 71 = .ok (.aload_n 0, 1) := by decide +kernel
theorem dX11_note_72 : decode cX11_note 72 = .ok (.getfield 17, 3) := by decide +kernel
theorem dX11_note_75 : decode cX11_note 75 = .ok (.iload_n 1, 1) := by decide +kernel
theorem dX11_note_76 : decode cX11_note 76 = .ok (.iaload, 1) := by decide +kernel
theorem dX11_note_77 : decode cX11_note 77 = .ok (.ireturn, 1) := by decide +kernel
theorem dX11_note_78 : decode cX11_note 78 = .ok (.aload_n 0, 1) := by decide +kernel
theorem dX11_note_79 : decode cX11_note 79 = .ok (.getfield 20, 3) := by decide +kernel
theorem dX11_note_82 : decode cX11_note 82 = .ok (.iload_n 1, 1) := by decide +kernel
theorem dX11_note_83 : decode cX11_note 83 = .ok (.iaload, 1) := by decide +kernel
theorem dX11_note_84 : decode cX11_note 84 = .ok (.ireturn, 1) := by decide +kernel
theorem dX11_note_85 : decode cX11_note 85 = .ok (.aload_n 0, 1) := by decide +kernel
theorem dX11_note_86 : decode cX11_note 86 = .ok (.getfield 26, 3) := by decide +kernel
theorem dX11_note_89 : decode cX11_note 89 = .ok (.iload_n 1, 1) := by decide +kernel
theorem dX11_note_90 : decode cX11_note 90 = .ok (.iaload, 1) := by decide +kernel
theorem dX11_note_91 : decode cX11_note 91 = .ok (.ireturn, 1) := by decide +kernel
theorem dX11_note_92 : decode cX11_note 92 = .ok (.aload_n 0, 1) := by decide +kernel
theorem dX11_note_93 : decode cX11_note 93 = .ok (.getfield 29, 3) := by decide +kernel
theorem dX11_note_96 : decode cX11_note 96 = .ok (.iload_n 1, 1) := by decide +kernel
theorem dX11_note_97 : decode cX11_note 97 = .ok (.iaload, 1) := by decide +kernel
theorem dX11_note_98 : decode cX11_note 98 = .ok (.ireturn, 1) := by decide +kernel
theorem dX11_note_99 : decode cX11_note 99 = .ok (.aload_n 0, 1) := by decide +kernel
theorem dX11_note_100 : decode cX11_note 100 = .ok (.getfield 32, 3) := by decide +kernel
theorem dX11_note_103 : decode cX11_note 103 = .ok (.iload_n 1, 1) := by decide +kernel
theorem dX11_note_104 : decode cX11_note 104 = .ok (.iaload, 1) := by decide +kernel
theorem dX11_note_105 : decode cX11_note 105 = .ok (.ireturn, 1) := by decide +kernel
theorem dX11_note_106 : decode cX11_note 106 = .ok (.aload_n 0, 1) := by decide +kernel
theorem dX11_note_107 : decode cX11_note 107 = .ok (.getfield 35, 3) := by decide +kernel
theorem dX11_note_110 : decode cX11_note 110 = .ok (.iload_n 1, 1) := by decide +kernel
theorem dX11_note_111 : decode cX11_note 111 = .ok (.iaload, 1) := by decide +kernel
theorem dX11_note_112 : decode cX11_note 112 = .ok (.ireturn, 1) := by decide +kernel
theorem dX11_note_113 : decode cX11_note 113 = .ok (.aload_n 0, 1) := by decide +kernel
theorem dX11_note_114 : decode cX11_note 114 = .ok (.getfield 38, 3) := by decide +kernel
theorem dX11_note_117 : decode cX11_note 117 = .ok (.iload_n 1, 1) := by decide +kernel
theorem dX11_note_118 : decode cX11_note 118 = .ok (.iaload, 1) := by decide +kernel
theorem dX11_note_119 : decode cX11_note 119 = .ok (.ireturn, 1) := by decide +kernel
theorem dX11_note_120 : decode cX11_note 120 = .ok (.iconst (-1), 1) := by decide +kernel
theorem dX11_note_121 : decode cX11_note 121 = .ok (.ireturn, 1) := by decide +kernel
/-! SealLineModel.note(II)I -/
theorem eX11_note {d mc ms : Nat} {w : qW} {Q : Option Value → qW → Prop} {q : Nat} {x0 : Int32} {x1 : Int32} (h : AW (mX11_note, d, mc, ms, none, Q) 0 [some (.ref q), some (.int x0), some (.int x1)] [] w 0 0) : CT mX11_note d mc ms [.ref q, .int x0, .int x1] w Q := CT_of (by decide +kernel) rfl (Nat.le_of_ble_eq_true rfl) h
def bX11_note_0 (G : Nat × Nat × Nat × Option (Nat × (Nat → Int32)) × (Option Value → qW → Prop)) : qK := (s_iload 1 (s_iconst 0 (s_aload 0 (s_getfield 11 0 (s_iconst 1 (s_isub (AW (mX11_note, G) 8)))))))
theorem oX11_note_0 (G : Nat × Nat × Nat × Option (Nat × (Nat → Int32)) × (Option Value → qW → Prop)) : qImp (bX11_note_0 G) (AW (mX11_note, G) 0) := (r_iload_n dX11_note_0 rfl (r_iconst dX11_note_1 rfl (r_aload_n dX11_note_2 rfl (r_getfield dX11_note_3 fgX11_104 (r_iconst dX11_note_6 rfl (r_isub dX11_note_7 qImp.rf))))))
def bX11_note_11 (G : Nat × Nat × Nat × Option (Nat × (Nat → Int32)) × (Option Value → qW → Prop)) : qK := (s_if_ne (AW (mX11_note, G) 16) (s_iconst (-1) (s_ireturn (mX11_note, G))))
theorem oX11_note_11 (G : Nat × Nat × Nat × Option (Nat × (Nat → Int32)) × (Option Value → qW → Prop)) : qImp (bX11_note_11 G) (AW (mX11_note, G) 11) := (r_if_ne (tgt := 16) dX11_note_11 rfl qImp.rf (r_iconst dX11_note_14 rfl (r_ireturn dX11_note_15 rfl)))
def bX11_note_16 (G : Nat × Nat × Nat × Option (Nat × (Nat → Int32)) × (Option Value → qW → Prop)) : qK := (s_iload 2 (AW (mX11_note, G) 17))
theorem oX11_note_16 (G : Nat × Nat × Nat × Option (Nat × (Nat → Int32)) × (Option Value → qW → Prop)) : qImp (bX11_note_16 G) (AW (mX11_note, G) 16) := (r_iload_n dX11_note_16 rfl qImp.rf)
def bX11_note_64 (G : Nat × Nat × Nat × Option (Nat × (Nat → Int32)) × (Option Value → qW → Prop)) : qK := (s_aload 0 (s_getfield 11 7 (s_iload 1 (s_iaload (mX11_note, G) (s_ireturn (mX11_note, G))))))
theorem oX11_note_64 (G : Nat × Nat × Nat × Option (Nat × (Nat → Int32)) × (Option Value → qW → Prop)) : qImp (bX11_note_64 G) (AW (mX11_note, G) 64) := (r_aload_n dX11_note_64 rfl (r_getfield dX11_note_65 fgX11_13 (r_iload_n dX11_note_68 rfl (r_iaload dX11_note_69 (r_ireturn dX11_note_70 rfl)))))
def bX11_note_71 (G : Nat × Nat × Nat × Option (Nat × (Nat → Int32)) × (Option Value → qW → Prop)) : qK := (s_aload 0 (s_getfield 11 8 (s_iload 1 (s_iaload (mX11_note, G) (s_ireturn (mX11_note, G))))))
theorem oX11_note_71 (G : Nat × Nat × Nat × Option (Nat × (Nat → Int32)) × (Option Value → qW → Prop)) : qImp (bX11_note_71 G) (AW (mX11_note, G) 71) := (r_aload_n dX11_note_71 rfl (r_getfield dX11_note_72 fgX11_17 (r_iload_n dX11_note_75 rfl (r_iaload dX11_note_76 (r_ireturn dX11_note_77 rfl)))))
def bX11_note_78 (G : Nat × Nat × Nat × Option (Nat × (Nat → Int32)) × (Option Value → qW → Prop)) : qK := (s_aload 0 (s_getfield 11 9 (s_iload 1 (s_iaload (mX11_note, G) (s_ireturn (mX11_note, G))))))
theorem oX11_note_78 (G : Nat × Nat × Nat × Option (Nat × (Nat → Int32)) × (Option Value → qW → Prop)) : qImp (bX11_note_78 G) (AW (mX11_note, G) 78) := (r_aload_n dX11_note_78 rfl (r_getfield dX11_note_79 fgX11_20 (r_iload_n dX11_note_82 rfl (r_iaload dX11_note_83 (r_ireturn dX11_note_84 rfl)))))
def bX11_note_85 (G : Nat × Nat × Nat × Option (Nat × (Nat → Int32)) × (Option Value → qW → Prop)) : qK := (s_aload 0 (s_getfield 11 11 (s_iload 1 (s_iaload (mX11_note, G) (s_ireturn (mX11_note, G))))))
theorem oX11_note_85 (G : Nat × Nat × Nat × Option (Nat × (Nat → Int32)) × (Option Value → qW → Prop)) : qImp (bX11_note_85 G) (AW (mX11_note, G) 85) := (r_aload_n dX11_note_85 rfl (r_getfield dX11_note_86 fgX11_26 (r_iload_n dX11_note_89 rfl (r_iaload dX11_note_90 (r_ireturn dX11_note_91 rfl)))))
def bX11_note_92 (G : Nat × Nat × Nat × Option (Nat × (Nat → Int32)) × (Option Value → qW → Prop)) : qK := (s_aload 0 (s_getfield 11 12 (s_iload 1 (s_iaload (mX11_note, G) (s_ireturn (mX11_note, G))))))
theorem oX11_note_92 (G : Nat × Nat × Nat × Option (Nat × (Nat → Int32)) × (Option Value → qW → Prop)) : qImp (bX11_note_92 G) (AW (mX11_note, G) 92) := (r_aload_n dX11_note_92 rfl (r_getfield dX11_note_93 fgX11_29 (r_iload_n dX11_note_96 rfl (r_iaload dX11_note_97 (r_ireturn dX11_note_98 rfl)))))
def bX11_note_99 (G : Nat × Nat × Nat × Option (Nat × (Nat → Int32)) × (Option Value → qW → Prop)) : qK := (s_aload 0 (s_getfield 11 13 (s_iload 1 (s_iaload (mX11_note, G) (s_ireturn (mX11_note, G))))))
theorem oX11_note_99 (G : Nat × Nat × Nat × Option (Nat × (Nat → Int32)) × (Option Value → qW → Prop)) : qImp (bX11_note_99 G) (AW (mX11_note, G) 99) := (r_aload_n dX11_note_99 rfl (r_getfield dX11_note_100 fgX11_32 (r_iload_n dX11_note_103 rfl (r_iaload dX11_note_104 (r_ireturn dX11_note_105 rfl)))))
def bX11_note_106 (G : Nat × Nat × Nat × Option (Nat × (Nat → Int32)) × (Option Value → qW → Prop)) : qK := (s_aload 0 (s_getfield 11 14 (s_iload 1 (s_iaload (mX11_note, G) (s_ireturn (mX11_note, G))))))
theorem oX11_note_106 (G : Nat × Nat × Nat × Option (Nat × (Nat → Int32)) × (Option Value → qW → Prop)) : qImp (bX11_note_106 G) (AW (mX11_note, G) 106) := (r_aload_n dX11_note_106 rfl (r_getfield dX11_note_107 fgX11_35 (r_iload_n dX11_note_110 rfl (r_iaload dX11_note_111 (r_ireturn dX11_note_112 rfl)))))
def bX11_note_113 (G : Nat × Nat × Nat × Option (Nat × (Nat → Int32)) × (Option Value → qW → Prop)) : qK := (s_aload 0 (s_getfield 11 15 (s_iload 1 (s_iaload (mX11_note, G) (s_ireturn (mX11_note, G))))))
theorem oX11_note_113 (G : Nat × Nat × Nat × Option (Nat × (Nat → Int32)) × (Option Value → qW → Prop)) : qImp (bX11_note_113 G) (AW (mX11_note, G) 113) := (r_aload_n dX11_note_113 rfl (r_getfield dX11_note_114 fgX11_38 (r_iload_n dX11_note_117 rfl (r_iaload dX11_note_118 (r_ireturn dX11_note_119 rfl)))))
def bX11_note_120 (G : Nat × Nat × Nat × Option (Nat × (Nat → Int32)) × (Option Value → qW → Prop)) : qK := (s_iconst (-1) (s_ireturn (mX11_note, G)))
theorem oX11_note_120 (G : Nat × Nat × Nat × Option (Nat × (Nat → Int32)) × (Option Value → qW → Prop)) : qImp (bX11_note_120 G) (AW (mX11_note, G) 120) := (r_iconst dX11_note_120 rfl (r_ireturn dX11_note_121 rfl))
theorem kX11_note_8 {G : Nat × Nat × Nat × Option (Nat × (Nat → Int32)) × (Option Value → qW → Prop)} {L : qL} {w : qW} {kc ks : Nat} {rest : List Value}  {x0 : Int32} {x1 : Int32} {x2 : Int32} {d mc ms : Nat} {Q : Option Value → qW → Prop} (hC : CT mX11_in d mc ms [.int x0, .int x1, .int x2] w Q) (hst : rest.length ≤ 4) (hdp : d + 1 ≤ G.1) (hmc : kc + mc ≤ G.2.1 ∧ ks + ms ≤ G.2.2.1) (k : ∀ r w', Q r w' → AW (mX11_note, G) 11 L (r.toList ++ rest) w' (kc + mc) (ks + ms)) : AW (mX11_note, G) 8 L (.int x2 :: .int x1 :: .int x0 :: rest) w kc ks := a_callS [.int x0, .int x1, .int x2] rest dX11_note_8 tX11_in lk1030 hC rfl hst hdp hmc k
theorem dX11_canHold_0 : decode cX11_canHold 0 = .ok (.iconst 0, 1) := by decide +kernel
theorem dX11_canHold_1 : decode cX11_canHold 1 = .ok (.istore_n 3, 1) := by decide +kernel
theorem dX11_canHold_2 : decode cX11_canHold 2 = .ok (.iload_n 3, 1) := by decide +kernel
theorem dX11_canHold_3 : decode cX11_canHold 3 = .ok (.iload_n 1, 1) := by decide +kernel
theorem dX11_canHold_4 : decode cX11_canHold 4 = .ok (.if_icmp .gt 55, 3) := by decide +kernel
theorem dX11_canHold_7 : decode cX11_canHold 7 = .ok (.iconst 0, 1) := by decide +kernel
theorem dX11_canHold_8 : decode cX11_canHold 8 = .ok (.istore 4, 2) := by decide +kernel
theorem dX11_canHold_10 : decode cX11_canHold 10 = .ok (.iload 4, 2) := by decide +kernel
theorem dX11_canHold_12 : decode cX11_canHold 12 = .ok (.iload_n 1, 1) := by decide +kernel
theorem dX11_canHold_13 : decode cX11_canHold 13 = .ok (.iload_n 2, 1) := by decide +kernel
theorem dX11_canHold_14 : decode cX11_canHold 14 = .ok (.isub, 1) := by decide +kernel
theorem dX11_canHold_15 : decode cX11_canHold 15 = .ok (.if_icmp .gt 38, 3) := by decide +kernel
theorem dX11_canHold_18 : decode cX11_canHold 18 = .ok (.iconst 0, 1) := by decide +kernel
theorem dX11_canHold_19 : decode cX11_canHold 19 = .ok (.istore 5, 2) := by decide +kernel
theorem dX11_canHold_21 : decode cX11_canHold 21 = .ok (.iload 5, 2) := by decide +kernel
theorem dX11_canHold_23 : decode cX11_canHold 23 = .ok (.iload_n 2, 1) := by decide +kernel
theorem dX11_canHold_24 : decode cX11_canHold 24 = .ok (.if_icmp .gt 23, 3) := by decide +kernel
theorem dX11_canHold_27 : decode cX11_canHold 27 = .ok (.aload_n 0, 1) := by decide +kernel
theorem dX11_canHold_28 : decode cX11_canHold 28 = .ok (.iload_n 3, 1) := by decide +kernel
theorem dX11_canHold_29 : decode cX11_canHold 29 = .ok (.iload 4, 2) := by decide +kernel
theorem dX11_canHold_31 : decode cX11_canHold 31 = .ok (.iload 5, 2) := by decide +kernel
theorem dX11_canHold_33 : decode cX11_canHold 33 = .ok (.invokevirtual 230, 3) := by decide +kernel
theorem dX11_canHold_36 : decode cX11_canHold 36 = .ok (.ifCond .eq 5, 3) := by decide +kernel
theorem dX11_canHold_39 : decode cX11_canHold 39 = .ok (.iconst 1, 1) := by decide +kernel
theorem dX11_canHold_40 : decode cX11_canHold 40 = .ok (.ireturn, 1) := by decide +kernel
theorem dX11_canHold_41 : decode cX11_canHold 41 = .ok (.iinc 5 1, 3) := by decide +kernel
theorem dX11_canHold_44 : decode cX11_canHold 44 = .ok (.goto (-23), 3) := by decide +kernel
theorem dX11_canHold_47 : decode cX11_canHold 47 = .ok (.iinc 4 1, 3) := by decide +kernel
theorem dX11_canHold_50 : decode cX11_canHold 50 = .ok (.goto (-40), 3) := by decide +kernel
theorem dX11_canHold_53 : decode cX11_canHold 53 = .ok (.iinc 3 1, 3) := by decide +kernel
theorem dX11_canHold_56 : decode cX11_canHold 56 = .ok (.goto (-54), 3) := by decide +kernel
theorem dX11_canHold_59 : decode cX11_canHold 59 = .ok (.iconst 0, 1) := by decide +kernel
theorem dX11_canHold_60 : decode cX11_canHold 60 = .ok (.ireturn, 1) := by decide +kernel
/-! SealLineModel.canHold(II)Z -/
theorem eX11_canHold {d mc ms : Nat} {w : qW} {Q : Option Value → qW → Prop} {q : Nat} {x0 : Int32} {x1 : Int32} (h : AW (mX11_canHold, d, mc, ms, none, Q) 0 [some (.ref q), some (.int x0), some (.int x1), none, none, none] [] w 0 0) : CT mX11_canHold d mc ms [.ref q, .int x0, .int x1] w Q := CT_of (by decide +kernel) rfl (Nat.le_of_ble_eq_true rfl) h
def bX11_canHold_0 (G : Nat × Nat × Nat × Option (Nat × (Nat → Int32)) × (Option Value → qW → Prop)) : qK := (s_iconst 0 (s_istore 3 2 (AW (mX11_canHold, G) 2)))
theorem oX11_canHold_0 (G : Nat × Nat × Nat × Option (Nat × (Nat → Int32)) × (Option Value → qW → Prop)) : qImp (bX11_canHold_0 G) (AW (mX11_canHold, G) 0) := (r_iconst dX11_canHold_0 rfl (r_istore_n dX11_canHold_1 rfl (Or.inr rfl) (Nat.le_of_ble_eq_true rfl) qImp.rf))
def bX11_canHold_2 (G : Nat × Nat × Nat × Option (Nat × (Nat → Int32)) × (Option Value → qW → Prop)) : qK := (s_iload 3 (s_iload 1 (s_ic_gt (AW (mX11_canHold, G) 59) (s_iconst 0 (s_istore 4 3 (AW (mX11_canHold, G) 10))))))
theorem oX11_canHold_2 (G : Nat × Nat × Nat × Option (Nat × (Nat → Int32)) × (Option Value → qW → Prop)) : qImp (bX11_canHold_2 G) (AW (mX11_canHold, G) 2) := (r_iload_n dX11_canHold_2 rfl (r_iload_n dX11_canHold_3 rfl (r_ic_gt (tgt := 59) dX11_canHold_4 rfl qImp.rf (r_iconst dX11_canHold_7 rfl (r_istore dX11_canHold_8 (Or.inr rfl) (Nat.le_of_ble_eq_true rfl) qImp.rf)))))
def bX11_canHold_10 (G : Nat × Nat × Nat × Option (Nat × (Nat → Int32)) × (Option Value → qW → Prop)) : qK := (s_iload 4 (s_iload 1 (s_iload 2 (s_isub (s_ic_gt (AW (mX11_canHold, G) 53) (s_iconst 0 (s_istore 5 4 (AW (mX11_canHold, G) 21))))))))
theorem oX11_canHold_10 (G : Nat × Nat × Nat × Option (Nat × (Nat → Int32)) × (Option Value → qW → Prop)) : qImp (bX11_canHold_10 G) (AW (mX11_canHold, G) 10) := (r_iload dX11_canHold_10 (r_iload_n dX11_canHold_12 rfl (r_iload_n dX11_canHold_13 rfl (r_isub dX11_canHold_14 (r_ic_gt (tgt := 53) dX11_canHold_15 rfl qImp.rf (r_iconst dX11_canHold_18 rfl (r_istore dX11_canHold_19 (Or.inr rfl) (Nat.le_of_ble_eq_true rfl) qImp.rf)))))))
def bX11_canHold_21 (G : Nat × Nat × Nat × Option (Nat × (Nat → Int32)) × (Option Value → qW → Prop)) : qK := (s_iload 5 (s_iload 2 (s_ic_gt (AW (mX11_canHold, G) 47) (s_aload 0 (s_iload 3 (s_iload 4 (s_iload 5 (AW (mX11_canHold, G) 33))))))))
theorem oX11_canHold_21 (G : Nat × Nat × Nat × Option (Nat × (Nat → Int32)) × (Option Value → qW → Prop)) : qImp (bX11_canHold_21 G) (AW (mX11_canHold, G) 21) := (r_iload dX11_canHold_21 (r_iload_n dX11_canHold_23 rfl (r_ic_gt (tgt := 47) dX11_canHold_24 rfl qImp.rf (r_aload_n dX11_canHold_27 rfl (r_iload_n dX11_canHold_28 rfl (r_iload dX11_canHold_29 (r_iload dX11_canHold_31 qImp.rf)))))))
def bX11_canHold_36 (G : Nat × Nat × Nat × Option (Nat × (Nat → Int32)) × (Option Value → qW → Prop)) : qK := (s_if_eq (AW (mX11_canHold, G) 41) (s_iconst 1 (s_zreturn (mX11_canHold, G))))
theorem oX11_canHold_36 (G : Nat × Nat × Nat × Option (Nat × (Nat → Int32)) × (Option Value → qW → Prop)) : qImp (bX11_canHold_36 G) (AW (mX11_canHold, G) 36) := (r_if_eq (tgt := 41) dX11_canHold_36 rfl qImp.rf (r_iconst dX11_canHold_39 rfl (r_zreturn dX11_canHold_40 rfl)))
def bX11_canHold_41 (G : Nat × Nat × Nat × Option (Nat × (Nat → Int32)) × (Option Value → qW → Prop)) : qK := (s_iinc 5 4 1 (AW (mX11_canHold, G) 21))
theorem oX11_canHold_41 (G : Nat × Nat × Nat × Option (Nat × (Nat → Int32)) × (Option Value → qW → Prop)) : qImp (bX11_canHold_41 G) (AW (mX11_canHold, G) 41) := (r_iinc dX11_canHold_41 rfl (Or.inr rfl) (Nat.le_of_ble_eq_true rfl) (r_goto (tgt := 21) dX11_canHold_44 rfl qImp.rf))
def bX11_canHold_47 (G : Nat × Nat × Nat × Option (Nat × (Nat → Int32)) × (Option Value → qW → Prop)) : qK := (s_iinc 4 3 1 (AW (mX11_canHold, G) 10))
theorem oX11_canHold_47 (G : Nat × Nat × Nat × Option (Nat × (Nat → Int32)) × (Option Value → qW → Prop)) : qImp (bX11_canHold_47 G) (AW (mX11_canHold, G) 47) := (r_iinc dX11_canHold_47 rfl (Or.inr rfl) (Nat.le_of_ble_eq_true rfl) (r_goto (tgt := 10) dX11_canHold_50 rfl qImp.rf))
def bX11_canHold_53 (G : Nat × Nat × Nat × Option (Nat × (Nat → Int32)) × (Option Value → qW → Prop)) : qK := (s_iinc 3 2 1 (AW (mX11_canHold, G) 2))
theorem oX11_canHold_53 (G : Nat × Nat × Nat × Option (Nat × (Nat → Int32)) × (Option Value → qW → Prop)) : qImp (bX11_canHold_53 G) (AW (mX11_canHold, G) 53) := (r_iinc dX11_canHold_53 rfl (Or.inr rfl) (Nat.le_of_ble_eq_true rfl) (r_goto (tgt := 2) dX11_canHold_56 rfl qImp.rf))
def bX11_canHold_59 (G : Nat × Nat × Nat × Option (Nat × (Nat → Int32)) × (Option Value → qW → Prop)) : qK := (s_iconst 0 (s_zreturn (mX11_canHold, G)))
theorem oX11_canHold_59 (G : Nat × Nat × Nat × Option (Nat × (Nat → Int32)) × (Option Value → qW → Prop)) : qImp (bX11_canHold_59 G) (AW (mX11_canHold, G) 59) := (r_iconst dX11_canHold_59 rfl (r_zreturn dX11_canHold_60 rfl))
theorem kX11_canHold_33 {G : Nat × Nat × Nat × Option (Nat × (Nat → Int32)) × (Option Value → qW → Prop)} {L : qL} {w : qW} {kc ks : Nat} {rest : List Value} {q : Nat} {x0 : Int32} {x1 : Int32} {x2 : Int32} {d mc ms : Nat} {Q : Option Value → qW → Prop} (hC : CT mX11_holds d mc ms [.ref q, .int x0, .int x1, .int x2] w Q) (hq : qci w q = some 11) (hst : rest.length ≤ 4) (hdp : d + 1 ≤ G.1) (hmc : kc + mc ≤ G.2.1 ∧ ks + ms ≤ G.2.2.1) (k : ∀ r w', Q r w' → AW (mX11_canHold, G) 36 L (r.toList ++ rest) w' (kc + mc) (ks + ms)) : AW (mX11_canHold, G) 33 L (.int x2 :: .int x1 :: .int x0 :: .ref q :: rest) w kc ks := a_callV [.int x0, .int x1, .int x2] rest dX11_canHold_33 vX11_holds lk1173 hC hq rfl rfl hst hdp hmc k
theorem dX11_judged_0 : decode cX11_judged 0 = .ok (.iconst 3, 1) := by decide +kernel
theorem dX11_judged_1 : decode cX11_judged 1 = .ok (.istore_n 1, 1) := by decide +kernel
theorem dX11_judged_2 : decode cX11_judged 2 = .ok (.iload_n 1, 1) := by decide +kernel
theorem dX11_judged_3 : decode cX11_judged 3 = .ok (.bipush 12, 2) := by decide +kernel
theorem dX11_judged_5 : decode cX11_judged 5 = .ok (.if_icmp .gt 40, 3) := by decide +kernel
theorem dX11_judged_8 : decode cX11_judged 8 = .ok (.iconst 1, 1) := by decide +kernel
theorem dX11_judged_9 : decode cX11_judged 9 = .ok (.istore_n 2, 1) := by decide +kernel
theorem dX11_judged_10 : decode cX11_judged 10 = .ok (.iload_n 2, 1) := by decide +kernel
theorem dX11_judged_11 : decode cX11_judged 11 = .ok (.iload_n 1, 1) := by decide +kernel
theorem dX11_judged_12 : decode cX11_judged 12 = .ok (.iconst 2, 1) := by decide +kernel
theorem dX11_judged_13 : decode cX11_judged 13 = .ok (.isub, 1) := by decide +kernel
theorem dX11_judged_14 : decode cX11_judged 14 = .ok (.if_icmp .gt 25, 3) := by decide +kernel
theorem dX11_judged_17 : decode cX11_judged 17 = .ok (.aload_n 0, 1) := by decide +kernel
theorem dX11_judged_18 : decode cX11_judged 18 = .ok (.iload_n 1, 1) := by decide +kernel
theorem dX11_judged_19 : decode cX11_judged 19 = .ok (.iload_n 2, 1) := by decide +kernel
theorem dX11_judged_20 : decode cX11_judged 20 = .ok (.invokevirtual 252, 3) := by decide +kernel
theorem dX11_judged_23 : decode cX11_judged 23 = .ok (.ifCond .eq 10, 3) := by decide +kernel
theorem dX11_judged_26 : decode cX11_judged 26 = .ok (.bipush 16, 2) := by decide +kernel
theorem dX11_judged_28 : decode cX11_judged 28 = .ok (.iload_n 1, 1) := by decide +kernel
theorem dX11_judged_29 : decode cX11_judged 29 = .ok (.imul, 1) := by decide +kernel
theorem dX11_judged_30 : decode cX11_judged 30 = .ok (.iload_n 2, 1) := by decide +kernel
theorem dX11_judged_31 : decode cX11_judged 31 = .ok (.iadd, 1) := by decide +kernel
theorem dX11_judged_32 : decode cX11_judged 32 = .ok (.ireturn, 1) := by decide +kernel
theorem dX11_judged_33 : decode cX11_judged 33 = .ok (.iinc 2 1, 3) := by decide +kernel
theorem dX11_judged_36 : decode cX11_judged 36 = .ok (.goto (-26), 3) := by decide +kernel
theorem dX11_judged_39 : decode cX11_judged 39 = .ok (.iinc 1 1, 3) := by decide +kernel
theorem dX11_judged_42 : decode cX11_judged 42 = .ok (.goto (-40), 3) := by decide +kernel
theorem dX11_judged_45 : decode cX11_judged 45 = .ok (.iconst (-1), 1) := by decide +kernel
theorem dX11_judged_46 : decode cX11_judged 46 = .ok (.ireturn, 1) := by decide +kernel
/-! SealLineModel.judged()I -/
theorem eX11_judged {d mc ms : Nat} {w : qW} {Q : Option Value → qW → Prop} {q : Nat} (h : AW (mX11_judged, d, mc, ms, none, Q) 0 [some (.ref q), none, none] [] w 0 0) : CT mX11_judged d mc ms [.ref q] w Q := CT_of (by decide +kernel) rfl (Nat.le_of_ble_eq_true rfl) h
def bX11_judged_0 (G : Nat × Nat × Nat × Option (Nat × (Nat → Int32)) × (Option Value → qW → Prop)) : qK := (s_iconst 3 (s_istore 1 0 (AW (mX11_judged, G) 2)))
theorem oX11_judged_0 (G : Nat × Nat × Nat × Option (Nat × (Nat → Int32)) × (Option Value → qW → Prop)) : qImp (bX11_judged_0 G) (AW (mX11_judged, G) 0) := (r_iconst dX11_judged_0 rfl (r_istore_n dX11_judged_1 rfl (Or.inr rfl) (Nat.le_of_ble_eq_true rfl) qImp.rf))
def bX11_judged_2 (G : Nat × Nat × Nat × Option (Nat × (Nat → Int32)) × (Option Value → qW → Prop)) : qK := (s_iload 1 (s_iconst 12 (s_ic_gt (AW (mX11_judged, G) 45) (s_iconst 1 (s_istore 2 1 (AW (mX11_judged, G) 10))))))
theorem oX11_judged_2 (G : Nat × Nat × Nat × Option (Nat × (Nat → Int32)) × (Option Value → qW → Prop)) : qImp (bX11_judged_2 G) (AW (mX11_judged, G) 2) := (r_iload_n dX11_judged_2 rfl (r_bipush dX11_judged_3 rfl (r_ic_gt (tgt := 45) dX11_judged_5 rfl qImp.rf (r_iconst dX11_judged_8 rfl (r_istore_n dX11_judged_9 rfl (Or.inr rfl) (Nat.le_of_ble_eq_true rfl) qImp.rf)))))
def bX11_judged_10 (G : Nat × Nat × Nat × Option (Nat × (Nat → Int32)) × (Option Value → qW → Prop)) : qK := (s_iload 2 (s_iload 1 (s_iconst 2 (s_isub (s_ic_gt (AW (mX11_judged, G) 39) (s_aload 0 (s_iload 1 (s_iload 2 (AW (mX11_judged, G) 20)))))))))
theorem oX11_judged_10 (G : Nat × Nat × Nat × Option (Nat × (Nat → Int32)) × (Option Value → qW → Prop)) : qImp (bX11_judged_10 G) (AW (mX11_judged, G) 10) := (r_iload_n dX11_judged_10 rfl (r_iload_n dX11_judged_11 rfl (r_iconst dX11_judged_12 rfl (r_isub dX11_judged_13 (r_ic_gt (tgt := 39) dX11_judged_14 rfl qImp.rf (r_aload_n dX11_judged_17 rfl (r_iload_n dX11_judged_18 rfl (r_iload_n dX11_judged_19 rfl qImp.rf))))))))
def bX11_judged_23 (G : Nat × Nat × Nat × Option (Nat × (Nat → Int32)) × (Option Value → qW → Prop)) : qK := (s_if_eq (AW (mX11_judged, G) 33) (s_iconst 16 (s_iload 1 (s_imul (s_iload 2 (s_iadd (s_ireturn (mX11_judged, G))))))))
theorem oX11_judged_23 (G : Nat × Nat × Nat × Option (Nat × (Nat → Int32)) × (Option Value → qW → Prop)) : qImp (bX11_judged_23 G) (AW (mX11_judged, G) 23) := (r_if_eq (tgt := 33) dX11_judged_23 rfl qImp.rf (r_bipush dX11_judged_26 rfl (r_iload_n dX11_judged_28 rfl (r_imul dX11_judged_29 (r_iload_n dX11_judged_30 rfl (r_iadd dX11_judged_31 (r_ireturn dX11_judged_32 rfl)))))))
def bX11_judged_33 (G : Nat × Nat × Nat × Option (Nat × (Nat → Int32)) × (Option Value → qW → Prop)) : qK := (s_iinc 2 1 1 (AW (mX11_judged, G) 10))
theorem oX11_judged_33 (G : Nat × Nat × Nat × Option (Nat × (Nat → Int32)) × (Option Value → qW → Prop)) : qImp (bX11_judged_33 G) (AW (mX11_judged, G) 33) := (r_iinc dX11_judged_33 rfl (Or.inr rfl) (Nat.le_of_ble_eq_true rfl) (r_goto (tgt := 10) dX11_judged_36 rfl qImp.rf))
def bX11_judged_39 (G : Nat × Nat × Nat × Option (Nat × (Nat → Int32)) × (Option Value → qW → Prop)) : qK := (s_iinc 1 0 1 (AW (mX11_judged, G) 2))
theorem oX11_judged_39 (G : Nat × Nat × Nat × Option (Nat × (Nat → Int32)) × (Option Value → qW → Prop)) : qImp (bX11_judged_39 G) (AW (mX11_judged, G) 39) := (r_iinc dX11_judged_39 rfl (Or.inr rfl) (Nat.le_of_ble_eq_true rfl) (r_goto (tgt := 2) dX11_judged_42 rfl qImp.rf))
def bX11_judged_45 (G : Nat × Nat × Nat × Option (Nat × (Nat → Int32)) × (Option Value → qW → Prop)) : qK := (s_iconst (-1) (s_ireturn (mX11_judged, G)))
theorem oX11_judged_45 (G : Nat × Nat × Nat × Option (Nat × (Nat → Int32)) × (Option Value → qW → Prop)) : qImp (bX11_judged_45 G) (AW (mX11_judged, G) 45) := (r_iconst dX11_judged_45 rfl (r_ireturn dX11_judged_46 rfl))
theorem kX11_judged_20 {G : Nat × Nat × Nat × Option (Nat × (Nat → Int32)) × (Option Value → qW → Prop)} {L : qL} {w : qW} {kc ks : Nat} {rest : List Value} {q : Nat} {x0 : Int32} {x1 : Int32} {d mc ms : Nat} {Q : Option Value → qW → Prop} (hC : CT mX11_canHold d mc ms [.ref q, .int x0, .int x1] w Q) (hq : qci w q = some 11) (hst : rest.length ≤ 4) (hdp : d + 1 ≤ G.1) (hmc : kc + mc ≤ G.2.1 ∧ ks + ms ≤ G.2.2.1) (k : ∀ r w', Q r w' → AW (mX11_judged, G) 23 L (r.toList ++ rest) w' (kc + mc) (ks + ms)) : AW (mX11_judged, G) 20 L (.int x1 :: .int x0 :: .ref q :: rest) w kc ks := a_callV [.int x0, .int x1] rest dX11_judged_20 vX11_canHold lk1240 hC hq rfl rfl hst hdp hmc k
