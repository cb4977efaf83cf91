theorem dX7_has_0 : decode cX7_has 0 = .ok (.iload_n 1, 1) := by decide +kernel
theorem dX7_has_1 : decode cX7_has 1 = .ok (.ifCond .lt 15, 3) := by decide +kernel
theorem dX7_has_4 : decode cX7_has 4 = .ok (.iload_n 1, 1) := by decide +kernel
theorem dX7_has_5 : decode cX7_has 5 = .ok (.aload_n 0, 1) := by decide +kernel
theorem dX7_has_6 : decode cX7_has 6 = .ok (.getfield 39, 3) := by decide +kernel
theorem dX7_has_9 : decode cX7_has 9 = .ok (.if_icmp .ge 7, 3) := by decide +kernel
theorem dX7_has_12 : decode cX7_has 12 = .ok (.iconst 1, 1) := by decide +kernel
theorem dX7_has_13 : decode cX7_has 13 = .ok (.goto 4, 3) := by decide +kernel
theorem dX7_has_16 : decode cX7_has 16 = .ok (.iconst 0, 1) := by decide +kernel
theorem dX7_has_17 : decode cX7_has 17 = .ok (.ireturn, 1) := by decide +kernel
/-! SealLine$Shelf.has(I)Z -/
theorem eX7_has {d mc ms : Nat} {w : qW} {Q : Option Value → qW → Prop} {q : Nat} {x0 : Int32} (h : AW (mX7_has, d, mc, ms, none, Q) 0 [some (.ref q), some (.int x0)] [] w 0 0) : CT mX7_has d mc ms [.ref q, .int x0] w Q := CT_of (by decide +kernel) rfl (Nat.le_of_ble_eq_true rfl) h
def bX7_has_0 (G : Nat × Nat × Nat × Option (Nat × (Nat → Int32)) × (Option Value → qW → Prop)) : qK := (s_iload 1 (s_if_lt (AW (mX7_has, G) 16) (s_iload 1 (s_aload 0 (s_getfield 7 7 (s_ic_ge (AW (mX7_has, G) 16) (s_iconst 1 (AW (mX7_has, G) 17))))))))
theorem oX7_has_0 (G : Nat × Nat × Nat × Option (Nat × (Nat → Int32)) × (Option Value → qW → Prop)) : qImp (bX7_has_0 G) (AW (mX7_has, G) 0) := (r_iload_n dX7_has_0 rfl (r_if_lt (tgt := 16) dX7_has_1 rfl qImp.rf (r_iload_n dX7_has_4 rfl (r_aload_n dX7_has_5 rfl (r_getfield dX7_has_6 fgX7_39 (r_ic_ge (tgt := 16) dX7_has_9 rfl qImp.rf (r_iconst dX7_has_12 rfl (r_goto (tgt := 17) dX7_has_13 rfl qImp.rf))))))))
def bX7_has_16 (G : Nat × Nat × Nat × Option (Nat × (Nat → Int32)) × (Option Value → qW → Prop)) : qK := (s_iconst 0 (AW (mX7_has, G) 17))
theorem oX7_has_16 (G : Nat × Nat × Nat × Option (Nat × (Nat → Int32)) × (Option Value → qW → Prop)) : qImp (bX7_has_16 G) (AW (mX7_has, G) 16) := (r_iconst dX7_has_16 rfl qImp.rf)
def bX7_has_17 (G : Nat × Nat × Nat × Option (Nat × (Nat → Int32)) × (Option Value → qW → Prop)) : qK := (s_zreturn (mX7_has, G))
theorem oX7_has_17 (G : Nat × Nat × Nat × Option (Nat × (Nat → Int32)) × (Option Value → qW → Prop)) : qImp (bX7_has_17 G) (AW (mX7_has, G) 17) := (r_zreturn dX7_has_17 rfl)
theorem dX7_isCleanInput_0 : decode cX7_isCleanInput 0 = .ok (.iload_n 1, 1) := by decide +kernel
theorem dX7_isCleanInput_1 : decode cX7_isCleanInput 1 = .ok (.iconst (-1), 1) := by decide +kernel
theorem dX7_isCleanInput_2 : decode cX7_isCleanInput 2 = .ok (.if_icmp .eq 14, 3) := by decide +kernel
theorem dX7_isCleanInput_5 : decode cX7_isCleanInput 5 = .ok (.aload_n 0, 1) := by decide +kernel
theorem dX7_isCleanInput_6 : decode cX7_isCleanInput 6 = .ok (.getfield 35, 3) := by decide +kernel
theorem dX7_isCleanInput_9 : decode cX7_isCleanInput 9 = .ok (.iload_n 1, 1) := by decide +kernel
theorem dX7_isCleanInput_10 : decode cX7_isCleanInput 10 = .ok (.invokevirtual 62, 3) := by decide +kernel
theorem dX7_isCleanInput_13 : decode cX7_isCleanInput 13 = .ok (.ifCond .eq 7, 3) := by decide +kernel
theorem dX7_isCleanInput_16 : decode cX7_isCleanInput 16 = .ok (.iconst 1, 1) := by decide +kernel
theorem dX7_isCleanInput_17 : decode cX7_isCleanInput 17 = .ok (.goto 4, 3) := by decide +kernel
theorem dX7_isCleanInput_20 : decode cX7_isCleanInput 20 = .ok (.iconst 0, 1) := by decide +kernel
theorem dX7_isCleanInput_21 : decode cX7_isCleanInput 21 = .ok (.ireturn, 1) := by decide +kernel
/-! SealLine$Shelf.isCleanInput(I)Z -/
theorem eX7_isCleanInput {d mc ms : Nat} {w : qW} {Q : Option Value → qW → Prop} {q : Nat} {x0 : Int32} (h : AW (mX7_isCleanInput, d, mc, ms, none, Q) 0 [some (.ref q), some (.int x0)] [] w 0 0) : CT mX7_isCleanInput d mc ms [.ref q, .int x0] w Q := CT_of (by decide +kernel) rfl (Nat.le_of_ble_eq_true rfl) h
def bX7_isCleanInput_0 (G : Nat × Nat × Nat × Option (Nat × (Nat → Int32)) × (Option Value → qW → Prop)) : qK := (s_iload 1 (s_iconst (-1) (s_ic_eq (AW (mX7_isCleanInput, G) 16) (s_aload 0 (s_getfield 7 6 (s_iload 1 (AW (mX7_isCleanInput, G) 10)))))))
theorem oX7_isCleanInput_0 (G : Nat × Nat × Nat × Option (Nat × (Nat → Int32)) × (Option Value → qW → Prop)) : qImp (bX7_isCleanInput_0 G) (AW (mX7_isCleanInput, G) 0) := (r_iload_n dX7_isCleanInput_0 rfl (r_iconst dX7_isCleanInput_1 rfl (r_ic_eq (tgt := 16) dX7_isCleanInput_2 rfl qImp.rf (r_aload_n dX7_isCleanInput_5 rfl (r_getfield dX7_isCleanInput_6 fgX7_35 (r_iload_n dX7_isCleanInput_9 rfl qImp.rf))))))
def bX7_isCleanInput_13 (G : Nat × Nat × Nat × Option (Nat × (Nat → Int32)) × (Option Value → qW → Prop)) : qK := (s_if_eq (AW (mX7_isCleanInput, G) 20) (AW (mX7_isCleanInput, G) 16))
theorem oX7_isCleanInput_13 (G : Nat × Nat × Nat × Option (Nat × (Nat → Int32)) × (Option Value → qW → Prop)) : qImp (bX7_isCleanInput_13 G) (AW (mX7_isCleanInput, G) 13) := (r_if_eq (tgt := 20) dX7_isCleanInput_13 rfl qImp.rf qImp.rf)
def bX7_isCleanInput_16 (G : Nat × Nat × Nat × Option (Nat × (Nat → Int32)) × (Option Value → qW → Prop)) : qK := (s_iconst 1 (AW (mX7_isCleanInput, G) 21))
theorem oX7_isCleanInput_16 (G : Nat × Nat × Nat × Option (Nat × (Nat → Int32)) × (Option Value → qW → Prop)) : qImp (bX7_isCleanInput_16 G) (AW (mX7_isCleanInput, G) 16) := (r_iconst dX7_isCleanInput_16 rfl (r_goto (tgt := 21) dX7_isCleanInput_17 rfl qImp.rf))
def bX7_isCleanInput_20 (G : Nat × Nat × Nat × Option (Nat × (Nat → Int32)) × (Option Value → qW → Prop)) : qK := (s_iconst 0 (AW (mX7_isCleanInput, G) 21))
theorem oX7_isCleanInput_20 (G : Nat × Nat × Nat × Option (Nat × (Nat → Int32)) × (Option Value → qW → Prop)) : qImp (bX7_isCleanInput_20 G) (AW (mX7_isCleanInput, G) 20) := (r_iconst dX7_isCleanInput_20 rfl qImp.rf)
def bX7_isCleanInput_21 (G : Nat × Nat × Nat × Option (Nat × (Nat → Int32)) × (Option Value → qW → Prop)) : qK := (s_zreturn (mX7_isCleanInput, G))
theorem oX7_isCleanInput_21 (G : Nat × Nat × Nat × Option (Nat × (Nat → Int32)) × (Option Value → qW → Prop)) : qImp (bX7_isCleanInput_21 G) (AW (mX7_isCleanInput, G) 21) := (r_zreturn dX7_isCleanInput_21 rfl)
theorem kX7_isCleanInput_10 {G : Nat × Nat × Nat × Option (Nat × (Nat → Int32)) × (Option Value → qW → Prop)} {L : qL} {w : qW} {kc ks : Nat} {rest : List Value} {q : Nat} {x0 : Int32} {d mc ms : Nat} {Q : Option Value → qW → Prop} (hC : CT mX0_has d mc ms [.ref q, .int x0] w Q) (hq : qci w q = some 0) (hst : rest.length ≤ 4) (hdp : d + 1 ≤ G.1) (hmc : kc + mc ≤ G.2.1 ∧ ks + ms ≤ G.2.2.1) (k : ∀ r w', Q r w' → AW (mX7_isCleanInput, G) 13 L (r.toList ++ rest) w' (kc + mc) (ks + ms)) : AW (mX7_isCleanInput, G) 10 L (.int x0 :: .ref q :: rest) w kc ks := a_callV [.int x0] rest dX7_isCleanInput_10 vX0_has lk407 hC hq rfl rfl hst hdp hmc k
theorem dX7_isGround_0 : decode cX7_isGround 0 = .ok (.aload_n 1, 1) := by decide +kernel
theorem dX7_isGround_1 : decode cX7_isGround 1 = .ok (.iload_n 2, 1) := by decide +kernel
theorem dX7_isGround_2 : decode cX7_isGround 2 = .ok (.iconst 0, 1) := by decide +kernel
theorem dX7_isGround_3 : decode cX7_isGround 3 = .ok (.invokevirtual 88, 3) := by decide +kernel
theorem dX7_isGround_6 : decode cX7_isGround 6 = .ok (.istore_n 3, 1) := by decide +kernel
theorem dX7_isGround_7 : decode cX7_isGround 7 = .ok (.iload_n 3, 1) := by decide +kernel
theorem dX7_isGround_8 : decode cX7_isGround 8 = .ok (.iconst 1, 1) := by decide +kernel
theorem dX7_isGround_9 : decode cX7_isGround 9 = .ok (.if_icmp .eq 13, 3) := by decide +kernel
theorem dX7_isGround_12 : decode cX7_isGround 12 = .ok (.iload_n 3, 1) := by decide +kernel
theorem dX7_isGround_13 : decode cX7_isGround 13 = .ok (.ifCond .ne 7, 3) := by decide +kernel
theorem dX7_isGround_16 : decode cX7_isGround 16 = .ok (.iconst 1, 1) := by decide +kernel
theorem dX7_isGround_17 : decode cX7_isGround 17 = .ok (.goto 4, 3) := by decide +kernel
theorem dX7_isGround_20 : decode cX7_isGround 20 = .ok (.iconst 0, 1) := by decide +kernel
theorem dX7_isGround_21 : decode cX7_isGround 21 = .ok (.ireturn, 1) := by decide +kernel
theorem dX7_isGround_22 : decode cX7_isGround 22 = .ok (.aload_n 1, 1) := by decide +kernel
theorem dX7_isGround_23 : decode cX7_isGround 23 = .ok (.iload_n 2, 1) := by decide +kernel
theorem dX7_isGround_24 : decode cX7_isGround 24 = .ok (.bipush 7, 2) := by decide +kernel
theorem dX7_isGround_26 : decode cX7_isGround 26 = .ok (.invokevirtual 88, 3) := by decide +kernel
theorem dX7_isGround_29 : decode cX7_isGround 29 = .ok (.iconst 1, 1) := by decide +kernel
theorem dX7_isGround_30 : decode cX7_isGround 30 = .ok (.if_icmp .ne 47, 3) := by decide +kernel
theorem dX7_isGround_33 : decode cX7_isGround 33 = .ok (.aload_n 0, 1) := by decide +kernel
theorem dX7_isGround_34 : decode cX7_isGround 34 = .ok (.aload_n 1, 1) := by decide +kernel
theorem dX7_isGround_35 : decode cX7_isGround 35 = .ok (.iload_n 2, 1) := by decide +kernel
theorem dX7_isGround_36 : decode cX7_isGround 36 = .ok (.iconst 4, 1) := by decide +kernel
theorem dX7_isGround_37 : decode cX7_isGround 37 = .ok (.invokevirtual 88, 3) := by decide +kernel
theorem dX7_isGround_40 : decode cX7_isGround 40 = .ok (.invokevirtual 94, 3) := by decide +kernel
theorem dX7_isGround_43 : decode cX7_isGround 43 = .ok (.ifCond .eq 34, 3) := by decide +kernel
theorem dX7_isGround_46 : decode cX7_isGround 46 = .ok (.aload_n 0, 1) := by decide +kernel
theorem dX7_isGround_47 : decode cX7_isGround 47 = .ok (.aload_n 1, 1) := by decide +kernel
theorem dX7_isGround_48 : decode cX7_isGround 48 = .ok (.iload_n 2, 1) := by decide +kernel
theorem dX7_isGround_49 : decode cX7_isGround 49 = .ok (.iconst 5, 1) := by decide +kernel
theorem dX7_isGround_50 : decode cX7_isGround 50 = .ok (.invokevirtual 88, 3) := by decide +kernel
theorem dX7_isGround_53 : decode cX7_isGround 53 = .ok (.invokevirtual 94, 3) := by decide +kernel
theorem dX7_isGround_56 : decode cX7_isGround 56 = .ok (.ifCond .eq 21, 3) := by decide +kernel
theorem dX7_isGround_59 : decode cX7_isGround 59 = .ok (.aload_n 0, 1) := by decide +kernel
theorem dX7_isGround_60 : decode cX7_isGround 60 = .ok (.aload_n 1, 1) := by decide +kernel
theorem dX7_isGround_61 : decode cX7_isGround 61 = .ok (.iload_n 2, 1) := by decide +kernel
theorem dX7_isGround_62 : decode cX7_isGround 62 = .ok (.bipush 6, 2) := by decide +kernel
theorem dX7_isGround_64 : decode cX7_isGround 64 = .ok (.invokevirtual 88, 3) := by decide +kernel
theorem dX7_isGround_67 : decode cX7_isGround 67 = .ok (.invokevirtual 94, 3) := by decide +kernel
theorem dX7_isGround_70 : decode cX7_isGround 70 = .ok (.ifCond .eq 7, 3) := by decide +kernel
theorem dX7_isGround_73 : decode cX7_isGround 73 = .ok (.iconst 1, 1) := by decide +kernel
theorem dX7_isGround_74 : decode cX7_isGround 74 = .ok (.goto 4, 3) := by decide +kernel
theorem dX7_isGround_77 : decode cX7_isGround 77 = .ok (.iconst 0, 1) := by decide +kernel
theorem dX7_isGround_78 : decode cX7_isGround 78 = .ok (.ireturn, 1) := by decide +kernel
/-! SealLine$Shelf.isGround(LSealLine$Table;I)Z -/
theorem eX7_isGround {d mc ms : Nat} {w : qW} {Q : Option Value → qW → Prop} {q : Nat} {x0 : Nat} {x1 : Int32} (h : AW (mX7_isGround, d, mc, ms, none, Q) 0 [some (.ref q), some (.ref x0), some (.int x1), none] [] w 0 0) : CT mX7_isGround d mc ms [.ref q, .ref x0, .int x1] w Q := CT_of (by decide +kernel) rfl (Nat.le_of_ble_eq_true rfl) h
def bX7_isGround_0 (G : Nat × Nat × Nat × Option (Nat × (Nat → Int32)) × (Option Value → qW → Prop)) : qK := (s_aload 1 (s_iload 2 (s_iconst 0 (AW (mX7_isGround, G) 3))))
theorem oX7_isGround_0 (G : Nat × Nat × Nat × Option (Nat × (Nat → Int32)) × (Option Value → qW → Prop)) : qImp (bX7_isGround_0 G) (AW (mX7_isGround, G) 0) := (r_aload_n dX7_isGround_0 rfl (r_iload_n dX7_isGround_1 rfl (r_iconst dX7_isGround_2 rfl qImp.rf)))
def bX7_isGround_6 (G : Nat × Nat × Nat × Option (Nat × (Nat → Int32)) × (Option Value → qW → Prop)) : qK := (s_istore 3 2 (s_iload 3 (s_iconst 1 (s_ic_eq (AW (mX7_isGround, G) 22) (s_iload 3 (s_if_ne (AW (mX7_isGround, G) 20) (s_iconst 1 (AW (mX7_isGround, G) 21))))))))
theorem oX7_isGround_6 (G : Nat × Nat × Nat × Option (Nat × (Nat → Int32)) × (Option Value → qW → Prop)) : qImp (bX7_isGround_6 G) (AW (mX7_isGround, G) 6) := (r_istore_n dX7_isGround_6 rfl (Or.inr rfl) (Nat.le_of_ble_eq_true rfl) (r_iload_n dX7_isGround_7 rfl (r_iconst dX7_isGround_8 rfl (r_ic_eq (tgt := 22) dX7_isGround_9 rfl qImp.rf (r_iload_n dX7_isGround_12 rfl (r_if_ne (tgt := 20) dX7_isGround_13 rfl qImp.rf (r_iconst dX7_isGround_16 rfl (r_goto (tgt := 21) dX7_isGround_17 rfl qImp.rf))))))))
def bX7_isGround_20 (G : Nat × Nat × Nat × Option (Nat × (Nat → Int32)) × (Option Value → qW → Prop)) : qK := (s_iconst 0 (AW (mX7_isGround, G) 21))
theorem oX7_isGround_20 (G : Nat × Nat × Nat × Option (Nat × (Nat → Int32)) × (Option Value → qW → Prop)) : qImp (bX7_isGround_20 G) (AW (mX7_isGround, G) 20) := (r_iconst dX7_isGround_20 rfl qImp.rf)
def bX7_isGround_21 (G : Nat × Nat × Nat × Option (Nat × (Nat → Int32)) × (Option Value → qW → Prop)) : qK := (s_zreturn (mX7_isGround, G))
theorem oX7_isGround_21 (G : Nat × Nat × Nat × Option (Nat × (Nat → Int32)) × (Option Value → qW → Prop)) : qImp (bX7_isGround_21 G) (AW (mX7_isGround, G) 21) := (r_zreturn dX7_isGround_21 rfl)
def bX7_isGround_22 (G : Nat × Nat × Nat × Option (Nat × (Nat → Int32)) × (Option Value → qW → Prop)) : qK := (s_aload 1 (s_iload 2 (s_iconst 7 (AW (mX7_isGround, G) 26))))
theorem oX7_isGround_22 (G : Nat × Nat × Nat × Option (Nat × (Nat → Int32)) × (Option Value → qW → Prop)) : qImp (bX7_isGround_22 G) (AW (mX7_isGround, G) 22) := (r_aload_n dX7_isGround_22 rfl (r_iload_n dX7_isGround_23 rfl (r_bipush dX7_isGround_24 rfl qImp.rf)))
def bX7_isGround_29 (G : Nat × Nat × Nat × Option (Nat × (Nat → Int32)) × (Option Value → qW → Prop)) : qK := (s_iconst 1 (s_ic_ne (AW (mX7_isGround, G) 77) (s_aload 0 (s_aload 1 (s_iload 2 (s_iconst 4 (AW (mX7_isGround, G) 37)))))))
theorem oX7_isGround_29 (G : Nat × Nat × Nat × Option (Nat × (Nat → Int32)) × (Option Value → qW → Prop)) : qImp (bX7_isGround_29 G) (AW (mX7_isGround, G) 29) := (r_iconst dX7_isGround_29 rfl (r_ic_ne (tgt := 77) dX7_isGround_30 rfl qImp.rf (r_aload_n dX7_isGround_33 rfl (r_aload_n dX7_isGround_34 rfl (r_iload_n dX7_isGround_35 rfl (r_iconst dX7_isGround_36 rfl qImp.rf))))))
def bX7_isGround_43 (G : Nat × Nat × Nat × Option (Nat × (Nat → Int32)) × (Option Value → qW → Prop)) : qK := (s_if_eq (AW (mX7_isGround, G) 77) (s_aload 0 (s_aload 1 (s_iload 2 (s_iconst 5 (AW (mX7_isGround, G) 50))))))
theorem oX7_isGround_43 (G : Nat × Nat × Nat × Option (Nat × (Nat → Int32)) × (Option Value → qW → Prop)) : qImp (bX7_isGround_43 G) (AW (mX7_isGround, G) 43) := (r_if_eq (tgt := 77) dX7_isGround_43 rfl qImp.rf (r_aload_n dX7_isGround_46 rfl (r_aload_n dX7_isGround_47 rfl (r_iload_n dX7_isGround_48 rfl (r_iconst dX7_isGround_49 rfl qImp.rf)))))
def bX7_isGround_56 (G : Nat × Nat × Nat × Option (Nat × (Nat → Int32)) × (Option Value → qW → Prop)) : qK := (s_if_eq (AW (mX7_isGround, G) 77) (s_aload 0 (s_aload 1 (s_iload 2 (s_iconst 6 (AW (mX7_isGround, G) 64))))))
theorem oX7_isGround_56 (G : Nat × Nat × Nat × Option (Nat × (Nat → Int32)) × (Option Value → qW → Prop)) : qImp (bX7_isGround_56 G) (AW (mX7_isGround, G) 56) := (r_if_eq (tgt := 77) dX7_isGround_56 rfl qImp.rf (r_aload_n dX7_isGround_59 rfl (r_aload_n dX7_isGround_60 rfl (r_iload_n dX7_isGround_61 rfl (r_bipush dX7_isGround_62 rfl qImp.rf)))))
def bX7_isGround_70 (G : Nat × Nat × Nat × Option (Nat × (Nat → Int32)) × (Option Value → qW → Prop)) : qK := (s_if_eq (AW (mX7_isGround, G) 77) (s_iconst 1 (AW (mX7_isGround, G) 78)))
theorem oX7_isGround_70 (G : Nat × Nat × Nat × Option (Nat × (Nat → Int32)) × (Option Value → qW → Prop)) : qImp (bX7_isGround_70 G) (AW (mX7_isGround, G) 70) := (r_if_eq (tgt := 77) dX7_isGround_70 rfl qImp.rf (r_iconst dX7_isGround_73 rfl (r_goto (tgt := 78) dX7_isGround_74 rfl qImp.rf)))
def bX7_isGround_77 (G : Nat × Nat × Nat × Option (Nat × (Nat → Int32)) × (Option Value → qW → Prop)) : qK := (s_iconst 0 (AW (mX7_isGround, G) 78))
theorem oX7_isGround_77 (G : Nat × Nat × Nat × Option (Nat × (Nat → Int32)) × (Option Value → qW → Prop)) : qImp (bX7_isGround_77 G) (AW (mX7_isGround, G) 77) := (r_iconst dX7_isGround_77 rfl qImp.rf)
def bX7_isGround_78 (G : Nat × Nat × Nat × Option (Nat × (Nat → Int32)) × (Option Value → qW → Prop)) : qK := (s_zreturn (mX7_isGround, G))
theorem oX7_isGround_78 (G : Nat × Nat × Nat × Option (Nat × (Nat → Int32)) × (Option Value → qW → Prop)) : qImp (bX7_isGround_78 G) (AW (mX7_isGround, G) 78) := (r_zreturn dX7_isGround_78 rfl)
theorem kX7_isGround_3 {G : Nat × Nat × Nat × Option (Nat × (Nat → Int32)) × (Option Value → qW → Prop)} {L : qL} {w : qW} {kc ks : Nat} {rest : List Value} {q : Nat} {x0 : Int32} {x1 : Int32} {d mc ms : Nat} {Q : Option Value → qW → Prop} (hC : CT mX8_cell d mc ms [.ref q, .int x0, .int x1] w Q) (hq : qci w q = some 8) (hst : rest.length ≤ 4) (hdp : d + 1 ≤ G.1) (hmc : kc + mc ≤ G.2.1 ∧ ks + ms ≤ G.2.2.1) (k : ∀ r w', Q r w' → AW (mX7_isGround, G) 6 L (r.toList ++ rest) w' (kc + mc) (ks + ms)) : AW (mX7_isGround, G) 3 L (.int x1 :: .int x0 :: .ref q :: rest) w kc ks := a_callV [.int x0, .int x1] rest dX7_isGround_3 vX8_cell lk399 hC hq rfl rfl hst hdp hmc k
theorem kX7_isGround_26 {G : Nat × Nat × Nat × Option (Nat × (Nat → Int32)) × (Option Value → qW → Prop)} {L : qL} {w : qW} {kc ks : Nat} {rest : List Value} {q : Nat} {x0 : Int32} {x1 : Int32} {d mc ms : Nat} {Q : Option Value → qW → Prop} (hC : CT mX8_cell d mc ms [.ref q, .int x0, .int x1] w Q) (hq : qci w q = some 8) (hst : rest.length ≤ 4) (hdp : d + 1 ≤ G.1) (hmc : kc + mc ≤ G.2.1 ∧ ks + ms ≤ G.2.2.1) (k : ∀ r w', Q r w' → AW (mX7_isGround, G) 29 L (r.toList ++ rest) w' (kc + mc) (ks + ms)) : AW (mX7_isGround, G) 26 L (.int x1 :: .int x0 :: .ref q :: rest) w kc ks := a_callV [.int x0, .int x1] rest dX7_isGround_26 vX8_cell lk399 hC hq rfl rfl hst hdp hmc k
theorem kX7_isGround_37 {G : Nat × Nat × Nat × Option (Nat × (Nat → Int32)) × (Option Value → qW → Prop)} {L : qL} {w : qW} {kc ks : Nat} {rest : List Value} {q : Nat} {x0 : Int32} {x1 : Int32} {d mc ms : Nat} {Q : Option Value → qW → Prop} (hC : CT mX8_cell d mc ms [.ref q, .int x0, .int x1] w Q) (hq : qci w q = some 8) (hst : rest.length ≤ 4) (hdp : d + 1 ≤ G.1) (hmc : kc + mc ≤ G.2.1 ∧ ks + ms ≤ G.2.2.1) (k : ∀ r w', Q r w' → AW (mX7_isGround, G) 40 L (r.toList ++ rest) w' (kc + mc) (ks + ms)) : AW (mX7_isGround, G) 37 L (.int x1 :: .int x0 :: .ref q :: rest) w kc ks := a_callV [.int x0, .int x1] rest dX7_isGround_37 vX8_cell lk399 hC hq rfl rfl hst hdp hmc k
theorem kX7_isGround_40 {G : Nat × Nat × Nat × Option (Nat × (Nat → Int32)) × (Option Value → qW → Prop)} {L : qL} {w : qW} {kc ks : Nat} {rest : List Value} {q : Nat} {x0 : Int32} {d mc ms : Nat} {Q : Option Value → qW → Prop} (hC : CT mX7_isCleanInput d mc ms [.ref q, .int x0] w Q) (hq : qci w q = some 7) (hst : rest.length ≤ 4) (hdp : d + 1 ≤ G.1) (hmc : kc + mc ≤ G.2.1 ∧ ks + ms ≤ G.2.2.1) (k : ∀ r w', Q r w' → AW (mX7_isGround, G) 43 L (r.toList ++ rest) w' (kc + mc) (ks + ms)) : AW (mX7_isGround, G) 40 L (.int x0 :: .ref q :: rest) w kc ks := a_callV [.int x0] rest dX7_isGround_40 vX7_isCleanInput lk415 hC hq rfl rfl hst hdp hmc k
theorem kX7_isGround_50 {G : Nat × Nat × Nat × Option (Nat × (Nat → Int32)) × (Option Value → qW → Prop)} {L : qL} {w : qW} {kc ks : Nat} {rest : List Value} {q : Nat} {x0 : Int32} {x1 : Int32} {d mc ms : Nat} {Q : Option Value → qW → Prop} (hC : CT mX8_cell d mc ms [.ref q, .int x0, .int x1] w Q) (hq : qci w q = some 8) (hst : rest.length ≤ 4) (hdp : d + 1 ≤ G.1) (hmc : kc + mc ≤ G.2.1 ∧ ks + ms ≤ G.2.2.1) (k : ∀ r w', Q r w' → AW (mX7_isGround, G) 53 L (r.toList ++ rest) w' (kc + mc) (ks + ms)) : AW (mX7_isGround, G) 50 L (.int x1 :: .int x0 :: .ref q :: rest) w kc ks := a_callV [.int x0, .int x1] rest dX7_isGround_50 vX8_cell lk399 hC hq rfl rfl hst hdp hmc k
theorem kX7_isGround_53 {G : Nat × Nat × Nat × Option (Nat × (Nat → Int32)) × (Option Value → qW → Prop)} {L : qL} {w : qW} {kc ks : Nat} {rest : List Value} {q : Nat} {x0 : Int32} {d mc ms : Nat} {Q : Option Value → qW → Prop} (hC : CT mX7_isCleanInput d mc ms [.ref q, .int x0] w Q) (hq : qci w q = some 7) (hst : rest.length ≤ 4) (hdp : d + 1 ≤ G.1) (hmc : kc + mc ≤ G.2.1 ∧ ks + ms ≤ G.2.2.1) (k : ∀ r w', Q r w' → AW (mX7_isGround, G) 56 L (r.toList ++ rest) w' (kc + mc) (ks + ms)) : AW (mX7_isGround, G) 53 L (.int x0 :: .ref q :: rest) w kc ks := a_callV [.int x0] rest dX7_isGround_53 vX7_isCleanInput lk415 hC hq rfl rfl hst hdp hmc k
theorem kX7_isGround_64 {G : Nat × Nat × Nat × Option (Nat × (Nat → Int32)) × (Option Value → qW → Prop)} {L : qL} {w : qW} {kc ks : Nat} {rest : List Value} {q : Nat} {x0 : Int32} {x1 : Int32} {d mc ms : Nat} {Q : Option Value → qW → Prop} (hC : CT mX8_cell d mc ms [.ref q, .int x0, .int x1] w Q) (hq : qci w q = some 8) (hst : rest.length ≤ 4) (hdp : d + 1 ≤ G.1) (hmc : kc + mc ≤ G.2.1 ∧ ks + ms ≤ G.2.2.1) (k : ∀ r w', Q r w' → AW (mX7_isGround, G) 67 L (r.toList ++ rest) w' (kc + mc) (ks + ms)) : AW (mX7_isGround, G) 64 L (.int x1 :: .int x0 :: .ref q :: rest) w kc ks := a_callV [.int x0, .int x1] rest dX7_isGround_64 vX8_cell lk399 hC hq rfl rfl hst hdp hmc k
theorem kX7_isGround_67 {G : Nat × Nat × Nat × Option (Nat × (Nat → Int32)) × (Option Value → qW → Prop)} {L : qL} {w : qW} {kc ks : Nat} {rest : List Value} {q : Nat} {x0 : Int32} {d mc ms : Nat} {Q : Option Value → qW → Prop} (hC : CT mX7_isCleanInput d mc ms [.ref q, .int x0] w Q) (hq : qci w q = some 7) (hst : rest.length ≤ 4) (hdp : d + 1 ≤ G.1) (hmc : kc + mc ≤ G.2.1 ∧ ks + ms ≤ G.2.2.1) (k : ∀ r w', Q r w' → AW (mX7_isGround, G) 70 L (r.toList ++ rest) w' (kc + mc) (ks + ms)) : AW (mX7_isGround, G) 67 L (.int x0 :: .ref q :: rest) w kc ks := a_callV [.int x0] rest dX7_isGround_67 vX7_isCleanInput lk415 hC hq rfl rfl hst hdp hmc k
theorem dX7_init_0 : decode cX7_init 0 = .ok (.aload_n 0, 1) := by decide +kernel
theorem dX7_init_1 : decode cX7_init 1 = .ok (.invokespecial 3, 3) := by decide +kernel
theorem dX7_init_4 : decode cX7_init 4 = .ok (.aload_n 0, 1) := by decide +kernel
theorem dX7_init_5 : decode cX7_init 5 = .ok (.bipush 100, 2) := by decide +kernel
theorem dX7_init_7 : decode cX7_init 7 = .ok (.newarray .long, 2) := by decide +kernel
theorem dX7_init_9 : decode cX7_init 9 = .ok (.putfield 9, 3) := by decide +kernel
theorem dX7_init_12 : decode cX7_init 12 = .ok (.aload_n 0, 1) := by decide +kernel
theorem dX7_init_13 : decode cX7_init 13 = .ok (.bipush 100, 2) := by decide +kernel
theorem dX7_init_15 : decode cX7_init 15 = .ok (.anewarray 15, 3) := by decide +kernel
theorem dX7_init_18 : decode cX7_init 18 = .ok (.putfield 17, 3) := by decide +kernel
theorem dX7_init_21 : decode cX7_init 21 = .ok (.aload_n 0, 1) := by decide +kernel
theorem dX7_init_22 : decode cX7_init 22 = .ok (.bipush 100, 2) := by decide +kernel
theorem dX7_init_24 : decode cX7_init 24 = .ok (.newarray .int, 2) := by decide +kernel
theorem dX7_init_26 : decode cX7_init 26 = .ok (.putfield 21, 3) := by decide +kernel
theorem dX7_init_29 : decode cX7_init 29 = .ok (.aload_n 0, 1) := by decide +kernel
theorem dX7_init_30 : decode cX7_init 30 = .ok (.bipush 100, 2) := by decide +kernel
theorem dX7_init_32 : decode cX7_init 32 = .ok (.newarray .int, 2) := by decide +kernel
theorem dX7_init_34 : decode cX7_init 34 = .ok (.putfield 25, 3) := by decide +kernel
theorem dX7_init_37 : decode cX7_init 37 = .ok (.aload_n 0, 1) := by decide +kernel
theorem dX7_init_38 : decode cX7_init 38 = .ok (.bipush 100, 2) := by decide +kernel
theorem dX7_init_40 : decode cX7_init 40 = .ok (.newarray .int, 2) := by decide +kernel
theorem dX7_init_42 : decode cX7_init 42 = .ok (.putfield 28, 3) := by decide +kernel
theorem dX7_init_45 : decode cX7_init 45 = .ok (.aload_n 0, 1) := by decide +kernel
theorem dX7_init_46 : decode cX7_init 46 = .ok (.bipush 100, 2) := by decide +kernel
theorem dX7_init_48 : decode cX7_init 48 = .ok (.newarray .int, 2) := by decide +kernel
theorem dX7_init_50 : decode cX7_init 50 = .ok (.putfield 31, 3) := by decide +kernel
theorem dX7_init_53 : decode cX7_init 53 = .ok (.aload_n 0, 1) := by decide +kernel
theorem dX7_init_54 : decode cX7_init 54 = .ok (.new 15, 3) := by decide +kernel
theorem dX7_init_57 : decode cX7_init 57 = .ok (.dup, 1) := by decide +kernel
theorem dX7_init_58 : decode cX7_init 58 = .ok (.invokespecial 34, 3) := by decide +kernel
theorem dX7_init_61 : decode cX7_init 61 = .ok (.putfield 35, 3) := by decide +kernel
theorem dX7_init_64 : decode cX7_init 64 = .ok (.aload_n 0, 1) := by decide +kernel
theorem dX7_init_65 : decode cX7_init 65 = .ok (.iconst 0, 1) := by decide +kernel
theorem dX7_init_66 : decode cX7_init 66 = .ok (.putfield 39, 3) := by decide +kernel
theorem dX7_init_69 : decode cX7_init 69 = .ok (.iconst 0, 1) := by decide +kernel
theorem dX7_init_70 : decode cX7_init 70 = .ok (.istore_n 1, 1) := by decide +kernel
theorem dX7_init_71 : decode cX7_init 71 = .ok (.iload_n 1, 1) := by decide +kernel
theorem dX7_init_72 : decode cX7_init 72 = .ok (.bipush 100, 2) := by decide +kernel
theorem dX7_init_74 : decode cX7_init 74 = .ok (.if_icmp .ge 22, 3) := by decide +kernel
theorem dX7_init_77 : decode cX7_init 77 = .ok (.aload_n 0, 1) := by decide +kernel
theorem dX7_init_78 : decode cX7_init 78 = .ok (.getfield 17, 3) := by decide +kernel
theorem dX7_init_81 : decode cX7_init 81 = .ok (.iload_n 1, 1) := by decide +kernel
theorem dX7_init_82 : decode cX7_init 82 = .ok (.new 15, 3) := by decide +kernel
theorem dX7_init_85 : decode cX7_init 85 = .ok (.dup, 1) := by decide +kernel
theorem dX7_init_86 : decode cX7_init 86 = .ok (.invokespecial 34, 3) := by decide +kernel
theorem dX7_init_89 : decode cX7_init 89 = .ok (.aastore, 1) := by decide +kernel
theorem dX7_init_90 : decode cX7_init 90 = .ok (.iinc 1 1, 3) := by decide +kernel
theorem dX7_init_93 : decode cX7_init 93 = .ok (.goto (-22), 3) := by decide +kernel
theorem dX7_init_96 : decode cX7_init 96 = .ok (.return_, 1) := by decide +kernel
/-! SealLine$Shelf.<init>()V -/
theorem eX7_init {d mc ms : Nat} {w : qW} {Q : Option Value → qW → Prop} {q : Nat} (h : AW (mX7_init, d, mc, ms, none, Q) 0 [some (.ref q), none] [] w 0 0) : CT mX7_init d mc ms [.ref q] w Q := CT_of (by decide +kernel) rfl (Nat.le_of_ble_eq_true rfl) h
def bX7_init_0 (G : Nat × Nat × Nat × Option (Nat × (Nat → Int32)) × (Option Value → qW → Prop)) : qK := (s_aload 0 (s_oinit (mX7_init, G) (s_aload 0 (s_iconst 100 (s_newL (mX7_init, G) (s_putR 7 0 (s_aload 0 (s_iconst 100 (s_newR (mX7_init, G) (s_putR 7 1 (s_aload 0 (s_iconst 100 (s_newI (mX7_init, G) 0 (s_putR 7 2 (s_aload 0 (s_iconst 100 (s_newI (mX7_init, G) 0 (s_putR 7 3 (s_aload 0 (s_iconst 100 (s_newI (mX7_init, G) 0 (s_putR 7 4 (s_aload 0 (s_iconst 100 (s_newI (mX7_init, G) 0 (s_putR 7 5 (s_aload 0 (s_new (mX7_init, G) 0 2 [.long 0, .long 0] (s_dup (AW (mX7_init, G) 58))))))))))))))))))))))))))))))
theorem oX7_init_0 (G : Nat × Nat × Nat × Option (Nat × (Nat → Int32)) × (Option Value → qW → Prop)) : qImp (bX7_init_0 G) (AW (mX7_init, G) 0) := (r_aload_n dX7_init_0 rfl (r_oinit dX7_init_1 lk119 lk86 lk87 (r_aload_n dX7_init_4 rfl (r_bipush dX7_init_5 rfl (r_newL dX7_init_7 lk134 (r_putRF dX7_init_9 fpX7_9 (fun q hq => by cases hq; rfl) rfl (fun q hq => by cases hq; rfl) (fun _ => rfl) (fun _ => rfl) (r_aload_n dX7_init_12 rfl (r_bipush dX7_init_13 rfl (r_newR dX7_init_15 lk120 (r_putRF dX7_init_18 fpX7_17 (fun q hq => by cases hq; rfl) rfl (fun q hq => by cases hq; rfl) (fun _ => rfl) (fun _ => rfl) (r_aload_n dX7_init_21 rfl (r_bipush dX7_init_22 rfl (r_newI0 dX7_init_24 lk113 (r_putRF dX7_init_26 fpX7_21 (fun q hq => by cases hq; rfl) rfl (fun q hq => by cases hq; rfl) (fun _ => rfl) (fun _ => rfl) (r_aload_n dX7_init_29 rfl (r_bipush dX7_init_30 rfl (r_newI0 dX7_init_32 lk113 (r_putRF dX7_init_34 fpX7_25 (fun q hq => by cases hq; rfl) rfl (fun q hq => by cases hq; rfl) (fun _ => rfl) (fun _ => rfl) (r_aload_n dX7_init_37 rfl (r_bipush dX7_init_38 rfl (r_newI0 dX7_init_40 lk113 (r_putRF dX7_init_42 fpX7_28 (fun q hq => by cases hq; rfl) rfl (fun q hq => by cases hq; rfl) (fun _ => rfl) (fun _ => rfl) (r_aload_n dX7_init_45 rfl (r_bipush dX7_init_46 rfl (r_newI0 dX7_init_48 lk113 (r_putRF dX7_init_50 fpX7_31 (fun q hq => by cases hq; rfl) rfl (fun q hq => by cases hq; rfl) (fun _ => rfl) (fun _ => rfl) (r_aload_n dX7_init_53 rfl (r_new dX7_init_54 nwX7_15 (r_dup dX7_init_57 qImp.rf)))))))))))))))))))))))))))))
def bX7_init_61 (G : Nat × Nat × Nat × Option (Nat × (Nat → Int32)) × (Option Value → qW → Prop)) : qK := (s_putR 7 6 (s_aload 0 (s_iconst 0 (s_putI 7 7 (s_iconst 0 (s_istore 1 0 (AW (mX7_init, G) 71)))))))
theorem oX7_init_61 (G : Nat × Nat × Nat × Option (Nat × (Nat → Int32)) × (Option Value → qW → Prop)) : qImp (bX7_init_61 G) (AW (mX7_init, G) 61) := (r_putRF dX7_init_61 fpX7_35 (fun q hq => by cases hq; rfl) rfl (fun q hq => by cases hq; rfl) (fun _ => rfl) (fun _ => rfl) (r_aload_n dX7_init_64 rfl (r_iconst dX7_init_65 rfl (r_putI dX7_init_66 fpX7_39 (fun q hq => by cases hq; rfl) (r_iconst dX7_init_69 rfl (r_istore_n dX7_init_70 rfl (Or.inr rfl) (Nat.le_of_ble_eq_true rfl) qImp.rf))))))
def bX7_init_71 (G : Nat × Nat × Nat × Option (Nat × (Nat → Int32)) × (Option Value → qW → Prop)) : qK := (s_iload 1 (s_iconst 100 (s_ic_ge (AW (mX7_init, G) 96) (s_aload 0 (s_getfield 7 1 (s_iload 1 (s_new (mX7_init, G) 0 2 [.long 0, .long 0] (s_dup (AW (mX7_init, G) 86)))))))))
theorem oX7_init_71 (G : Nat × Nat × Nat × Option (Nat × (Nat → Int32)) × (Option Value → qW → Prop)) : qImp (bX7_init_71 G) (AW (mX7_init, G) 71) := (r_iload_n dX7_init_71 rfl (r_bipush dX7_init_72 rfl (r_ic_ge (tgt := 96) dX7_init_74 rfl qImp.rf (r_aload_n dX7_init_77 rfl (r_getfield dX7_init_78 fgX7_17 (r_iload_n dX7_init_81 rfl (r_new dX7_init_82 nwX7_15 (r_dup dX7_init_85 qImp.rf))))))))
def bX7_init_89 (G : Nat × Nat × Nat × Option (Nat × (Nat → Int32)) × (Option Value → qW → Prop)) : qK := (s_aastore (s_iinc 1 0 1 (AW (mX7_init, G) 71)))
theorem oX7_init_89 (G : Nat × Nat × Nat × Option (Nat × (Nat → Int32)) × (Option Value → qW → Prop)) : qImp (bX7_init_89 G) (AW (mX7_init, G) 89) := (r_aastore dX7_init_89 (r_iinc dX7_init_90 rfl (Or.inr rfl) (Nat.le_of_ble_eq_true rfl) (r_goto (tgt := 71) dX7_init_93 rfl qImp.rf)))
def bX7_init_96 (G : Nat × Nat × Nat × Option (Nat × (Nat → Int32)) × (Option Value → qW → Prop)) : qK := (s_vreturn (mX7_init, G))
theorem oX7_init_96 (G : Nat × Nat × Nat × Option (Nat × (Nat → Int32)) × (Option Value → qW → Prop)) : qImp (bX7_init_96 G) (AW (mX7_init, G) 96) := (r_vreturn dX7_init_96 rfl)
theorem kX7_init_58 {G : Nat × Nat × Nat × Option (Nat × (Nat → Int32)) × (Option Value → qW → Prop)} {L : qL} {w : qW} {kc ks : Nat} {rest : List Value} {q : Nat}  {d mc ms : Nat} {Q : Option Value → qW → Prop} (hC : CT mX0_init d mc ms [.ref q] w Q) (hst : rest.length ≤ 4) (hdp : d + 1 ≤ G.1) (hmc : kc + mc ≤ G.2.1 ∧ ks + ms ≤ G.2.2.1) (k : ∀ r w', Q r w' → AW (mX7_init, G) 61 L (r.toList ++ rest) w' (kc + mc) (ks + ms)) : AW (mX7_init, G) 58 L (.ref q :: rest) w kc ks := a_callIN [] rest dX7_init_58 iX0_init lnX7_34 hC rfl hst hdp hmc k
theorem kX7_init_86 {G : Nat × Nat × Nat × Option (Nat × (Nat → Int32)) × (Option Value → qW → Prop)} {L : qL} {w : qW} {kc ks : Nat} {rest : List Value} {q : Nat}  {d mc ms : Nat} {Q : Option Value → qW → Prop} (hC : CT mX0_init d mc ms [.ref q] w Q) (hst : rest.length ≤ 4) (hdp : d + 1 ≤ G.1) (hmc : kc + mc ≤ G.2.1 ∧ ks + ms ≤ G.2.2.1) (k : ∀ r w', Q r w' → AW (mX7_init, G) 89 L (r.toList ++ rest) w' (kc + mc) (ks + ms)) : AW (mX7_init, G) 86 L (.ref q :: rest) w kc ks := a_callIN [] rest dX7_init_86 iX0_init lnX7_34 hC rfl hst hdp hmc k
theorem dX7_size_0 : decode cX7_size 0 = .ok (.aload_n 0, 1) := by decide +kernel
theorem dX7_size_1 : decode cX7_size 1 = .ok (.getfield 39, 3) := by decide +kernel
theorem dX7_size_4 : decode cX7_size 4 = .ok (.ireturn, 1) := by decide +kernel
/-! SealLine$Shelf.size()I -/
theorem eX7_size {d mc ms : Nat} {w : qW} {Q : Option Value → qW → Prop} {q : Nat} (h : AW (mX7_size, d, mc, ms, none, Q) 0 [some (.ref q)] [] w 0 0) : CT mX7_size d mc ms [.ref q] w Q := CT_of (by decide +kernel) rfl (Nat.le_of_ble_eq_true rfl) h
def bX7_size_0 (G : Nat × Nat × Nat × Option (Nat × (Nat → Int32)) × (Option Value → qW → Prop)) : qK := (s_aload 0 (s_getfield 7 7 (s_ireturn (mX7_size, G))))
theorem oX7_size_0 (G : Nat × Nat × Nat × Option (Nat × (Nat → Int32)) × (Option Value → qW → Prop)) : qImp (bX7_size_0 G) (AW (mX7_size, G) 0) := (r_aload_n dX7_size_0 rfl (r_getfield dX7_size_1 fgX7_39 (r_ireturn dX7_size_4 rfl)))
theorem dX7_hashOf_0 : decode cX7_hashOf 0 = .ok (.aload_n 0, 1) := by decide +kernel
theorem dX7_hashOf_1 : decode cX7_hashOf 1 = .ok (.iload_n 1, 1) := by decide +kernel
theorem dX7_hashOf_2 : decode cX7_hashOf 2 = .ok (.invokevirtual 43, 3) := by decide +kernel
theorem dX7_hashOf_5 : decode cX7_hashOf 5 = .ok (.ifCond .eq 12, 3) := by decide +kernel
theorem dX7_hashOf_8 : decode cX7_hashOf 8 = .ok (.aload_n 0, 1) := by decide +kernel
theorem dX7_hashOf_9 : decode cX7_hashOf 9 = .ok (.getfield 9, 3) := by decide +kernel
theorem dX7_hashOf_12 : decode cX7_hashOf 12 = .ok (.iload_n 1, 1) := by decide +kernel
theorem dX7_hashOf_13 : decode cX7_hashOf 13 = .ok (.laload, 1) := by decide +kernel
theorem dX7_hashOf_14 : decode cX7_hashOf 14 = .ok (.goto 4, 3) := by decide +kernel
theorem dX7_hashOf_17 : decode cX7_hashOf 17 = .ok (.lconst 0, 1) := by decide +kernel
theorem dX7_hashOf_18 : decode cX7_hashOf 18 = .ok (.lreturn, 1) := by decide +kernel
/-! SealLine$Shelf.hashOf(I)J -/
theorem eX7_hashOf {d mc ms : Nat} {w : qW} {Q : Option Value → qW → Prop} {q : Nat} {x0 : Int32} (h : AW (mX7_hashOf, d, mc, ms, none, Q) 0 [some (.ref q), some (.int x0)] [] w 0 0) : CT mX7_hashOf d mc ms [.ref q, .int x0] w Q := CT_of (by decide +kernel) rfl (Nat.le_of_ble_eq_true rfl) h
def bX7_hashOf_0 (G : Nat × Nat × Nat × Option (Nat × (Nat → Int32)) × (Option Value → qW → Prop)) : qK := (s_aload 0 (s_iload 1 (AW (mX7_hashOf, G) 2)))
theorem oX7_hashOf_0 (G : Nat × Nat × Nat × Option (Nat × (Nat → Int32)) × (Option Value → qW → Prop)) : qImp (bX7_hashOf_0 G) (AW (mX7_hashOf, G) 0) := (r_aload_n dX7_hashOf_0 rfl (r_iload_n dX7_hashOf_1 rfl qImp.rf))
def bX7_hashOf_5 (G : Nat × Nat × Nat × Option (Nat × (Nat → Int32)) × (Option Value → qW → Prop)) : qK := (s_if_eq (AW (mX7_hashOf, G) 17) (s_aload 0 (s_getfield 7 0 (s_iload 1 (s_laload (AW (mX7_hashOf, G) 18))))))
theorem oX7_hashOf_5 (G : Nat × Nat × Nat × Option (Nat × (Nat → Int32)) × (Option Value → qW → Prop)) : qImp (bX7_hashOf_5 G) (AW (mX7_hashOf, G) 5) := (r_if_eq (tgt := 17) dX7_hashOf_5 rfl qImp.rf (r_aload_n dX7_hashOf_8 rfl (r_getfield dX7_hashOf_9 fgX7_9 (r_iload_n dX7_hashOf_12 rfl (r_laload dX7_hashOf_13 (r_goto (tgt := 18) dX7_hashOf_14 rfl qImp.rf))))))
def bX7_hashOf_17 (G : Nat × Nat × Nat × Option (Nat × (Nat → Int32)) × (Option Value → qW → Prop)) : qK := (s_lconst 0 (AW (mX7_hashOf, G) 18))
theorem oX7_hashOf_17 (G : Nat × Nat × Nat × Option (Nat × (Nat → Int32)) × (Option Value → qW → Prop)) : qImp (bX7_hashOf_17 G) (AW (mX7_hashOf, G) 17) := (r_lconst dX7_hashOf_17 rfl qImp.rf)
def bX7_hashOf_18 (G : Nat × Nat × Nat × Option (Nat × (Nat → Int32)) × (Option Value → qW → Prop)) : qK := (s_lreturn (mX7_hashOf, G))
theorem oX7_hashOf_18 (G : Nat × Nat × Nat × Option (Nat × (Nat → Int32)) × (Option Value → qW → Prop)) : qImp (bX7_hashOf_18 G) (AW (mX7_hashOf, G) 18) := (r_lreturn dX7_hashOf_18 rfl)
theorem kX7_hashOf_2 {G : Nat × Nat × Nat × Option (Nat × (Nat → Int32)) × (Option Value → qW → Prop)} {L : qL} {w : qW} {kc ks : Nat} {rest : List Value} {q : Nat} {x0 : Int32} {d mc ms : Nat} {Q : Option Value → qW → Prop} (hC : CT mX7_has d mc ms [.ref q, .int x0] w Q) (hq : qci w q = some 7) (hst : rest.length ≤ 4) (hdp : d + 1 ≤ G.1) (hmc : kc + mc ≤ G.2.1 ∧ ks + ms ≤ G.2.2.1) (k : ∀ r w', Q r w' → AW (mX7_hashOf, G) 5 L (r.toList ++ rest) w' (kc + mc) (ks + ms)) : AW (mX7_hashOf, G) 2 L (.int x0 :: .ref q :: rest) w kc ks := a_callV [.int x0] rest dX7_hashOf_2 vX7_has lk382 hC hq rfl rfl hst hdp hmc k
theorem dX7_numberOf_0 : decode cX7_numberOf 0 = .ok (.iconst 0, 1) := by decide +kernel
theorem dX7_numberOf_1 : decode cX7_numberOf 1 = .ok (.istore_n 3, 1) := by decide +kernel
theorem dX7_numberOf_2 : decode cX7_numberOf 2 = .ok (.iload_n 3, 1) := by decide +kernel
theorem dX7_numberOf_3 : decode cX7_numberOf 3 = .ok (.aload_n 0, 1) := by decide +kernel
theorem dX7_numberOf_4 : decode cX7_numberOf 4 = .ok (.getfield 39, 3) := by decide +kernel
theorem dX7_numberOf_7 : decode cX7_numberOf 7 = .ok (.if_icmp .ge 22, 3) := by decide +kernel
theorem dX7_numberOf_10 : decode cX7_numberOf 10 = .ok (.aload_n 0, 1) := by decide +kernel
theorem dX7_numberOf_11 : decode cX7_numberOf 11 = .ok (.getfield 9, 3) := by decide +kernel
theorem dX7_numberOf_14 : decode cX7_numberOf 14 = .ok (.iload_n 3, 1) := by decide +kernel
theorem dX7_numberOf_15 : decode cX7_numberOf 15 = .ok (.laload, 1) := by decide +kernel
theorem dX7_numberOf_16 : decode cX7_numberOf 16 = .ok (.lload_n 1, 1) := by decide +kernel
theorem dX7_numberOf_17 : decode cX7_numberOf 17 = .ok (.lcmp, 1) := by decide +kernel
theorem dX7_numberOf_18 : decode cX7_numberOf 18 = .ok (.ifCond .ne 5, 3) := by decide +kernel
theorem dX7_numberOf_21 : decode cX7_numberOf 21 = .ok (.iload_n 3, 1) := by decide +kernel
theorem dX7_numberOf_22 : decode cX7_numberOf 22 = .ok (.ireturn, 1) := by decide +kernel
theorem dX7_numberOf_23 : decode cX7_numberOf 23 = .ok (.iinc 3 1, 3) := by decide +kernel
theorem dX7_numberOf_26 : decode cX7_numberOf 26 = .ok (.goto (-24), 3) := by decide +kernel
theorem dX7_numberOf_29 : decode cX7_numberOf 29 = .ok (.iconst (-1), 1) := by decide +kernel
theorem dX7_numberOf_30 : decode cX7_numberOf 30 = .ok (.ireturn, 1) := by decide +kernel
/-! SealLine$Shelf.numberOf(J)I -/
theorem eX7_numberOf {d mc ms : Nat} {w : qW} {Q : Option Value → qW → Prop} {q : Nat} {x0 : Int64} (h : AW (mX7_numberOf, d, mc, ms, none, Q) 0 [some (.ref q), some (.long x0), none, none] [] w 0 0) : CT mX7_numberOf d mc ms [.ref q, .long x0] w Q := CT_of (by decide +kernel) rfl (Nat.le_of_ble_eq_true rfl) h
def bX7_numberOf_0 (G : Nat × Nat × Nat × Option (Nat × (Nat → Int32)) × (Option Value → qW → Prop)) : qK := (s_iconst 0 (s_istore 3 2 (AW (mX7_numberOf, G) 2)))
theorem oX7_numberOf_0 (G : Nat × Nat × Nat × Option (Nat × (Nat → Int32)) × (Option Value → qW → Prop)) : qImp (bX7_numberOf_0 G) (AW (mX7_numberOf, G) 0) := (r_iconst dX7_numberOf_0 rfl (r_istore_n dX7_numberOf_1 rfl (Or.inr rfl) (Nat.le_of_ble_eq_true rfl) qImp.rf))
def bX7_numberOf_2 (G : Nat × Nat × Nat × Option (Nat × (Nat → Int32)) × (Option Value → qW → Prop)) : qK := (s_iload 3 (s_aload 0 (s_getfield 7 7 (s_ic_ge (AW (mX7_numberOf, G) 29) (s_aload 0 (s_getfield 7 0 (s_iload 3 (s_laload (s_lload 1 (s_lcmp (s_if_ne (AW (mX7_numberOf, G) 23) (s_iload 3 (s_ireturn (mX7_numberOf, G))))))))))))))
theorem oX7_numberOf_2 (G : Nat × Nat × Nat × Option (Nat × (Nat → Int32)) × (Option Value → qW → Prop)) : qImp (bX7_numberOf_2 G) (AW (mX7_numberOf, G) 2) := (r_iload_n dX7_numberOf_2 rfl (r_aload_n dX7_numberOf_3 rfl (r_getfield dX7_numberOf_4 fgX7_39 (r_ic_ge (tgt := 29) dX7_numberOf_7 rfl qImp.rf (r_aload_n dX7_numberOf_10 rfl (r_getfield dX7_numberOf_11 fgX7_9 (r_iload_n dX7_numberOf_14 rfl (r_laload dX7_numberOf_15 (r_lload_n dX7_numberOf_16 rfl (r_lcmp dX7_numberOf_17 (r_if_ne (tgt := 23) dX7_numberOf_18 rfl qImp.rf (r_iload_n dX7_numberOf_21 rfl (r_ireturn dX7_numberOf_22 rfl)))))))))))))
def bX7_numberOf_23 (G : Nat × Nat × Nat × Option (Nat × (Nat → Int32)) × (Option Value → qW → Prop)) : qK := (s_iinc 3 2 1 (AW (mX7_numberOf, G) 2))
theorem oX7_numberOf_23 (G : Nat × Nat × Nat × Option (Nat × (Nat → Int32)) × (Option Value → qW → Prop)) : qImp (bX7_numberOf_23 G) (AW (mX7_numberOf, G) 23) := (r_iinc dX7_numberOf_23 rfl (Or.inr rfl) (Nat.le_of_ble_eq_true rfl) (r_goto (tgt := 2) dX7_numberOf_26 rfl qImp.rf))
def bX7_numberOf_29 (G : Nat × Nat × Nat × Option (Nat × (Nat → Int32)) × (Option Value → qW → Prop)) : qK := (s_iconst (-1) (s_ireturn (mX7_numberOf, G)))
theorem oX7_numberOf_29 (G : Nat × Nat × Nat × Option (Nat × (Nat → Int32)) × (Option Value → qW → Prop)) : qImp (bX7_numberOf_29 G) (AW (mX7_numberOf, G) 29) := (r_iconst dX7_numberOf_29 rfl (r_ireturn dX7_numberOf_30 rfl))
theorem dX7_numberOrNew_0 : decode cX7_numberOrNew 0 = .ok (.aload_n 0, 1) := by decide +kernel
theorem dX7_numberOrNew_1 : decode cX7_numberOrNew 1 = .ok (.lload_n 1, 1) := by decide +kernel
theorem dX7_numberOrNew_2 : decode cX7_numberOrNew 2 = .ok (.invokevirtual 47, 3) := by decide +kernel
theorem dX7_numberOrNew_5 : decode cX7_numberOrNew 5 = .ok (.istore_n 3, 1) := by decide +kernel
theorem dX7_numberOrNew_6 : decode cX7_numberOrNew 6 = .ok (.iload_n 3, 1) := by decide +kernel
theorem dX7_numberOrNew_7 : decode cX7_numberOrNew 7 = .ok (.iconst (-1), 1) := by decide +kernel
theorem dX7_numberOrNew_8 : decode cX7_numberOrNew 8 = .ok (.if_icmp .ne 12, 3) := by decide +kernel
theorem dX7_numberOrNew_11 : decode cX7_numberOrNew 11 = .ok (.aload_n 0, 1) := by decide +kernel
theorem dX7_numberOrNew_12 : decode cX7_numberOrNew 12 = .ok (.getfield 39, 3) := by decide +kernel
theorem dX7_numberOrNew_15 : decode cX7_numberOrNew 15 = .ok (.bipush 100, 2) := by decide +kernel
theorem dX7_numberOrNew_17 : decode cX7_numberOrNew 17 = .ok (.if_icmp .lt 5, 3) := by decide +kernel
theorem dX7_numberOrNew_20 : decode cX7_numberOrNew 20 = .ok (.iload_n 3, 1) := by decide +kernel
theorem dX7_numberOrNew_21 : decode cX7_numberOrNew 21 = .ok (.ireturn, 1) := by decide +kernel
theorem dX7_numberOrNew_22 : decode cX7_numberOrNew 22 = .ok (.aload_n 0, 1) := by decide +kernel
theorem dX7_numberOrNew_23 : decode cX7_numberOrNew 23 = .ok (.getfield 39, 3) := by decide +kernel
theorem dX7_numberOrNew_26 : decode cX7_numberOrNew 26 = .ok (.istore 4, 2) := by decide +kernel
theorem dX7_numberOrNew_28 : decode cX7_numberOrNew 28 = .ok (.aload_n 0, 1) := by decide +kernel
theorem dX7_numberOrNew_29 : decode cX7_numberOrNew 29 = .ok (.dup, 1) := by decide +kernel
theorem dX7_numberOrNew_30 : decode cX7_numberOrNew 30 = .ok (.getfield 39, 3) := by decide +kernel
theorem dX7_numberOrNew_33 : decode cX7_numberOrNew 33 = .ok (.iconst 1, 1) := by decide +kernel
theorem dX7_numberOrNew_34 : decode cX7_numberOrNew 34 = .ok (.iadd, 1) := by decide +kernel
theorem dX7_numberOrNew_35 : decode cX7_numberOrNew 35 = .ok (.putfield 39, 3) := by decide +kernel
theorem dX7_numberOrNew_38 : decode cX7_numberOrNew 38 = .ok (.aload_n 0, 1) := by decide +kernel
theorem dX7_numberOrNew_39 : decode cX7_numberOrNew 39 = .ok (.getfield 9, 3) := by decide +kernel
theorem dX7_numberOrNew_42 : decode cX7_numberOrNew 42 = .ok (.iload 4, 2) := by decide +kernel
theorem dX7_numberOrNew_44 : decode cX7_numberOrNew 44 = .ok (.lload_n 1, 1) := by decide +kernel
theorem dX7_numberOrNew_45 : decode cX7_numberOrNew 45 = .ok (.lastore, 1) := by decide +kernel
theorem dX7_numberOrNew_46 : decode cX7_numberOrNew 46 = .ok (.aload_n 0, 1) := by decide +kernel
theorem dX7_numberOrNew_47 : decode cX7_numberOrNew 47 = .ok (.getfield 17, 3) := by decide +kernel
theorem dX7_numberOrNew_50 : decode cX7_numberOrNew 50 = .ok (.iload 4, 2) := by decide +kernel
theorem dX7_numberOrNew_52 : decode cX7_numberOrNew 52 = .ok (.aaload, 1) := by decide +kernel
theorem dX7_numberOrNew_53 : decode cX7_numberOrNew 53 = .ok (.iload 4, 2) := by decide +kernel
theorem dX7_numberOrNew_55 : decode cX7_numberOrNew 55 = .ok (.invokevirtual 51, 3) := by decide +kernel
theorem dX7_numberOrNew_58 : decode cX7_numberOrNew 58 = .ok (.iload 4, 2) := by decide +kernel
theorem dX7_numberOrNew_60 : decode cX7_numberOrNew 60 = .ok (.ireturn, 1) := by decide +kernel
/-! SealLine$Shelf.numberOrNew(J)I -/
theorem eX7_numberOrNew {d mc ms : Nat} {w : qW} {Q : Option Value → qW → Prop} {q : Nat} {x0 : Int64} (h : AW (mX7_numberOrNew, d, mc, ms, none, Q) 0 [some (.ref q), some (.long x0), none, none, none] [] w 0 0) : CT mX7_numberOrNew d mc ms [.ref q, .long x0] w Q := CT_of (by decide +kernel) rfl (Nat.le_of_ble_eq_true rfl) h
def bX7_numberOrNew_0 (G : Nat × Nat × Nat × Option (Nat × (Nat → Int32)) × (Option Value → qW → Prop)) : qK := (s_aload 0 (s_lload 1 (AW (mX7_numberOrNew, G) 2)))
theorem oX7_numberOrNew_0 (G : Nat × Nat × Nat × Option (Nat × (Nat → Int32)) × (Option Value → qW → Prop)) : qImp (bX7_numberOrNew_0 G) (AW (mX7_numberOrNew, G) 0) := (r_aload_n dX7_numberOrNew_0 rfl (r_lload_n dX7_numberOrNew_1 rfl qImp.rf))
def bX7_numberOrNew_5 (G : Nat × Nat × Nat × Option (Nat × (Nat → Int32)) × (Option Value → qW → Prop)) : qK := (s_istore 3 2 (s_iload 3 (s_iconst (-1) (s_ic_ne (AW (mX7_numberOrNew, G) 20) (s_aload 0 (s_getfield 7 7 (s_iconst 100 (s_ic_lt (AW (mX7_numberOrNew, G) 22) (AW (mX7_numberOrNew, G) 20)))))))))
theorem oX7_numberOrNew_5 (G : Nat × Nat × Nat × Option (Nat × (Nat → Int32)) × (Option Value → qW → Prop)) : qImp (bX7_numberOrNew_5 G) (AW (mX7_numberOrNew, G) 5) := (r_istore_n dX7_numberOrNew_5 rfl (Or.inr rfl) (Nat.le_of_ble_eq_true rfl) (r_iload_n dX7_numberOrNew_6 rfl (r_iconst dX7_numberOrNew_7 rfl (r_ic_ne (tgt := 20) dX7_numberOrNew_8 rfl qImp.rf (r_aload_n dX7_numberOrNew_11 rfl (r_getfield dX7_numberOrNew_12 fgX7_39 (r_bipush dX7_numberOrNew_15 rfl (r_ic_lt (tgt := 22) dX7_numberOrNew_17 rfl qImp.rf qImp.rf))))))))
def bX7_numberOrNew_20 (G : Nat × Nat × Nat × Option (Nat × (Nat → Int32)) × (Option Value → qW → Prop)) : qK := (s_iload 3 (s_ireturn (mX7_numberOrNew, G)))
theorem oX7_numberOrNew_20 (G : Nat × Nat × Nat × Option (Nat × (Nat → Int32)) × (Option Value → qW → Prop)) : qImp (bX7_numberOrNew_20 G) (AW (mX7_numberOrNew, G) 20) := (r_iload_n dX7_numberOrNew_20 rfl (r_ireturn dX7_numberOrNew_21 rfl))
def bX7_numberOrNew_22 (G : Nat × Nat × Nat × Option (Nat × (Nat → Int32)) × (Option Value → qW → Prop)) : qK := (s_aload 0 (s_getfield 7 7 (s_istore 4 3 (s_aload 0 (s_dup (s_getfield 7 7 (s_iconst 1 (s_iadd (s_putI 7 7 (s_aload 0 (s_getfield 7 0 (s_iload 4 (s_lload 1 (s_lastore (s_aload 0 (s_getfield 7 1 (s_iload 4 (s_aaload (s_iload 4 (AW (mX7_numberOrNew, G) 55))))))))))))))))))))
theorem oX7_numberOrNew_22 (G : Nat × Nat × Nat × Option (Nat × (Nat → Int32)) × (Option Value → qW → Prop)) : qImp (bX7_numberOrNew_22 G) (AW (mX7_numberOrNew, G) 22) := (r_aload_n dX7_numberOrNew_22 rfl (r_getfield dX7_numberOrNew_23 fgX7_39 (r_istore dX7_numberOrNew_26 (Or.inr rfl) (Nat.le_of_ble_eq_true rfl) (r_aload_n dX7_numberOrNew_28 rfl (r_dup dX7_numberOrNew_29 (r_getfield dX7_numberOrNew_30 fgX7_39 (r_iconst dX7_numberOrNew_33 rfl (r_iadd dX7_numberOrNew_34 (r_putI dX7_numberOrNew_35 fpX7_39 (fun q hq => by cases hq; rfl) (r_aload_n dX7_numberOrNew_38 rfl (r_getfield dX7_numberOrNew_39 fgX7_9 (r_iload dX7_numberOrNew_42 (r_lload_n dX7_numberOrNew_44 rfl (r_lastore dX7_numberOrNew_45 (r_aload_n dX7_numberOrNew_46 rfl (r_getfield dX7_numberOrNew_47 fgX7_17 (r_iload dX7_numberOrNew_50 (r_aaload dX7_numberOrNew_52 (r_iload dX7_numberOrNew_53 qImp.rf)))))))))))))))))))
def bX7_numberOrNew_58 (G : Nat × Nat × Nat × Option (Nat × (Nat → Int32)) × (Option Value → qW → Prop)) : qK := (s_iload 4 (s_ireturn (mX7_numberOrNew, G)))
theorem oX7_numberOrNew_58 (G : Nat × Nat × Nat × Option (Nat × (Nat → Int32)) × (Option Value → qW → Prop)) : qImp (bX7_numberOrNew_58 G) (AW (mX7_numberOrNew, G) 58) := (r_iload dX7_numberOrNew_58 (r_ireturn dX7_numberOrNew_60 rfl))
theorem kX7_numberOrNew_2 {G : Nat × Nat × Nat × Option (Nat × (Nat → Int32)) × (Option Value → qW → Prop)} {L : qL} {w : qW} {kc ks : Nat} {rest : List Value} {q : Nat} {x0 : Int64} {d mc ms : Nat} {Q : Option Value → qW → Prop} (hC : CT mX7_numberOf d mc ms [.ref q, .long x0] w Q) (hq : qci w q = some 7) (hst : rest.length ≤ 4) (hdp : d + 1 ≤ G.1) (hmc : kc + mc ≤ G.2.1 ∧ ks + ms ≤ G.2.2.1) (k : ∀ r w', Q r w' → AW (mX7_numberOrNew, G) 5 L (r.toList ++ rest) w' (kc + mc) (ks + ms)) : AW (mX7_numberOrNew, G) 2 L (.long x0 :: .ref q :: rest) w kc ks := a_callV [.long x0] rest dX7_numberOrNew_2 vX7_numberOf lk349 hC hq rfl rfl hst hdp hmc k
theorem kX7_numberOrNew_55 {G : Nat × Nat × Nat × Option (Nat × (Nat → Int32)) × (Option Value → qW → Prop)} {L : qL} {w : qW} {kc ks : Nat} {rest : List Value} {q : Nat} {x0 : Int32} {d mc ms : Nat} {Q : Option Value → qW → Prop} (hC : CT mX0_add d mc ms [.ref q, .int x0] w Q) (hq : qci w q = some 0) (hst : rest.length ≤ 4) (hdp : d + 1 ≤ G.1) (hmc : kc + mc ≤ G.2.1 ∧ ks + ms ≤ G.2.2.1) (k : ∀ r w', Q r w' → AW (mX7_numberOrNew, G) 58 L (r.toList ++ rest) w' (kc + mc) (ks + ms)) : AW (mX7_numberOrNew, G) 55 L (.int x0 :: .ref q :: rest) w kc ks := a_callV [.int x0] rest dX7_numberOrNew_55 vX0_add lk353 hC hq rfl rfl hst hdp hmc k
theorem dX7_setHand_0 : decode cX7_setHand 0 = .ok (.aload_n 0, 1) := by decide +kernel
theorem dX7_setHand_1 : decode cX7_setHand 1 = .ok (.iload_n 2, 1) := by decide +kernel
theorem dX7_setHand_2 : decode cX7_setHand 2 = .ok (.invokevirtual 43, 3) := by decide +kernel
theorem dX7_setHand_5 : decode cX7_setHand 5 = .ok (.ifCond .eq 37, 3) := by decide +kernel
theorem dX7_setHand_8 : decode cX7_setHand 8 = .ok (.iload_n 3, 1) := by decide +kernel
theorem dX7_setHand_9 : decode cX7_setHand 9 = .ok (.invokestatic 59, 3) := by decide +kernel
theorem dX7_setHand_12 : decode cX7_setHand 12 = .ok (.ifCond .eq 30, 3) := by decide +kernel
theorem dX7_setHand_15 : decode cX7_setHand 15 = .ok (.aload_n 1, 1) := by decide +kernel
theorem dX7_setHand_16 : decode cX7_setHand 16 = .ok (.iload_n 2, 1) := by decide +kernel
theorem dX7_setHand_17 : decode cX7_setHand 17 = .ok (.iload 4, 2) := by decide +kernel
theorem dX7_setHand_19 : decode cX7_setHand 19 = .ok (.ifCond .eq 13, 3) := by decide +kernel
theorem dX7_setHand_22 : decode cX7_setHand 22 = .ok (.aload_n 1, 1) := by decide +kernel
theorem dX7_setHand_23 : decode cX7_setHand 23 = .ok (.iload_n 2, 1) := by decide +kernel
theorem dX7_setHand_24 : decode cX7_setHand 24 = .ok (.iaload, 1) := by decide +kernel
theorem dX7_setHand_25 : decode cX7_setHand 25 = .ok (.iconst 1, 1) := by decide +kernel
theorem dX7_setHand_26 : decode cX7_setHand 26 = .ok (.iload_n 3, 1) := by decide +kernel
theorem dX7_setHand_27 : decode cX7_setHand 27 = .ok (.ishl, 1) := by decide +kernel
theorem dX7_setHand_28 : decode cX7_setHand 28 = .ok (.ior, 1) := by decide +kernel
theorem dX7_setHand_29 : decode cX7_setHand 29 = .ok (.goto 12, 3) := by decide +kernel
theorem dX7_setHand_32 : decode cX7_setHand 32 = .ok (.aload_n 1, 1) := by decide +kernel
theorem dX7_setHand_33 : decode cX7_setHand 33 = .ok (.iload_n 2, 1) := by decide +kernel
theorem dX7_setHand_34 : decode cX7_setHand 34 = .ok (.iaload, 1) := by decide +kernel
theorem dX7_setHand_35 : decode cX7_setHand 35 = .ok (.iconst 1, 1) := by decide +kernel
theorem dX7_setHand_36 : decode cX7_setHand 36 = .ok (.iload_n 3, 1) := by decide +kernel
theorem dX7_setHand_37 : decode cX7_setHand 37 = .ok (.ishl, 1) := by decide +kernel
theorem dX7_setHand_38 : decode cX7_setHand 38 = .ok (.iconst (-1), 1) := by decide +kernel
theorem dX7_setHand_39 : decode cX7_setHand 39 = .ok (.ixor, 1) := by decide +kernel
theorem dX7_setHand_40 : decode cX7_setHand 40 = .ok (.iand, 1) := by decide +kernel
theorem dX7_setHand_41 : decode cX7_setHand 41 = .ok (.iastore, 1) := by decide +kernel
theorem dX7_setHand_42 : decode cX7_setHand 42 = .ok (.return_, 1) := by decide +kernel
/-! SealLine$Shelf.setHand([IIIZ)V -/
theorem eX7_setHand {d mc ms : Nat} {w : qW} {Q : Option Value → qW → Prop} {q : Nat} {x0 : Nat} {x1 : Int32} {x2 : Int32} {x3 : Int32} (h : AW (mX7_setHand, d, mc, ms, none, Q) 0 [some (.ref q), some (.ref x0), some (.int x1), some (.int x2), some (.int x3)] [] w 0 0) : CT mX7_setHand d mc ms [.ref q, .ref x0, .int x1, .int x2, .int x3] w Q := CT_of (by decide +kernel) rfl (Nat.le_of_ble_eq_true rfl) h
def bX7_setHand_0 (G : Nat × Nat × Nat × Option (Nat × (Nat → Int32)) × (Option Value → qW → Prop)) : qK := (s_aload 0 (s_iload 2 (AW (mX7_setHand, G) 2)))
theorem oX7_setHand_0 (G : Nat × Nat × Nat × Option (Nat × (Nat → Int32)) × (Option Value → qW → Prop)) : qImp (bX7_setHand_0 G) (AW (mX7_setHand, G) 0) := (r_aload_n dX7_setHand_0 rfl (r_iload_n dX7_setHand_1 rfl qImp.rf))
def bX7_setHand_5 (G : Nat × Nat × Nat × Option (Nat × (Nat → Int32)) × (Option Value → qW → Prop)) : qK := (s_if_eq (AW (mX7_setHand, G) 42) (s_iload 3 (AW (mX7_setHand, G) 9)))
theorem oX7_setHand_5 (G : Nat × Nat × Nat × Option (Nat × (Nat → Int32)) × (Option Value → qW → Prop)) : qImp (bX7_setHand_5 G) (AW (mX7_setHand, G) 5) := (r_if_eq (tgt := 42) dX7_setHand_5 rfl qImp.rf (r_iload_n dX7_setHand_8 rfl qImp.rf))
def bX7_setHand_12 (G : Nat × Nat × Nat × Option (Nat × (Nat → Int32)) × (Option Value → qW → Prop)) : qK := (s_if_eq (AW (mX7_setHand, G) 42) (s_aload 1 (s_iload 2 (s_iload 4 (s_if_eq (AW (mX7_setHand, G) 32) (s_aload 1 (s_iload 2 (s_iaload (mX7_setHand, G) (s_iconst 1 (s_iload 3 (s_ishl (s_ior (AW (mX7_setHand, G) 41)))))))))))))
theorem oX7_setHand_12 (G : Nat × Nat × Nat × Option (Nat × (Nat → Int32)) × (Option Value → qW → Prop)) : qImp (bX7_setHand_12 G) (AW (mX7_setHand, G) 12) := (r_if_eq (tgt := 42) dX7_setHand_12 rfl qImp.rf (r_aload_n dX7_setHand_15 rfl (r_iload_n dX7_setHand_16 rfl (r_iload dX7_setHand_17 (r_if_eq (tgt := 32) dX7_setHand_19 rfl qImp.rf (r_aload_n dX7_setHand_22 rfl (r_iload_n dX7_setHand_23 rfl (r_iaload dX7_setHand_24 (r_iconst dX7_setHand_25 rfl (r_iload_n dX7_setHand_26 rfl (r_ishl dX7_setHand_27 (r_ior dX7_setHand_28 (r_goto (tgt := 41) dX7_setHand_29 rfl qImp.rf)))))))))))))
def bX7_setHand_32 (G : Nat × Nat × Nat × Option (Nat × (Nat → Int32)) × (Option Value → qW → Prop)) : qK := (s_aload 1 (s_iload 2 (s_iaload (mX7_setHand, G) (s_iconst 1 (s_iload 3 (s_ishl (s_iconst (-1) (s_ixor (s_iand (AW (mX7_setHand, G) 41))))))))))
theorem oX7_setHand_32 (G : Nat × Nat × Nat × Option (Nat × (Nat → Int32)) × (Option Value → qW → Prop)) : qImp (bX7_setHand_32 G) (AW (mX7_setHand, G) 32) := (r_aload_n dX7_setHand_32 rfl (r_iload_n dX7_setHand_33 rfl (r_iaload dX7_setHand_34 (r_iconst dX7_setHand_35 rfl (r_iload_n dX7_setHand_36 rfl (r_ishl dX7_setHand_37 (r_iconst dX7_setHand_38 rfl (r_ixor dX7_setHand_39 (r_iand dX7_setHand_40 qImp.rf)))))))))
def bX7_setHand_41 (G : Nat × Nat × Nat × Option (Nat × (Nat → Int32)) × (Option Value → qW → Prop)) : qK := (s_iastore (AW (mX7_setHand, G) 42))
theorem oX7_setHand_41 (G : Nat × Nat × Nat × Option (Nat × (Nat → Int32)) × (Option Value → qW → Prop)) : qImp (bX7_setHand_41 G) (AW (mX7_setHand, G) 41) := (r_iastore dX7_setHand_41 qImp.rf)
def bX7_setHand_42 (G : Nat × Nat × Nat × Option (Nat × (Nat → Int32)) × (Option Value → qW → Prop)) : qK := (s_vreturn (mX7_setHand, G))
theorem oX7_setHand_42 (G : Nat × Nat × Nat × Option (Nat × (Nat → Int32)) × (Option Value → qW → Prop)) : qImp (bX7_setHand_42 G) (AW (mX7_setHand, G) 42) := (r_vreturn dX7_setHand_42 rfl)
theorem kX7_setHand_2 {G : Nat × Nat × Nat × Option (Nat × (Nat → Int32)) × (Option Value → qW → Prop)} {L : qL} {w : qW} {kc ks : Nat} {rest : List Value} {q : Nat} {x0 : Int32} {d mc ms : Nat} {Q : Option Value → qW → Prop} (hC : CT mX7_has d mc ms [.ref q, .int x0] w Q) (hq : qci w q = some 7) (hst : rest.length ≤ 4) (hdp : d + 1 ≤ G.1) (hmc : kc + mc ≤ G.2.1 ∧ ks + ms ≤ G.2.2.1) (k : ∀ r w', Q r w' → AW (mX7_setHand, G) 5 L (r.toList ++ rest) w' (kc + mc) (ks + ms)) : AW (mX7_setHand, G) 2 L (.int x0 :: .ref q :: rest) w kc ks := a_callV [.int x0] rest dX7_setHand_2 vX7_has lk382 hC hq rfl rfl hst hdp hmc k
theorem kX7_setHand_9 {G : Nat × Nat × Nat × Option (Nat × (Nat → Int32)) × (Option Value → qW → Prop)} {L : qL} {w : qW} {kc ks : Nat} {rest : List Value}  {x0 : Int32} {d mc ms : Nat} {Q : Option Value → qW → Prop} (hC : CT mX10_isHand d mc ms [.int x0] w Q) (hst : rest.length ≤ 4) (hdp : d + 1 ≤ G.1) (hmc : kc + mc ≤ G.2.1 ∧ ks + ms ≤ G.2.2.1) (k : ∀ r w', Q r w' → AW (mX7_setHand, G) 12 L (r.toList ++ rest) w' (kc + mc) (ks + ms)) : AW (mX7_setHand, G) 9 L (.int x0 :: rest) w kc ks := a_callSN [.int x0] rest dX7_setHand_9 tX10_isHand lnX7_59 hC rfl hst hdp hmc k
theorem dX7_addMaker_0 : decode cX7_addMaker 0 = .ok (.aload_n 0, 1) := by decide +kernel
theorem dX7_addMaker_1 : decode cX7_addMaker 1 = .ok (.aload_n 0, 1) := by decide +kernel
theorem dX7_addMaker_2 : decode cX7_addMaker 2 = .ok (.getfield 21, 3) := by decide +kernel
theorem dX7_addMaker_5 : decode cX7_addMaker 5 = .ok (.iload_n 1, 1) := by decide +kernel
theorem dX7_addMaker_6 : decode cX7_addMaker 6 = .ok (.iload_n 2, 1) := by decide +kernel
theorem dX7_addMaker_7 : decode cX7_addMaker 7 = .ok (.iconst 1, 1) := by decide +kernel
theorem dX7_addMaker_8 : decode cX7_addMaker 8 = .ok (.invokevirtual 55, 3) := by decide +kernel
theorem dX7_addMaker_11 : decode cX7_addMaker 11 = .ok (.return_, 1) := by decide +kernel
/-! SealLine$Shelf.addMaker(II)V -/
theorem eX7_addMaker {d mc ms : Nat} {w : qW} {Q : Option Value → qW → Prop} {q : Nat} {x0 : Int32} {x1 : Int32} (h : AW (mX7_addMaker, d, mc, ms, none, Q) 0 [some (.ref q), some (.int x0), some (.int x1)] [] w 0 0) : CT mX7_addMaker d mc ms [.ref q, .int x0, .int x1] w Q := CT_of (by decide +kernel) rfl (Nat.le_of_ble_eq_true rfl) h
def bX7_addMaker_0 (G : Nat × Nat × Nat × Option (Nat × (Nat → Int32)) × (Option Value → qW → Prop)) : qK := (s_aload 0 (s_aload 0 (s_getfield 7 2 (s_iload 1 (s_iload 2 (s_iconst 1 (AW (mX7_addMaker, G) 8)))))))
theorem oX7_addMaker_0 (G : Nat × Nat × Nat × Option (Nat × (Nat → Int32)) × (Option Value → qW → Prop)) : qImp (bX7_addMaker_0 G) (AW (mX7_addMaker, G) 0) := (r_aload_n dX7_addMaker_0 rfl (r_aload_n dX7_addMaker_1 rfl (r_getfield dX7_addMaker_2 fgX7_21 (r_iload_n dX7_addMaker_5 rfl (r_iload_n dX7_addMaker_6 rfl (r_iconst dX7_addMaker_7 rfl qImp.rf))))))
def bX7_addMaker_11 (G : Nat × Nat × Nat × Option (Nat × (Nat → Int32)) × (Option Value → qW → Prop)) : qK := (s_vreturn (mX7_addMaker, G))
theorem oX7_addMaker_11 (G : Nat × Nat × Nat × Option (Nat × (Nat → Int32)) × (Option Value → qW → Prop)) : qImp (bX7_addMaker_11 G) (AW (mX7_addMaker, G) 11) := (r_vreturn dX7_addMaker_11 rfl)
theorem kX7_addMaker_8 {G : Nat × Nat × Nat × Option (Nat × (Nat → Int32)) × (Option Value → qW → Prop)} {L : qL} {w : qW} {kc ks : Nat} {rest : List Value} {q : Nat} {x0 : Nat} {x1 : Int32} {x2 : Int32} {x3 : Int32} {d mc ms : Nat} {Q : Option Value → qW → Prop} (hC : CT mX7_setHand d mc ms [.ref q, .ref x0, .int x1, .int x2, .int x3] w Q) (hq : qci w q = some 7) (hst : rest.length ≤ 4) (hdp : d + 1 ≤ G.1) (hmc : kc + mc ≤ G.2.1 ∧ ks + ms ≤ G.2.2.1) (k : ∀ r w', Q r w' → AW (mX7_addMaker, G) 11 L (r.toList ++ rest) w' (kc + mc) (ks + ms)) : AW (mX7_addMaker, G) 8 L (.int x3 :: .int x2 :: .int x1 :: .ref x0 :: .ref q :: rest) w kc ks := a_callV [.ref x0, .int x1, .int x2, .int x3] rest dX7_addMaker_8 vX7_setHand lk378 hC hq rfl rfl hst hdp hmc k
theorem dX7_addBuilder_0 : decode cX7_addBuilder 0 = .ok (.aload_n 0, 1) := by decide +kernel
theorem dX7_addBuilder_1 : decode cX7_addBuilder 1 = .ok (.aload_n 0, 1) := by decide +kernel
theorem dX7_addBuilder_2 : decode cX7_addBuilder 2 = .ok (.getfield 25, 3) := by decide +kernel
theorem dX7_addBuilder_5 : decode cX7_addBuilder 5 = .ok (.iload_n 1, 1) := by decide +kernel
theorem dX7_addBuilder_6 : decode cX7_addBuilder 6 = .ok (.iload_n 2, 1) := by decide +kernel
theorem dX7_addBuilder_7 : decode cX7_addBuilder 7 = .ok (.iconst 1, 1) := by decide +kernel
theorem dX7_addBuilder_8 : decode cX7_addBuilder 8 = .ok (.invokevirtual 55, 3) := by decide +kernel
theorem dX7_addBuilder_11 : decode cX7_addBuilder 11 = .ok (.return_, 1) := by decide +kernel
/-! SealLine$Shelf.addBuilder(II)V -/
theorem eX7_addBuilder {d mc ms : Nat} {w : qW} {Q : Option Value → qW → Prop} {q : Nat} {x0 : Int32} {x1 : Int32} (h : AW (mX7_addBuilder, d, mc, ms, none, Q) 0 [some (.ref q), some (.int x0), some (.int x1)] [] w 0 0) : CT mX7_addBuilder d mc ms [.ref q, .int x0, .int x1] w Q := CT_of (by decide +kernel) rfl (Nat.le_of_ble_eq_true rfl) h
def bX7_addBuilder_0 (G : Nat × Nat × Nat × Option (Nat × (Nat → Int32)) × (Option Value → qW → Prop)) : qK := (s_aload 0 (s_aload 0 (s_getfield 7 3 (s_iload 1 (s_iload 2 (s_iconst 1 (AW (mX7_addBuilder, G) 8)))))))
theorem oX7_addBuilder_0 (G : Nat × Nat × Nat × Option (Nat × (Nat → Int32)) × (Option Value → qW → Prop)) : qImp (bX7_addBuilder_0 G) (AW (mX7_addBuilder, G) 0) := (r_aload_n dX7_addBuilder_0 rfl (r_aload_n dX7_addBuilder_1 rfl (r_getfield dX7_addBuilder_2 fgX7_25 (r_iload_n dX7_addBuilder_5 rfl (r_iload_n dX7_addBuilder_6 rfl (r_iconst dX7_addBuilder_7 rfl qImp.rf))))))
def bX7_addBuilder_11 (G : Nat × Nat × Nat × Option (Nat × (Nat → Int32)) × (Option Value → qW → Prop)) : qK := (s_vreturn (mX7_addBuilder, G))
theorem oX7_addBuilder_11 (G : Nat × Nat × Nat × Option (Nat × (Nat → Int32)) × (Option Value → qW → Prop)) : qImp (bX7_addBuilder_11 G) (AW (mX7_addBuilder, G) 11) := (r_vreturn dX7_addBuilder_11 rfl)
theorem kX7_addBuilder_8 {G : Nat × Nat × Nat × Option (Nat × (Nat → Int32)) × (Option Value → qW → Prop)} {L : qL} {w : qW} {kc ks : Nat} {rest : List Value} {q : Nat} {x0 : Nat} {x1 : Int32} {x2 : Int32} {x3 : Int32} {d mc ms : Nat} {Q : Option Value → qW → Prop} (hC : CT mX7_setHand d mc ms [.ref q, .ref x0, .int x1, .int x2, .int x3] w Q) (hq : qci w q = some 7) (hst : rest.length ≤ 4) (hdp : d + 1 ≤ G.1) (hmc : kc + mc ≤ G.2.1 ∧ ks + ms ≤ G.2.2.1) (k : ∀ r w', Q r w' → AW (mX7_addBuilder, G) 11 L (r.toList ++ rest) w' (kc + mc) (ks + ms)) : AW (mX7_addBuilder, G) 8 L (.int x3 :: .int x2 :: .int x1 :: .ref x0 :: .ref q :: rest) w kc ks := a_callV [.ref x0, .int x1, .int x2, .int x3] rest dX7_addBuilder_8 vX7_setHand lk378 hC hq rfl rfl hst hdp hmc k
theorem dX7_setTry_0 : decode cX7_setTry 0 = .ok (.aload_n 0, 1) := by decide +kernel
theorem dX7_setTry_1 : decode cX7_setTry 1 = .ok (.aload_n 0, 1) := by decide +kernel
theorem dX7_setTry_2 : decode cX7_setTry 2 = .ok (.getfield 28, 3) := by decide +kernel
theorem dX7_setTry_5 : decode cX7_setTry 5 = .ok (.iload_n 1, 1) := by decide +kernel
theorem dX7_setTry_6 : decode cX7_setTry 6 = .ok (.iload_n 2, 1) := by decide +kernel
theorem dX7_setTry_7 : decode cX7_setTry 7 = .ok (.iload_n 3, 1) := by decide +kernel
theorem dX7_setTry_8 : decode cX7_setTry 8 = .ok (.invokevirtual 55, 3) := by decide +kernel
theorem dX7_setTry_11 : decode cX7_setTry 11 = .ok (.return_, 1) := by decide +kernel
/-! SealLine$Shelf.setTry(IIZ)V -/
theorem eX7_setTry {d mc ms : Nat} {w : qW} {Q : Option Value → qW → Prop} {q : Nat} {x0 : Int32} {x1 : Int32} {x2 : Int32} (h : AW (mX7_setTry, d, mc, ms, none, Q) 0 [some (.ref q), some (.int x0), some (.int x1), some (.int x2)] [] w 0 0) : CT mX7_setTry d mc ms [.ref q, .int x0, .int x1, .int x2] w Q := CT_of (by decide +kernel) rfl (Nat.le_of_ble_eq_true rfl) h
def bX7_setTry_0 (G : Nat × Nat × Nat × Option (Nat × (Nat → Int32)) × (Option Value → qW → Prop)) : qK := (s_aload 0 (s_aload 0 (s_getfield 7 4 (s_iload 1 (s_iload 2 (s_iload 3 (AW (mX7_setTry, G) 8)))))))
theorem oX7_setTry_0 (G : Nat × Nat × Nat × Option (Nat × (Nat → Int32)) × (Option Value → qW → Prop)) : qImp (bX7_setTry_0 G) (AW (mX7_setTry, G) 0) := (r_aload_n dX7_setTry_0 rfl (r_aload_n dX7_setTry_1 rfl (r_getfield dX7_setTry_2 fgX7_28 (r_iload_n dX7_setTry_5 rfl (r_iload_n dX7_setTry_6 rfl (r_iload_n dX7_setTry_7 rfl qImp.rf))))))
def bX7_setTry_11 (G : Nat × Nat × Nat × Option (Nat × (Nat → Int32)) × (Option Value → qW → Prop)) : qK := (s_vreturn (mX7_setTry, G))
theorem oX7_setTry_11 (G : Nat × Nat × Nat × Option (Nat × (Nat → Int32)) × (Option Value → qW → Prop)) : qImp (bX7_setTry_11 G) (AW (mX7_setTry, G) 11) := (r_vreturn dX7_setTry_11 rfl)
theorem kX7_setTry_8 {G : Nat × Nat × Nat × Option (Nat × (Nat → Int32)) × (Option Value → qW → Prop)} {L : qL} {w : qW} {kc ks : Nat} {rest : List Value} {q : Nat} {x0 : Nat} {x1 : Int32} {x2 : Int32} {x3 : Int32} {d mc ms : Nat} {Q : Option Value → qW → Prop} (hC : CT mX7_setHand d mc ms [.ref q, .ref x0, .int x1, .int x2, .int x3] w Q) (hq : qci w q = some 7) (hst : rest.length ≤ 4) (hdp : d + 1 ≤ G.1) (hmc : kc + mc ≤ G.2.1 ∧ ks + ms ≤ G.2.2.1) (k : ∀ r w', Q r w' → AW (mX7_setTry, G) 11 L (r.toList ++ rest) w' (kc + mc) (ks + ms)) : AW (mX7_setTry, G) 8 L (.int x3 :: .int x2 :: .int x1 :: .ref x0 :: .ref q :: rest) w kc ks := a_callV [.ref x0, .int x1, .int x2, .int x3] rest dX7_setTry_8 vX7_setHand lk378 hC hq rfl rfl hst hdp hmc k
theorem dX7_setReview_0 : decode cX7_setReview 0 = .ok (.aload_n 0, 1) := by decide +kernel
theorem dX7_setReview_1 : decode cX7_setReview 1 = .ok (.aload_n 0, 1) := by decide +kernel
theorem dX7_setReview_2 : decode cX7_setReview 2 = .ok (.getfield 31, 3) := by decide +kernel
theorem dX7_setReview_5 : decode cX7_setReview 5 = .ok (.iload_n 1, 1) := by decide +kernel
theorem dX7_setReview_6 : decode cX7_setReview 6 = .ok (.iload_n 2, 1) := by decide +kernel
theorem dX7_setReview_7 : decode cX7_setReview 7 = .ok (.iload_n 3, 1) := by decide +kernel
theorem dX7_setReview_8 : decode cX7_setReview 8 = .ok (.invokevirtual 55, 3) := by decide +kernel
theorem dX7_setReview_11 : decode cX7_setReview 11 = .ok (.return_, 1) := by decide +kernel
/-! SealLine$Shelf.setReview(IIZ)V -/
theorem eX7_setReview {d mc ms : Nat} {w : qW} {Q : Option Value → qW → Prop} {q : Nat} {x0 : Int32} {x1 : Int32} {x2 : Int32} (h : AW (mX7_setReview, d, mc, ms, none, Q) 0 [some (.ref q), some (.int x0), some (.int x1), some (.int x2)] [] w 0 0) : CT mX7_setReview d mc ms [.ref q, .int x0, .int x1, .int x2] w Q := CT_of (by decide +kernel) rfl (Nat.le_of_ble_eq_true rfl) h
def bX7_setReview_0 (G : Nat × Nat × Nat × Option (Nat × (Nat → Int32)) × (Option Value → qW → Prop)) : qK := (s_aload 0 (s_aload 0 (s_getfield 7 5 (s_iload 1 (s_iload 2 (s_iload 3 (AW (mX7_setReview, G) 8)))))))
theorem oX7_setReview_0 (G : Nat × Nat × Nat × Option (Nat × (Nat → Int32)) × (Option Value → qW → Prop)) : qImp (bX7_setReview_0 G) (AW (mX7_setReview, G) 0) := (r_aload_n dX7_setReview_0 rfl (r_aload_n dX7_setReview_1 rfl (r_getfield dX7_setReview_2 fgX7_31 (r_iload_n dX7_setReview_5 rfl (r_iload_n dX7_setReview_6 rfl (r_iload_n dX7_setReview_7 rfl qImp.rf))))))
def bX7_setReview_11 (G : Nat × Nat × Nat × Option (Nat × (Nat → Int32)) × (Option Value → qW → Prop)) : qK := (s_vreturn (mX7_setReview, G))
theorem oX7_setReview_11 (G : Nat × Nat × Nat × Option (Nat × (Nat → Int32)) × (Option Value → qW → Prop)) : qImp (bX7_setReview_11 G) (AW (mX7_setReview, G) 11) := (r_vreturn dX7_setReview_11 rfl)
theorem kX7_setReview_8 {G : Nat × Nat × Nat × Option (Nat × (Nat → Int32)) × (Option Value → qW → Prop)} {L : qL} {w : qW} {kc ks : Nat} {rest : List Value} {q : Nat} {x0 : Nat} {x1 : Int32} {x2 : Int32} {x3 : Int32} {d mc ms : Nat} {Q : Option Value → qW → Prop} (hC : CT mX7_setHand d mc ms [.ref q, .ref x0, .int x1, .int x2, .int x3] w Q) (hq : qci w q = some 7) (hst : rest.length ≤ 4) (hdp : d + 1 ≤ G.1) (hmc : kc + mc ≤ G.2.1 ∧ ks + ms ≤ G.2.2.1) (k : ∀ r w', Q r w' → AW (mX7_setReview, G) 11 L (r.toList ++ rest) w' (kc + mc) (ks + ms)) : AW (mX7_setReview, G) 8 L (.int x3 :: .int x2 :: .int x1 :: .ref x0 :: .ref q :: rest) w kc ks := a_callV [.ref x0, .int x1, .int x2, .int x3] rest dX7_setReview_8 vX7_setHand lk378 hC hq rfl rfl hst hdp hmc k
theorem dX7_addInput_0 : decode cX7_addInput 0 = .ok (.aload_n 0, 1) := by decide +kernel
theorem dX7_addInput_1 : decode cX7_addInput 1 = .ok (.iload_n 2, 1) := by decide +kernel
theorem dX7_addInput_2 : decode cX7_addInput 2 = .ok (.invokevirtual 43, 3) := by decide +kernel
theorem dX7_addInput_5 : decode cX7_addInput 5 = .ok (.ifCond .ne 4, 3) := by decide +kernel
theorem dX7_addInput_8 : decode cX7_addInput 8 = .ok (.return_, 1) := by decide +kernel
theorem dX7_addInput_9 : decode cX7_addInput 9 = .ok (.iconst 0, 1) := by decide +kernel
theorem dX7_addInput_10 : decode cX7_addInput 10 = .ok (.istore_n 3, 1) := by decide +kernel
theorem dX7_addInput_11 : decode cX7_addInput 11 = .ok (.iload_n 3, 1) := by decide +kernel
theorem dX7_addInput_12 : decode cX7_addInput 12 = .ok (.aload_n 0, 1) := by decide +kernel
theorem dX7_addInput_13 : decode cX7_addInput 13 = .ok (.getfield 39, 3) := by decide +kernel
theorem dX7_addInput_16 : decode cX7_addInput 16 = .ok (.if_icmp .ge 37, 3) := by decide +kernel
theorem dX7_addInput_19 : decode cX7_addInput 19 = .ok (.aload_n 0, 1) := by decide +kernel
theorem dX7_addInput_20 : decode cX7_addInput 20 = .ok (.getfield 17, 3) := by decide +kernel
theorem dX7_addInput_23 : decode cX7_addInput 23 = .ok (.iload_n 3, 1) := by decide +kernel
theorem dX7_addInput_24 : decode cX7_addInput 24 = .ok (.aaload, 1) := by decide +kernel
theorem dX7_addInput_25 : decode cX7_addInput 25 = .ok (.iload_n 1, 1) := by decide +kernel
theorem dX7_addInput_26 : decode cX7_addInput 26 = .ok (.invokevirtual 62, 3) := by decide +kernel
theorem dX7_addInput_29 : decode cX7_addInput 29 = .ok (.ifCond .eq 18, 3) := by decide +kernel
theorem dX7_addInput_32 : decode cX7_addInput 32 = .ok (.aload_n 0, 1) := by decide +kernel
theorem dX7_addInput_33 : decode cX7_addInput 33 = .ok (.getfield 17, 3) := by decide +kernel
theorem dX7_addInput_36 : decode cX7_addInput 36 = .ok (.iload_n 3, 1) := by decide +kernel
theorem dX7_addInput_37 : decode cX7_addInput 37 = .ok (.aaload, 1) := by decide +kernel
theorem dX7_addInput_38 : decode cX7_addInput 38 = .ok (.aload_n 0, 1) := by decide +kernel
theorem dX7_addInput_39 : decode cX7_addInput 39 = .ok (.getfield 17, 3) := by decide +kernel
theorem dX7_addInput_42 : decode cX7_addInput 42 = .ok (.iload_n 2, 1) := by decide +kernel
theorem dX7_addInput_43 : decode cX7_addInput 43 = .ok (.aaload, 1) := by decide +kernel
theorem dX7_addInput_44 : decode cX7_addInput 44 = .ok (.invokevirtual 63, 3) := by decide +kernel
theorem dX7_addInput_47 : decode cX7_addInput 47 = .ok (.iinc 3 1, 3) := by decide +kernel
theorem dX7_addInput_50 : decode cX7_addInput 50 = .ok (.goto (-39), 3) := by decide +kernel
theorem dX7_addInput_53 : decode cX7_addInput 53 = .ok (.return_, 1) := by decide +kernel
/-! SealLine$Shelf.addInput(II)V -/
theorem eX7_addInput {d mc ms : Nat} {w : qW} {Q : Option Value → qW → Prop} {q : Nat} {x0 : Int32} {x1 : Int32} (h : AW (mX7_addInput, d, mc, ms, none, Q) 0 [some (.ref q), some (.int x0), some (.int x1), none] [] w 0 0) : CT mX7_addInput d mc ms [.ref q, .int x0, .int x1] w Q := CT_of (by decide +kernel) rfl (Nat.le_of_ble_eq_true rfl) h
def bX7_addInput_0 (G : Nat × Nat × Nat × Option (Nat × (Nat → Int32)) × (Option Value → qW → Prop)) : qK := (s_aload 0 (s_iload 2 (AW (mX7_addInput, G) 2)))
theorem oX7_addInput_0 (G : Nat × Nat × Nat × Option (Nat × (Nat → Int32)) × (Option Value → qW → Prop)) : qImp (bX7_addInput_0 G) (AW (mX7_addInput, G) 0) := (r_aload_n dX7_addInput_0 rfl (r_iload_n dX7_addInput_1 rfl qImp.rf))
def bX7_addInput_5 (G : Nat × Nat × Nat × Option (Nat × (Nat → Int32)) × (Option Value → qW → Prop)) : qK := (s_if_ne (AW (mX7_addInput, G) 9) (s_vreturn (mX7_addInput, G)))
theorem oX7_addInput_5 (G : Nat × Nat × Nat × Option (Nat × (Nat → Int32)) × (Option Value → qW → Prop)) : qImp (bX7_addInput_5 G) (AW (mX7_addInput, G) 5) := (r_if_ne (tgt := 9) dX7_addInput_5 rfl qImp.rf (r_vreturn dX7_addInput_8 rfl))
def bX7_addInput_9 (G : Nat × Nat × Nat × Option (Nat × (Nat → Int32)) × (Option Value → qW → Prop)) : qK := (s_iconst 0 (s_istore 3 2 (AW (mX7_addInput, G) 11)))
theorem oX7_addInput_9 (G : Nat × Nat × Nat × Option (Nat × (Nat → Int32)) × (Option Value → qW → Prop)) : qImp (bX7_addInput_9 G) (AW (mX7_addInput, G) 9) := (r_iconst dX7_addInput_9 rfl (r_istore_n dX7_addInput_10 rfl (Or.inr rfl) (Nat.le_of_ble_eq_true rfl) qImp.rf))
def bX7_addInput_11 (G : Nat × Nat × Nat × Option (Nat × (Nat → Int32)) × (Option Value → qW → Prop)) : qK := (s_iload 3 (s_aload 0 (s_getfield 7 7 (s_ic_ge (AW (mX7_addInput, G) 53) (s_aload 0 (s_getfield 7 1 (s_iload 3 (s_aaload (s_iload 1 (AW (mX7_addInput, G) 26))))))))))
theorem oX7_addInput_11 (G : Nat × Nat × Nat × Option (Nat × (Nat → Int32)) × (Option Value → qW → Prop)) : qImp (bX7_addInput_11 G) (AW (mX7_addInput, G) 11) := (r_iload_n dX7_addInput_11 rfl (r_aload_n dX7_addInput_12 rfl (r_getfield dX7_addInput_13 fgX7_39 (r_ic_ge (tgt := 53) dX7_addInput_16 rfl qImp.rf (r_aload_n dX7_addInput_19 rfl (r_getfield dX7_addInput_20 fgX7_17 (r_iload_n dX7_addInput_23 rfl (r_aaload dX7_addInput_24 (r_iload_n dX7_addInput_25 rfl qImp.rf)))))))))
def bX7_addInput_29 (G : Nat × Nat × Nat × Option (Nat × (Nat → Int32)) × (Option Value → qW → Prop)) : qK := (s_if_eq (AW (mX7_addInput, G) 47) (s_aload 0 (s_getfield 7 1 (s_iload 3 (s_aaload (s_aload 0 (s_getfield 7 1 (s_iload 2 (s_aaload (AW (mX7_addInput, G) 44))))))))))
theorem oX7_addInput_29 (G : Nat × Nat × Nat × Option (Nat × (Nat → Int32)) × (Option Value → qW → Prop)) : qImp (bX7_addInput_29 G) (AW (mX7_addInput, G) 29) := (r_if_eq (tgt := 47) dX7_addInput_29 rfl qImp.rf (r_aload_n dX7_addInput_32 rfl (r_getfield dX7_addInput_33 fgX7_17 (r_iload_n dX7_addInput_36 rfl (r_aaload dX7_addInput_37 (r_aload_n dX7_addInput_38 rfl (r_getfield dX7_addInput_39 fgX7_17 (r_iload_n dX7_addInput_42 rfl (r_aaload dX7_addInput_43 qImp.rf)))))))))
def bX7_addInput_47 (G : Nat × Nat × Nat × Option (Nat × (Nat → Int32)) × (Option Value → qW → Prop)) : qK := (s_iinc 3 2 1 (AW (mX7_addInput, G) 11))
theorem oX7_addInput_47 (G : Nat × Nat × Nat × Option (Nat × (Nat → Int32)) × (Option Value → qW → Prop)) : qImp (bX7_addInput_47 G) (AW (mX7_addInput, G) 47) := (r_iinc dX7_addInput_47 rfl (Or.inr rfl) (Nat.le_of_ble_eq_true rfl) (r_goto (tgt := 11) dX7_addInput_50 rfl qImp.rf))
def bX7_addInput_53 (G : Nat × Nat × Nat × Option (Nat × (Nat → Int32)) × (Option Value → qW → Prop)) : qK := (s_vreturn (mX7_addInput, G))
theorem oX7_addInput_53 (G : Nat × Nat × Nat × Option (Nat × (Nat → Int32)) × (Option Value → qW → Prop)) : qImp (bX7_addInput_53 G) (AW (mX7_addInput, G) 53) := (r_vreturn dX7_addInput_53 rfl)
theorem kX7_addInput_2 {G : Nat × Nat × Nat × Option (Nat × (Nat → Int32)) × (Option Value → qW → Prop)} {L : qL} {w : qW} {kc ks : Nat} {rest : List Value} {q : Nat} {x0 : Int32} {d mc ms : Nat} {Q : Option Value → qW → Prop} (hC : CT mX7_has d mc ms [.ref q, .int x0] w Q) (hq : qci w q = some 7) (hst : rest.length ≤ 4) (hdp : d + 1 ≤ G.1) (hmc : kc + mc ≤ G.2.1 ∧ ks + ms ≤ G.2.2.1) (k : ∀ r w', Q r w' → AW (mX7_addInput, G) 5 L (r.toList ++ rest) w' (kc + mc) (ks + ms)) : AW (mX7_addInput, G) 2 L (.int x0 :: .ref q :: rest) w kc ks := a_callV [.int x0] rest dX7_addInput_2 vX7_has lk382 hC hq rfl rfl hst hdp hmc k
theorem kX7_addInput_26 {G : Nat × Nat × Nat × Option (Nat × (Nat → Int32)) × (Option Value → qW → Prop)} {L : qL} {w : qW} {kc ks : Nat} {rest : List Value} {q : Nat} {x0 : Int32} {d mc ms : Nat} {Q : Option Value → qW → Prop} (hC : CT mX0_has d mc ms [.ref q, .int x0] w Q) (hq : qci w q = some 0) (hst : rest.length ≤ 4) (hdp : d + 1 ≤ G.1) (hmc : kc + mc ≤ G.2.1 ∧ ks + ms ≤ G.2.2.1) (k : ∀ r w', Q r w' → AW (mX7_addInput, G) 29 L (r.toList ++ rest) w' (kc + mc) (ks + ms)) : AW (mX7_addInput, G) 26 L (.int x0 :: .ref q :: rest) w kc ks := a_callV [.int x0] rest dX7_addInput_26 vX0_has lk407 hC hq rfl rfl hst hdp hmc k
theorem kX7_addInput_44 {G : Nat × Nat × Nat × Option (Nat × (Nat → Int32)) × (Option Value → qW → Prop)} {L : qL} {w : qW} {kc ks : Nat} {rest : List Value} {q : Nat} {x0 : Nat} {d mc ms : Nat} {Q : Option Value → qW → Prop} (hC : CT mX0_addAll d mc ms [.ref q, .ref x0] w Q) (hq : qci w q = some 0) (hst : rest.length ≤ 4) (hdp : d + 1 ≤ G.1) (hmc : kc + mc ≤ G.2.1 ∧ ks + ms ≤ G.2.2.1) (k : ∀ r w', Q r w' → AW (mX7_addInput, G) 47 L (r.toList ++ rest) w' (kc + mc) (ks + ms)) : AW (mX7_addInput, G) 44 L (.ref x0 :: .ref q :: rest) w kc ks := a_callV [.ref x0] rest dX7_addInput_44 vX0_addAll lk478 hC hq rfl rfl hst hdp hmc k
theorem dX7_rowHas_0 : decode cX7_rowHas 0 = .ok (.aload_n 0, 1) := by decide +kernel
theorem dX7_rowHas_1 : decode cX7_rowHas 1 = .ok (.iload_n 1, 1) := by decide +kernel
theorem dX7_rowHas_2 : decode cX7_rowHas 2 = .ok (.invokevirtual 43, 3) := by decide +kernel
theorem dX7_rowHas_5 : decode cX7_rowHas 5 = .ok (.ifCond .eq 20, 3) := by decide +kernel
theorem dX7_rowHas_8 : decode cX7_rowHas 8 = .ok (.aload_n 0, 1) := by decide +kernel
theorem dX7_rowHas_9 : decode cX7_rowHas 9 = .ok (.getfield 17, 3) := by decide +kernel
theorem dX7_rowHas_12 : decode cX7_rowHas 12 = .ok (.iload_n 1, 1) := by decide +kernel
theorem dX7_rowHas_13 : decode cX7_rowHas 13 = .ok (.aaload, 1) := by decide +kernel
theorem dX7_rowHas_14 : decode cX7_rowHas 14 = .ok (.iload_n 2, 1) := by decide +kernel
theorem dX7_rowHas_15 : decode cX7_rowHas 15 = .ok (.invokevirtual 62, 3) := by decide +kernel
theorem dX7_rowHas_18 : decode cX7_rowHas 18 = .ok (.ifCond .eq 7, 3) := by decide +kernel
theorem dX7_rowHas_21 : decode cX7_rowHas 21 = .ok (.iconst 1, 1) := by decide +kernel
theorem dX7_rowHas_22 : decode cX7_rowHas 22 = .ok (.goto 4, 3) := by decide +kernel
theorem dX7_rowHas_25 : decode cX7_rowHas 25 = .ok (.iconst 0, 1) := by decide +kernel
theorem dX7_rowHas_26 : decode cX7_rowHas 26 = .ok (.ireturn, 1) := by decide +kernel
/-! SealLine$Shelf.rowHas(II)Z -/
theorem eX7_rowHas {d mc ms : Nat} {w : qW} {Q : Option Value → qW → Prop} {q : Nat} {x0 : Int32} {x1 : Int32} (h : AW (mX7_rowHas, d, mc, ms, none, Q) 0 [some (.ref q), some (.int x0), some (.int x1)] [] w 0 0) : CT mX7_rowHas d mc ms [.ref q, .int x0, .int x1] w Q := CT_of (by decide +kernel) rfl (Nat.le_of_ble_eq_true rfl) h
def bX7_rowHas_0 (G : Nat × Nat × Nat × Option (Nat × (Nat → Int32)) × (Option Value → qW → Prop)) : qK := (s_aload 0 (s_iload 1 (AW (mX7_rowHas, G) 2)))
theorem oX7_rowHas_0 (G : Nat × Nat × Nat × Option (Nat × (Nat → Int32)) × (Option Value → qW → Prop)) : qImp (bX7_rowHas_0 G) (AW (mX7_rowHas, G) 0) := (r_aload_n dX7_rowHas_0 rfl (r_iload_n dX7_rowHas_1 rfl qImp.rf))
def bX7_rowHas_5 (G : Nat × Nat × Nat × Option (Nat × (Nat → Int32)) × (Option Value → qW → Prop)) : qK := (s_if_eq (AW (mX7_rowHas, G) 25) (s_aload 0 (s_getfield 7 1 (s_iload 1 (s_aaload (s_iload 2 (AW (mX7_rowHas, G) 15)))))))
theorem oX7_rowHas_5 (G : Nat × Nat × Nat × Option (Nat × (Nat → Int32)) × (Option Value → qW → Prop)) : qImp (bX7_rowHas_5 G) (AW (mX7_rowHas, G) 5) := (r_if_eq (tgt := 25) dX7_rowHas_5 rfl qImp.rf (r_aload_n dX7_rowHas_8 rfl (r_getfield dX7_rowHas_9 fgX7_17 (r_iload_n dX7_rowHas_12 rfl (r_aaload dX7_rowHas_13 (r_iload_n dX7_rowHas_14 rfl qImp.rf))))))
def bX7_rowHas_18 (G : Nat × Nat × Nat × Option (Nat × (Nat → Int32)) × (Option Value → qW → Prop)) : qK := (s_if_eq (AW (mX7_rowHas, G) 25) (s_iconst 1 (AW (mX7_rowHas, G) 26)))
theorem oX7_rowHas_18 (G : Nat × Nat × Nat × Option (Nat × (Nat → Int32)) × (Option Value → qW → Prop)) : qImp (bX7_rowHas_18 G) (AW (mX7_rowHas, G) 18) := (r_if_eq (tgt := 25) dX7_rowHas_18 rfl qImp.rf (r_iconst dX7_rowHas_21 rfl (r_goto (tgt := 26) dX7_rowHas_22 rfl qImp.rf)))
def bX7_rowHas_25 (G : Nat × Nat × Nat × Option (Nat × (Nat → Int32)) × (Option Value → qW → Prop)) : qK := (s_iconst 0 (AW (mX7_rowHas, G) 26))
theorem oX7_rowHas_25 (G : Nat × Nat × Nat × Option (Nat × (Nat → Int32)) × (Option Value → qW → Prop)) : qImp (bX7_rowHas_25 G) (AW (mX7_rowHas, G) 25) := (r_iconst dX7_rowHas_25 rfl qImp.rf)
def bX7_rowHas_26 (G : Nat × Nat × Nat × Option (Nat × (Nat → Int32)) × (Option Value → qW → Prop)) : qK := (s_zreturn (mX7_rowHas, G))
theorem oX7_rowHas_26 (G : Nat × Nat × Nat × Option (Nat × (Nat → Int32)) × (Option Value → qW → Prop)) : qImp (bX7_rowHas_26 G) (AW (mX7_rowHas, G) 26) := (r_zreturn dX7_rowHas_26 rfl)
theorem kX7_rowHas_2 {G : Nat × Nat × Nat × Option (Nat × (Nat → Int32)) × (Option Value → qW → Prop)} {L : qL} {w : qW} {kc ks : Nat} {rest : List Value} {q : Nat} {x0 : Int32} {d mc ms : Nat} {Q : Option Value → qW → Prop} (hC : CT mX7_has d mc ms [.ref q, .int x0] w Q) (hq : qci w q = some 7) (hst : rest.length ≤ 4) (hdp : d + 1 ≤ G.1) (hmc : kc + mc ≤ G.2.1 ∧ ks + ms ≤ G.2.2.1) (k : ∀ r w', Q r w' → AW (mX7_rowHas, G) 5 L (r.toList ++ rest) w' (kc + mc) (ks + ms)) : AW (mX7_rowHas, G) 2 L (.int x0 :: .ref q :: rest) w kc ks := a_callV [.int x0] rest dX7_rowHas_2 vX7_has lk382 hC hq rfl rfl hst hdp hmc k
theorem kX7_rowHas_15 {G : Nat × Nat × Nat × Option (Nat × (Nat → Int32)) × (Option Value → qW → Prop)} {L : qL} {w : qW} {kc ks : Nat} {rest : List Value} {q : Nat} {x0 : Int32} {d mc ms : Nat} {Q : Option Value → qW → Prop} (hC : CT mX0_has d mc ms [.ref q, .int x0] w Q) (hq : qci w q = some 0) (hst : rest.length ≤ 4) (hdp : d + 1 ≤ G.1) (hmc : kc + mc ≤ G.2.1 ∧ ks + ms ≤ G.2.2.1) (k : ∀ r w', Q r w' → AW (mX7_rowHas, G) 18 L (r.toList ++ rest) w' (kc + mc) (ks + ms)) : AW (mX7_rowHas, G) 15 L (.int x0 :: .ref q :: rest) w kc ks := a_callV [.int x0] rest dX7_rowHas_15 vX0_has lk407 hC hq rfl rfl hst hdp hmc k
theorem dX7_rowMeets_0 : decode cX7_rowMeets 0 = .ok (.aload_n 0, 1) := by decide +kernel
theorem dX7_rowMeets_1 : decode cX7_rowMeets 1 = .ok (.iload_n 1, 1) := by decide +kernel
theorem dX7_rowMeets_2 : decode cX7_rowMeets 2 = .ok (.invokevirtual 43, 3) := by decide +kernel
theorem dX7_rowMeets_5 : decode cX7_rowMeets 5 = .ok (.ifCond .eq 20, 3) := by decide +kernel
theorem dX7_rowMeets_8 : decode cX7_rowMeets 8 = .ok (.aload_n 0, 1) := by decide +kernel
theorem dX7_rowMeets_9 : decode cX7_rowMeets 9 = .ok (.getfield 17, 3) := by decide +kernel
theorem dX7_rowMeets_12 : decode cX7_rowMeets 12 = .ok (.iload_n 1, 1) := by decide +kernel
theorem dX7_rowMeets_13 : decode cX7_rowMeets 13 = .ok (.aaload, 1) := by decide +kernel
theorem dX7_rowMeets_14 : decode cX7_rowMeets 14 = .ok (.aload_n 2, 1) := by decide +kernel
theorem dX7_rowMeets_15 : decode cX7_rowMeets 15 = .ok (.invokevirtual 67, 3) := by decide +kernel
theorem dX7_rowMeets_18 : decode cX7_rowMeets 18 = .ok (.ifCond .eq 7, 3) := by decide +kernel
theorem dX7_rowMeets_21 : decode cX7_rowMeets 21 = .ok (.iconst 1, 1) := by decide +kernel
theorem dX7_rowMeets_22 : decode cX7_rowMeets 22 = .ok (.goto 4, 3) := by decide +kernel
theorem dX7_rowMeets_25 : decode cX7_rowMeets 25 = .ok (.iconst 0, 1) := by decide +kernel
theorem dX7_rowMeets_26 : decode cX7_rowMeets 26 = .ok (.ireturn, 1) := by decide +kernel
/-! SealLine$Shelf.rowMeets(ILSealLine$FileSet;)Z -/
theorem eX7_rowMeets {d mc ms : Nat} {w : qW} {Q : Option Value → qW → Prop} {q : Nat} {x0 : Int32} {x1 : Nat} (h : AW (mX7_rowMeets, d, mc, ms, none, Q) 0 [some (.ref q), some (.int x0), some (.ref x1)] [] w 0 0) : CT mX7_rowMeets d mc ms [.ref q, .int x0, .ref x1] w Q := CT_of (by decide +kernel) rfl (Nat.le_of_ble_eq_true rfl) h
def bX7_rowMeets_0 (G : Nat × Nat × Nat × Option (Nat × (Nat → Int32)) × (Option Value → qW → Prop)) : qK := (s_aload 0 (s_iload 1 (AW (mX7_rowMeets, G) 2)))
theorem oX7_rowMeets_0 (G : Nat × Nat × Nat × Option (Nat × (Nat → Int32)) × (Option Value → qW → Prop)) : qImp (bX7_rowMeets_0 G) (AW (mX7_rowMeets, G) 0) := (r_aload_n dX7_rowMeets_0 rfl (r_iload_n dX7_rowMeets_1 rfl qImp.rf))
def bX7_rowMeets_5 (G : Nat × Nat × Nat × Option (Nat × (Nat → Int32)) × (Option Value → qW → Prop)) : qK := (s_if_eq (AW (mX7_rowMeets, G) 25) (s_aload 0 (s_getfield 7 1 (s_iload 1 (s_aaload (s_aload 2 (AW (mX7_rowMeets, G) 15)))))))
theorem oX7_rowMeets_5 (G : Nat × Nat × Nat × Option (Nat × (Nat → Int32)) × (Option Value → qW → Prop)) : qImp (bX7_rowMeets_5 G) (AW (mX7_rowMeets, G) 5) := (r_if_eq (tgt := 25) dX7_rowMeets_5 rfl qImp.rf (r_aload_n dX7_rowMeets_8 rfl (r_getfield dX7_rowMeets_9 fgX7_17 (r_iload_n dX7_rowMeets_12 rfl (r_aaload dX7_rowMeets_13 (r_aload_n dX7_rowMeets_14 rfl qImp.rf))))))
def bX7_rowMeets_18 (G : Nat × Nat × Nat × Option (Nat × (Nat → Int32)) × (Option Value → qW → Prop)) : qK := (s_if_eq (AW (mX7_rowMeets, G) 25) (s_iconst 1 (AW (mX7_rowMeets, G) 26)))
theorem oX7_rowMeets_18 (G : Nat × Nat × Nat × Option (Nat × (Nat → Int32)) × (Option Value → qW → Prop)) : qImp (bX7_rowMeets_18 G) (AW (mX7_rowMeets, G) 18) := (r_if_eq (tgt := 25) dX7_rowMeets_18 rfl qImp.rf (r_iconst dX7_rowMeets_21 rfl (r_goto (tgt := 26) dX7_rowMeets_22 rfl qImp.rf)))
def bX7_rowMeets_25 (G : Nat × Nat × Nat × Option (Nat × (Nat → Int32)) × (Option Value → qW → Prop)) : qK := (s_iconst 0 (AW (mX7_rowMeets, G) 26))
theorem oX7_rowMeets_25 (G : Nat × Nat × Nat × Option (Nat × (Nat → Int32)) × (Option Value → qW → Prop)) : qImp (bX7_rowMeets_25 G) (AW (mX7_rowMeets, G) 25) := (r_iconst dX7_rowMeets_25 rfl qImp.rf)
def bX7_rowMeets_26 (G : Nat × Nat × Nat × Option (Nat × (Nat → Int32)) × (Option Value → qW → Prop)) : qK := (s_zreturn (mX7_rowMeets, G))
theorem oX7_rowMeets_26 (G : Nat × Nat × Nat × Option (Nat × (Nat → Int32)) × (Option Value → qW → Prop)) : qImp (bX7_rowMeets_26 G) (AW (mX7_rowMeets, G) 26) := (r_zreturn dX7_rowMeets_26 rfl)
theorem kX7_rowMeets_2 {G : Nat × Nat × Nat × Option (Nat × (Nat → Int32)) × (Option Value → qW → Prop)} {L : qL} {w : qW} {kc ks : Nat} {rest : List Value} {q : Nat} {x0 : Int32} {d mc ms : Nat} {Q : Option Value → qW → Prop} (hC : CT mX7_has d mc ms [.ref q, .int x0] w Q) (hq : qci w q = some 7) (hst : rest.length ≤ 4) (hdp : d + 1 ≤ G.1) (hmc : kc + mc ≤ G.2.1 ∧ ks + ms ≤ G.2.2.1) (k : ∀ r w', Q r w' → AW (mX7_rowMeets, G) 5 L (r.toList ++ rest) w' (kc + mc) (ks + ms)) : AW (mX7_rowMeets, G) 2 L (.int x0 :: .ref q :: rest) w kc ks := a_callV [.int x0] rest dX7_rowMeets_2 vX7_has lk382 hC hq rfl rfl hst hdp hmc k
theorem kX7_rowMeets_15 {G : Nat × Nat × Nat × Option (Nat × (Nat → Int32)) × (Option Value → qW → Prop)} {L : qL} {w : qW} {kc ks : Nat} {rest : List Value} {q : Nat} {x0 : Nat} {d mc ms : Nat} {Q : Option Value → qW → Prop} (hC : CT mX0_meets d mc ms [.ref q, .ref x0] w Q) (hq : qci w q = some 0) (hst : rest.length ≤ 4) (hdp : d + 1 ≤ G.1) (hmc : kc + mc ≤ G.2.1 ∧ ks + ms ≤ G.2.2.1) (k : ∀ r w', Q r w' → AW (mX7_rowMeets, G) 18 L (r.toList ++ rest) w' (kc + mc) (ks + ms)) : AW (mX7_rowMeets, G) 15 L (.ref x0 :: .ref q :: rest) w kc ks := a_callV [.ref x0] rest dX7_rowMeets_15 vX0_meets lk693 hC hq rfl rfl hst hdp hmc k
theorem dX7_rowSize_0 : decode cX7_rowSize 0 = .ok (.aload_n 0, 1) := by decide +kernel
theorem dX7_rowSize_1 : decode cX7_rowSize 1 = .ok (.iload_n 1, 1) := by decide +kernel
theorem dX7_rowSize_2 : decode cX7_rowSize 2 = .ok (.invokevirtual 43, 3) := by decide +kernel
theorem dX7_rowSize_5 : decode cX7_rowSize 5 = .ok (.ifCond .eq 15, 3) := by decide +kernel
theorem dX7_rowSize_8 : decode cX7_rowSize 8 = .ok (.aload_n 0, 1) := by decide +kernel
theorem dX7_rowSize_9 : decode cX7_rowSize 9 = .ok (.getfield 17, 3) := by decide +kernel
theorem dX7_rowSize_12 : decode cX7_rowSize 12 = .ok (.iload_n 1, 1) := by decide +kernel
theorem dX7_rowSize_13 : decode cX7_rowSize 13 = .ok (.aaload, 1) := by decide +kernel
theorem dX7_rowSize_14 : decode cX7_rowSize 14 = .ok (.invokevirtual 71, 3) := by decide +kernel
theorem dX7_rowSize_17 : decode cX7_rowSize 17 = .ok (.goto 4, 3) := by decide +kernel
theorem dX7_rowSize_20 : decode cX7_rowSize 20 = .ok (.iconst 0, 1) := by decide +kernel
theorem dX7_rowSize_21 : decode cX7_rowSize 21 = .ok (.ireturn, 1) := by decide +kernel
/-! SealLine$Shelf.rowSize(I)I -/
theorem eX7_rowSize {d mc ms : Nat} {w : qW} {Q : Option Value → qW → Prop} {q : Nat} {x0 : Int32} (h : AW (mX7_rowSize, d, mc, ms, none, Q) 0 [some (.ref q), some (.int x0)] [] w 0 0) : CT mX7_rowSize d mc ms [.ref q, .int x0] w Q := CT_of (by decide +kernel) rfl (Nat.le_of_ble_eq_true rfl) h
def bX7_rowSize_0 (G : Nat × Nat × Nat × Option (Nat × (Nat → Int32)) × (Option Value → qW → Prop)) : qK := (s_aload 0 (s_iload 1 (AW (mX7_rowSize, G) 2)))
theorem oX7_rowSize_0 (G : Nat × Nat × Nat × Option (Nat × (Nat → Int32)) × (Option Value → qW → Prop)) : qImp (bX7_rowSize_0 G) (AW (mX7_rowSize, G) 0) := (r_aload_n dX7_rowSize_0 rfl (r_iload_n dX7_rowSize_1 rfl qImp.rf))
def bX7_rowSize_5 (G : Nat × Nat × Nat × Option (Nat × (Nat → Int32)) × (Option Value → qW → Prop)) : qK := (s_if_eq (AW (mX7_rowSize, G) 20) (s_aload 0 (s_getfield 7 1 (s_iload 1 (s_aaload (AW (mX7_rowSize, G) 14))))))
theorem oX7_rowSize_5 (G : Nat × Nat × Nat × Option (Nat × (Nat → Int32)) × (Option Value → qW → Prop)) : qImp (bX7_rowSize_5 G) (AW (mX7_rowSize, G) 5) := (r_if_eq (tgt := 20) dX7_rowSize_5 rfl qImp.rf (r_aload_n dX7_rowSize_8 rfl (r_getfield dX7_rowSize_9 fgX7_17 (r_iload_n dX7_rowSize_12 rfl (r_aaload dX7_rowSize_13 qImp.rf)))))
def bX7_rowSize_17 (G : Nat × Nat × Nat × Option (Nat × (Nat → Int32)) × (Option Value → qW → Prop)) : qK := (AW (mX7_rowSize, G) 21)
theorem oX7_rowSize_17 (G : Nat × Nat × Nat × Option (Nat × (Nat → Int32)) × (Option Value → qW → Prop)) : qImp (bX7_rowSize_17 G) (AW (mX7_rowSize, G) 17) := (r_goto (tgt := 21) dX7_rowSize_17 rfl qImp.rf)
def bX7_rowSize_20 (G : Nat × Nat × Nat × Option (Nat × (Nat → Int32)) × (Option Value → qW → Prop)) : qK := (s_iconst 0 (AW (mX7_rowSize, G) 21))
theorem oX7_rowSize_20 (G : Nat × Nat × Nat × Option (Nat × (Nat → Int32)) × (Option Value → qW → Prop)) : qImp (bX7_rowSize_20 G) (AW (mX7_rowSize, G) 20) := (r_iconst dX7_rowSize_20 rfl qImp.rf)
def bX7_rowSize_21 (G : Nat × Nat × Nat × Option (Nat × (Nat → Int32)) × (Option Value → qW → Prop)) : qK := (s_ireturn (mX7_rowSize, G))
theorem oX7_rowSize_21 (G : Nat × Nat × Nat × Option (Nat × (Nat → Int32)) × (Option Value → qW → Prop)) : qImp (bX7_rowSize_21 G) (AW (mX7_rowSize, G) 21) := (r_ireturn dX7_rowSize_21 rfl)
theorem kX7_rowSize_2 {G : Nat × Nat × Nat × Option (Nat × (Nat → Int32)) × (Option Value → qW → Prop)} {L : qL} {w : qW} {kc ks : Nat} {rest : List Value} {q : Nat} {x0 : Int32} {d mc ms : Nat} {Q : Option Value → qW → Prop} (hC : CT mX7_has d mc ms [.ref q, .int x0] w Q) (hq : qci w q = some 7) (hst : rest.length ≤ 4) (hdp : d + 1 ≤ G.1) (hmc : kc + mc ≤ G.2.1 ∧ ks + ms ≤ G.2.2.1) (k : ∀ r w', Q r w' → AW (mX7_rowSize, G) 5 L (r.toList ++ rest) w' (kc + mc) (ks + ms)) : AW (mX7_rowSize, G) 2 L (.int x0 :: .ref q :: rest) w kc ks := a_callV [.int x0] rest dX7_rowSize_2 vX7_has lk382 hC hq rfl rfl hst hdp hmc k
theorem kX7_rowSize_14 {G : Nat × Nat × Nat × Option (Nat × (Nat → Int32)) × (Option Value → qW → Prop)} {L : qL} {w : qW} {kc ks : Nat} {rest : List Value} {q : Nat}  {d mc ms : Nat} {Q : Option Value → qW → Prop} (hC : CT mX0_size d mc ms [.ref q] w Q) (hq : qci w q = some 0) (hst : rest.length ≤ 4) (hdp : d + 1 ≤ G.1) (hmc : kc + mc ≤ G.2.1 ∧ ks + ms ≤ G.2.2.1) (k : ∀ r w', Q r w' → AW (mX7_rowSize, G) 17 L (r.toList ++ rest) w' (kc + mc) (ks + ms)) : AW (mX7_rowSize, G) 14 L (.ref q :: rest) w kc ks := a_callV [] rest dX7_rowSize_14 vX0_size lk766 hC hq rfl rfl hst hdp hmc k
theorem dX7_makersOf_0 : decode cX7_makersOf 0 = .ok (.iconst 0, 1) := by decide +kernel
theorem dX7_makersOf_1 : decode cX7_makersOf 1 = .ok (.istore_n 2, 1) := by decide +kernel
theorem dX7_makersOf_2 : decode cX7_makersOf 2 = .ok (.iconst 0, 1) := by decide +kernel
theorem dX7_makersOf_3 : decode cX7_makersOf 3 = .ok (.istore_n 3, 1) := by decide +kernel
theorem dX7_makersOf_4 : decode cX7_makersOf 4 = .ok (.iload_n 3, 1) := by decide +kernel
theorem dX7_makersOf_5 : decode cX7_makersOf 5 = .ok (.aload_n 0, 1) := by decide +kernel
theorem dX7_makersOf_6 : decode cX7_makersOf 6 = .ok (.getfield 39, 3) := by decide +kernel
theorem dX7_makersOf_9 : decode cX7_makersOf 9 = .ok (.if_icmp .ge 27, 3) := by decide +kernel
theorem dX7_makersOf_12 : decode cX7_makersOf 12 = .ok (.aload_n 0, 1) := by decide +kernel
theorem dX7_makersOf_13 : decode cX7_makersOf 13 = .ok (.iload_n 1, 1) := by decide +kernel
theorem dX7_makersOf_14 : decode cX7_makersOf 14 = .ok (.iload_n 3, 1) := by decide +kernel
theorem dX7_makersOf_15 : decode cX7_makersOf 15 = .ok (.invokevirtual 75, 3) := by decide +kernel
theorem dX7_makersOf_18 : decode cX7_makersOf 18 = .ok (.ifCond .eq 12, 3) := by decide +kernel
theorem dX7_makersOf_21 : decode cX7_makersOf 21 = .ok (.iload_n 2, 1) := by decide +kernel
theorem dX7_makersOf_22 : decode cX7_makersOf 22 = .ok (.aload_n 0, 1) := by decide +kernel
theorem dX7_makersOf_23 : decode cX7_makersOf 23 = .ok (.getfield 21, 3) := by decide +kernel
theorem dX7_makersOf_26 : decode cX7_makersOf 26 = .ok (.iload_n 3, 1) := by decide +kernel
theorem dX7_makersOf_27 : decode cX7_makersOf 27 = .ok (.iaload, 1) := by decide +kernel
theorem dX7_makersOf_28 : decode cX7_makersOf 28 = .ok (.ior, 1) := by decide +kernel
theorem dX7_makersOf_29 : decode cX7_makersOf 29 = .ok (.istore_n 2, 1) := by decide +kernel
theorem dX7_makersOf_30 : decode cX7_makersOf 30 = .ok (.iinc 3 1, 3) := by decide +kernel
theorem dX7_makersOf_33 : decode cX7_makersOf 33 = .ok (.goto (-29), 3) := by decide +kernel
theorem dX7_makersOf_36 : decode cX7_makersOf 36 = .ok (.iload_n 2, 1) := by decide +kernel
theorem dX7_makersOf_37 : decode cX7_makersOf 37 = .ok (.ireturn, 1) := by decide +kernel
/-! SealLine$Shelf.makersOf(I)I -/
theorem eX7_makersOf {d mc ms : Nat} {w : qW} {Q : Option Value → qW → Prop} {q : Nat} {x0 : Int32} (h : AW (mX7_makersOf, d, mc, ms, none, Q) 0 [some (.ref q), some (.int x0), none, none] [] w 0 0) : CT mX7_makersOf d mc ms [.ref q, .int x0] w Q := CT_of (by decide +kernel) rfl (Nat.le_of_ble_eq_true rfl) h
def bX7_makersOf_0 (G : Nat × Nat × Nat × Option (Nat × (Nat → Int32)) × (Option Value → qW → Prop)) : qK := (s_iconst 0 (s_istore 2 1 (s_iconst 0 (s_istore 3 2 (AW (mX7_makersOf, G) 4)))))
theorem oX7_makersOf_0 (G : Nat × Nat × Nat × Option (Nat × (Nat → Int32)) × (Option Value → qW → Prop)) : qImp (bX7_makersOf_0 G) (AW (mX7_makersOf, G) 0) := (r_iconst dX7_makersOf_0 rfl (r_istore_n dX7_makersOf_1 rfl (Or.inr rfl) (Nat.le_of_ble_eq_true rfl) (r_iconst dX7_makersOf_2 rfl (r_istore_n dX7_makersOf_3 rfl (Or.inr rfl) (Nat.le_of_ble_eq_true rfl) qImp.rf))))
def bX7_makersOf_4 (G : Nat × Nat × Nat × Option (Nat × (Nat → Int32)) × (Option Value → qW → Prop)) : qK := (s_iload 3 (s_aload 0 (s_getfield 7 7 (s_ic_ge (AW (mX7_makersOf, G) 36) (s_aload 0 (s_iload 1 (s_iload 3 (AW (mX7_makersOf, G) 15))))))))
theorem oX7_makersOf_4 (G : Nat × Nat × Nat × Option (Nat × (Nat → Int32)) × (Option Value → qW → Prop)) : qImp (bX7_makersOf_4 G) (AW (mX7_makersOf, G) 4) := (r_iload_n dX7_makersOf_4 rfl (r_aload_n dX7_makersOf_5 rfl (r_getfield dX7_makersOf_6 fgX7_39 (r_ic_ge (tgt := 36) dX7_makersOf_9 rfl qImp.rf (r_aload_n dX7_makersOf_12 rfl (r_iload_n dX7_makersOf_13 rfl (r_iload_n dX7_makersOf_14 rfl qImp.rf)))))))
def bX7_makersOf_18 (G : Nat × Nat × Nat × Option (Nat × (Nat → Int32)) × (Option Value → qW → Prop)) : qK := (s_if_eq (AW (mX7_makersOf, G) 30) (s_iload 2 (s_aload 0 (s_getfield 7 2 (s_iload 3 (s_iaload (mX7_makersOf, G) (s_ior (s_istore 2 1 (AW (mX7_makersOf, G) 30)))))))))
theorem oX7_makersOf_18 (G : Nat × Nat × Nat × Option (Nat × (Nat → Int32)) × (Option Value → qW → Prop)) : qImp (bX7_makersOf_18 G) (AW (mX7_makersOf, G) 18) := (r_if_eq (tgt := 30) dX7_makersOf_18 rfl qImp.rf (r_iload_n dX7_makersOf_21 rfl (r_aload_n dX7_makersOf_22 rfl (r_getfield dX7_makersOf_23 fgX7_21 (r_iload_n dX7_makersOf_26 rfl (r_iaload dX7_makersOf_27 (r_ior dX7_makersOf_28 (r_istore_n dX7_makersOf_29 rfl (Or.inr rfl) (Nat.le_of_ble_eq_true rfl) qImp.rf))))))))
def bX7_makersOf_30 (G : Nat × Nat × Nat × Option (Nat × (Nat → Int32)) × (Option Value → qW → Prop)) : qK := (s_iinc 3 2 1 (AW (mX7_makersOf, G) 4))
theorem oX7_makersOf_30 (G : Nat × Nat × Nat × Option (Nat × (Nat → Int32)) × (Option Value → qW → Prop)) : qImp (bX7_makersOf_30 G) (AW (mX7_makersOf, G) 30) := (r_iinc dX7_makersOf_30 rfl (Or.inr rfl) (Nat.le_of_ble_eq_true rfl) (r_goto (tgt := 4) dX7_makersOf_33 rfl qImp.rf))
def bX7_makersOf_36 (G : Nat × Nat × Nat × Option (Nat × (Nat → Int32)) × (Option Value → qW → Prop)) : qK := (s_iload 2 (s_ireturn (mX7_makersOf, G)))
theorem oX7_makersOf_36 (G : Nat × Nat × Nat × Option (Nat × (Nat → Int32)) × (Option Value → qW → Prop)) : qImp (bX7_makersOf_36 G) (AW (mX7_makersOf, G) 36) := (r_iload_n dX7_makersOf_36 rfl (r_ireturn dX7_makersOf_37 rfl))
theorem kX7_makersOf_15 {G : Nat × Nat × Nat × Option (Nat × (Nat → Int32)) × (Option Value → qW → Prop)} {L : qL} {w : qW} {kc ks : Nat} {rest : List Value} {q : Nat} {x0 : Int32} {x1 : Int32} {d mc ms : Nat} {Q : Option Value → qW → Prop} (hC : CT mX7_rowHas d mc ms [.ref q, .int x0, .int x1] w Q) (hq : qci w q = some 7) (hst : rest.length ≤ 4) (hdp : d + 1 ≤ G.1) (hmc : kc + mc ≤ G.2.1 ∧ ks + ms ≤ G.2.2.1) (k : ∀ r w', Q r w' → AW (mX7_makersOf, G) 18 L (r.toList ++ rest) w' (kc + mc) (ks + ms)) : AW (mX7_makersOf, G) 15 L (.int x1 :: .int x0 :: .ref q :: rest) w kc ks := a_callV [.int x0, .int x1] rest dX7_makersOf_15 vX7_rowHas lk631 hC hq rfl rfl hst hdp hmc k
theorem dX7_goodTries_0 : decode cX7_goodTries 0 = .ok (.aload_n 0, 1) := by decide +kernel
theorem dX7_goodTries_1 : decode cX7_goodTries 1 = .ok (.iload_n 1, 1) := by decide +kernel
theorem dX7_goodTries_2 : decode cX7_goodTries 2 = .ok (.invokevirtual 43, 3) := by decide +kernel
theorem dX7_goodTries_5 : decode cX7_goodTries 5 = .ok (.ifCond .eq 15, 3) := by decide +kernel
theorem dX7_goodTries_8 : decode cX7_goodTries 8 = .ok (.aload_n 0, 1) := by decide +kernel
theorem dX7_goodTries_9 : decode cX7_goodTries 9 = .ok (.getfield 28, 3) := by decide +kernel
theorem dX7_goodTries_12 : decode cX7_goodTries 12 = .ok (.iload_n 1, 1) := by decide +kernel
theorem dX7_goodTries_13 : decode cX7_goodTries 13 = .ok (.iaload, 1) := by decide +kernel
theorem dX7_goodTries_14 : decode cX7_goodTries 14 = .ok (.invokestatic 79, 3) := by decide +kernel
theorem dX7_goodTries_17 : decode cX7_goodTries 17 = .ok (.goto 4, 3) := by decide +kernel
theorem dX7_goodTries_20 : decode cX7_goodTries 20 = .ok (.iconst 0, 1) := by decide +kernel
theorem dX7_goodTries_21 : decode cX7_goodTries 21 = .ok (.ireturn, 1) := by decide +kernel
/-! SealLine$Shelf.goodTries(I)I -/
theorem eX7_goodTries {d mc ms : Nat} {w : qW} {Q : Option Value → qW → Prop} {q : Nat} {x0 : Int32} (h : AW (mX7_goodTries, d, mc, ms, none, Q) 0 [some (.ref q), some (.int x0)] [] w 0 0) : CT mX7_goodTries d mc ms [.ref q, .int x0] w Q := CT_of (by decide +kernel) rfl (Nat.le_of_ble_eq_true rfl) h
def bX7_goodTries_0 (G : Nat × Nat × Nat × Option (Nat × (Nat → Int32)) × (Option Value → qW → Prop)) : qK := (s_aload 0 (s_iload 1 (AW (mX7_goodTries, G) 2)))
theorem oX7_goodTries_0 (G : Nat × Nat × Nat × Option (Nat × (Nat → Int32)) × (Option Value → qW → Prop)) : qImp (bX7_goodTries_0 G) (AW (mX7_goodTries, G) 0) := (r_aload_n dX7_goodTries_0 rfl (r_iload_n dX7_goodTries_1 rfl qImp.rf))
def bX7_goodTries_5 (G : Nat × Nat × Nat × Option (Nat × (Nat → Int32)) × (Option Value → qW → Prop)) : qK := (s_if_eq (AW (mX7_goodTries, G) 20) (s_aload 0 (s_getfield 7 4 (s_iload 1 (s_iaload (mX7_goodTries, G) (AW (mX7_goodTries, G) 14))))))
theorem oX7_goodTries_5 (G : Nat × Nat × Nat × Option (Nat × (Nat → Int32)) × (Option Value → qW → Prop)) : qImp (bX7_goodTries_5 G) (AW (mX7_goodTries, G) 5) := (r_if_eq (tgt := 20) dX7_goodTries_5 rfl qImp.rf (r_aload_n dX7_goodTries_8 rfl (r_getfield dX7_goodTries_9 fgX7_28 (r_iload_n dX7_goodTries_12 rfl (r_iaload dX7_goodTries_13 qImp.rf)))))
def bX7_goodTries_17 (G : Nat × Nat × Nat × Option (Nat × (Nat → Int32)) × (Option Value → qW → Prop)) : qK := (AW (mX7_goodTries, G) 21)
theorem oX7_goodTries_17 (G : Nat × Nat × Nat × Option (Nat × (Nat → Int32)) × (Option Value → qW → Prop)) : qImp (bX7_goodTries_17 G) (AW (mX7_goodTries, G) 17) := (r_goto (tgt := 21) dX7_goodTries_17 rfl qImp.rf)
def bX7_goodTries_20 (G : Nat × Nat × Nat × Option (Nat × (Nat → Int32)) × (Option Value → qW → Prop)) : qK := (s_iconst 0 (AW (mX7_goodTries, G) 21))
theorem oX7_goodTries_20 (G : Nat × Nat × Nat × Option (Nat × (Nat → Int32)) × (Option Value → qW → Prop)) : qImp (bX7_goodTries_20 G) (AW (mX7_goodTries, G) 20) := (r_iconst dX7_goodTries_20 rfl qImp.rf)
def bX7_goodTries_21 (G : Nat × Nat × Nat × Option (Nat × (Nat → Int32)) × (Option Value → qW → Prop)) : qK := (s_ireturn (mX7_goodTries, G))
theorem oX7_goodTries_21 (G : Nat × Nat × Nat × Option (Nat × (Nat → Int32)) × (Option Value → qW → Prop)) : qImp (bX7_goodTries_21 G) (AW (mX7_goodTries, G) 21) := (r_ireturn dX7_goodTries_21 rfl)
theorem kX7_goodTries_2 {G : Nat × Nat × Nat × Option (Nat × (Nat → Int32)) × (Option Value → qW → Prop)} {L : qL} {w : qW} {kc ks : Nat} {rest : List Value} {q : Nat} {x0 : Int32} {d mc ms : Nat} {Q : Option Value → qW → Prop} (hC : CT mX7_has d mc ms [.ref q, .int x0] w Q) (hq : qci w q = some 7) (hst : rest.length ≤ 4) (hdp : d + 1 ≤ G.1) (hmc : kc + mc ≤ G.2.1 ∧ ks + ms ≤ G.2.2.1) (k : ∀ r w', Q r w' → AW (mX7_goodTries, G) 5 L (r.toList ++ rest) w' (kc + mc) (ks + ms)) : AW (mX7_goodTries, G) 2 L (.int x0 :: .ref q :: rest) w kc ks := a_callV [.int x0] rest dX7_goodTries_2 vX7_has lk382 hC hq rfl rfl hst hdp hmc k
theorem kX7_goodTries_14 {G : Nat × Nat × Nat × Option (Nat × (Nat → Int32)) × (Option Value → qW → Prop)} {L : qL} {w : qW} {kc ks : Nat} {rest : List Value}  {x0 : Int32} {d mc ms : Nat} {Q : Option Value → qW → Prop} (hC : CT mJ6_bitCount_0f7a4 d mc ms [.int x0] w Q) (hst : rest.length ≤ 4) (hdp : d + 1 ≤ G.1) (hmc : kc + mc ≤ G.2.1 ∧ ks + ms ≤ G.2.2.1) (k : ∀ r w', Q r w' → AW (mX7_goodTries, G) 17 L (r.toList ++ rest) w' (kc + mc) (ks + ms)) : AW (mX7_goodTries, G) 14 L (.int x0 :: rest) w kc ks := a_callS [.int x0] rest dX7_goodTries_14 tJ6_bitCount_0f7a4 lk653 hC rfl hst hdp hmc k
theorem dX7_goodReviews_0 : decode cX7_goodReviews 0 = .ok (.aload_n 0, 1) := by decide +kernel
theorem dX7_goodReviews_1 : decode cX7_goodReviews 1 = .ok (.iload_n 1, 1) := by decide +kernel
theorem dX7_goodReviews_2 : decode cX7_goodReviews 2 = .ok (.invokevirtual 43, 3) := by decide +kernel
theorem dX7_goodReviews_5 : decode cX7_goodReviews 5 = .ok (.ifCond .eq 23, 3) := by decide +kernel
theorem dX7_goodReviews_8 : decode cX7_goodReviews 8 = .ok (.aload_n 0, 1) := by decide +kernel
theorem dX7_goodReviews_9 : decode cX7_goodReviews 9 = .ok (.getfield 31, 3) := by decide +kernel
theorem dX7_goodReviews_12 : decode cX7_goodReviews 12 = .ok (.iload_n 1, 1) := by decide +kernel
theorem dX7_goodReviews_13 : decode cX7_goodReviews 13 = .ok (.iaload, 1) := by decide +kernel
theorem dX7_goodReviews_14 : decode cX7_goodReviews 14 = .ok (.aload_n 0, 1) := by decide +kernel
theorem dX7_goodReviews_15 : decode cX7_goodReviews 15 = .ok (.iload_n 1, 1) := by decide +kernel
theorem dX7_goodReviews_16 : decode cX7_goodReviews 16 = .ok (.invokevirtual 85, 3) := by decide +kernel
theorem dX7_goodReviews_19 : decode cX7_goodReviews 19 = .ok (.iconst (-1), 1) := by decide +kernel
theorem dX7_goodReviews_20 : decode cX7_goodReviews 20 = .ok (.ixor, 1) := by decide +kernel
theorem dX7_goodReviews_21 : decode cX7_goodReviews 21 = .ok (.iand, 1) := by decide +kernel
theorem dX7_goodReviews_22 : decode cX7_goodReviews 22 = .ok (.invokestatic 79, 3) := by decide +kernel
theorem dX7_goodReviews_25 : decode cX7_goodReviews 25 = .ok (.goto 4, 3) := by decide +kernel
theorem dX7_goodReviews_28 : decode cX7_goodReviews 28 = .ok (.iconst 0, 1) := by decide +kernel
theorem dX7_goodReviews_29 : decode cX7_goodReviews 29 = .ok (.ireturn, 1) := by decide +kernel
/-! SealLine$Shelf.goodReviews(I)I -/
theorem eX7_goodReviews {d mc ms : Nat} {w : qW} {Q : Option Value → qW → Prop} {q : Nat} {x0 : Int32} (h : AW (mX7_goodReviews, d, mc, ms, none, Q) 0 [some (.ref q), some (.int x0)] [] w 0 0) : CT mX7_goodReviews d mc ms [.ref q, .int x0] w Q := CT_of (by decide +kernel) rfl (Nat.le_of_ble_eq_true rfl) h
def bX7_goodReviews_0 (G : Nat × Nat × Nat × Option (Nat × (Nat → Int32)) × (Option Value → qW → Prop)) : qK := (s_aload 0 (s_iload 1 (AW (mX7_goodReviews, G) 2)))
theorem oX7_goodReviews_0 (G : Nat × Nat × Nat × Option (Nat × (Nat → Int32)) × (Option Value → qW → Prop)) : qImp (bX7_goodReviews_0 G) (AW (mX7_goodReviews, G) 0) := (r_aload_n dX7_goodReviews_0 rfl (r_iload_n dX7_goodReviews_1 rfl qImp.rf))
def bX7_goodReviews_5 (G : Nat × Nat × Nat × Option (Nat × (Nat → Int32)) × (Option Value → qW → Prop)) : qK := (s_if_eq (AW (mX7_goodReviews, G) 28) (s_aload 0 (s_getfield 7 5 (s_iload 1 (s_iaload (mX7_goodReviews, G) (s_aload 0 (s_iload 1 (AW (mX7_goodReviews, G) 16))))))))
theorem oX7_goodReviews_5 (G : Nat × Nat × Nat × Option (Nat × (Nat → Int32)) × (Option Value → qW → Prop)) : qImp (bX7_goodReviews_5 G) (AW (mX7_goodReviews, G) 5) := (r_if_eq (tgt := 28) dX7_goodReviews_5 rfl qImp.rf (r_aload_n dX7_goodReviews_8 rfl (r_getfield dX7_goodReviews_9 fgX7_31 (r_iload_n dX7_goodReviews_12 rfl (r_iaload dX7_goodReviews_13 (r_aload_n dX7_goodReviews_14 rfl (r_iload_n dX7_goodReviews_15 rfl qImp.rf)))))))
def bX7_goodReviews_19 (G : Nat × Nat × Nat × Option (Nat × (Nat → Int32)) × (Option Value → qW → Prop)) : qK := (s_iconst (-1) (s_ixor (s_iand (AW (mX7_goodReviews, G) 22))))
theorem oX7_goodReviews_19 (G : Nat × Nat × Nat × Option (Nat × (Nat → Int32)) × (Option Value → qW → Prop)) : qImp (bX7_goodReviews_19 G) (AW (mX7_goodReviews, G) 19) := (r_iconst dX7_goodReviews_19 rfl (r_ixor dX7_goodReviews_20 (r_iand dX7_goodReviews_21 qImp.rf)))
def bX7_goodReviews_25 (G : Nat × Nat × Nat × Option (Nat × (Nat → Int32)) × (Option Value → qW → Prop)) : qK := (AW (mX7_goodReviews, G) 29)
theorem oX7_goodReviews_25 (G : Nat × Nat × Nat × Option (Nat × (Nat → Int32)) × (Option Value → qW → Prop)) : qImp (bX7_goodReviews_25 G) (AW (mX7_goodReviews, G) 25) := (r_goto (tgt := 29) dX7_goodReviews_25 rfl qImp.rf)
def bX7_goodReviews_28 (G : Nat × Nat × Nat × Option (Nat × (Nat → Int32)) × (Option Value → qW → Prop)) : qK := (s_iconst 0 (AW (mX7_goodReviews, G) 29))
theorem oX7_goodReviews_28 (G : Nat × Nat × Nat × Option (Nat × (Nat → Int32)) × (Option Value → qW → Prop)) : qImp (bX7_goodReviews_28 G) (AW (mX7_goodReviews, G) 28) := (r_iconst dX7_goodReviews_28 rfl qImp.rf)
def bX7_goodReviews_29 (G : Nat × Nat × Nat × Option (Nat × (Nat → Int32)) × (Option Value → qW → Prop)) : qK := (s_ireturn (mX7_goodReviews, G))
theorem oX7_goodReviews_29 (G : Nat × Nat × Nat × Option (Nat × (Nat → Int32)) × (Option Value → qW → Prop)) : qImp (bX7_goodReviews_29 G) (AW (mX7_goodReviews, G) 29) := (r_ireturn dX7_goodReviews_29 rfl)
theorem kX7_goodReviews_2 {G : Nat × Nat × Nat × Option (Nat × (Nat → Int32)) × (Option Value → qW → Prop)} {L : qL} {w : qW} {kc ks : Nat} {rest : List Value} {q : Nat} {x0 : Int32} {d mc ms : Nat} {Q : Option Value → qW → Prop} (hC : CT mX7_has d mc ms [.ref q, .int x0] w Q) (hq : qci w q = some 7) (hst : rest.length ≤ 4) (hdp : d + 1 ≤ G.1) (hmc : kc + mc ≤ G.2.1 ∧ ks + ms ≤ G.2.2.1) (k : ∀ r w', Q r w' → AW (mX7_goodReviews, G) 5 L (r.toList ++ rest) w' (kc + mc) (ks + ms)) : AW (mX7_goodReviews, G) 2 L (.int x0 :: .ref q :: rest) w kc ks := a_callV [.int x0] rest dX7_goodReviews_2 vX7_has lk382 hC hq rfl rfl hst hdp hmc k
theorem kX7_goodReviews_16 {G : Nat × Nat × Nat × Option (Nat × (Nat → Int32)) × (Option Value → qW → Prop)} {L : qL} {w : qW} {kc ks : Nat} {rest : List Value} {q : Nat} {x0 : Int32} {d mc ms : Nat} {Q : Option Value → qW → Prop} (hC : CT mX7_makersOf d mc ms [.ref q, .int x0] w Q) (hq : qci w q = some 7) (hst : rest.length ≤ 4) (hdp : d + 1 ≤ G.1) (hmc : kc + mc ≤ G.2.1 ∧ ks + ms ≤ G.2.2.1) (k : ∀ r w', Q r w' → AW (mX7_goodReviews, G) 19 L (r.toList ++ rest) w' (kc + mc) (ks + ms)) : AW (mX7_goodReviews, G) 16 L (.int x0 :: .ref q :: rest) w kc ks := a_callV [.int x0] rest dX7_goodReviews_16 vX7_makersOf lk652 hC hq rfl rfl hst hdp hmc k
theorem kX7_goodReviews_22 {G : Nat × Nat × Nat × Option (Nat × (Nat → Int32)) × (Option Value → qW → Prop)} {L : qL} {w : qW} {kc ks : Nat} {rest : List Value}  {x0 : Int32} {d mc ms : Nat} {Q : Option Value → qW → Prop} (hC : CT mJ6_bitCount_0f7a4 d mc ms [.int x0] w Q) (hst : rest.length ≤ 4) (hdp : d + 1 ≤ G.1) (hmc : kc + mc ≤ G.2.1 ∧ ks + ms ≤ G.2.2.1) (k : ∀ r w', Q r w' → AW (mX7_goodReviews, G) 25 L (r.toList ++ rest) w' (kc + mc) (ks + ms)) : AW (mX7_goodReviews, G) 22 L (.int x0 :: rest) w kc ks := a_callS [.int x0] rest dX7_goodReviews_22 tJ6_bitCount_0f7a4 lk653 hC rfl hst hdp hmc k
theorem dX7_goodBuilders_0 : decode cX7_goodBuilders 0 = .ok (.aload_n 0, 1) := by decide +kernel
theorem dX7_goodBuilders_1 : decode cX7_goodBuilders 1 = .ok (.iload_n 1, 1) := by decide +kernel
theorem dX7_goodBuilders_2 : decode cX7_goodBuilders 2 = .ok (.invokevirtual 43, 3) := by decide +kernel
theorem dX7_goodBuilders_5 : decode cX7_goodBuilders 5 = .ok (.ifCond .eq 15, 3) := by decide +kernel
theorem dX7_goodBuilders_8 : decode cX7_goodBuilders 8 = .ok (.aload_n 0, 1) := by decide +kernel
theorem dX7_goodBuilders_9 : decode cX7_goodBuilders 9 = .ok (.getfield 25, 3) := by decide +kernel
theorem dX7_goodBuilders_12 : decode cX7_goodBuilders 12 = .ok (.iload_n 1, 1) := by decide +kernel
theorem dX7_goodBuilders_13 : decode cX7_goodBuilders 13 = .ok (.iaload, 1) := by decide +kernel
theorem dX7_goodBuilders_14 : decode cX7_goodBuilders 14 = .ok (.invokestatic 79, 3) := by decide +kernel
theorem dX7_goodBuilders_17 : decode cX7_goodBuilders 17 = .ok (.goto 4, 3) := by decide +kernel
theorem dX7_goodBuilders_20 : decode cX7_goodBuilders 20 = .ok (.iconst 0, 1) := by decide +kernel
theorem dX7_goodBuilders_21 : decode cX7_goodBuilders 21 = .ok (.ireturn, 1) := by decide +kernel
/-! SealLine$Shelf.goodBuilders(I)I -/
theorem eX7_goodBuilders {d mc ms : Nat} {w : qW} {Q : Option Value → qW → Prop} {q : Nat} {x0 : Int32} (h : AW (mX7_goodBuilders, d, mc, ms, none, Q) 0 [some (.ref q), some (.int x0)] [] w 0 0) : CT mX7_goodBuilders d mc ms [.ref q, .int x0] w Q := CT_of (by decide +kernel) rfl (Nat.le_of_ble_eq_true rfl) h
def bX7_goodBuilders_0 (G : Nat × Nat × Nat × Option (Nat × (Nat → Int32)) × (Option Value → qW → Prop)) : qK := (s_aload 0 (s_iload 1 (AW (mX7_goodBuilders, G) 2)))
theorem oX7_goodBuilders_0 (G : Nat × Nat × Nat × Option (Nat × (Nat → Int32)) × (Option Value → qW → Prop)) : qImp (bX7_goodBuilders_0 G) (AW (mX7_goodBuilders, G) 0) := (r_aload_n dX7_goodBuilders_0 rfl (r_iload_n dX7_goodBuilders_1 rfl qImp.rf))
def bX7_goodBuilders_5 (G : Nat × Nat × Nat × Option (Nat × (Nat → Int32)) × (Option Value → qW → Prop)) : qK := (s_if_eq (AW (mX7_goodBuilders, G) 20) (s_aload 0 (s_getfield 7 3 (s_iload 1 (s_iaload (mX7_goodBuilders, G) (AW (mX7_goodBuilders, G) 14))))))
theorem oX7_goodBuilders_5 (G : Nat × Nat × Nat × Option (Nat × (Nat → Int32)) × (Option Value → qW → Prop)) : qImp (bX7_goodBuilders_5 G) (AW (mX7_goodBuilders, G) 5) := (r_if_eq (tgt := 20) dX7_goodBuilders_5 rfl qImp.rf (r_aload_n dX7_goodBuilders_8 rfl (r_getfield dX7_goodBuilders_9 fgX7_25 (r_iload_n dX7_goodBuilders_12 rfl (r_iaload dX7_goodBuilders_13 qImp.rf)))))
def bX7_goodBuilders_17 (G : Nat × Nat × Nat × Option (Nat × (Nat → Int32)) × (Option Value → qW → Prop)) : qK := (AW (mX7_goodBuilders, G) 21)
theorem oX7_goodBuilders_17 (G : Nat × Nat × Nat × Option (Nat × (Nat → Int32)) × (Option Value → qW → Prop)) : qImp (bX7_goodBuilders_17 G) (AW (mX7_goodBuilders, G) 17) := (r_goto (tgt := 21) dX7_goodBuilders_17 rfl qImp.rf)
def bX7_goodBuilders_20 (G : Nat × Nat × Nat × Option (Nat × (Nat → Int32)) × (Option Value → qW → Prop)) : qK := (s_iconst 0 (AW (mX7_goodBuilders, G) 21))
theorem oX7_goodBuilders_20 (G : Nat × Nat × Nat × Option (Nat × (Nat → Int32)) × (Option Value → qW → Prop)) : qImp (bX7_goodBuilders_20 G) (AW (mX7_goodBuilders, G) 20) := (r_iconst dX7_goodBuilders_20 rfl qImp.rf)
def bX7_goodBuilders_21 (G : Nat × Nat × Nat × Option (Nat × (Nat → Int32)) × (Option Value → qW → Prop)) : qK := (s_ireturn (mX7_goodBuilders, G))
theorem oX7_goodBuilders_21 (G : Nat × Nat × Nat × Option (Nat × (Nat → Int32)) × (Option Value → qW → Prop)) : qImp (bX7_goodBuilders_21 G) (AW (mX7_goodBuilders, G) 21) := (r_ireturn dX7_goodBuilders_21 rfl)
theorem kX7_goodBuilders_2 {G : Nat × Nat × Nat × Option (Nat × (Nat → Int32)) × (Option Value → qW → Prop)} {L : qL} {w : qW} {kc ks : Nat} {rest : List Value} {q : Nat} {x0 : Int32} {d mc ms : Nat} {Q : Option Value → qW → Prop} (hC : CT mX7_has d mc ms [.ref q, .int x0] w Q) (hq : qci w q = some 7) (hst : rest.length ≤ 4) (hdp : d + 1 ≤ G.1) (hmc : kc + mc ≤ G.2.1 ∧ ks + ms ≤ G.2.2.1) (k : ∀ r w', Q r w' → AW (mX7_goodBuilders, G) 5 L (r.toList ++ rest) w' (kc + mc) (ks + ms)) : AW (mX7_goodBuilders, G) 2 L (.int x0 :: .ref q :: rest) w kc ks := a_callV [.int x0] rest dX7_goodBuilders_2 vX7_has lk382 hC hq rfl rfl hst hdp hmc k
theorem kX7_goodBuilders_14 {G : Nat × Nat × Nat × Option (Nat × (Nat → Int32)) × (Option Value → qW → Prop)} {L : qL} {w : qW} {kc ks : Nat} {rest : List Value}  {x0 : Int32} {d mc ms : Nat} {Q : Option Value → qW → Prop} (hC : CT mJ6_bitCount_0f7a4 d mc ms [.int x0] w Q) (hst : rest.length ≤ 4) (hdp : d + 1 ≤ G.1) (hmc : kc + mc ≤ G.2.1 ∧ ks + ms ≤ G.2.2.1) (k : ∀ r w', Q r w' → AW (mX7_goodBuilders, G) 17 L (r.toList ++ rest) w' (kc + mc) (ks + ms)) : AW (mX7_goodBuilders, G) 14 L (.int x0 :: rest) w kc ks := a_callS [.int x0] rest dX7_goodBuilders_14 tJ6_bitCount_0f7a4 lk653 hC rfl hst hdp hmc k
theorem dX7_isClean_0 : decode cX7_isClean 0 = .ok (.aload_n 0, 1) := by decide +kernel
theorem dX7_isClean_1 : decode cX7_isClean 1 = .ok (.getfield 35, 3) := by decide +kernel
theorem dX7_isClean_4 : decode cX7_isClean 4 = .ok (.iload_n 1, 1) := by decide +kernel
theorem dX7_isClean_5 : decode cX7_isClean 5 = .ok (.invokevirtual 62, 3) := by decide +kernel
theorem dX7_isClean_8 : decode cX7_isClean 8 = .ok (.ireturn, 1) := by decide +kernel
/-! SealLine$Shelf.isClean(I)Z -/
theorem eX7_isClean {d mc ms : Nat} {w : qW} {Q : Option Value → qW → Prop} {q : Nat} {x0 : Int32} (h : AW (mX7_isClean, d, mc, ms, none, Q) 0 [some (.ref q), some (.int x0)] [] w 0 0) : CT mX7_isClean d mc ms [.ref q, .int x0] w Q := CT_of (by decide +kernel) rfl (Nat.le_of_ble_eq_true rfl) h
def bX7_isClean_0 (G : Nat × Nat × Nat × Option (Nat × (Nat → Int32)) × (Option Value → qW → Prop)) : qK := (s_aload 0 (s_getfield 7 6 (s_iload 1 (AW (mX7_isClean, G) 5))))
theorem oX7_isClean_0 (G : Nat × Nat × Nat × Option (Nat × (Nat → Int32)) × (Option Value → qW → Prop)) : qImp (bX7_isClean_0 G) (AW (mX7_isClean, G) 0) := (r_aload_n dX7_isClean_0 rfl (r_getfield dX7_isClean_1 fgX7_35 (r_iload_n dX7_isClean_4 rfl qImp.rf)))
def bX7_isClean_8 (G : Nat × Nat × Nat × Option (Nat × (Nat → Int32)) × (Option Value → qW → Prop)) : qK := (s_zreturn (mX7_isClean, G))
theorem oX7_isClean_8 (G : Nat × Nat × Nat × Option (Nat × (Nat → Int32)) × (Option Value → qW → Prop)) : qImp (bX7_isClean_8 G) (AW (mX7_isClean, G) 8) := (r_zreturn dX7_isClean_8 rfl)
theorem kX7_isClean_5 {G : Nat × Nat × Nat × Option (Nat × (Nat → Int32)) × (Option Value → qW → Prop)} {L : qL} {w : qW} {kc ks : Nat} {rest : List Value} {q : Nat} {x0 : Int32} {d mc ms : Nat} {Q : Option Value → qW → Prop} (hC : CT mX0_has d mc ms [.ref q, .int x0] w Q) (hq : qci w q = some 0) (hst : rest.length ≤ 4) (hdp : d + 1 ≤ G.1) (hmc : kc + mc ≤ G.2.1 ∧ ks + ms ≤ G.2.2.1) (k : ∀ r w', Q r w' → AW (mX7_isClean, G) 8 L (r.toList ++ rest) w' (kc + mc) (ks + ms)) : AW (mX7_isClean, G) 5 L (.int x0 :: .ref q :: rest) w kc ks := a_callV [.int x0] rest dX7_isClean_5 vX0_has lk407 hC hq rfl rfl hst hdp hmc k
