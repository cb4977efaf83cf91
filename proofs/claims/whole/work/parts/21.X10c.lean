theorem dX10_recall_0 : decode cX10_recall 0 = .ok (.iload_n 1, 1) := by decide +kernel
theorem dX10_recall_1 : decode cX10_recall 1 = .ok (.ifCond .ne 33, 3) := by decide +kernel
theorem dX10_recall_4 : decode cX10_recall 4 = .ok (.aload_n 0, 1) := by decide +kernel
theorem dX10_recall_5 : decode cX10_recall 5 = .ok (.getfield 24, 3) := by decide +kernel
theorem dX10_recall_8 : decode cX10_recall 8 = .ok (.iload_n 2, 1) := by decide +kernel
theorem dX10_recall_9 : decode cX10_recall 9 = .ok (.invokevirtual 167, 3) := by decide +kernel
theorem dX10_recall_12 : decode cX10_recall 12 = .ok (.ifCond .eq 18, 3) := by decide +kernel
theorem dX10_recall_15 : decode cX10_recall 15 = .ok (.aload_n 0, 1) := by decide +kernel
theorem dX10_recall_16 : decode cX10_recall 16 = .ok (.getfield 38, 3) := by decide +kernel
theorem dX10_recall_19 : decode cX10_recall 19 = .ok (.iload_n 2, 1) := by decide +kernel
theorem dX10_recall_20 : decode cX10_recall 20 = .ok (.invokevirtual 200, 3) := by decide +kernel
theorem dX10_recall_23 : decode cX10_recall 23 = .ok (.ifCond .eq 7, 3) := by decide +kernel
theorem dX10_recall_26 : decode cX10_recall 26 = .ok (.iconst 1, 1) := by decide +kernel
theorem dX10_recall_27 : decode cX10_recall 27 = .ok (.goto 21, 3) := by decide +kernel
theorem dX10_recall_30 : decode cX10_recall 30 = .ok (.iconst 0, 1) := by decide +kernel
theorem dX10_recall_31 : decode cX10_recall 31 = .ok (.goto 17, 3) := by decide +kernel
theorem dX10_recall_34 : decode cX10_recall 34 = .ok (.aload_n 0, 1) := by decide +kernel
theorem dX10_recall_35 : decode cX10_recall 35 = .ok (.getfield 38, 3) := by decide +kernel
theorem dX10_recall_38 : decode cX10_recall 38 = .ok (.iload_n 1, 1) := by decide +kernel
theorem dX10_recall_39 : decode cX10_recall 39 = .ok (.iload_n 2, 1) := by decide +kernel
theorem dX10_recall_40 : decode cX10_recall 40 = .ok (.iload_n 3, 1) := by decide +kernel
theorem dX10_recall_41 : decode cX10_recall 41 = .ok (.aload_n 0, 1) := by decide +kernel
theorem dX10_recall_42 : decode cX10_recall 42 = .ok (.getfield 14, 3) := by decide +kernel
theorem dX10_recall_45 : decode cX10_recall 45 = .ok (.invokevirtual 203, 3) := by decide +kernel
theorem dX10_recall_48 : decode cX10_recall 48 = .ok (.istore 4, 2) := by decide +kernel
theorem dX10_recall_50 : decode cX10_recall 50 = .ok (.iload 4, 2) := by decide +kernel
theorem dX10_recall_52 : decode cX10_recall 52 = .ok (.ifCond .eq 10, 3) := by decide +kernel
theorem dX10_recall_55 : decode cX10_recall 55 = .ok (.aload_n 0, 1) := by decide +kernel
theorem dX10_recall_56 : decode cX10_recall 56 = .ok (.invokevirtual 207, 3) := by decide +kernel
theorem dX10_recall_59 : decode cX10_recall 59 = .ok (.goto 4, 3) := by decide +kernel
theorem dX10_recall_62 : decode cX10_recall 62 = .ok (.iconst (-1), 1) := by decide +kernel
theorem dX10_recall_63 : decode cX10_recall 63 = .ok (.ireturn, 1) := by decide +kernel
/-! SealLine.recall(III)I -/
theorem eX10_recall {d mc ms : Nat} {w : qW} {Q : Option Value → qW → Prop} {q : Nat} {x0 : Int32} {x1 : Int32} {x2 : Int32} (h : AW (mX10_recall, d, mc, ms, none, Q) 0 [some (.ref q), some (.int x0), some (.int x1), some (.int x2), none] [] w 0 0) : CT mX10_recall d mc ms [.ref q, .int x0, .int x1, .int x2] w Q := CT_of (by decide +kernel) rfl (Nat.le_of_ble_eq_true rfl) h
def bX10_recall_0 (G : Nat × Nat × Nat × Option (Nat × (Nat → Int32)) × (Option Value → qW → Prop)) : qK := (s_iload 1 (s_if_ne (AW (mX10_recall, G) 34) (s_aload 0 (s_getfield 10 2 (s_iload 2 (AW (mX10_recall, G) 9))))))
theorem oX10_recall_0 (G : Nat × Nat × Nat × Option (Nat × (Nat → Int32)) × (Option Value → qW → Prop)) : qImp (bX10_recall_0 G) (AW (mX10_recall, G) 0) := (r_iload_n dX10_recall_0 rfl (r_if_ne (tgt := 34) dX10_recall_1 rfl qImp.rf (r_aload_n dX10_recall_4 rfl (r_getfield dX10_recall_5 fgX10_24 (r_iload_n dX10_recall_8 rfl qImp.rf)))))
def bX10_recall_12 (G : Nat × Nat × Nat × Option (Nat × (Nat → Int32)) × (Option Value → qW → Prop)) : qK := (s_if_eq (AW (mX10_recall, G) 30) (s_aload 0 (s_getfield 10 4 (s_iload 2 (AW (mX10_recall, G) 20)))))
theorem oX10_recall_12 (G : Nat × Nat × Nat × Option (Nat × (Nat → Int32)) × (Option Value → qW → Prop)) : qImp (bX10_recall_12 G) (AW (mX10_recall, G) 12) := (r_if_eq (tgt := 30) dX10_recall_12 rfl qImp.rf (r_aload_n dX10_recall_15 rfl (r_getfield dX10_recall_16 fgX10_38 (r_iload_n dX10_recall_19 rfl qImp.rf))))
def bX10_recall_23 (G : Nat × Nat × Nat × Option (Nat × (Nat → Int32)) × (Option Value → qW → Prop)) : qK := (s_if_eq (AW (mX10_recall, G) 30) (s_iconst 1 (AW (mX10_recall, G) 48)))
theorem oX10_recall_23 (G : Nat × Nat × Nat × Option (Nat × (Nat → Int32)) × (Option Value → qW → Prop)) : qImp (bX10_recall_23 G) (AW (mX10_recall, G) 23) := (r_if_eq (tgt := 30) dX10_recall_23 rfl qImp.rf (r_iconst dX10_recall_26 rfl (r_goto (tgt := 48) dX10_recall_27 rfl qImp.rf)))
def bX10_recall_30 (G : Nat × Nat × Nat × Option (Nat × (Nat → Int32)) × (Option Value → qW → Prop)) : qK := (s_iconst 0 (AW (mX10_recall, G) 48))
theorem oX10_recall_30 (G : Nat × Nat × Nat × Option (Nat × (Nat → Int32)) × (Option Value → qW → Prop)) : qImp (bX10_recall_30 G) (AW (mX10_recall, G) 30) := (r_iconst dX10_recall_30 rfl (r_goto (tgt := 48) dX10_recall_31 rfl qImp.rf))
def bX10_recall_34 (G : Nat × Nat × Nat × Option (Nat × (Nat → Int32)) × (Option Value → qW → Prop)) : qK := (s_aload 0 (s_getfield 10 4 (s_iload 1 (s_iload 2 (s_iload 3 (s_aload 0 (s_getfield 10 0 (AW (mX10_recall, G) 45))))))))
theorem oX10_recall_34 (G : Nat × Nat × Nat × Option (Nat × (Nat → Int32)) × (Option Value → qW → Prop)) : qImp (bX10_recall_34 G) (AW (mX10_recall, G) 34) := (r_aload_n dX10_recall_34 rfl (r_getfield dX10_recall_35 fgX10_38 (r_iload_n dX10_recall_38 rfl (r_iload_n dX10_recall_39 rfl (r_iload_n dX10_recall_40 rfl (r_aload_n dX10_recall_41 rfl (r_getfield dX10_recall_42 fgX10_14 qImp.rf)))))))
def bX10_recall_48 (G : Nat × Nat × Nat × Option (Nat × (Nat → Int32)) × (Option Value → qW → Prop)) : qK := (s_istore 4 3 (s_iload 4 (s_if_eq (AW (mX10_recall, G) 62) (s_aload 0 (AW (mX10_recall, G) 56)))))
theorem oX10_recall_48 (G : Nat × Nat × Nat × Option (Nat × (Nat → Int32)) × (Option Value → qW → Prop)) : qImp (bX10_recall_48 G) (AW (mX10_recall, G) 48) := (r_istore dX10_recall_48 (Or.inr rfl) (Nat.le_of_ble_eq_true rfl) (r_iload dX10_recall_50 (r_if_eq (tgt := 62) dX10_recall_52 rfl qImp.rf (r_aload_n dX10_recall_55 rfl qImp.rf))))
def bX10_recall_59 (G : Nat × Nat × Nat × Option (Nat × (Nat → Int32)) × (Option Value → qW → Prop)) : qK := (AW (mX10_recall, G) 63)
theorem oX10_recall_59 (G : Nat × Nat × Nat × Option (Nat × (Nat → Int32)) × (Option Value → qW → Prop)) : qImp (bX10_recall_59 G) (AW (mX10_recall, G) 59) := (r_goto (tgt := 63) dX10_recall_59 rfl qImp.rf)
def bX10_recall_62 (G : Nat × Nat × Nat × Option (Nat × (Nat → Int32)) × (Option Value → qW → Prop)) : qK := (s_iconst (-1) (AW (mX10_recall, G) 63))
theorem oX10_recall_62 (G : Nat × Nat × Nat × Option (Nat × (Nat → Int32)) × (Option Value → qW → Prop)) : qImp (bX10_recall_62 G) (AW (mX10_recall, G) 62) := (r_iconst dX10_recall_62 rfl qImp.rf)
def bX10_recall_63 (G : Nat × Nat × Nat × Option (Nat × (Nat → Int32)) × (Option Value → qW → Prop)) : qK := (s_ireturn (mX10_recall, G))
theorem oX10_recall_63 (G : Nat × Nat × Nat × Option (Nat × (Nat → Int32)) × (Option Value → qW → Prop)) : qImp (bX10_recall_63 G) (AW (mX10_recall, G) 63) := (r_ireturn dX10_recall_63 rfl)
theorem kX10_recall_9 {G : Nat × Nat × Nat × Option (Nat × (Nat → Int32)) × (Option Value → qW → Prop)} {L : qL} {w : qW} {kc ks : Nat} {rest : List Value} {q : Nat} {x0 : Int32} {d mc ms : Nat} {Q : Option Value → qW → Prop} (hC : CT mX7_has d mc ms [.ref q, .int x0] w Q) (hq : qci w q = some 7) (hst : rest.length ≤ 4) (hdp : d + 1 ≤ G.1) (hmc : kc + mc ≤ G.2.1 ∧ ks + ms ≤ G.2.2.1) (k : ∀ r w', Q r w' → AW (mX10_recall, G) 12 L (r.toList ++ rest) w' (kc + mc) (ks + ms)) : AW (mX10_recall, G) 9 L (.int x0 :: .ref q :: rest) w kc ks := a_callV [.int x0] rest dX10_recall_9 vX7_has lk443 hC hq rfl rfl hst hdp hmc k
theorem kX10_recall_20 {G : Nat × Nat × Nat × Option (Nat × (Nat → Int32)) × (Option Value → qW → Prop)} {L : qL} {w : qW} {kc ks : Nat} {rest : List Value} {q : Nat} {x0 : Int32} {d mc ms : Nat} {Q : Option Value → qW → Prop} (hC : CT mX5_addFile d mc ms [.ref q, .int x0] w Q) (hq : qci w q = some 5) (hst : rest.length ≤ 4) (hdp : d + 1 ≤ G.1) (hmc : kc + mc ≤ G.2.1 ∧ ks + ms ≤ G.2.2.1) (k : ∀ r w', Q r w' → AW (mX10_recall, G) 23 L (r.toList ++ rest) w' (kc + mc) (ks + ms)) : AW (mX10_recall, G) 20 L (.int x0 :: .ref q :: rest) w kc ks := a_callV [.int x0] rest dX10_recall_20 vX5_addFile lk737 hC hq rfl rfl hst hdp hmc k
theorem kX10_recall_45 {G : Nat × Nat × Nat × Option (Nat × (Nat → Int32)) × (Option Value → qW → Prop)} {L : qL} {w : qW} {kc ks : Nat} {rest : List Value} {q : Nat} {x0 : Int32} {x1 : Int32} {x2 : Int32} {x3 : Nat} {d mc ms : Nat} {Q : Option Value → qW → Prop} (hC : CT mX5_addSince d mc ms [.ref q, .int x0, .int x1, .int x2, .ref x3] w Q) (hq : qci w q = some 5) (hst : rest.length ≤ 4) (hdp : d + 1 ≤ G.1) (hmc : kc + mc ≤ G.2.1 ∧ ks + ms ≤ G.2.2.1) (k : ∀ r w', Q r w' → AW (mX10_recall, G) 48 L (r.toList ++ rest) w' (kc + mc) (ks + ms)) : AW (mX10_recall, G) 45 L (.ref x3 :: .int x2 :: .int x1 :: .int x0 :: .ref q :: rest) w kc ks := a_callV [.int x0, .int x1, .int x2, .ref x3] rest dX10_recall_45 vX5_addSince lk741 hC hq rfl rfl hst hdp hmc k
theorem kX10_recall_56 {G : Nat × Nat × Nat × Option (Nat × (Nat → Int32)) × (Option Value → qW → Prop)} {L : qL} {w : qW} {kc ks : Nat} {rest : List Value} {q : Nat}  {d mc ms : Nat} {Q : Option Value → qW → Prop} (hC : CT mX10_manyCalledBack d mc ms [.ref q] w Q) (hq : qci w q = some 10) (hst : rest.length ≤ 4) (hdp : d + 1 ≤ G.1) (hmc : kc + mc ≤ G.2.1 ∧ ks + ms ≤ G.2.2.1) (k : ∀ r w', Q r w' → AW (mX10_recall, G) 59 L (r.toList ++ rest) w' (kc + mc) (ks + ms)) : AW (mX10_recall, G) 56 L (.ref q :: rest) w kc ks := a_callV [] rest dX10_recall_56 vX10_manyCalledBack lk750 hC hq rfl rfl hst hdp hmc k
theorem dX10_stands_0 : decode cX10_stands 0 = .ok (.aload_n 0, 1) := by decide +kernel
theorem dX10_stands_1 : decode cX10_stands 1 = .ok (.getfield 59, 3) := by decide +kernel
theorem dX10_stands_4 : decode cX10_stands 4 = .ok (.aload_n 0, 1) := by decide +kernel
theorem dX10_stands_5 : decode cX10_stands 5 = .ok (.getfield 18, 3) := by decide +kernel
theorem dX10_stands_8 : decode cX10_stands 8 = .ok (.iload_n 1, 1) := by decide +kernel
theorem dX10_stands_9 : decode cX10_stands 9 = .ok (.iconst 1, 1) := by decide +kernel
theorem dX10_stands_10 : decode cX10_stands 10 = .ok (.invokevirtual 197, 3) := by decide +kernel
theorem dX10_stands_13 : decode cX10_stands 13 = .ok (.invokevirtual 299, 3) := by decide +kernel
theorem dX10_stands_16 : decode cX10_stands 16 = .ok (.istore_n 2, 1) := by decide +kernel
theorem dX10_stands_17 : decode cX10_stands 17 = .ok (.iload_n 2, 1) := by decide +kernel
theorem dX10_stands_18 : decode cX10_stands 18 = .ok (.iconst (-1), 1) := by decide +kernel
theorem dX10_stands_19 : decode cX10_stands 19 = .ok (.if_icmp .eq 20, 3) := by decide +kernel
theorem dX10_stands_22 : decode cX10_stands 22 = .ok (.aload_n 0, 1) := by decide +kernel
theorem dX10_stands_23 : decode cX10_stands 23 = .ok (.getfield 18, 3) := by decide +kernel
theorem dX10_stands_26 : decode cX10_stands 26 = .ok (.iload_n 1, 1) := by decide +kernel
theorem dX10_stands_27 : decode cX10_stands 27 = .ok (.iconst 2, 1) := by decide +kernel
theorem dX10_stands_28 : decode cX10_stands 28 = .ok (.invokevirtual 197, 3) := by decide +kernel
theorem dX10_stands_31 : decode cX10_stands 31 = .ok (.iload_n 2, 1) := by decide +kernel
theorem dX10_stands_32 : decode cX10_stands 32 = .ok (.if_icmp .lt 7, 3) := by decide +kernel
theorem dX10_stands_35 : decode cX10_stands 35 = .ok (.iconst 1, 1) := by decide +kernel
theorem dX10_stands_36 : decode cX10_stands 36 = .ok (.goto 4, 3) := by decide +kernel
theorem dX10_stands_39 : decode cX10_stands 39 = .ok (.iconst 0, 1) := by decide +kernel
theorem dX10_stands_40 : decode cX10_stands 40 = .ok (.istore_n 3, 1) := by decide +kernel
theorem dX10_stands_41 : decode cX10_stands 41 = .ok (.iload_n 3, 1) := by decide +kernel
theorem dX10_stands_42 : decode cX10_stands 42 = .ok (.ifCond .ne 23, 3) := by decide +kernel
theorem dX10_stands_45 : decode cX10_stands 45 = .ok (.aload_n 0, 1) := by decide +kernel
theorem dX10_stands_46 : decode cX10_stands 46 = .ok (.aload_n 0, 1) := by decide +kernel
theorem dX10_stands_47 : decode cX10_stands 47 = .ok (.getfield 18, 3) := by decide +kernel
theorem dX10_stands_50 : decode cX10_stands 50 = .ok (.iload_n 1, 1) := by decide +kernel
theorem dX10_stands_51 : decode cX10_stands 51 = .ok (.iconst 0, 1) := by decide +kernel
theorem dX10_stands_52 : decode cX10_stands 52 = .ok (.invokevirtual 197, 3) := by decide +kernel
theorem dX10_stands_55 : decode cX10_stands 55 = .ok (.invokevirtual 213, 3) := by decide +kernel
theorem dX10_stands_58 : decode cX10_stands 58 = .ok (.ifCond .ne 7, 3) := by decide +kernel
theorem dX10_stands_61 : decode cX10_stands 61 = .ok (.iconst 1, 1) := by decide +kernel
theorem dX10_stands_62 : decode cX10_stands 62 = .ok (.goto 4, 3) := by decide +kernel
theorem dX10_stands_65 : decode cX10_stands 65 = .ok (.iconst 0, 1) := by decide +kernel
theorem dX10_stands_66 : decode cX10_stands 66 = .ok (.ireturn, 1) := by decide +kernel
/-! SealLine.stands(I)Z -/
theorem eX10_stands {d mc ms : Nat} {w : qW} {Q : Option Value → qW → Prop} {q : Nat} {x0 : Int32} (h : AW (mX10_stands, d, mc, ms, none, Q) 0 [some (.ref q), some (.int x0), none, none] [] w 0 0) : CT mX10_stands d mc ms [.ref q, .int x0] w Q := CT_of (by decide +kernel) rfl (Nat.le_of_ble_eq_true rfl) h
def bX10_stands_0 (G : Nat × Nat × Nat × Option (Nat × (Nat → Int32)) × (Option Value → qW → Prop)) : qK := (s_aload 0 (s_getfield 10 7 (s_aload 0 (s_getfield 10 1 (s_iload 1 (s_iconst 1 (AW (mX10_stands, G) 10)))))))
theorem oX10_stands_0 (G : Nat × Nat × Nat × Option (Nat × (Nat → Int32)) × (Option Value → qW → Prop)) : qImp (bX10_stands_0 G) (AW (mX10_stands, G) 0) := (r_aload_n dX10_stands_0 rfl (r_getfield dX10_stands_1 fgX10_59 (r_aload_n dX10_stands_4 rfl (r_getfield dX10_stands_5 fgX10_18 (r_iload_n dX10_stands_8 rfl (r_iconst dX10_stands_9 rfl qImp.rf))))))
def bX10_stands_16 (G : Nat × Nat × Nat × Option (Nat × (Nat → Int32)) × (Option Value → qW → Prop)) : qK := (s_istore 2 1 (s_iload 2 (s_iconst (-1) (s_ic_eq (AW (mX10_stands, G) 39) (s_aload 0 (s_getfield 10 1 (s_iload 1 (s_iconst 2 (AW (mX10_stands, G) 28)))))))))
theorem oX10_stands_16 (G : Nat × Nat × Nat × Option (Nat × (Nat → Int32)) × (Option Value → qW → Prop)) : qImp (bX10_stands_16 G) (AW (mX10_stands, G) 16) := (r_istore_n dX10_stands_16 rfl (Or.inr rfl) (Nat.le_of_ble_eq_true rfl) (r_iload_n dX10_stands_17 rfl (r_iconst dX10_stands_18 rfl (r_ic_eq (tgt := 39) dX10_stands_19 rfl qImp.rf (r_aload_n dX10_stands_22 rfl (r_getfield dX10_stands_23 fgX10_18 (r_iload_n dX10_stands_26 rfl (r_iconst dX10_stands_27 rfl qImp.rf))))))))
def bX10_stands_31 (G : Nat × Nat × Nat × Option (Nat × (Nat → Int32)) × (Option Value → qW → Prop)) : qK := (s_iload 2 (s_ic_lt (AW (mX10_stands, G) 39) (s_iconst 1 (AW (mX10_stands, G) 40))))
theorem oX10_stands_31 (G : Nat × Nat × Nat × Option (Nat × (Nat → Int32)) × (Option Value → qW → Prop)) : qImp (bX10_stands_31 G) (AW (mX10_stands, G) 31) := (r_iload_n dX10_stands_31 rfl (r_ic_lt (tgt := 39) dX10_stands_32 rfl qImp.rf (r_iconst dX10_stands_35 rfl (r_goto (tgt := 40) dX10_stands_36 rfl qImp.rf))))
def bX10_stands_39 (G : Nat × Nat × Nat × Option (Nat × (Nat → Int32)) × (Option Value → qW → Prop)) : qK := (s_iconst 0 (AW (mX10_stands, G) 40))
theorem oX10_stands_39 (G : Nat × Nat × Nat × Option (Nat × (Nat → Int32)) × (Option Value → qW → Prop)) : qImp (bX10_stands_39 G) (AW (mX10_stands, G) 39) := (r_iconst dX10_stands_39 rfl qImp.rf)
def bX10_stands_40 (G : Nat × Nat × Nat × Option (Nat × (Nat → Int32)) × (Option Value → qW → Prop)) : qK := (s_istore 3 2 (s_iload 3 (s_if_ne (AW (mX10_stands, G) 65) (s_aload 0 (s_aload 0 (s_getfield 10 1 (s_iload 1 (s_iconst 0 (AW (mX10_stands, G) 52)))))))))
theorem oX10_stands_40 (G : Nat × Nat × Nat × Option (Nat × (Nat → Int32)) × (Option Value → qW → Prop)) : qImp (bX10_stands_40 G) (AW (mX10_stands, G) 40) := (r_istore_n dX10_stands_40 rfl (Or.inr rfl) (Nat.le_of_ble_eq_true rfl) (r_iload_n dX10_stands_41 rfl (r_if_ne (tgt := 65) dX10_stands_42 rfl qImp.rf (r_aload_n dX10_stands_45 rfl (r_aload_n dX10_stands_46 rfl (r_getfield dX10_stands_47 fgX10_18 (r_iload_n dX10_stands_50 rfl (r_iconst dX10_stands_51 rfl qImp.rf))))))))
def bX10_stands_58 (G : Nat × Nat × Nat × Option (Nat × (Nat → Int32)) × (Option Value → qW → Prop)) : qK := (s_if_ne (AW (mX10_stands, G) 65) (s_iconst 1 (AW (mX10_stands, G) 66)))
theorem oX10_stands_58 (G : Nat × Nat × Nat × Option (Nat × (Nat → Int32)) × (Option Value → qW → Prop)) : qImp (bX10_stands_58 G) (AW (mX10_stands, G) 58) := (r_if_ne (tgt := 65) dX10_stands_58 rfl qImp.rf (r_iconst dX10_stands_61 rfl (r_goto (tgt := 66) dX10_stands_62 rfl qImp.rf)))
def bX10_stands_65 (G : Nat × Nat × Nat × Option (Nat × (Nat → Int32)) × (Option Value → qW → Prop)) : qK := (s_iconst 0 (AW (mX10_stands, G) 66))
theorem oX10_stands_65 (G : Nat × Nat × Nat × Option (Nat × (Nat → Int32)) × (Option Value → qW → Prop)) : qImp (bX10_stands_65 G) (AW (mX10_stands, G) 65) := (r_iconst dX10_stands_65 rfl qImp.rf)
def bX10_stands_66 (G : Nat × Nat × Nat × Option (Nat × (Nat → Int32)) × (Option Value → qW → Prop)) : qK := (s_zreturn (mX10_stands, G))
theorem oX10_stands_66 (G : Nat × Nat × Nat × Option (Nat × (Nat → Int32)) × (Option Value → qW → Prop)) : qImp (bX10_stands_66 G) (AW (mX10_stands, G) 66) := (r_zreturn dX10_stands_66 rfl)
theorem kX10_stands_10 {G : Nat × Nat × Nat × Option (Nat × (Nat → Int32)) × (Option Value → qW → Prop)} {L : qL} {w : qW} {kc ks : Nat} {rest : List Value} {q : Nat} {x0 : Int32} {x1 : Int32} {d mc ms : Nat} {Q : Option Value → qW → Prop} (hC : CT mX8_cell d mc ms [.ref q, .int x0, .int x1] w Q) (hq : qci w q = some 8) (hst : rest.length ≤ 4) (hdp : d + 1 ≤ G.1) (hmc : kc + mc ≤ G.2.1 ∧ ks + ms ≤ G.2.2.1) (k : ∀ r w', Q r w' → AW (mX10_stands, G) 13 L (r.toList ++ rest) w' (kc + mc) (ks + ms)) : AW (mX10_stands, G) 10 L (.int x1 :: .int x0 :: .ref q :: rest) w kc ks := a_callV [.int x0, .int x1] rest dX10_stands_10 vX8_cell lk732 hC hq rfl rfl hst hdp hmc k
theorem kX10_stands_13 {G : Nat × Nat × Nat × Option (Nat × (Nat → Int32)) × (Option Value → qW → Prop)} {L : qL} {w : qW} {kc ks : Nat} {rest : List Value} {q : Nat} {x0 : Int32} {d mc ms : Nat} {Q : Option Value → qW → Prop} (hC : CT mX2_lostSince d mc ms [.ref q, .int x0] w Q) (hq : qci w q = some 2) (hst : rest.length ≤ 4) (hdp : d + 1 ≤ G.1) (hmc : kc + mc ≤ G.2.1 ∧ ks + ms ≤ G.2.2.1) (k : ∀ r w', Q r w' → AW (mX10_stands, G) 16 L (r.toList ++ rest) w' (kc + mc) (ks + ms)) : AW (mX10_stands, G) 13 L (.int x0 :: .ref q :: rest) w kc ks := a_callV [.int x0] rest dX10_stands_13 vX2_lostSince lk785 hC hq rfl rfl hst hdp hmc k
theorem kX10_stands_28 {G : Nat × Nat × Nat × Option (Nat × (Nat → Int32)) × (Option Value → qW → Prop)} {L : qL} {w : qW} {kc ks : Nat} {rest : List Value} {q : Nat} {x0 : Int32} {x1 : Int32} {d mc ms : Nat} {Q : Option Value → qW → Prop} (hC : CT mX8_cell d mc ms [.ref q, .int x0, .int x1] w Q) (hq : qci w q = some 8) (hst : rest.length ≤ 4) (hdp : d + 1 ≤ G.1) (hmc : kc + mc ≤ G.2.1 ∧ ks + ms ≤ G.2.2.1) (k : ∀ r w', Q r w' → AW (mX10_stands, G) 31 L (r.toList ++ rest) w' (kc + mc) (ks + ms)) : AW (mX10_stands, G) 28 L (.int x1 :: .int x0 :: .ref q :: rest) w kc ks := a_callV [.int x0, .int x1] rest dX10_stands_28 vX8_cell lk732 hC hq rfl rfl hst hdp hmc k
theorem kX10_stands_52 {G : Nat × Nat × Nat × Option (Nat × (Nat → Int32)) × (Option Value → qW → Prop)} {L : qL} {w : qW} {kc ks : Nat} {rest : List Value} {q : Nat} {x0 : Int32} {x1 : Int32} {d mc ms : Nat} {Q : Option Value → qW → Prop} (hC : CT mX8_cell d mc ms [.ref q, .int x0, .int x1] w Q) (hq : qci w q = some 8) (hst : rest.length ≤ 4) (hdp : d + 1 ≤ G.1) (hmc : kc + mc ≤ G.2.1 ∧ ks + ms ≤ G.2.2.1) (k : ∀ r w', Q r w' → AW (mX10_stands, G) 55 L (r.toList ++ rest) w' (kc + mc) (ks + ms)) : AW (mX10_stands, G) 52 L (.int x1 :: .int x0 :: .ref q :: rest) w kc ks := a_callV [.int x0, .int x1] rest dX10_stands_52 vX8_cell lk732 hC hq rfl rfl hst hdp hmc k
theorem kX10_stands_55 {G : Nat × Nat × Nat × Option (Nat × (Nat → Int32)) × (Option Value → qW → Prop)} {L : qL} {w : qW} {kc ks : Nat} {rest : List Value} {q : Nat} {x0 : Int32} {d mc ms : Nat} {Q : Option Value → qW → Prop} (hC : CT mX10_isCalledBack d mc ms [.ref q, .int x0] w Q) (hq : qci w q = some 10) (hst : rest.length ≤ 4) (hdp : d + 1 ≤ G.1) (hmc : kc + mc ≤ G.2.1 ∧ ks + ms ≤ G.2.2.1) (k : ∀ r w', Q r w' → AW (mX10_stands, G) 58 L (r.toList ++ rest) w' (kc + mc) (ks + ms)) : AW (mX10_stands, G) 55 L (.int x0 :: .ref q :: rest) w kc ks := a_callV [.int x0] rest dX10_stands_55 vX10_isCalledBack lk681 hC hq rfl rfl hst hdp hmc k
theorem dX10_manyStanding_0 : decode cX10_manyStanding 0 = .ok (.iconst 0, 1) := by decide +kernel
theorem dX10_manyStanding_1 : decode cX10_manyStanding 1 = .ok (.istore_n 2, 1) := by decide +kernel
theorem dX10_manyStanding_2 : decode cX10_manyStanding 2 = .ok (.iconst 0, 1) := by decide +kernel
theorem dX10_manyStanding_3 : decode cX10_manyStanding 3 = .ok (.istore_n 3, 1) := by decide +kernel
theorem dX10_manyStanding_4 : decode cX10_manyStanding 4 = .ok (.iload_n 3, 1) := by decide +kernel
theorem dX10_manyStanding_5 : decode cX10_manyStanding 5 = .ok (.aload_n 0, 1) := by decide +kernel
theorem dX10_manyStanding_6 : decode cX10_manyStanding 6 = .ok (.getfield 18, 3) := by decide +kernel
theorem dX10_manyStanding_9 : decode cX10_manyStanding 9 = .ok (.invokevirtual 190, 3) := by decide +kernel
theorem dX10_manyStanding_12 : decode cX10_manyStanding 12 = .ok (.if_icmp .ge 38, 3) := by decide +kernel
theorem dX10_manyStanding_15 : decode cX10_manyStanding 15 = .ok (.iload_n 1, 1) := by decide +kernel
theorem dX10_manyStanding_16 : decode cX10_manyStanding 16 = .ok (.iconst (-1), 1) := by decide +kernel
theorem dX10_manyStanding_17 : decode cX10_manyStanding 17 = .ok (.if_icmp .eq 16, 3) := by decide +kernel
theorem dX10_manyStanding_20 : decode cX10_manyStanding 20 = .ok (.aload_n 0, 1) := by decide +kernel
theorem dX10_manyStanding_21 : decode cX10_manyStanding 21 = .ok (.getfield 18, 3) := by decide +kernel
theorem dX10_manyStanding_24 : decode cX10_manyStanding 24 = .ok (.iload_n 3, 1) := by decide +kernel
theorem dX10_manyStanding_25 : decode cX10_manyStanding 25 = .ok (.iconst 0, 1) := by decide +kernel
theorem dX10_manyStanding_26 : decode cX10_manyStanding 26 = .ok (.invokevirtual 197, 3) := by decide +kernel
theorem dX10_manyStanding_29 : decode cX10_manyStanding 29 = .ok (.iload_n 1, 1) := by decide +kernel
theorem dX10_manyStanding_30 : decode cX10_manyStanding 30 = .ok (.if_icmp .ne 14, 3) := by decide +kernel
theorem dX10_manyStanding_33 : decode cX10_manyStanding 33 = .ok (.aload_n 0, 1) := by decide +kernel
theorem dX10_manyStanding_34 : decode cX10_manyStanding 34 = .ok (.iload_n 3, 1) := by decide +kernel
theorem dX10_manyStanding_35 : decode cX10_manyStanding 35 = .ok (.invokevirtual 241, 3) := by decide +kernel
theorem dX10_manyStanding_38 : decode cX10_manyStanding 38 = .ok (.ifCond .eq 6, 3) := by decide +kernel
theorem dX10_manyStanding_41 : decode cX10_manyStanding 41 = .ok (.iinc 2 1, 3) := by decide +kernel
theorem dX10_manyStanding_44 : decode cX10_manyStanding 44 = .ok (.iinc 3 1, 3) := by decide +kernel
theorem dX10_manyStanding_47 : decode cX10_manyStanding 47 = .ok (.goto (-43), 3) := by decide +kernel
theorem dX10_manyStanding_50 : decode cX10_manyStanding 50 = .ok (.iload_n 2, 1) := by decide +kernel
theorem dX10_manyStanding_51 : decode cX10_manyStanding 51 = .ok (.ireturn, 1) := by decide +kernel
/-! SealLine.manyStanding(I)I -/
theorem eX10_manyStanding {d mc ms : Nat} {w : qW} {Q : Option Value → qW → Prop} {q : Nat} {x0 : Int32} (h : AW (mX10_manyStanding, d, mc, ms, none, Q) 0 [some (.ref q), some (.int x0), none, none] [] w 0 0) : CT mX10_manyStanding d mc ms [.ref q, .int x0] w Q := CT_of (by decide +kernel) rfl (Nat.le_of_ble_eq_true rfl) h
def bX10_manyStanding_0 (G : Nat × Nat × Nat × Option (Nat × (Nat → Int32)) × (Option Value → qW → Prop)) : qK := (s_iconst 0 (s_istore 2 1 (s_iconst 0 (s_istore 3 2 (AW (mX10_manyStanding, G) 4)))))
theorem oX10_manyStanding_0 (G : Nat × Nat × Nat × Option (Nat × (Nat → Int32)) × (Option Value → qW → Prop)) : qImp (bX10_manyStanding_0 G) (AW (mX10_manyStanding, G) 0) := (r_iconst dX10_manyStanding_0 rfl (r_istore_n dX10_manyStanding_1 rfl (Or.inr rfl) (Nat.le_of_ble_eq_true rfl) (r_iconst dX10_manyStanding_2 rfl (r_istore_n dX10_manyStanding_3 rfl (Or.inr rfl) (Nat.le_of_ble_eq_true rfl) qImp.rf))))
def bX10_manyStanding_4 (G : Nat × Nat × Nat × Option (Nat × (Nat → Int32)) × (Option Value → qW → Prop)) : qK := (s_iload 3 (s_aload 0 (s_getfield 10 1 (AW (mX10_manyStanding, G) 9))))
theorem oX10_manyStanding_4 (G : Nat × Nat × Nat × Option (Nat × (Nat → Int32)) × (Option Value → qW → Prop)) : qImp (bX10_manyStanding_4 G) (AW (mX10_manyStanding, G) 4) := (r_iload_n dX10_manyStanding_4 rfl (r_aload_n dX10_manyStanding_5 rfl (r_getfield dX10_manyStanding_6 fgX10_18 qImp.rf)))
def bX10_manyStanding_12 (G : Nat × Nat × Nat × Option (Nat × (Nat → Int32)) × (Option Value → qW → Prop)) : qK := (s_ic_ge (AW (mX10_manyStanding, G) 50) (s_iload 1 (s_iconst (-1) (s_ic_eq (AW (mX10_manyStanding, G) 33) (s_aload 0 (s_getfield 10 1 (s_iload 3 (s_iconst 0 (AW (mX10_manyStanding, G) 26)))))))))
theorem oX10_manyStanding_12 (G : Nat × Nat × Nat × Option (Nat × (Nat → Int32)) × (Option Value → qW → Prop)) : qImp (bX10_manyStanding_12 G) (AW (mX10_manyStanding, G) 12) := (r_ic_ge (tgt := 50) dX10_manyStanding_12 rfl qImp.rf (r_iload_n dX10_manyStanding_15 rfl (r_iconst dX10_manyStanding_16 rfl (r_ic_eq (tgt := 33) dX10_manyStanding_17 rfl qImp.rf (r_aload_n dX10_manyStanding_20 rfl (r_getfield dX10_manyStanding_21 fgX10_18 (r_iload_n dX10_manyStanding_24 rfl (r_iconst dX10_manyStanding_25 rfl qImp.rf))))))))
def bX10_manyStanding_29 (G : Nat × Nat × Nat × Option (Nat × (Nat → Int32)) × (Option Value → qW → Prop)) : qK := (s_iload 1 (s_ic_ne (AW (mX10_manyStanding, G) 44) (AW (mX10_manyStanding, G) 33)))
theorem oX10_manyStanding_29 (G : Nat × Nat × Nat × Option (Nat × (Nat → Int32)) × (Option Value → qW → Prop)) : qImp (bX10_manyStanding_29 G) (AW (mX10_manyStanding, G) 29) := (r_iload_n dX10_manyStanding_29 rfl (r_ic_ne (tgt := 44) dX10_manyStanding_30 rfl qImp.rf qImp.rf))
def bX10_manyStanding_33 (G : Nat × Nat × Nat × Option (Nat × (Nat → Int32)) × (Option Value → qW → Prop)) : qK := (s_aload 0 (s_iload 3 (AW (mX10_manyStanding, G) 35)))
theorem oX10_manyStanding_33 (G : Nat × Nat × Nat × Option (Nat × (Nat → Int32)) × (Option Value → qW → Prop)) : qImp (bX10_manyStanding_33 G) (AW (mX10_manyStanding, G) 33) := (r_aload_n dX10_manyStanding_33 rfl (r_iload_n dX10_manyStanding_34 rfl qImp.rf))
def bX10_manyStanding_38 (G : Nat × Nat × Nat × Option (Nat × (Nat → Int32)) × (Option Value → qW → Prop)) : qK := (s_if_eq (AW (mX10_manyStanding, G) 44) (s_iinc 2 1 1 (AW (mX10_manyStanding, G) 44)))
theorem oX10_manyStanding_38 (G : Nat × Nat × Nat × Option (Nat × (Nat → Int32)) × (Option Value → qW → Prop)) : qImp (bX10_manyStanding_38 G) (AW (mX10_manyStanding, G) 38) := (r_if_eq (tgt := 44) dX10_manyStanding_38 rfl qImp.rf (r_iinc dX10_manyStanding_41 rfl (Or.inr rfl) (Nat.le_of_ble_eq_true rfl) qImp.rf))
def bX10_manyStanding_44 (G : Nat × Nat × Nat × Option (Nat × (Nat → Int32)) × (Option Value → qW → Prop)) : qK := (s_iinc 3 2 1 (AW (mX10_manyStanding, G) 4))
theorem oX10_manyStanding_44 (G : Nat × Nat × Nat × Option (Nat × (Nat → Int32)) × (Option Value → qW → Prop)) : qImp (bX10_manyStanding_44 G) (AW (mX10_manyStanding, G) 44) := (r_iinc dX10_manyStanding_44 rfl (Or.inr rfl) (Nat.le_of_ble_eq_true rfl) (r_goto (tgt := 4) dX10_manyStanding_47 rfl qImp.rf))
def bX10_manyStanding_50 (G : Nat × Nat × Nat × Option (Nat × (Nat → Int32)) × (Option Value → qW → Prop)) : qK := (s_iload 2 (s_ireturn (mX10_manyStanding, G)))
theorem oX10_manyStanding_50 (G : Nat × Nat × Nat × Option (Nat × (Nat → Int32)) × (Option Value → qW → Prop)) : qImp (bX10_manyStanding_50 G) (AW (mX10_manyStanding, G) 50) := (r_iload_n dX10_manyStanding_50 rfl (r_ireturn dX10_manyStanding_51 rfl))
theorem kX10_manyStanding_9 {G : Nat × Nat × Nat × Option (Nat × (Nat → Int32)) × (Option Value → qW → Prop)} {L : qL} {w : qW} {kc ks : Nat} {rest : List Value} {q : Nat}  {d mc ms : Nat} {Q : Option Value → qW → Prop} (hC : CT mX8_size d mc ms [.ref q] w Q) (hq : qci w q = some 8) (hst : rest.length ≤ 4) (hdp : d + 1 ≤ G.1) (hmc : kc + mc ≤ G.2.1 ∧ ks + ms ≤ G.2.2.1) (k : ∀ r w', Q r w' → AW (mX10_manyStanding, G) 12 L (r.toList ++ rest) w' (kc + mc) (ks + ms)) : AW (mX10_manyStanding, G) 9 L (.ref q :: rest) w kc ks := a_callV [] rest dX10_manyStanding_9 vX8_size lk727 hC hq rfl rfl hst hdp hmc k
theorem kX10_manyStanding_26 {G : Nat × Nat × Nat × Option (Nat × (Nat → Int32)) × (Option Value → qW → Prop)} {L : qL} {w : qW} {kc ks : Nat} {rest : List Value} {q : Nat} {x0 : Int32} {x1 : Int32} {d mc ms : Nat} {Q : Option Value → qW → Prop} (hC : CT mX8_cell d mc ms [.ref q, .int x0, .int x1] w Q) (hq : qci w q = some 8) (hst : rest.length ≤ 4) (hdp : d + 1 ≤ G.1) (hmc : kc + mc ≤ G.2.1 ∧ ks + ms ≤ G.2.2.1) (k : ∀ r w', Q r w' → AW (mX10_manyStanding, G) 29 L (r.toList ++ rest) w' (kc + mc) (ks + ms)) : AW (mX10_manyStanding, G) 26 L (.int x1 :: .int x0 :: .ref q :: rest) w kc ks := a_callV [.int x0, .int x1] rest dX10_manyStanding_26 vX8_cell lk732 hC hq rfl rfl hst hdp hmc k
theorem kX10_manyStanding_35 {G : Nat × Nat × Nat × Option (Nat × (Nat → Int32)) × (Option Value → qW → Prop)} {L : qL} {w : qW} {kc ks : Nat} {rest : List Value} {q : Nat} {x0 : Int32} {d mc ms : Nat} {Q : Option Value → qW → Prop} (hC : CT mX10_stands d mc ms [.ref q, .int x0] w Q) (hq : qci w q = some 10) (hst : rest.length ≤ 4) (hdp : d + 1 ≤ G.1) (hmc : kc + mc ≤ G.2.1 ∧ ks + ms ≤ G.2.2.1) (k : ∀ r w', Q r w' → AW (mX10_manyStanding, G) 38 L (r.toList ++ rest) w' (kc + mc) (ks + ms)) : AW (mX10_manyStanding, G) 35 L (.int x0 :: .ref q :: rest) w kc ks := a_callV [.int x0] rest dX10_manyStanding_35 vX10_stands lk781 hC hq rfl rfl hst hdp hmc k
theorem dX10_file_0 : decode cX10_file 0 = .ok (.aload_n 0, 1) := by decide +kernel
theorem dX10_file_1 : decode cX10_file 1 = .ok (.getfield 24, 3) := by decide +kernel
theorem dX10_file_4 : decode cX10_file 4 = .ok (.iload_n 1, 1) := by decide +kernel
theorem dX10_file_5 : decode cX10_file 5 = .ok (.invokevirtual 167, 3) := by decide +kernel
theorem dX10_file_8 : decode cX10_file 8 = .ok (.ifCond .ne 5, 3) := by decide +kernel
theorem dX10_file_11 : decode cX10_file 11 = .ok (.iconst (-1), 1) := by decide +kernel
theorem dX10_file_12 : decode cX10_file 12 = .ok (.ireturn, 1) := by decide +kernel
theorem dX10_file_13 : decode cX10_file 13 = .ok (.iload_n 2, 1) := by decide +kernel
theorem dX10_file_14 : decode cX10_file 14 = .ok (.tableswitch 131 0 8 #[50, 62, 71, 80, 89, 98, 107, 116, 125], 50) := by decide +kernel
theorem dX10_file_64 : decode cX10_file 64 = .ok (.aload_n 0, 1) := by decide +kernel
theorem dX10_file_65 : decode cX10_file 65 = .ok (.getfield 24, 3) := by decide +kernel
theorem dX10_file_68 : decode cX10_file 68 = .ok (.iload_n 1, 1) := by decide +kernel
theorem dX10_file_69 : decode cX10_file 69 = .ok (.invokevirtual 210, 3) := by decide +kernel
theorem dX10_file_72 : decode cX10_file 72 = .ok (.invokestatic 128, 3) := by decide +kernel
theorem dX10_file_75 : decode cX10_file 75 = .ok (.ireturn, 1) := by decide +kernel
theorem dX10_file_76 : decode cX10_file 76 = .ok (.aload_n 0, 1) := by decide +kernel
theorem dX10_file_77 : decode cX10_file 77 = .ok (.iload_n 1, 1) := by decide +kernel
theorem dX10_file_78 : decode cX10_file 78 = .ok (.invokevirtual 213, 3) := by decide +kernel
theorem dX10_file_81 : decode cX10_file 81 = .ok (.invokestatic 128, 3) := by decide +kernel
theorem dX10_file_84 : decode cX10_file 84 = .ok (.ireturn, 1) := by decide +kernel
theorem dX10_file_85 : decode cX10_file 85 = .ok (.aload_n 0, 1) := by decide +kernel
theorem dX10_file_86 : decode cX10_file 86 = .ok (.getfield 24, 3) := by decide +kernel
theorem dX10_file_89 : decode cX10_file 89 = .ok (.iload_n 1, 1) := by decide +kernel
theorem dX10_file_90 : decode cX10_file 90 = .ok (.invokevirtual 216, 3) := by decide +kernel
theorem dX10_file_93 : decode cX10_file 93 = .ok (.ireturn, 1) := by decide +kernel
theorem dX10_file_94 : decode cX10_file 94 = .ok (.aload_n 0, 1) := by decide +kernel
theorem dX10_file_95 : decode cX10_file 95 = .ok (.getfield 24, 3) := by decide +kernel
theorem dX10_file_98 : decode cX10_file 98 = .ok (.iload_n 1, 1) := by decide +kernel
theorem dX10_file_99 : decode cX10_file 99 = .ok (.invokevirtual 219, 3) := by decide +kernel
theorem dX10_file_102 : decode cX10_file 102 = .ok (.ireturn, 1) := by decide +kernel
theorem dX10_file_103 : decode cX10_file 103 = .ok (.aload_n 0, 1) := by decide +kernel
theorem dX10_file_104 : decode cX10_file 104 = .ok (.getfield 24, 3) := by decide +kernel
theorem dX10_file_107 : decode cX10_file 107 = .ok (.iload_n 1, 1) := by decide +kernel
theorem dX10_file_108 : decode cX10_file 108 = .ok (.invokevirtual 222, 3) := by decide +kernel
theorem dX10_file_111 : decode cX10_file 111 = .ok (.ireturn, 1) := by decide +kernel
theorem dX10_file_112 : decode cX10_file 112 = .ok (.aload_n 0, 1) := by decide +kernel
theorem dX10_file_113 : decode cX10_file 113 = .ok (.getfield 24, 3) := by decide +kernel
theorem dX10_file_116 : decode cX10_file 116 = .ok (.iload_n 1, 1) := by decide +kernel
theorem dX10_file_117 : decode cX10_file 117 = .ok (.invokevirtual 225, 3) := by decide +kernel
theorem dX10_file_120 : decode cX10_file 120 = .ok (.ireturn, 1) := by decide +kernel
theorem dX10_file_121 : decode cX10_file 121 = .ok (.aload_n 0, 1) := by decide +kernel
theorem dX10_file_122 : decode cX10_file 122 = .ok (.getfield 24, 3) := by decide +kernel
theorem dX10_file_125 : decode cX10_file 125 = .ok (.iload_n 1, 1) := by decide +kernel
theorem dX10_file_126 : decode cX10_file 126 = .ok (.invokevirtual 228, 3) := by decide +kernel
theorem dX10_file_129 : decode cX10_file 129 = .ok (.ireturn, 1) := by decide +kernel
theorem dX10_file_130 : decode cX10_file 130 = .ok (.aload_n 0, 1) := by decide +kernel
theorem dX10_file_131 : decode cX10_file 131 = .ok (.getfield 52, 3) := by decide +kernel
theorem dX10_file_134 : decode cX10_file 134 = .ok (.iload_n 1, 1) := by decide +kernel
theorem dX10_file_135 : decode cX10_file 135 = .ok (.invokevirtual 231, 3) := by decide +kernel
theorem dX10_file_138 : decode cX10_file 138 = .ok (.ireturn, 1) := by decide +kernel
theorem dX10_file_139 : decode cX10_file 139 = .ok (.aload_n 0, 1) := by decide +kernel
theorem dX10_file_140 : decode cX10_file 140 = .ok (.iload_n 1, 1) := by decide +kernel
theorem dX10_file_141 : decode cX10_file 141 = .ok (.invokevirtual 234, 3) := by decide +kernel
theorem dX10_file_144 : decode cX10_file 144 = .ok (.ireturn, 1) := by decide +kernel
theorem dX10_file_145 : decode cX10_file 145 = .ok (.iconst (-1), 1) := by decide +kernel
theorem dX10_file_146 : decode cX10_file 146 = .ok (.ireturn, 1) := by decide +kernel
/-! SealLine.file(II)I -/
theorem eX10_file {d mc ms : Nat} {w : qW} {Q : Option Value → qW → Prop} {q : Nat} {x0 : Int32} {x1 : Int32} (h : AW (mX10_file, d, mc, ms, none, Q) 0 [some (.ref q), some (.int x0), some (.int x1)] [] w 0 0) : CT mX10_file d mc ms [.ref q, .int x0, .int x1] w Q := CT_of (by decide +kernel) rfl (Nat.le_of_ble_eq_true rfl) h
def bX10_file_0 (G : Nat × Nat × Nat × Option (Nat × (Nat → Int32)) × (Option Value → qW → Prop)) : qK := (s_aload 0 (s_getfield 10 2 (s_iload 1 (AW (mX10_file, G) 5))))
theorem oX10_file_0 (G : Nat × Nat × Nat × Option (Nat × (Nat → Int32)) × (Option Value → qW → Prop)) : qImp (bX10_file_0 G) (AW (mX10_file, G) 0) := (r_aload_n dX10_file_0 rfl (r_getfield dX10_file_1 fgX10_24 (r_iload_n dX10_file_4 rfl qImp.rf)))
def bX10_file_8 (G : Nat × Nat × Nat × Option (Nat × (Nat → Int32)) × (Option Value → qW → Prop)) : qK := (s_if_ne (AW (mX10_file, G) 13) (s_iconst (-1) (s_ireturn (mX10_file, G))))
theorem oX10_file_8 (G : Nat × Nat × Nat × Option (Nat × (Nat → Int32)) × (Option Value → qW → Prop)) : qImp (bX10_file_8 G) (AW (mX10_file, G) 8) := (r_if_ne (tgt := 13) dX10_file_8 rfl qImp.rf (r_iconst dX10_file_11 rfl (r_ireturn dX10_file_12 rfl)))
def bX10_file_13 (G : Nat × Nat × Nat × Option (Nat × (Nat → Int32)) × (Option Value → qW → Prop)) : qK := (s_iload 2 (AW (mX10_file, G) 14))
theorem oX10_file_13 (G : Nat × Nat × Nat × Option (Nat × (Nat → Int32)) × (Option Value → qW → Prop)) : qImp (bX10_file_13 G) (AW (mX10_file, G) 13) := (r_iload_n dX10_file_13 rfl qImp.rf)
def bX10_file_64 (G : Nat × Nat × Nat × Option (Nat × (Nat → Int32)) × (Option Value → qW → Prop)) : qK := (s_aload 0 (s_getfield 10 2 (s_iload 1 (AW (mX10_file, G) 69))))
theorem oX10_file_64 (G : Nat × Nat × Nat × Option (Nat × (Nat → Int32)) × (Option Value → qW → Prop)) : qImp (bX10_file_64 G) (AW (mX10_file, G) 64) := (r_aload_n dX10_file_64 rfl (r_getfield dX10_file_65 fgX10_24 (r_iload_n dX10_file_68 rfl qImp.rf)))
def bX10_file_75 (G : Nat × Nat × Nat × Option (Nat × (Nat → Int32)) × (Option Value → qW → Prop)) : qK := (s_ireturn (mX10_file, G))
theorem oX10_file_75 (G : Nat × Nat × Nat × Option (Nat × (Nat → Int32)) × (Option Value → qW → Prop)) : qImp (bX10_file_75 G) (AW (mX10_file, G) 75) := (r_ireturn dX10_file_75 rfl)
def bX10_file_76 (G : Nat × Nat × Nat × Option (Nat × (Nat → Int32)) × (Option Value → qW → Prop)) : qK := (s_aload 0 (s_iload 1 (AW (mX10_file, G) 78)))
theorem oX10_file_76 (G : Nat × Nat × Nat × Option (Nat × (Nat → Int32)) × (Option Value → qW → Prop)) : qImp (bX10_file_76 G) (AW (mX10_file, G) 76) := (r_aload_n dX10_file_76 rfl (r_iload_n dX10_file_77 rfl qImp.rf))
def bX10_file_84 (G : Nat × Nat × Nat × Option (Nat × (Nat → Int32)) × (Option Value → qW → Prop)) : qK := (s_ireturn (mX10_file, G))
theorem oX10_file_84 (G : Nat × Nat × Nat × Option (Nat × (Nat → Int32)) × (Option Value → qW → Prop)) : qImp (bX10_file_84 G) (AW (mX10_file, G) 84) := (r_ireturn dX10_file_84 rfl)
def bX10_file_85 (G : Nat × Nat × Nat × Option (Nat × (Nat → Int32)) × (Option Value → qW → Prop)) : qK := (s_aload 0 (s_getfield 10 2 (s_iload 1 (AW (mX10_file, G) 90))))
theorem oX10_file_85 (G : Nat × Nat × Nat × Option (Nat × (Nat → Int32)) × (Option Value → qW → Prop)) : qImp (bX10_file_85 G) (AW (mX10_file, G) 85) := (r_aload_n dX10_file_85 rfl (r_getfield dX10_file_86 fgX10_24 (r_iload_n dX10_file_89 rfl qImp.rf)))
def bX10_file_93 (G : Nat × Nat × Nat × Option (Nat × (Nat → Int32)) × (Option Value → qW → Prop)) : qK := (s_ireturn (mX10_file, G))
theorem oX10_file_93 (G : Nat × Nat × Nat × Option (Nat × (Nat → Int32)) × (Option Value → qW → Prop)) : qImp (bX10_file_93 G) (AW (mX10_file, G) 93) := (r_ireturn dX10_file_93 rfl)
def bX10_file_94 (G : Nat × Nat × Nat × Option (Nat × (Nat → Int32)) × (Option Value → qW → Prop)) : qK := (s_aload 0 (s_getfield 10 2 (s_iload 1 (AW (mX10_file, G) 99))))
theorem oX10_file_94 (G : Nat × Nat × Nat × Option (Nat × (Nat → Int32)) × (Option Value → qW → Prop)) : qImp (bX10_file_94 G) (AW (mX10_file, G) 94) := (r_aload_n dX10_file_94 rfl (r_getfield dX10_file_95 fgX10_24 (r_iload_n dX10_file_98 rfl qImp.rf)))
def bX10_file_102 (G : Nat × Nat × Nat × Option (Nat × (Nat → Int32)) × (Option Value → qW → Prop)) : qK := (s_ireturn (mX10_file, G))
theorem oX10_file_102 (G : Nat × Nat × Nat × Option (Nat × (Nat → Int32)) × (Option Value → qW → Prop)) : qImp (bX10_file_102 G) (AW (mX10_file, G) 102) := (r_ireturn dX10_file_102 rfl)
def bX10_file_103 (G : Nat × Nat × Nat × Option (Nat × (Nat → Int32)) × (Option Value → qW → Prop)) : qK := (s_aload 0 (s_getfield 10 2 (s_iload 1 (AW (mX10_file, G) 108))))
theorem oX10_file_103 (G : Nat × Nat × Nat × Option (Nat × (Nat → Int32)) × (Option Value → qW → Prop)) : qImp (bX10_file_103 G) (AW (mX10_file, G) 103) := (r_aload_n dX10_file_103 rfl (r_getfield dX10_file_104 fgX10_24 (r_iload_n dX10_file_107 rfl qImp.rf)))
def bX10_file_111 (G : Nat × Nat × Nat × Option (Nat × (Nat → Int32)) × (Option Value → qW → Prop)) : qK := (s_ireturn (mX10_file, G))
theorem oX10_file_111 (G : Nat × Nat × Nat × Option (Nat × (Nat → Int32)) × (Option Value → qW → Prop)) : qImp (bX10_file_111 G) (AW (mX10_file, G) 111) := (r_ireturn dX10_file_111 rfl)
def bX10_file_112 (G : Nat × Nat × Nat × Option (Nat × (Nat → Int32)) × (Option Value → qW → Prop)) : qK := (s_aload 0 (s_getfield 10 2 (s_iload 1 (AW (mX10_file, G) 117))))
theorem oX10_file_112 (G : Nat × Nat × Nat × Option (Nat × (Nat → Int32)) × (Option Value → qW → Prop)) : qImp (bX10_file_112 G) (AW (mX10_file, G) 112) := (r_aload_n dX10_file_112 rfl (r_getfield dX10_file_113 fgX10_24 (r_iload_n dX10_file_116 rfl qImp.rf)))
def bX10_file_120 (G : Nat × Nat × Nat × Option (Nat × (Nat → Int32)) × (Option Value → qW → Prop)) : qK := (s_ireturn (mX10_file, G))
theorem oX10_file_120 (G : Nat × Nat × Nat × Option (Nat × (Nat → Int32)) × (Option Value → qW → Prop)) : qImp (bX10_file_120 G) (AW (mX10_file, G) 120) := (r_ireturn dX10_file_120 rfl)
def bX10_file_121 (G : Nat × Nat × Nat × Option (Nat × (Nat → Int32)) × (Option Value → qW → Prop)) : qK := (s_aload 0 (s_getfield 10 2 (s_iload 1 (AW (mX10_file, G) 126))))
theorem oX10_file_121 (G : Nat × Nat × Nat × Option (Nat × (Nat → Int32)) × (Option Value → qW → Prop)) : qImp (bX10_file_121 G) (AW (mX10_file, G) 121) := (r_aload_n dX10_file_121 rfl (r_getfield dX10_file_122 fgX10_24 (r_iload_n dX10_file_125 rfl qImp.rf)))
def bX10_file_129 (G : Nat × Nat × Nat × Option (Nat × (Nat → Int32)) × (Option Value → qW → Prop)) : qK := (s_ireturn (mX10_file, G))
theorem oX10_file_129 (G : Nat × Nat × Nat × Option (Nat × (Nat → Int32)) × (Option Value → qW → Prop)) : qImp (bX10_file_129 G) (AW (mX10_file, G) 129) := (r_ireturn dX10_file_129 rfl)
def bX10_file_130 (G : Nat × Nat × Nat × Option (Nat × (Nat → Int32)) × (Option Value → qW → Prop)) : qK := (s_aload 0 (s_getfield 10 6 (s_iload 1 (AW (mX10_file, G) 135))))
theorem oX10_file_130 (G : Nat × Nat × Nat × Option (Nat × (Nat → Int32)) × (Option Value → qW → Prop)) : qImp (bX10_file_130 G) (AW (mX10_file, G) 130) := (r_aload_n dX10_file_130 rfl (r_getfield dX10_file_131 fgX10_52 (r_iload_n dX10_file_134 rfl qImp.rf)))
def bX10_file_138 (G : Nat × Nat × Nat × Option (Nat × (Nat → Int32)) × (Option Value → qW → Prop)) : qK := (s_ireturn (mX10_file, G))
theorem oX10_file_138 (G : Nat × Nat × Nat × Option (Nat × (Nat → Int32)) × (Option Value → qW → Prop)) : qImp (bX10_file_138 G) (AW (mX10_file, G) 138) := (r_ireturn dX10_file_138 rfl)
def bX10_file_139 (G : Nat × Nat × Nat × Option (Nat × (Nat → Int32)) × (Option Value → qW → Prop)) : qK := (s_aload 0 (s_iload 1 (AW (mX10_file, G) 141)))
theorem oX10_file_139 (G : Nat × Nat × Nat × Option (Nat × (Nat → Int32)) × (Option Value → qW → Prop)) : qImp (bX10_file_139 G) (AW (mX10_file, G) 139) := (r_aload_n dX10_file_139 rfl (r_iload_n dX10_file_140 rfl qImp.rf))
def bX10_file_144 (G : Nat × Nat × Nat × Option (Nat × (Nat → Int32)) × (Option Value → qW → Prop)) : qK := (s_ireturn (mX10_file, G))
theorem oX10_file_144 (G : Nat × Nat × Nat × Option (Nat × (Nat → Int32)) × (Option Value → qW → Prop)) : qImp (bX10_file_144 G) (AW (mX10_file, G) 144) := (r_ireturn dX10_file_144 rfl)
def bX10_file_145 (G : Nat × Nat × Nat × Option (Nat × (Nat → Int32)) × (Option Value → qW → Prop)) : qK := (s_iconst (-1) (s_ireturn (mX10_file, G)))
theorem oX10_file_145 (G : Nat × Nat × Nat × Option (Nat × (Nat → Int32)) × (Option Value → qW → Prop)) : qImp (bX10_file_145 G) (AW (mX10_file, G) 145) := (r_iconst dX10_file_145 rfl (r_ireturn dX10_file_146 rfl))
theorem kX10_file_5 {G : Nat × Nat × Nat × Option (Nat × (Nat → Int32)) × (Option Value → qW → Prop)} {L : qL} {w : qW} {kc ks : Nat} {rest : List Value} {q : Nat} {x0 : Int32} {d mc ms : Nat} {Q : Option Value → qW → Prop} (hC : CT mX7_has d mc ms [.ref q, .int x0] w Q) (hq : qci w q = some 7) (hst : rest.length ≤ 4) (hdp : d + 1 ≤ G.1) (hmc : kc + mc ≤ G.2.1 ∧ ks + ms ≤ G.2.2.1) (k : ∀ r w', Q r w' → AW (mX10_file, G) 8 L (r.toList ++ rest) w' (kc + mc) (ks + ms)) : AW (mX10_file, G) 5 L (.int x0 :: .ref q :: rest) w kc ks := a_callV [.int x0] rest dX10_file_5 vX7_has lk443 hC hq rfl rfl hst hdp hmc k
theorem kX10_file_69 {G : Nat × Nat × Nat × Option (Nat × (Nat → Int32)) × (Option Value → qW → Prop)} {L : qL} {w : qW} {kc ks : Nat} {rest : List Value} {q : Nat} {x0 : Int32} {d mc ms : Nat} {Q : Option Value → qW → Prop} (hC : CT mX7_isClean d mc ms [.ref q, .int x0] w Q) (hq : qci w q = some 7) (hst : rest.length ≤ 4) (hdp : d + 1 ≤ G.1) (hmc : kc + mc ≤ G.2.1 ∧ ks + ms ≤ G.2.2.1) (k : ∀ r w', Q r w' → AW (mX10_file, G) 72 L (r.toList ++ rest) w' (kc + mc) (ks + ms)) : AW (mX10_file, G) 69 L (.int x0 :: .ref q :: rest) w kc ks := a_callV [.int x0] rest dX10_file_69 vX7_isClean lk643 hC hq rfl rfl hst hdp hmc k
theorem kX10_file_72 {G : Nat × Nat × Nat × Option (Nat × (Nat → Int32)) × (Option Value → qW → Prop)} {L : qL} {w : qW} {kc ks : Nat} {rest : List Value}  {x0 : Int32} {d mc ms : Nat} {Q : Option Value → qW → Prop} (hC : CT mX10_bit d mc ms [.int x0] w Q) (hst : rest.length ≤ 4) (hdp : d + 1 ≤ G.1) (hmc : kc + mc ≤ G.2.1 ∧ ks + ms ≤ G.2.2.1) (k : ∀ r w', Q r w' → AW (mX10_file, G) 75 L (r.toList ++ rest) w' (kc + mc) (ks + ms)) : AW (mX10_file, G) 72 L (.int x0 :: rest) w kc ks := a_callS [.int x0] rest dX10_file_72 tX10_bit lk467 hC rfl hst hdp hmc k
theorem kX10_file_78 {G : Nat × Nat × Nat × Option (Nat × (Nat → Int32)) × (Option Value → qW → Prop)} {L : qL} {w : qW} {kc ks : Nat} {rest : List Value} {q : Nat} {x0 : Int32} {d mc ms : Nat} {Q : Option Value → qW → Prop} (hC : CT mX10_isCalledBack d mc ms [.ref q, .int x0] w Q) (hq : qci w q = some 10) (hst : rest.length ≤ 4) (hdp : d + 1 ≤ G.1) (hmc : kc + mc ≤ G.2.1 ∧ ks + ms ≤ G.2.2.1) (k : ∀ r w', Q r w' → AW (mX10_file, G) 81 L (r.toList ++ rest) w' (kc + mc) (ks + ms)) : AW (mX10_file, G) 78 L (.int x0 :: .ref q :: rest) w kc ks := a_callV [.int x0] rest dX10_file_78 vX10_isCalledBack lk681 hC hq rfl rfl hst hdp hmc k
theorem kX10_file_81 {G : Nat × Nat × Nat × Option (Nat × (Nat → Int32)) × (Option Value → qW → Prop)} {L : qL} {w : qW} {kc ks : Nat} {rest : List Value}  {x0 : Int32} {d mc ms : Nat} {Q : Option Value → qW → Prop} (hC : CT mX10_bit d mc ms [.int x0] w Q) (hst : rest.length ≤ 4) (hdp : d + 1 ≤ G.1) (hmc : kc + mc ≤ G.2.1 ∧ ks + ms ≤ G.2.2.1) (k : ∀ r w', Q r w' → AW (mX10_file, G) 84 L (r.toList ++ rest) w' (kc + mc) (ks + ms)) : AW (mX10_file, G) 81 L (.int x0 :: rest) w kc ks := a_callS [.int x0] rest dX10_file_81 tX10_bit lk467 hC rfl hst hdp hmc k
theorem kX10_file_90 {G : Nat × Nat × Nat × Option (Nat × (Nat → Int32)) × (Option Value → qW → Prop)} {L : qL} {w : qW} {kc ks : Nat} {rest : List Value} {q : Nat} {x0 : Int32} {d mc ms : Nat} {Q : Option Value → qW → Prop} (hC : CT mX7_goodTries d mc ms [.ref q, .int x0] w Q) (hq : qci w q = some 7) (hst : rest.length ≤ 4) (hdp : d + 1 ≤ G.1) (hmc : kc + mc ≤ G.2.1 ∧ ks + ms ≤ G.2.2.1) (k : ∀ r w', Q r w' → AW (mX10_file, G) 93 L (r.toList ++ rest) w' (kc + mc) (ks + ms)) : AW (mX10_file, G) 90 L (.int x0 :: .ref q :: rest) w kc ks := a_callV [.int x0] rest dX10_file_90 vX7_goodTries lk677 hC hq rfl rfl hst hdp hmc k
theorem kX10_file_99 {G : Nat × Nat × Nat × Option (Nat × (Nat → Int32)) × (Option Value → qW → Prop)} {L : qL} {w : qW} {kc ks : Nat} {rest : List Value} {q : Nat} {x0 : Int32} {d mc ms : Nat} {Q : Option Value → qW → Prop} (hC : CT mX7_goodReviews d mc ms [.ref q, .int x0] w Q) (hq : qci w q = some 7) (hst : rest.length ≤ 4) (hdp : d + 1 ≤ G.1) (hmc : kc + mc ≤ G.2.1 ∧ ks + ms ≤ G.2.2.1) (k : ∀ r w', Q r w' → AW (mX10_file, G) 102 L (r.toList ++ rest) w' (kc + mc) (ks + ms)) : AW (mX10_file, G) 99 L (.int x0 :: .ref q :: rest) w kc ks := a_callV [.int x0] rest dX10_file_99 vX7_goodReviews lk648 hC hq rfl rfl hst hdp hmc k
theorem kX10_file_108 {G : Nat × Nat × Nat × Option (Nat × (Nat → Int32)) × (Option Value → qW → Prop)} {L : qL} {w : qW} {kc ks : Nat} {rest : List Value} {q : Nat} {x0 : Int32} {d mc ms : Nat} {Q : Option Value → qW → Prop} (hC : CT mX7_goodBuilders d mc ms [.ref q, .int x0] w Q) (hq : qci w q = some 7) (hst : rest.length ≤ 4) (hdp : d + 1 ≤ G.1) (hmc : kc + mc ≤ G.2.1 ∧ ks + ms ≤ G.2.2.1) (k : ∀ r w', Q r w' → AW (mX10_file, G) 111 L (r.toList ++ rest) w' (kc + mc) (ks + ms)) : AW (mX10_file, G) 108 L (.int x0 :: .ref q :: rest) w kc ks := a_callV [.int x0] rest dX10_file_108 vX7_goodBuilders lk659 hC hq rfl rfl hst hdp hmc k
theorem kX10_file_117 {G : Nat × Nat × Nat × Option (Nat × (Nat → Int32)) × (Option Value → qW → Prop)} {L : qL} {w : qW} {kc ks : Nat} {rest : List Value} {q : Nat} {x0 : Int32} {d mc ms : Nat} {Q : Option Value → qW → Prop} (hC : CT mX7_rowSize d mc ms [.ref q, .int x0] w Q) (hq : qci w q = some 7) (hst : rest.length ≤ 4) (hdp : d + 1 ≤ G.1) (hmc : kc + mc ≤ G.2.1 ∧ ks + ms ≤ G.2.2.1) (k : ∀ r w', Q r w' → AW (mX10_file, G) 120 L (r.toList ++ rest) w' (kc + mc) (ks + ms)) : AW (mX10_file, G) 117 L (.int x0 :: .ref q :: rest) w kc ks := a_callV [.int x0] rest dX10_file_117 vX7_rowSize lk762 hC hq rfl rfl hst hdp hmc k
theorem kX10_file_126 {G : Nat × Nat × Nat × Option (Nat × (Nat → Int32)) × (Option Value → qW → Prop)} {L : qL} {w : qW} {kc ks : Nat} {rest : List Value} {q : Nat} {x0 : Int32} {d mc ms : Nat} {Q : Option Value → qW → Prop} (hC : CT mX7_makersOf d mc ms [.ref q, .int x0] w Q) (hq : qci w q = some 7) (hst : rest.length ≤ 4) (hdp : d + 1 ≤ G.1) (hmc : kc + mc ≤ G.2.1 ∧ ks + ms ≤ G.2.2.1) (k : ∀ r w', Q r w' → AW (mX10_file, G) 129 L (r.toList ++ rest) w' (kc + mc) (ks + ms)) : AW (mX10_file, G) 126 L (.int x0 :: .ref q :: rest) w kc ks := a_callV [.int x0] rest dX10_file_126 vX7_makersOf lk627 hC hq rfl rfl hst hdp hmc k
theorem kX10_file_135 {G : Nat × Nat × Nat × Option (Nat × (Nat → Int32)) × (Option Value → qW → Prop)} {L : qL} {w : qW} {kc ks : Nat} {rest : List Value} {q : Nat} {x0 : Int32} {d mc ms : Nat} {Q : Option Value → qW → Prop} (hC : CT mX4_placeOf d mc ms [.ref q, .int x0] w Q) (hq : qci w q = some 4) (hst : rest.length ≤ 4) (hdp : d + 1 ≤ G.1) (hmc : kc + mc ≤ G.2.1 ∧ ks + ms ≤ G.2.2.1) (k : ∀ r w', Q r w' → AW (mX10_file, G) 138 L (r.toList ++ rest) w' (kc + mc) (ks + ms)) : AW (mX10_file, G) 135 L (.int x0 :: .ref q :: rest) w kc ks := a_callV [.int x0] rest dX10_file_135 vX4_placeOf lk776 hC hq rfl rfl hst hdp hmc k
theorem kX10_file_141 {G : Nat × Nat × Nat × Option (Nat × (Nat → Int32)) × (Option Value → qW → Prop)} {L : qL} {w : qW} {kc ks : Nat} {rest : List Value} {q : Nat} {x0 : Int32} {d mc ms : Nat} {Q : Option Value → qW → Prop} (hC : CT mX10_manyStanding d mc ms [.ref q, .int x0] w Q) (hq : qci w q = some 10) (hst : rest.length ≤ 4) (hdp : d + 1 ≤ G.1) (hmc : kc + mc ≤ G.2.1 ∧ ks + ms ≤ G.2.2.1) (k : ∀ r w', Q r w' → AW (mX10_file, G) 144 L (r.toList ++ rest) w' (kc + mc) (ks + ms)) : AW (mX10_file, G) 141 L (.int x0 :: .ref q :: rest) w kc ks := a_callV [.int x0] rest dX10_file_141 vX10_manyStanding lk777 hC hq rfl rfl hst hdp hmc k
theorem dX10_hash_0 : decode cX10_hash 0 = .ok (.aload_n 0, 1) := by decide +kernel
theorem dX10_hash_1 : decode cX10_hash 1 = .ok (.getfield 24, 3) := by decide +kernel
theorem dX10_hash_4 : decode cX10_hash 4 = .ok (.iload_n 1, 1) := by decide +kernel
theorem dX10_hash_5 : decode cX10_hash 5 = .ok (.invokevirtual 237, 3) := by decide +kernel
theorem dX10_hash_8 : decode cX10_hash 8 = .ok (.lreturn, 1) := by decide +kernel
/-! SealLine.hash(I)J -/
theorem eX10_hash {d mc ms : Nat} {w : qW} {Q : Option Value → qW → Prop} {q : Nat} {x0 : Int32} (h : AW (mX10_hash, d, mc, ms, none, Q) 0 [some (.ref q), some (.int x0)] [] w 0 0) : CT mX10_hash d mc ms [.ref q, .int x0] w Q := CT_of (by decide +kernel) rfl (Nat.le_of_ble_eq_true rfl) h
def bX10_hash_0 (G : Nat × Nat × Nat × Option (Nat × (Nat → Int32)) × (Option Value → qW → Prop)) : qK := (s_aload 0 (s_getfield 10 2 (s_iload 1 (AW (mX10_hash, G) 5))))
theorem oX10_hash_0 (G : Nat × Nat × Nat × Option (Nat × (Nat → Int32)) × (Option Value → qW → Prop)) : qImp (bX10_hash_0 G) (AW (mX10_hash, G) 0) := (r_aload_n dX10_hash_0 rfl (r_getfield dX10_hash_1 fgX10_24 (r_iload_n dX10_hash_4 rfl qImp.rf)))
def bX10_hash_8 (G : Nat × Nat × Nat × Option (Nat × (Nat → Int32)) × (Option Value → qW → Prop)) : qK := (s_lreturn (mX10_hash, G))
theorem oX10_hash_8 (G : Nat × Nat × Nat × Option (Nat × (Nat → Int32)) × (Option Value → qW → Prop)) : qImp (bX10_hash_8 G) (AW (mX10_hash, G) 8) := (r_lreturn dX10_hash_8 rfl)
theorem kX10_hash_5 {G : Nat × Nat × Nat × Option (Nat × (Nat → Int32)) × (Option Value → qW → Prop)} {L : qL} {w : qW} {kc ks : Nat} {rest : List Value} {q : Nat} {x0 : Int32} {d mc ms : Nat} {Q : Option Value → qW → Prop} (hC : CT mX7_hashOf d mc ms [.ref q, .int x0] w Q) (hq : qci w q = some 7) (hst : rest.length ≤ 4) (hdp : d + 1 ≤ G.1) (hmc : kc + mc ≤ G.2.1 ∧ ks + ms ≤ G.2.2.1) (k : ∀ r w', Q r w' → AW (mX10_hash, G) 8 L (r.toList ++ rest) w' (kc + mc) (ks + ms)) : AW (mX10_hash, G) 5 L (.int x0 :: .ref q :: rest) w kc ks := a_callV [.int x0] rest dX10_hash_5 vX7_hashOf lk461 hC hq rfl rfl hst hdp hmc k
theorem dX10_find_0 : decode cX10_find 0 = .ok (.aload_n 0, 1) := by decide +kernel
theorem dX10_find_1 : decode cX10_find 1 = .ok (.getfield 24, 3) := by decide +kernel
theorem dX10_find_4 : decode cX10_find 4 = .ok (.lload_n 1, 1) := by decide +kernel
theorem dX10_find_5 : decode cX10_find 5 = .ok (.invokevirtual 113, 3) := by decide +kernel
theorem dX10_find_8 : decode cX10_find 8 = .ok (.ireturn, 1) := by decide +kernel
/-! SealLine.find(J)I -/
theorem eX10_find {d mc ms : Nat} {w : qW} {Q : Option Value → qW → Prop} {q : Nat} {x0 : Int64} (h : AW (mX10_find, d, mc, ms, none, Q) 0 [some (.ref q), some (.long x0), none] [] w 0 0) : CT mX10_find d mc ms [.ref q, .long x0] w Q := CT_of (by decide +kernel) rfl (Nat.le_of_ble_eq_true rfl) h
def bX10_find_0 (G : Nat × Nat × Nat × Option (Nat × (Nat → Int32)) × (Option Value → qW → Prop)) : qK := (s_aload 0 (s_getfield 10 2 (s_lload 1 (AW (mX10_find, G) 5))))
theorem oX10_find_0 (G : Nat × Nat × Nat × Option (Nat × (Nat → Int32)) × (Option Value → qW → Prop)) : qImp (bX10_find_0 G) (AW (mX10_find, G) 0) := (r_aload_n dX10_find_0 rfl (r_getfield dX10_find_1 fgX10_24 (r_lload_n dX10_find_4 rfl qImp.rf)))
def bX10_find_8 (G : Nat × Nat × Nat × Option (Nat × (Nat → Int32)) × (Option Value → qW → Prop)) : qK := (s_ireturn (mX10_find, G))
theorem oX10_find_8 (G : Nat × Nat × Nat × Option (Nat × (Nat → Int32)) × (Option Value → qW → Prop)) : qImp (bX10_find_8 G) (AW (mX10_find, G) 8) := (r_ireturn dX10_find_8 rfl)
theorem kX10_find_5 {G : Nat × Nat × Nat × Option (Nat × (Nat → Int32)) × (Option Value → qW → Prop)} {L : qL} {w : qW} {kc ks : Nat} {rest : List Value} {q : Nat} {x0 : Int64} {d mc ms : Nat} {Q : Option Value → qW → Prop} (hC : CT mX7_numberOf d mc ms [.ref q, .long x0] w Q) (hq : qci w q = some 7) (hst : rest.length ≤ 4) (hdp : d + 1 ≤ G.1) (hmc : kc + mc ≤ G.2.1 ∧ ks + ms ≤ G.2.2.1) (k : ∀ r w', Q r w' → AW (mX10_find, G) 8 L (r.toList ++ rest) w' (kc + mc) (ks + ms)) : AW (mX10_find, G) 5 L (.long x0 :: .ref q :: rest) w kc ks := a_callV [.long x0] rest dX10_find_5 vX7_numberOf lk444 hC hq rfl rfl hst hdp hmc k
theorem dX10_sealed_0 : decode cX10_sealed 0 = .ok (.iload_n 2, 1) := by decide +kernel
theorem dX10_sealed_1 : decode cX10_sealed 1 = .ok (.bipush 6, 2) := by decide +kernel
theorem dX10_sealed_3 : decode cX10_sealed 3 = .ok (.if_icmp .ne 27, 3) := by decide +kernel
theorem dX10_sealed_6 : decode cX10_sealed 6 = .ok (.iload_n 1, 1) := by decide +kernel
theorem dX10_sealed_7 : decode cX10_sealed 7 = .ok (.ifCond .lt 23, 3) := by decide +kernel
theorem dX10_sealed_10 : decode cX10_sealed 10 = .ok (.iload_n 1, 1) := by decide +kernel
theorem dX10_sealed_11 : decode cX10_sealed 11 = .ok (.aload_n 0, 1) := by decide +kernel
theorem dX10_sealed_12 : decode cX10_sealed 12 = .ok (.getfield 18, 3) := by decide +kernel
theorem dX10_sealed_15 : decode cX10_sealed 15 = .ok (.invokevirtual 190, 3) := by decide +kernel
theorem dX10_sealed_18 : decode cX10_sealed 18 = .ok (.if_icmp .ge 12, 3) := by decide +kernel
theorem dX10_sealed_21 : decode cX10_sealed 21 = .ok (.aload_n 0, 1) := by decide +kernel
theorem dX10_sealed_22 : decode cX10_sealed 22 = .ok (.iload_n 1, 1) := by decide +kernel
theorem dX10_sealed_23 : decode cX10_sealed 23 = .ok (.invokevirtual 241, 3) := by decide +kernel
theorem dX10_sealed_26 : decode cX10_sealed 26 = .ok (.invokestatic 128, 3) := by decide +kernel
theorem dX10_sealed_29 : decode cX10_sealed 29 = .ok (.ireturn, 1) := by decide +kernel
theorem dX10_sealed_30 : decode cX10_sealed 30 = .ok (.aload_n 0, 1) := by decide +kernel
theorem dX10_sealed_31 : decode cX10_sealed 31 = .ok (.getfield 18, 3) := by decide +kernel
theorem dX10_sealed_34 : decode cX10_sealed 34 = .ok (.iload_n 1, 1) := by decide +kernel
theorem dX10_sealed_35 : decode cX10_sealed 35 = .ok (.iload_n 2, 1) := by decide +kernel
theorem dX10_sealed_36 : decode cX10_sealed 36 = .ok (.invokevirtual 197, 3) := by decide +kernel
theorem dX10_sealed_39 : decode cX10_sealed 39 = .ok (.ireturn, 1) := by decide +kernel
/-! SealLine.sealed(II)I -/
theorem eX10_sealed {d mc ms : Nat} {w : qW} {Q : Option Value → qW → Prop} {q : Nat} {x0 : Int32} {x1 : Int32} (h : AW (mX10_sealed, d, mc, ms, none, Q) 0 [some (.ref q), some (.int x0), some (.int x1)] [] w 0 0) : CT mX10_sealed d mc ms [.ref q, .int x0, .int x1] w Q := CT_of (by decide +kernel) rfl (Nat.le_of_ble_eq_true rfl) h
def bX10_sealed_0 (G : Nat × Nat × Nat × Option (Nat × (Nat → Int32)) × (Option Value → qW → Prop)) : qK := (s_iload 2 (s_iconst 6 (s_ic_ne (AW (mX10_sealed, G) 30) (s_iload 1 (s_if_lt (AW (mX10_sealed, G) 30) (s_iload 1 (s_aload 0 (s_getfield 10 1 (AW (mX10_sealed, G) 15)))))))))
theorem oX10_sealed_0 (G : Nat × Nat × Nat × Option (Nat × (Nat → Int32)) × (Option Value → qW → Prop)) : qImp (bX10_sealed_0 G) (AW (mX10_sealed, G) 0) := (r_iload_n dX10_sealed_0 rfl (r_bipush dX10_sealed_1 rfl (r_ic_ne (tgt := 30) dX10_sealed_3 rfl qImp.rf (r_iload_n dX10_sealed_6 rfl (r_if_lt (tgt := 30) dX10_sealed_7 rfl qImp.rf (r_iload_n dX10_sealed_10 rfl (r_aload_n dX10_sealed_11 rfl (r_getfield dX10_sealed_12 fgX10_18 qImp.rf))))))))
def bX10_sealed_18 (G : Nat × Nat × Nat × Option (Nat × (Nat → Int32)) × (Option Value → qW → Prop)) : qK := (s_ic_ge (AW (mX10_sealed, G) 30) (s_aload 0 (s_iload 1 (AW (mX10_sealed, G) 23))))
theorem oX10_sealed_18 (G : Nat × Nat × Nat × Option (Nat × (Nat → Int32)) × (Option Value → qW → Prop)) : qImp (bX10_sealed_18 G) (AW (mX10_sealed, G) 18) := (r_ic_ge (tgt := 30) dX10_sealed_18 rfl qImp.rf (r_aload_n dX10_sealed_21 rfl (r_iload_n dX10_sealed_22 rfl qImp.rf)))
def bX10_sealed_29 (G : Nat × Nat × Nat × Option (Nat × (Nat → Int32)) × (Option Value → qW → Prop)) : qK := (s_ireturn (mX10_sealed, G))
theorem oX10_sealed_29 (G : Nat × Nat × Nat × Option (Nat × (Nat → Int32)) × (Option Value → qW → Prop)) : qImp (bX10_sealed_29 G) (AW (mX10_sealed, G) 29) := (r_ireturn dX10_sealed_29 rfl)
def bX10_sealed_30 (G : Nat × Nat × Nat × Option (Nat × (Nat → Int32)) × (Option Value → qW → Prop)) : qK := (s_aload 0 (s_getfield 10 1 (s_iload 1 (s_iload 2 (AW (mX10_sealed, G) 36)))))
theorem oX10_sealed_30 (G : Nat × Nat × Nat × Option (Nat × (Nat → Int32)) × (Option Value → qW → Prop)) : qImp (bX10_sealed_30 G) (AW (mX10_sealed, G) 30) := (r_aload_n dX10_sealed_30 rfl (r_getfield dX10_sealed_31 fgX10_18 (r_iload_n dX10_sealed_34 rfl (r_iload_n dX10_sealed_35 rfl qImp.rf))))
def bX10_sealed_39 (G : Nat × Nat × Nat × Option (Nat × (Nat → Int32)) × (Option Value → qW → Prop)) : qK := (s_ireturn (mX10_sealed, G))
theorem oX10_sealed_39 (G : Nat × Nat × Nat × Option (Nat × (Nat → Int32)) × (Option Value → qW → Prop)) : qImp (bX10_sealed_39 G) (AW (mX10_sealed, G) 39) := (r_ireturn dX10_sealed_39 rfl)
theorem kX10_sealed_15 {G : Nat × Nat × Nat × Option (Nat × (Nat → Int32)) × (Option Value → qW → Prop)} {L : qL} {w : qW} {kc ks : Nat} {rest : List Value} {q : Nat}  {d mc ms : Nat} {Q : Option Value → qW → Prop} (hC : CT mX8_size d mc ms [.ref q] w Q) (hq : qci w q = some 8) (hst : rest.length ≤ 4) (hdp : d + 1 ≤ G.1) (hmc : kc + mc ≤ G.2.1 ∧ ks + ms ≤ G.2.2.1) (k : ∀ r w', Q r w' → AW (mX10_sealed, G) 18 L (r.toList ++ rest) w' (kc + mc) (ks + ms)) : AW (mX10_sealed, G) 15 L (.ref q :: rest) w kc ks := a_callV [] rest dX10_sealed_15 vX8_size lk727 hC hq rfl rfl hst hdp hmc k
theorem kX10_sealed_23 {G : Nat × Nat × Nat × Option (Nat × (Nat → Int32)) × (Option Value → qW → Prop)} {L : qL} {w : qW} {kc ks : Nat} {rest : List Value} {q : Nat} {x0 : Int32} {d mc ms : Nat} {Q : Option Value → qW → Prop} (hC : CT mX10_stands d mc ms [.ref q, .int x0] w Q) (hq : qci w q = some 10) (hst : rest.length ≤ 4) (hdp : d + 1 ≤ G.1) (hmc : kc + mc ≤ G.2.1 ∧ ks + ms ≤ G.2.2.1) (k : ∀ r w', Q r w' → AW (mX10_sealed, G) 26 L (r.toList ++ rest) w' (kc + mc) (ks + ms)) : AW (mX10_sealed, G) 23 L (.int x0 :: .ref q :: rest) w kc ks := a_callV [.int x0] rest dX10_sealed_23 vX10_stands lk781 hC hq rfl rfl hst hdp hmc k
theorem kX10_sealed_26 {G : Nat × Nat × Nat × Option (Nat × (Nat → Int32)) × (Option Value → qW → Prop)} {L : qL} {w : qW} {kc ks : Nat} {rest : List Value}  {x0 : Int32} {d mc ms : Nat} {Q : Option Value → qW → Prop} (hC : CT mX10_bit d mc ms [.int x0] w Q) (hst : rest.length ≤ 4) (hdp : d + 1 ≤ G.1) (hmc : kc + mc ≤ G.2.1 ∧ ks + ms ≤ G.2.2.1) (k : ∀ r w', Q r w' → AW (mX10_sealed, G) 29 L (r.toList ++ rest) w' (kc + mc) (ks + ms)) : AW (mX10_sealed, G) 26 L (.int x0 :: rest) w kc ks := a_callS [.int x0] rest dX10_sealed_26 tX10_bit lk467 hC rfl hst hdp hmc k
theorem kX10_sealed_36 {G : Nat × Nat × Nat × Option (Nat × (Nat → Int32)) × (Option Value → qW → Prop)} {L : qL} {w : qW} {kc ks : Nat} {rest : List Value} {q : Nat} {x0 : Int32} {x1 : Int32} {d mc ms : Nat} {Q : Option Value → qW → Prop} (hC : CT mX8_cell d mc ms [.ref q, .int x0, .int x1] w Q) (hq : qci w q = some 8) (hst : rest.length ≤ 4) (hdp : d + 1 ≤ G.1) (hmc : kc + mc ≤ G.2.1 ∧ ks + ms ≤ G.2.2.1) (k : ∀ r w', Q r w' → AW (mX10_sealed, G) 39 L (r.toList ++ rest) w' (kc + mc) (ks + ms)) : AW (mX10_sealed, G) 36 L (.int x1 :: .int x0 :: .ref q :: rest) w kc ks := a_callV [.int x0, .int x1] rest dX10_sealed_36 vX8_cell lk732 hC hq rfl rfl hst hdp hmc k
theorem dX10_note_0 : decode cX10_note 0 = .ok (.aload_n 0, 1) := by decide +kernel
theorem dX10_note_1 : decode cX10_note 1 = .ok (.getfield 14, 3) := by decide +kernel
theorem dX10_note_4 : decode cX10_note 4 = .ok (.iload_n 1, 1) := by decide +kernel
theorem dX10_note_5 : decode cX10_note 5 = .ok (.iload_n 2, 1) := by decide +kernel
theorem dX10_note_6 : decode cX10_note 6 = .ok (.invokevirtual 197, 3) := by decide +kernel
theorem dX10_note_9 : decode cX10_note 9 = .ok (.ireturn, 1) := by decide +kernel
/-! SealLine.note(II)I -/
theorem eX10_note {d mc ms : Nat} {w : qW} {Q : Option Value → qW → Prop} {q : Nat} {x0 : Int32} {x1 : Int32} (h : AW (mX10_note, d, mc, ms, none, Q) 0 [some (.ref q), some (.int x0), some (.int x1)] [] w 0 0) : CT mX10_note d mc ms [.ref q, .int x0, .int x1] w Q := CT_of (by decide +kernel) rfl (Nat.le_of_ble_eq_true rfl) h
def bX10_note_0 (G : Nat × Nat × Nat × Option (Nat × (Nat → Int32)) × (Option Value → qW → Prop)) : qK := (s_aload 0 (s_getfield 10 0 (s_iload 1 (s_iload 2 (AW (mX10_note, G) 6)))))
theorem oX10_note_0 (G : Nat × Nat × Nat × Option (Nat × (Nat → Int32)) × (Option Value → qW → Prop)) : qImp (bX10_note_0 G) (AW (mX10_note, G) 0) := (r_aload_n dX10_note_0 rfl (r_getfield dX10_note_1 fgX10_14 (r_iload_n dX10_note_4 rfl (r_iload_n dX10_note_5 rfl qImp.rf))))
def bX10_note_9 (G : Nat × Nat × Nat × Option (Nat × (Nat → Int32)) × (Option Value → qW → Prop)) : qK := (s_ireturn (mX10_note, G))
theorem oX10_note_9 (G : Nat × Nat × Nat × Option (Nat × (Nat → Int32)) × (Option Value → qW → Prop)) : qImp (bX10_note_9 G) (AW (mX10_note, G) 9) := (r_ireturn dX10_note_9 rfl)
theorem kX10_note_6 {G : Nat × Nat × Nat × Option (Nat × (Nat → Int32)) × (Option Value → qW → Prop)} {L : qL} {w : qW} {kc ks : Nat} {rest : List Value} {q : Nat} {x0 : Int32} {x1 : Int32} {d mc ms : Nat} {Q : Option Value → qW → Prop} (hC : CT mX8_cell d mc ms [.ref q, .int x0, .int x1] w Q) (hq : qci w q = some 8) (hst : rest.length ≤ 4) (hdp : d + 1 ≤ G.1) (hmc : kc + mc ≤ G.2.1 ∧ ks + ms ≤ G.2.2.1) (k : ∀ r w', Q r w' → AW (mX10_note, G) 9 L (r.toList ++ rest) w' (kc + mc) (ks + ms)) : AW (mX10_note, G) 6 L (.int x1 :: .int x0 :: .ref q :: rest) w kc ks := a_callV [.int x0, .int x1] rest dX10_note_6 vX8_cell lk732 hC hq rfl rfl hst hdp hmc k
theorem dX10_least_0 : decode cX10_least 0 = .ok (.aload_n 0, 1) := by decide +kernel
theorem dX10_least_1 : decode cX10_least 1 = .ok (.getfield 66, 3) := by decide +kernel
theorem dX10_least_4 : decode cX10_least 4 = .ok (.aload_n 0, 1) := by decide +kernel
theorem dX10_least_5 : decode cX10_least 5 = .ok (.getfield 75, 3) := by decide +kernel
theorem dX10_least_8 : decode cX10_least 8 = .ok (.invokevirtual 244, 3) := by decide +kernel
theorem dX10_least_11 : decode cX10_least 11 = .ok (.ireturn, 1) := by decide +kernel
/-! SealLine.least()I -/
theorem eX10_least {d mc ms : Nat} {w : qW} {Q : Option Value → qW → Prop} {q : Nat} (h : AW (mX10_least, d, mc, ms, none, Q) 0 [some (.ref q)] [] w 0 0) : CT mX10_least d mc ms [.ref q] w Q := CT_of (by decide +kernel) rfl (Nat.le_of_ble_eq_true rfl) h
def bX10_least_0 (G : Nat × Nat × Nat × Option (Nat × (Nat → Int32)) × (Option Value → qW → Prop)) : qK := (s_aload 0 (s_getfield 10 8 (s_aload 0 (s_getfield 10 9 (AW (mX10_least, G) 8)))))
theorem oX10_least_0 (G : Nat × Nat × Nat × Option (Nat × (Nat → Int32)) × (Option Value → qW → Prop)) : qImp (bX10_least_0 G) (AW (mX10_least, G) 0) := (r_aload_n dX10_least_0 rfl (r_getfield dX10_least_1 fgX10_66 (r_aload_n dX10_least_4 rfl (r_getfield dX10_least_5 fgX10_75 qImp.rf))))
def bX10_least_11 (G : Nat × Nat × Nat × Option (Nat × (Nat → Int32)) × (Option Value → qW → Prop)) : qK := (s_ireturn (mX10_least, G))
theorem oX10_least_11 (G : Nat × Nat × Nat × Option (Nat × (Nat → Int32)) × (Option Value → qW → Prop)) : qImp (bX10_least_11 G) (AW (mX10_least, G) 11) := (r_ireturn dX10_least_11 rfl)
theorem kX10_least_8 {G : Nat × Nat × Nat × Option (Nat × (Nat → Int32)) × (Option Value → qW → Prop)} {L : qL} {w : qW} {kc ks : Nat} {rest : List Value} {q : Nat} {x0 : Nat} {d mc ms : Nat} {Q : Option Value → qW → Prop} (hC : CT mX1_fewestHands d mc ms [.ref q, .ref x0] w Q) (hq : qci w q = some 1) (hst : rest.length ≤ 4) (hdp : d + 1 ≤ G.1) (hmc : kc + mc ≤ G.2.1 ∧ ks + ms ≤ G.2.2.1) (k : ∀ r w', Q r w' → AW (mX10_least, G) 11 L (r.toList ++ rest) w' (kc + mc) (ks + ms)) : AW (mX10_least, G) 8 L (.ref x0 :: .ref q :: rest) w kc ks := a_callV [.ref x0] rest dX10_least_8 vX1_fewestHands lk809 hC hq rfl rfl hst hdp hmc k
theorem dX10_makers_0 : decode cX10_makers 0 = .ok (.aload_n 0, 1) := by decide +kernel
theorem dX10_makers_1 : decode cX10_makers 1 = .ok (.getfield 66, 3) := by decide +kernel
theorem dX10_makers_4 : decode cX10_makers 4 = .ok (.aload_n 0, 1) := by decide +kernel
theorem dX10_makers_5 : decode cX10_makers 5 = .ok (.getfield 75, 3) := by decide +kernel
theorem dX10_makers_8 : decode cX10_makers 8 = .ok (.invokevirtual 248, 3) := by decide +kernel
theorem dX10_makers_11 : decode cX10_makers 11 = .ok (.ireturn, 1) := by decide +kernel
/-! SealLine.makers()I -/
theorem eX10_makers {d mc ms : Nat} {w : qW} {Q : Option Value → qW → Prop} {q : Nat} (h : AW (mX10_makers, d, mc, ms, none, Q) 0 [some (.ref q)] [] w 0 0) : CT mX10_makers d mc ms [.ref q] w Q := CT_of (by decide +kernel) rfl (Nat.le_of_ble_eq_true rfl) h
def bX10_makers_0 (G : Nat × Nat × Nat × Option (Nat × (Nat → Int32)) × (Option Value → qW → Prop)) : qK := (s_aload 0 (s_getfield 10 8 (s_aload 0 (s_getfield 10 9 (AW (mX10_makers, G) 8)))))
theorem oX10_makers_0 (G : Nat × Nat × Nat × Option (Nat × (Nat → Int32)) × (Option Value → qW → Prop)) : qImp (bX10_makers_0 G) (AW (mX10_makers, G) 0) := (r_aload_n dX10_makers_0 rfl (r_getfield dX10_makers_1 fgX10_66 (r_aload_n dX10_makers_4 rfl (r_getfield dX10_makers_5 fgX10_75 qImp.rf))))
def bX10_makers_11 (G : Nat × Nat × Nat × Option (Nat × (Nat → Int32)) × (Option Value → qW → Prop)) : qK := (s_ireturn (mX10_makers, G))
theorem oX10_makers_11 (G : Nat × Nat × Nat × Option (Nat × (Nat → Int32)) × (Option Value → qW → Prop)) : qImp (bX10_makers_11 G) (AW (mX10_makers, G) 11) := (r_ireturn dX10_makers_11 rfl)
theorem kX10_makers_8 {G : Nat × Nat × Nat × Option (Nat × (Nat → Int32)) × (Option Value → qW → Prop)} {L : qL} {w : qW} {kc ks : Nat} {rest : List Value} {q : Nat} {x0 : Nat} {d mc ms : Nat} {Q : Option Value → qW → Prop} (hC : CT mX1_fewestMakers d mc ms [.ref q, .ref x0] w Q) (hq : qci w q = some 1) (hst : rest.length ≤ 4) (hdp : d + 1 ≤ G.1) (hmc : kc + mc ≤ G.2.1 ∧ ks + ms ≤ G.2.2.1) (k : ∀ r w', Q r w' → AW (mX10_makers, G) 11 L (r.toList ++ rest) w' (kc + mc) (ks + ms)) : AW (mX10_makers, G) 8 L (.ref x0 :: .ref q :: rest) w kc ks := a_callV [.ref x0] rest dX10_makers_8 vX1_fewestMakers lk831 hC hq rfl rfl hst hdp hmc k
theorem dX10_proof_0 : decode cX10_proof 0 = .ok (.aload_n 0, 1) := by decide +kernel
theorem dX10_proof_1 : decode cX10_proof 1 = .ok (.getfield 24, 3) := by decide +kernel
theorem dX10_proof_4 : decode cX10_proof 4 = .ok (.iload_n 1, 1) := by decide +kernel
theorem dX10_proof_5 : decode cX10_proof 5 = .ok (.invokevirtual 210, 3) := by decide +kernel
theorem dX10_proof_8 : decode cX10_proof 8 = .ok (.ifCond .eq 23, 3) := by decide +kernel
theorem dX10_proof_11 : decode cX10_proof 11 = .ok (.aload_n 0, 1) := by decide +kernel
theorem dX10_proof_12 : decode cX10_proof 12 = .ok (.getfield 31, 3) := by decide +kernel
theorem dX10_proof_15 : decode cX10_proof 15 = .ok (.aload_n 0, 1) := by decide +kernel
theorem dX10_proof_16 : decode cX10_proof 16 = .ok (.getfield 14, 3) := by decide +kernel
theorem dX10_proof_19 : decode cX10_proof 19 = .ok (.aload_n 0, 1) := by decide +kernel
theorem dX10_proof_20 : decode cX10_proof 20 = .ok (.getfield 24, 3) := by decide +kernel
theorem dX10_proof_23 : decode cX10_proof 23 = .ok (.iload_n 1, 1) := by decide +kernel
theorem dX10_proof_24 : decode cX10_proof 24 = .ok (.iload_n 2, 1) := by decide +kernel
theorem dX10_proof_25 : decode cX10_proof 25 = .ok (.invokevirtual 251, 3) := by decide +kernel
theorem dX10_proof_28 : decode cX10_proof 28 = .ok (.goto 4, 3) := by decide +kernel
theorem dX10_proof_31 : decode cX10_proof 31 = .ok (.iconst (-1), 1) := by decide +kernel
theorem dX10_proof_32 : decode cX10_proof 32 = .ok (.ireturn, 1) := by decide +kernel
/-! SealLine.proof(II)I -/
theorem eX10_proof {d mc ms : Nat} {w : qW} {Q : Option Value → qW → Prop} {q : Nat} {x0 : Int32} {x1 : Int32} (h : AW (mX10_proof, d, mc, ms, none, Q) 0 [some (.ref q), some (.int x0), some (.int x1)] [] w 0 0) : CT mX10_proof d mc ms [.ref q, .int x0, .int x1] w Q := CT_of (by decide +kernel) rfl (Nat.le_of_ble_eq_true rfl) h
def bX10_proof_0 (G : Nat × Nat × Nat × Option (Nat × (Nat → Int32)) × (Option Value → qW → Prop)) : qK := (s_aload 0 (s_getfield 10 2 (s_iload 1 (AW (mX10_proof, G) 5))))
theorem oX10_proof_0 (G : Nat × Nat × Nat × Option (Nat × (Nat → Int32)) × (Option Value → qW → Prop)) : qImp (bX10_proof_0 G) (AW (mX10_proof, G) 0) := (r_aload_n dX10_proof_0 rfl (r_getfield dX10_proof_1 fgX10_24 (r_iload_n dX10_proof_4 rfl qImp.rf)))
def bX10_proof_8 (G : Nat × Nat × Nat × Option (Nat × (Nat → Int32)) × (Option Value → qW → Prop)) : qK := (s_if_eq (AW (mX10_proof, G) 31) (s_aload 0 (s_getfield 10 3 (s_aload 0 (s_getfield 10 0 (s_aload 0 (s_getfield 10 2 (s_iload 1 (s_iload 2 (AW (mX10_proof, G) 25))))))))))
theorem oX10_proof_8 (G : Nat × Nat × Nat × Option (Nat × (Nat → Int32)) × (Option Value → qW → Prop)) : qImp (bX10_proof_8 G) (AW (mX10_proof, G) 8) := (r_if_eq (tgt := 31) dX10_proof_8 rfl qImp.rf (r_aload_n dX10_proof_11 rfl (r_getfield dX10_proof_12 fgX10_31 (r_aload_n dX10_proof_15 rfl (r_getfield dX10_proof_16 fgX10_14 (r_aload_n dX10_proof_19 rfl (r_getfield dX10_proof_20 fgX10_24 (r_iload_n dX10_proof_23 rfl (r_iload_n dX10_proof_24 rfl qImp.rf)))))))))
def bX10_proof_28 (G : Nat × Nat × Nat × Option (Nat × (Nat → Int32)) × (Option Value → qW → Prop)) : qK := (AW (mX10_proof, G) 32)
theorem oX10_proof_28 (G : Nat × Nat × Nat × Option (Nat × (Nat → Int32)) × (Option Value → qW → Prop)) : qImp (bX10_proof_28 G) (AW (mX10_proof, G) 28) := (r_goto (tgt := 32) dX10_proof_28 rfl qImp.rf)
def bX10_proof_31 (G : Nat × Nat × Nat × Option (Nat × (Nat → Int32)) × (Option Value → qW → Prop)) : qK := (s_iconst (-1) (AW (mX10_proof, G) 32))
theorem oX10_proof_31 (G : Nat × Nat × Nat × Option (Nat × (Nat → Int32)) × (Option Value → qW → Prop)) : qImp (bX10_proof_31 G) (AW (mX10_proof, G) 31) := (r_iconst dX10_proof_31 rfl qImp.rf)
def bX10_proof_32 (G : Nat × Nat × Nat × Option (Nat × (Nat → Int32)) × (Option Value → qW → Prop)) : qK := (s_ireturn (mX10_proof, G))
theorem oX10_proof_32 (G : Nat × Nat × Nat × Option (Nat × (Nat → Int32)) × (Option Value → qW → Prop)) : qImp (bX10_proof_32 G) (AW (mX10_proof, G) 32) := (r_ireturn dX10_proof_32 rfl)
theorem kX10_proof_5 {G : Nat × Nat × Nat × Option (Nat × (Nat → Int32)) × (Option Value → qW → Prop)} {L : qL} {w : qW} {kc ks : Nat} {rest : List Value} {q : Nat} {x0 : Int32} {d mc ms : Nat} {Q : Option Value → qW → Prop} (hC : CT mX7_isClean d mc ms [.ref q, .int x0] w Q) (hq : qci w q = some 7) (hst : rest.length ≤ 4) (hdp : d + 1 ≤ G.1) (hmc : kc + mc ≤ G.2.1 ∧ ks + ms ≤ G.2.2.1) (k : ∀ r w', Q r w' → AW (mX10_proof, G) 8 L (r.toList ++ rest) w' (kc + mc) (ks + ms)) : AW (mX10_proof, G) 5 L (.int x0 :: .ref q :: rest) w kc ks := a_callV [.int x0] rest dX10_proof_5 vX7_isClean lk643 hC hq rfl rfl hst hdp hmc k
theorem kX10_proof_25 {G : Nat × Nat × Nat × Option (Nat × (Nat → Int32)) × (Option Value → qW → Prop)} {L : qL} {w : qW} {kc ks : Nat} {rest : List Value} {q : Nat} {x0 : Nat} {x1 : Nat} {x2 : Int32} {x3 : Int32} {d mc ms : Nat} {Q : Option Value → qW → Prop} (hC : CT mX3_noteAt d mc ms [.ref q, .ref x0, .ref x1, .int x2, .int x3] w Q) (hq : qci w q = some 3) (hst : rest.length ≤ 4) (hdp : d + 1 ≤ G.1) (hmc : kc + mc ≤ G.2.1 ∧ ks + ms ≤ G.2.2.1) (k : ∀ r w', Q r w' → AW (mX10_proof, G) 28 L (r.toList ++ rest) w' (kc + mc) (ks + ms)) : AW (mX10_proof, G) 25 L (.int x3 :: .int x2 :: .ref x1 :: .ref x0 :: .ref q :: rest) w kc ks := a_callV [.ref x0, .ref x1, .int x2, .int x3] rest dX10_proof_25 vX3_noteAt lk839 hC hq rfl rfl hst hdp hmc k
theorem dX10_called_0 : decode cX10_called 0 = .ok (.iload_n 1, 1) := by decide +kernel
theorem dX10_called_1 : decode cX10_called 1 = .ok (.istore_n 2, 1) := by decide +kernel
theorem dX10_called_2 : decode cX10_called 2 = .ok (.iconst 0, 1) := by decide +kernel
theorem dX10_called_3 : decode cX10_called 3 = .ok (.istore_n 3, 1) := by decide +kernel
theorem dX10_called_4 : decode cX10_called 4 = .ok (.iload_n 3, 1) := by decide +kernel
theorem dX10_called_5 : decode cX10_called 5 = .ok (.aload_n 0, 1) := by decide +kernel
theorem dX10_called_6 : decode cX10_called 6 = .ok (.getfield 24, 3) := by decide +kernel
theorem dX10_called_9 : decode cX10_called 9 = .ok (.invokevirtual 255, 3) := by decide +kernel
theorem dX10_called_12 : decode cX10_called 12 = .ok (.if_icmp .ge 30, 3) := by decide +kernel
theorem dX10_called_15 : decode cX10_called 15 = .ok (.iload_n 2, 1) := by decide +kernel
theorem dX10_called_16 : decode cX10_called 16 = .ok (.ifCond .lt 26, 3) := by decide +kernel
theorem dX10_called_19 : decode cX10_called 19 = .ok (.aload_n 0, 1) := by decide +kernel
theorem dX10_called_20 : decode cX10_called 20 = .ok (.iload_n 3, 1) := by decide +kernel
theorem dX10_called_21 : decode cX10_called 21 = .ok (.invokevirtual 213, 3) := by decide +kernel
theorem dX10_called_24 : decode cX10_called 24 = .ok (.ifCond .eq 12, 3) := by decide +kernel
theorem dX10_called_27 : decode cX10_called 27 = .ok (.iload_n 2, 1) := by decide +kernel
theorem dX10_called_28 : decode cX10_called 28 = .ok (.ifCond .ne 5, 3) := by decide +kernel
theorem dX10_called_31 : decode cX10_called 31 = .ok (.iload_n 3, 1) := by decide +kernel
theorem dX10_called_32 : decode cX10_called 32 = .ok (.ireturn, 1) := by decide +kernel
theorem dX10_called_33 : decode cX10_called 33 = .ok (.iinc 2 (-1), 3) := by decide +kernel
theorem dX10_called_36 : decode cX10_called 36 = .ok (.iinc 3 1, 3) := by decide +kernel
theorem dX10_called_39 : decode cX10_called 39 = .ok (.goto (-35), 3) := by decide +kernel
theorem dX10_called_42 : decode cX10_called 42 = .ok (.iconst (-1), 1) := by decide +kernel
theorem dX10_called_43 : decode cX10_called 43 = .ok (.ireturn, 1) := by decide +kernel
/-! SealLine.called(I)I -/
theorem eX10_called {d mc ms : Nat} {w : qW} {Q : Option Value → qW → Prop} {q : Nat} {x0 : Int32} (h : AW (mX10_called, d, mc, ms, none, Q) 0 [some (.ref q), some (.int x0), none, none] [] w 0 0) : CT mX10_called d mc ms [.ref q, .int x0] w Q := CT_of (by decide +kernel) rfl (Nat.le_of_ble_eq_true rfl) h
def bX10_called_0 (G : Nat × Nat × Nat × Option (Nat × (Nat → Int32)) × (Option Value → qW → Prop)) : qK := (s_iload 1 (s_istore 2 1 (s_iconst 0 (s_istore 3 2 (AW (mX10_called, G) 4)))))
theorem oX10_called_0 (G : Nat × Nat × Nat × Option (Nat × (Nat → Int32)) × (Option Value → qW → Prop)) : qImp (bX10_called_0 G) (AW (mX10_called, G) 0) := (r_iload_n dX10_called_0 rfl (r_istore_n dX10_called_1 rfl (Or.inr rfl) (Nat.le_of_ble_eq_true rfl) (r_iconst dX10_called_2 rfl (r_istore_n dX10_called_3 rfl (Or.inr rfl) (Nat.le_of_ble_eq_true rfl) qImp.rf))))
def bX10_called_4 (G : Nat × Nat × Nat × Option (Nat × (Nat → Int32)) × (Option Value → qW → Prop)) : qK := (s_iload 3 (s_aload 0 (s_getfield 10 2 (AW (mX10_called, G) 9))))
theorem oX10_called_4 (G : Nat × Nat × Nat × Option (Nat × (Nat → Int32)) × (Option Value → qW → Prop)) : qImp (bX10_called_4 G) (AW (mX10_called, G) 4) := (r_iload_n dX10_called_4 rfl (r_aload_n dX10_called_5 rfl (r_getfield dX10_called_6 fgX10_24 qImp.rf)))
def bX10_called_12 (G : Nat × Nat × Nat × Option (Nat × (Nat → Int32)) × (Option Value → qW → Prop)) : qK := (s_ic_ge (AW (mX10_called, G) 42) (s_iload 2 (s_if_lt (AW (mX10_called, G) 42) (s_aload 0 (s_iload 3 (AW (mX10_called, G) 21))))))
theorem oX10_called_12 (G : Nat × Nat × Nat × Option (Nat × (Nat → Int32)) × (Option Value → qW → Prop)) : qImp (bX10_called_12 G) (AW (mX10_called, G) 12) := (r_ic_ge (tgt := 42) dX10_called_12 rfl qImp.rf (r_iload_n dX10_called_15 rfl (r_if_lt (tgt := 42) dX10_called_16 rfl qImp.rf (r_aload_n dX10_called_19 rfl (r_iload_n dX10_called_20 rfl qImp.rf)))))
def bX10_called_24 (G : Nat × Nat × Nat × Option (Nat × (Nat → Int32)) × (Option Value → qW → Prop)) : qK := (s_if_eq (AW (mX10_called, G) 36) (s_iload 2 (s_if_ne (AW (mX10_called, G) 33) (s_iload 3 (s_ireturn (mX10_called, G))))))
theorem oX10_called_24 (G : Nat × Nat × Nat × Option (Nat × (Nat → Int32)) × (Option Value → qW → Prop)) : qImp (bX10_called_24 G) (AW (mX10_called, G) 24) := (r_if_eq (tgt := 36) dX10_called_24 rfl qImp.rf (r_iload_n dX10_called_27 rfl (r_if_ne (tgt := 33) dX10_called_28 rfl qImp.rf (r_iload_n dX10_called_31 rfl (r_ireturn dX10_called_32 rfl)))))
def bX10_called_33 (G : Nat × Nat × Nat × Option (Nat × (Nat → Int32)) × (Option Value → qW → Prop)) : qK := (s_iinc 2 1 (-1) (AW (mX10_called, G) 36))
theorem oX10_called_33 (G : Nat × Nat × Nat × Option (Nat × (Nat → Int32)) × (Option Value → qW → Prop)) : qImp (bX10_called_33 G) (AW (mX10_called, G) 33) := (r_iinc dX10_called_33 rfl (Or.inr rfl) (Nat.le_of_ble_eq_true rfl) qImp.rf)
def bX10_called_36 (G : Nat × Nat × Nat × Option (Nat × (Nat → Int32)) × (Option Value → qW → Prop)) : qK := (s_iinc 3 2 1 (AW (mX10_called, G) 4))
theorem oX10_called_36 (G : Nat × Nat × Nat × Option (Nat × (Nat → Int32)) × (Option Value → qW → Prop)) : qImp (bX10_called_36 G) (AW (mX10_called, G) 36) := (r_iinc dX10_called_36 rfl (Or.inr rfl) (Nat.le_of_ble_eq_true rfl) (r_goto (tgt := 4) dX10_called_39 rfl qImp.rf))
def bX10_called_42 (G : Nat × Nat × Nat × Option (Nat × (Nat → Int32)) × (Option Value → qW → Prop)) : qK := (s_iconst (-1) (s_ireturn (mX10_called, G)))
theorem oX10_called_42 (G : Nat × Nat × Nat × Option (Nat × (Nat → Int32)) × (Option Value → qW → Prop)) : qImp (bX10_called_42 G) (AW (mX10_called, G) 42) := (r_iconst dX10_called_42 rfl (r_ireturn dX10_called_43 rfl))
theorem kX10_called_9 {G : Nat × Nat × Nat × Option (Nat × (Nat → Int32)) × (Option Value → qW → Prop)} {L : qL} {w : qW} {kc ks : Nat} {rest : List Value} {q : Nat}  {d mc ms : Nat} {Q : Option Value → qW → Prop} (hC : CT mX7_size d mc ms [.ref q] w Q) (hq : qci w q = some 7) (hst : rest.length ≤ 4) (hdp : d + 1 ≤ G.1) (hmc : kc + mc ≤ G.2.1 ∧ ks + ms ≤ G.2.2.1) (k : ∀ r w', Q r w' → AW (mX10_called, G) 12 L (r.toList ++ rest) w' (kc + mc) (ks + ms)) : AW (mX10_called, G) 9 L (.ref q :: rest) w kc ks := a_callV [] rest dX10_called_9 vX7_size lk754 hC hq rfl rfl hst hdp hmc k
theorem kX10_called_21 {G : Nat × Nat × Nat × Option (Nat × (Nat → Int32)) × (Option Value → qW → Prop)} {L : qL} {w : qW} {kc ks : Nat} {rest : List Value} {q : Nat} {x0 : Int32} {d mc ms : Nat} {Q : Option Value → qW → Prop} (hC : CT mX10_isCalledBack d mc ms [.ref q, .int x0] w Q) (hq : qci w q = some 10) (hst : rest.length ≤ 4) (hdp : d + 1 ≤ G.1) (hmc : kc + mc ≤ G.2.1 ∧ ks + ms ≤ G.2.2.1) (k : ∀ r w', Q r w' → AW (mX10_called, G) 24 L (r.toList ++ rest) w' (kc + mc) (ks + ms)) : AW (mX10_called, G) 21 L (.int x0 :: .ref q :: rest) w kc ks := a_callV [.int x0] rest dX10_called_21 vX10_isCalledBack lk681 hC hq rfl rfl hst hdp hmc k
theorem dX10_count_0 : decode cX10_count 0 = .ok (.iload_n 1, 1) := by decide +kernel
theorem dX10_count_1 : decode cX10_count 1 = .ok (.tableswitch 115 0 8 #[51, 59, 67, 72, 80, 88, 96, 102, 107], 51) := by decide +kernel
theorem dX10_count_52 : decode cX10_count 52 = .ok (.aload_n 0, 1) := by decide +kernel
theorem dX10_count_53 : decode cX10_count 53 = .ok (.getfield 14, 3) := by decide +kernel
theorem dX10_count_56 : decode cX10_count 56 = .ok (.invokevirtual 190, 3) := by decide +kernel
theorem dX10_count_59 : decode cX10_count 59 = .ok (.ireturn, 1) := by decide +kernel
theorem dX10_count_60 : decode cX10_count 60 = .ok (.aload_n 0, 1) := by decide +kernel
theorem dX10_count_61 : decode cX10_count 61 = .ok (.getfield 24, 3) := by decide +kernel
theorem dX10_count_64 : decode cX10_count 64 = .ok (.invokevirtual 255, 3) := by decide +kernel
theorem dX10_count_67 : decode cX10_count 67 = .ok (.ireturn, 1) := by decide +kernel
theorem dX10_count_68 : decode cX10_count 68 = .ok (.aload_n 0, 1) := by decide +kernel
theorem dX10_count_69 : decode cX10_count 69 = .ok (.getfield 79, 3) := by decide +kernel
theorem dX10_count_72 : decode cX10_count 72 = .ok (.ireturn, 1) := by decide +kernel
theorem dX10_count_73 : decode cX10_count 73 = .ok (.aload_n 0, 1) := by decide +kernel
theorem dX10_count_74 : decode cX10_count 74 = .ok (.getfield 18, 3) := by decide +kernel
theorem dX10_count_77 : decode cX10_count 77 = .ok (.invokevirtual 190, 3) := by decide +kernel
theorem dX10_count_80 : decode cX10_count 80 = .ok (.ireturn, 1) := by decide +kernel
theorem dX10_count_81 : decode cX10_count 81 = .ok (.aload_n 0, 1) := by decide +kernel
theorem dX10_count_82 : decode cX10_count 82 = .ok (.getfield 52, 3) := by decide +kernel
theorem dX10_count_85 : decode cX10_count 85 = .ok (.invokevirtual 256, 3) := by decide +kernel
theorem dX10_count_88 : decode cX10_count 88 = .ok (.ireturn, 1) := by decide +kernel
theorem dX10_count_89 : decode cX10_count 89 = .ok (.aload_n 0, 1) := by decide +kernel
theorem dX10_count_90 : decode cX10_count 90 = .ok (.getfield 45, 3) := by decide +kernel
theorem dX10_count_93 : decode cX10_count 93 = .ok (.invokevirtual 257, 3) := by decide +kernel
theorem dX10_count_96 : decode cX10_count 96 = .ok (.ireturn, 1) := by decide +kernel
theorem dX10_count_97 : decode cX10_count 97 = .ok (.aload_n 0, 1) := by decide +kernel
theorem dX10_count_98 : decode cX10_count 98 = .ok (.iconst (-1), 1) := by decide +kernel
theorem dX10_count_99 : decode cX10_count 99 = .ok (.invokevirtual 234, 3) := by decide +kernel
theorem dX10_count_102 : decode cX10_count 102 = .ok (.ireturn, 1) := by decide +kernel
theorem dX10_count_103 : decode cX10_count 103 = .ok (.aload_n 0, 1) := by decide +kernel
theorem dX10_count_104 : decode cX10_count 104 = .ok (.invokevirtual 207, 3) := by decide +kernel
theorem dX10_count_107 : decode cX10_count 107 = .ok (.ireturn, 1) := by decide +kernel
theorem dX10_count_108 : decode cX10_count 108 = .ok (.aload_n 0, 1) := by decide +kernel
theorem dX10_count_109 : decode cX10_count 109 = .ok (.getfield 52, 3) := by decide +kernel
theorem dX10_count_112 : decode cX10_count 112 = .ok (.invokevirtual 258, 3) := by decide +kernel
theorem dX10_count_115 : decode cX10_count 115 = .ok (.ireturn, 1) := by decide +kernel
theorem dX10_count_116 : decode cX10_count 116 = .ok (.iconst (-1), 1) := by decide +kernel
theorem dX10_count_117 : decode cX10_count 117 = .ok (.ireturn, 1) := by decide +kernel
/-! SealLine.count(I)I -/
theorem eX10_count {d mc ms : Nat} {w : qW} {Q : Option Value → qW → Prop} {q : Nat} {x0 : Int32} (h : AW (mX10_count, d, mc, ms, none, Q) 0 [some (.ref q), some (.int x0)] [] w 0 0) : CT mX10_count d mc ms [.ref q, .int x0] w Q := CT_of (by decide +kernel) rfl (Nat.le_of_ble_eq_true rfl) h
def bX10_count_0 (G : Nat × Nat × Nat × Option (Nat × (Nat → Int32)) × (Option Value → qW → Prop)) : qK := (s_iload 1 (AW (mX10_count, G) 1))
theorem oX10_count_0 (G : Nat × Nat × Nat × Option (Nat × (Nat → Int32)) × (Option Value → qW → Prop)) : qImp (bX10_count_0 G) (AW (mX10_count, G) 0) := (r_iload_n dX10_count_0 rfl qImp.rf)
def bX10_count_52 (G : Nat × Nat × Nat × Option (Nat × (Nat → Int32)) × (Option Value → qW → Prop)) : qK := (s_aload 0 (s_getfield 10 0 (AW (mX10_count, G) 56)))
theorem oX10_count_52 (G : Nat × Nat × Nat × Option (Nat × (Nat → Int32)) × (Option Value → qW → Prop)) : qImp (bX10_count_52 G) (AW (mX10_count, G) 52) := (r_aload_n dX10_count_52 rfl (r_getfield dX10_count_53 fgX10_14 qImp.rf))
def bX10_count_59 (G : Nat × Nat × Nat × Option (Nat × (Nat → Int32)) × (Option Value → qW → Prop)) : qK := (s_ireturn (mX10_count, G))
theorem oX10_count_59 (G : Nat × Nat × Nat × Option (Nat × (Nat → Int32)) × (Option Value → qW → Prop)) : qImp (bX10_count_59 G) (AW (mX10_count, G) 59) := (r_ireturn dX10_count_59 rfl)
def bX10_count_60 (G : Nat × Nat × Nat × Option (Nat × (Nat → Int32)) × (Option Value → qW → Prop)) : qK := (s_aload 0 (s_getfield 10 2 (AW (mX10_count, G) 64)))
theorem oX10_count_60 (G : Nat × Nat × Nat × Option (Nat × (Nat → Int32)) × (Option Value → qW → Prop)) : qImp (bX10_count_60 G) (AW (mX10_count, G) 60) := (r_aload_n dX10_count_60 rfl (r_getfield dX10_count_61 fgX10_24 qImp.rf))
def bX10_count_67 (G : Nat × Nat × Nat × Option (Nat × (Nat → Int32)) × (Option Value → qW → Prop)) : qK := (s_ireturn (mX10_count, G))
theorem oX10_count_67 (G : Nat × Nat × Nat × Option (Nat × (Nat → Int32)) × (Option Value → qW → Prop)) : qImp (bX10_count_67 G) (AW (mX10_count, G) 67) := (r_ireturn dX10_count_67 rfl)
def bX10_count_68 (G : Nat × Nat × Nat × Option (Nat × (Nat → Int32)) × (Option Value → qW → Prop)) : qK := (s_aload 0 (s_getfield 10 10 (s_ireturn (mX10_count, G))))
theorem oX10_count_68 (G : Nat × Nat × Nat × Option (Nat × (Nat → Int32)) × (Option Value → qW → Prop)) : qImp (bX10_count_68 G) (AW (mX10_count, G) 68) := (r_aload_n dX10_count_68 rfl (r_getfield dX10_count_69 fgX10_79 (r_ireturn dX10_count_72 rfl)))
def bX10_count_73 (G : Nat × Nat × Nat × Option (Nat × (Nat → Int32)) × (Option Value → qW → Prop)) : qK := (s_aload 0 (s_getfield 10 1 (AW (mX10_count, G) 77)))
theorem oX10_count_73 (G : Nat × Nat × Nat × Option (Nat × (Nat → Int32)) × (Option Value → qW → Prop)) : qImp (bX10_count_73 G) (AW (mX10_count, G) 73) := (r_aload_n dX10_count_73 rfl (r_getfield dX10_count_74 fgX10_18 qImp.rf))
def bX10_count_80 (G : Nat × Nat × Nat × Option (Nat × (Nat → Int32)) × (Option Value → qW → Prop)) : qK := (s_ireturn (mX10_count, G))
theorem oX10_count_80 (G : Nat × Nat × Nat × Option (Nat × (Nat → Int32)) × (Option Value → qW → Prop)) : qImp (bX10_count_80 G) (AW (mX10_count, G) 80) := (r_ireturn dX10_count_80 rfl)
def bX10_count_81 (G : Nat × Nat × Nat × Option (Nat × (Nat → Int32)) × (Option Value → qW → Prop)) : qK := (s_aload 0 (s_getfield 10 6 (AW (mX10_count, G) 85)))
theorem oX10_count_81 (G : Nat × Nat × Nat × Option (Nat × (Nat → Int32)) × (Option Value → qW → Prop)) : qImp (bX10_count_81 G) (AW (mX10_count, G) 81) := (r_aload_n dX10_count_81 rfl (r_getfield dX10_count_82 fgX10_52 qImp.rf))
def bX10_count_88 (G : Nat × Nat × Nat × Option (Nat × (Nat → Int32)) × (Option Value → qW → Prop)) : qK := (s_ireturn (mX10_count, G))
theorem oX10_count_88 (G : Nat × Nat × Nat × Option (Nat × (Nat → Int32)) × (Option Value → qW → Prop)) : qImp (bX10_count_88 G) (AW (mX10_count, G) 88) := (r_ireturn dX10_count_88 rfl)
def bX10_count_89 (G : Nat × Nat × Nat × Option (Nat × (Nat → Int32)) × (Option Value → qW → Prop)) : qK := (s_aload 0 (s_getfield 10 5 (AW (mX10_count, G) 93)))
theorem oX10_count_89 (G : Nat × Nat × Nat × Option (Nat × (Nat → Int32)) × (Option Value → qW → Prop)) : qImp (bX10_count_89 G) (AW (mX10_count, G) 89) := (r_aload_n dX10_count_89 rfl (r_getfield dX10_count_90 fgX10_45 qImp.rf))
def bX10_count_96 (G : Nat × Nat × Nat × Option (Nat × (Nat → Int32)) × (Option Value → qW → Prop)) : qK := (s_ireturn (mX10_count, G))
theorem oX10_count_96 (G : Nat × Nat × Nat × Option (Nat × (Nat → Int32)) × (Option Value → qW → Prop)) : qImp (bX10_count_96 G) (AW (mX10_count, G) 96) := (r_ireturn dX10_count_96 rfl)
def bX10_count_97 (G : Nat × Nat × Nat × Option (Nat × (Nat → Int32)) × (Option Value → qW → Prop)) : qK := (s_aload 0 (s_iconst (-1) (AW (mX10_count, G) 99)))
theorem oX10_count_97 (G : Nat × Nat × Nat × Option (Nat × (Nat → Int32)) × (Option Value → qW → Prop)) : qImp (bX10_count_97 G) (AW (mX10_count, G) 97) := (r_aload_n dX10_count_97 rfl (r_iconst dX10_count_98 rfl qImp.rf))
def bX10_count_102 (G : Nat × Nat × Nat × Option (Nat × (Nat → Int32)) × (Option Value → qW → Prop)) : qK := (s_ireturn (mX10_count, G))
theorem oX10_count_102 (G : Nat × Nat × Nat × Option (Nat × (Nat → Int32)) × (Option Value → qW → Prop)) : qImp (bX10_count_102 G) (AW (mX10_count, G) 102) := (r_ireturn dX10_count_102 rfl)
def bX10_count_103 (G : Nat × Nat × Nat × Option (Nat × (Nat → Int32)) × (Option Value → qW → Prop)) : qK := (s_aload 0 (AW (mX10_count, G) 104))
theorem oX10_count_103 (G : Nat × Nat × Nat × Option (Nat × (Nat → Int32)) × (Option Value → qW → Prop)) : qImp (bX10_count_103 G) (AW (mX10_count, G) 103) := (r_aload_n dX10_count_103 rfl qImp.rf)
def bX10_count_107 (G : Nat × Nat × Nat × Option (Nat × (Nat → Int32)) × (Option Value → qW → Prop)) : qK := (s_ireturn (mX10_count, G))
theorem oX10_count_107 (G : Nat × Nat × Nat × Option (Nat × (Nat → Int32)) × (Option Value → qW → Prop)) : qImp (bX10_count_107 G) (AW (mX10_count, G) 107) := (r_ireturn dX10_count_107 rfl)
def bX10_count_108 (G : Nat × Nat × Nat × Option (Nat × (Nat → Int32)) × (Option Value → qW → Prop)) : qK := (s_aload 0 (s_getfield 10 6 (AW (mX10_count, G) 112)))
theorem oX10_count_108 (G : Nat × Nat × Nat × Option (Nat × (Nat → Int32)) × (Option Value → qW → Prop)) : qImp (bX10_count_108 G) (AW (mX10_count, G) 108) := (r_aload_n dX10_count_108 rfl (r_getfield dX10_count_109 fgX10_52 qImp.rf))
def bX10_count_115 (G : Nat × Nat × Nat × Option (Nat × (Nat → Int32)) × (Option Value → qW → Prop)) : qK := (s_ireturn (mX10_count, G))
theorem oX10_count_115 (G : Nat × Nat × Nat × Option (Nat × (Nat → Int32)) × (Option Value → qW → Prop)) : qImp (bX10_count_115 G) (AW (mX10_count, G) 115) := (r_ireturn dX10_count_115 rfl)
def bX10_count_116 (G : Nat × Nat × Nat × Option (Nat × (Nat → Int32)) × (Option Value → qW → Prop)) : qK := (s_iconst (-1) (s_ireturn (mX10_count, G)))
theorem oX10_count_116 (G : Nat × Nat × Nat × Option (Nat × (Nat → Int32)) × (Option Value → qW → Prop)) : qImp (bX10_count_116 G) (AW (mX10_count, G) 116) := (r_iconst dX10_count_116 rfl (r_ireturn dX10_count_117 rfl))
theorem kX10_count_56 {G : Nat × Nat × Nat × Option (Nat × (Nat → Int32)) × (Option Value → qW → Prop)} {L : qL} {w : qW} {kc ks : Nat} {rest : List Value} {q : Nat}  {d mc ms : Nat} {Q : Option Value → qW → Prop} (hC : CT mX8_size d mc ms [.ref q] w Q) (hq : qci w q = some 8) (hst : rest.length ≤ 4) (hdp : d + 1 ≤ G.1) (hmc : kc + mc ≤ G.2.1 ∧ ks + ms ≤ G.2.2.1) (k : ∀ r w', Q r w' → AW (mX10_count, G) 59 L (r.toList ++ rest) w' (kc + mc) (ks + ms)) : AW (mX10_count, G) 56 L (.ref q :: rest) w kc ks := a_callV [] rest dX10_count_56 vX8_size lk727 hC hq rfl rfl hst hdp hmc k
theorem kX10_count_64 {G : Nat × Nat × Nat × Option (Nat × (Nat → Int32)) × (Option Value → qW → Prop)} {L : qL} {w : qW} {kc ks : Nat} {rest : List Value} {q : Nat}  {d mc ms : Nat} {Q : Option Value → qW → Prop} (hC : CT mX7_size d mc ms [.ref q] w Q) (hq : qci w q = some 7) (hst : rest.length ≤ 4) (hdp : d + 1 ≤ G.1) (hmc : kc + mc ≤ G.2.1 ∧ ks + ms ≤ G.2.2.1) (k : ∀ r w', Q r w' → AW (mX10_count, G) 67 L (r.toList ++ rest) w' (kc + mc) (ks + ms)) : AW (mX10_count, G) 64 L (.ref q :: rest) w kc ks := a_callV [] rest dX10_count_64 vX7_size lk754 hC hq rfl rfl hst hdp hmc k
theorem kX10_count_77 {G : Nat × Nat × Nat × Option (Nat × (Nat → Int32)) × (Option Value → qW → Prop)} {L : qL} {w : qW} {kc ks : Nat} {rest : List Value} {q : Nat}  {d mc ms : Nat} {Q : Option Value → qW → Prop} (hC : CT mX8_size d mc ms [.ref q] w Q) (hq : qci w q = some 8) (hst : rest.length ≤ 4) (hdp : d + 1 ≤ G.1) (hmc : kc + mc ≤ G.2.1 ∧ ks + ms ≤ G.2.2.1) (k : ∀ r w', Q r w' → AW (mX10_count, G) 80 L (r.toList ++ rest) w' (kc + mc) (ks + ms)) : AW (mX10_count, G) 77 L (.ref q :: rest) w kc ks := a_callV [] rest dX10_count_77 vX8_size lk727 hC hq rfl rfl hst hdp hmc k
theorem kX10_count_85 {G : Nat × Nat × Nat × Option (Nat × (Nat → Int32)) × (Option Value → qW → Prop)} {L : qL} {w : qW} {kc ks : Nat} {rest : List Value} {q : Nat}  {d mc ms : Nat} {Q : Option Value → qW → Prop} (hC : CT mX4_size d mc ms [.ref q] w Q) (hq : qci w q = some 4) (hst : rest.length ≤ 4) (hdp : d + 1 ≤ G.1) (hmc : kc + mc ≤ G.2.1 ∧ ks + ms ≤ G.2.2.1) (k : ∀ r w', Q r w' → AW (mX10_count, G) 88 L (r.toList ++ rest) w' (kc + mc) (ks + ms)) : AW (mX10_count, G) 85 L (.ref q :: rest) w kc ks := a_callV [] rest dX10_count_85 vX4_size lk878 hC hq rfl rfl hst hdp hmc k
theorem kX10_count_93 {G : Nat × Nat × Nat × Option (Nat × (Nat → Int32)) × (Option Value → qW → Prop)} {L : qL} {w : qW} {kc ks : Nat} {rest : List Value} {q : Nat}  {d mc ms : Nat} {Q : Option Value → qW → Prop} (hC : CT mX9_size d mc ms [.ref q] w Q) (hq : qci w q = some 9) (hst : rest.length ≤ 4) (hdp : d + 1 ≤ G.1) (hmc : kc + mc ≤ G.2.1 ∧ ks + ms ≤ G.2.2.1) (k : ∀ r w', Q r w' → AW (mX10_count, G) 96 L (r.toList ++ rest) w' (kc + mc) (ks + ms)) : AW (mX10_count, G) 93 L (.ref q :: rest) w kc ks := a_callV [] rest dX10_count_93 vX9_size lk882 hC hq rfl rfl hst hdp hmc k
theorem kX10_count_99 {G : Nat × Nat × Nat × Option (Nat × (Nat → Int32)) × (Option Value → qW → Prop)} {L : qL} {w : qW} {kc ks : Nat} {rest : List Value} {q : Nat} {x0 : Int32} {d mc ms : Nat} {Q : Option Value → qW → Prop} (hC : CT mX10_manyStanding d mc ms [.ref q, .int x0] w Q) (hq : qci w q = some 10) (hst : rest.length ≤ 4) (hdp : d + 1 ≤ G.1) (hmc : kc + mc ≤ G.2.1 ∧ ks + ms ≤ G.2.2.1) (k : ∀ r w', Q r w' → AW (mX10_count, G) 102 L (r.toList ++ rest) w' (kc + mc) (ks + ms)) : AW (mX10_count, G) 99 L (.int x0 :: .ref q :: rest) w kc ks := a_callV [.int x0] rest dX10_count_99 vX10_manyStanding lk777 hC hq rfl rfl hst hdp hmc k
theorem kX10_count_104 {G : Nat × Nat × Nat × Option (Nat × (Nat → Int32)) × (Option Value → qW → Prop)} {L : qL} {w : qW} {kc ks : Nat} {rest : List Value} {q : Nat}  {d mc ms : Nat} {Q : Option Value → qW → Prop} (hC : CT mX10_manyCalledBack d mc ms [.ref q] w Q) (hq : qci w q = some 10) (hst : rest.length ≤ 4) (hdp : d + 1 ≤ G.1) (hmc : kc + mc ≤ G.2.1 ∧ ks + ms ≤ G.2.2.1) (k : ∀ r w', Q r w' → AW (mX10_count, G) 107 L (r.toList ++ rest) w' (kc + mc) (ks + ms)) : AW (mX10_count, G) 104 L (.ref q :: rest) w kc ks := a_callV [] rest dX10_count_104 vX10_manyCalledBack lk750 hC hq rfl rfl hst hdp hmc k
theorem kX10_count_112 {G : Nat × Nat × Nat × Option (Nat × (Nat → Int32)) × (Option Value → qW → Prop)} {L : qL} {w : qW} {kc ks : Nat} {rest : List Value} {q : Nat}  {d mc ms : Nat} {Q : Option Value → qW → Prop} (hC : CT mX4_first d mc ms [.ref q] w Q) (hq : qci w q = some 4) (hst : rest.length ≤ 4) (hdp : d + 1 ≤ G.1) (hmc : kc + mc ≤ G.2.1 ∧ ks + ms ≤ G.2.2.1) (k : ∀ r w', Q r w' → AW (mX10_count, G) 115 L (r.toList ++ rest) w' (kc + mc) (ks + ms)) : AW (mX10_count, G) 112 L (.ref q :: rest) w kc ks := a_callV [] rest dX10_count_112 vX4_first lk626 hC hq rfl rfl hst hdp hmc k
theorem dX10_key_0 : decode cX10_key 0 = .ok (.aload_n 0, 1) := by decide +kernel
theorem dX10_key_1 : decode cX10_key 1 = .ok (.getfield 59, 3) := by decide +kernel
theorem dX10_key_4 : decode cX10_key 4 = .ok (.iload_n 1, 1) := by decide +kernel
theorem dX10_key_5 : decode cX10_key 5 = .ok (.iload_n 2, 1) := by decide +kernel
theorem dX10_key_6 : decode cX10_key 6 = .ok (.invokevirtual 261, 3) := by decide +kernel
theorem dX10_key_9 : decode cX10_key 9 = .ok (.ireturn, 1) := by decide +kernel
/-! SealLine.key(II)I -/
theorem eX10_key {d mc ms : Nat} {w : qW} {Q : Option Value → qW → Prop} {q : Nat} {x0 : Int32} {x1 : Int32} (h : AW (mX10_key, d, mc, ms, none, Q) 0 [some (.ref q), some (.int x0), some (.int x1)] [] w 0 0) : CT mX10_key d mc ms [.ref q, .int x0, .int x1] w Q := CT_of (by decide +kernel) rfl (Nat.le_of_ble_eq_true rfl) h
def bX10_key_0 (G : Nat × Nat × Nat × Option (Nat × (Nat → Int32)) × (Option Value → qW → Prop)) : qK := (s_aload 0 (s_getfield 10 7 (s_iload 1 (s_iload 2 (AW (mX10_key, G) 6)))))
theorem oX10_key_0 (G : Nat × Nat × Nat × Option (Nat × (Nat → Int32)) × (Option Value → qW → Prop)) : qImp (bX10_key_0 G) (AW (mX10_key, G) 0) := (r_aload_n dX10_key_0 rfl (r_getfield dX10_key_1 fgX10_59 (r_iload_n dX10_key_4 rfl (r_iload_n dX10_key_5 rfl qImp.rf))))
def bX10_key_9 (G : Nat × Nat × Nat × Option (Nat × (Nat → Int32)) × (Option Value → qW → Prop)) : qK := (s_ireturn (mX10_key, G))
theorem oX10_key_9 (G : Nat × Nat × Nat × Option (Nat × (Nat → Int32)) × (Option Value → qW → Prop)) : qImp (bX10_key_9 G) (AW (mX10_key, G) 9) := (r_ireturn dX10_key_9 rfl)
theorem kX10_key_6 {G : Nat × Nat × Nat × Option (Nat × (Nat → Int32)) × (Option Value → qW → Prop)} {L : qL} {w : qW} {kc ks : Nat} {rest : List Value} {q : Nat} {x0 : Int32} {x1 : Int32} {d mc ms : Nat} {Q : Option Value → qW → Prop} (hC : CT mX2_tell d mc ms [.ref q, .int x0, .int x1] w Q) (hq : qci w q = some 2) (hst : rest.length ≤ 4) (hdp : d + 1 ≤ G.1) (hmc : kc + mc ≤ G.2.1 ∧ ks + ms ≤ G.2.2.1) (k : ∀ r w', Q r w' → AW (mX10_key, G) 9 L (r.toList ++ rest) w' (kc + mc) (ks + ms)) : AW (mX10_key, G) 6 L (.int x1 :: .int x0 :: .ref q :: rest) w kc ks := a_callV [.int x0, .int x1] rest dX10_key_6 vX2_tell lk890 hC hq rfl rfl hst hdp hmc k
