theorem dX11_builders_0 : decode cX11_builders 0 = .ok (.iconst 0, 1) := by decide +kernel
theorem dX11_builders_1 : decode cX11_builders 1 = .ok (.istore_n 2, 1) := by decide +kernel
theorem dX11_builders_2 : decode cX11_builders 2 = .ok (.iconst 0, 1) := by decide +kernel
theorem dX11_builders_3 : decode cX11_builders 3 = .ok (.istore_n 3, 1) := by decide +kernel
theorem dX11_builders_4 : decode cX11_builders 4 = .ok (.iload_n 3, 1) := by decide +kernel
theorem dX11_builders_5 : decode cX11_builders 5 = .ok (.aload_n 0, 1) := by decide +kernel
theorem dX11_builders_6 : decode cX11_builders 6 = .ok (.getfield 104, 3) := by decide +kernel
theorem dX11_builders_9 : decode cX11_builders 9 = .ok (.if_icmp .ge 54, 3) := by decide +kernel
theorem dX11_builders_12 : decode cX11_builders 12 = .ok (.iload_n 2, 1) := by decide +kernel
theorem dX11_builders_13 : decode cX11_builders 13 = .ok (.aload_n 0, 1) := by decide +kernel
theorem dX11_builders_14 : decode cX11_builders 14 = .ok (.getfield 13, 3) := by decide +kernel
theorem dX11_builders_17 : decode cX11_builders 17 = .ok (.iload_n 3, 1) := by decide +kernel
theorem dX11_builders_18 : decode cX11_builders 18 = .ok (.iaload, 1) := by decide +kernel
theorem dX11_builders_19 : decode cX11_builders 19 = .ok (.iconst 1, 1) := by decide +kernel
theorem dX11_builders_20 : decode cX11_builders 20 = .ok (.if_icmp .ne 34, 3) := by decide +kernel
theorem dX11_builders_23 : decode cX11_builders 23 = .ok (.aload_n 0, 1) := by decide +kernel
theorem dX11_builders_24 : decode cX11_builders 24 = .ok (.getfield 17, 3) := by decide +kernel
theorem dX11_builders_27 : decode cX11_builders 27 = .ok (.iload_n 3, 1) := by decide +kernel
theorem dX11_builders_28 : decode cX11_builders 28 = .ok (.iaload, 1) := by decide +kernel
theorem dX11_builders_29 : decode cX11_builders 29 = .ok (.iload_n 1, 1) := by decide +kernel
theorem dX11_builders_30 : decode cX11_builders 30 = .ok (.if_icmp .ne 24, 3) := by decide +kernel
theorem dX11_builders_33 : decode cX11_builders 33 = .ok (.aload_n 0, 1) := by decide +kernel
theorem dX11_builders_34 : decode cX11_builders 34 = .ok (.getfield 38, 3) := by decide +kernel
theorem dX11_builders_37 : decode cX11_builders 37 = .ok (.iload_n 3, 1) := by decide +kernel
theorem dX11_builders_38 : decode cX11_builders 38 = .ok (.iaload, 1) := by decide +kernel
theorem dX11_builders_39 : decode cX11_builders 39 = .ok (.iconst 1, 1) := by decide +kernel
theorem dX11_builders_40 : decode cX11_builders 40 = .ok (.if_icmp .ne 14, 3) := by decide +kernel
theorem dX11_builders_43 : decode cX11_builders 43 = .ok (.iconst 1, 1) := by decide +kernel
theorem dX11_builders_44 : decode cX11_builders 44 = .ok (.aload_n 0, 1) := by decide +kernel
theorem dX11_builders_45 : decode cX11_builders 45 = .ok (.getfield 20, 3) := by decide +kernel
theorem dX11_builders_48 : decode cX11_builders 48 = .ok (.iload_n 3, 1) := by decide +kernel
theorem dX11_builders_49 : decode cX11_builders 49 = .ok (.iaload, 1) := by decide +kernel
theorem dX11_builders_50 : decode cX11_builders 50 = .ok (.ishl, 1) := by decide +kernel
theorem dX11_builders_51 : decode cX11_builders 51 = .ok (.goto 4, 3) := by decide +kernel
theorem dX11_builders_54 : decode cX11_builders 54 = .ok (.iconst 0, 1) := by decide +kernel
theorem dX11_builders_55 : decode cX11_builders 55 = .ok (.ior, 1) := by decide +kernel
theorem dX11_builders_56 : decode cX11_builders 56 = .ok (.istore_n 2, 1) := by decide +kernel
theorem dX11_builders_57 : decode cX11_builders 57 = .ok (.iinc 3 1, 3) := by decide +kernel
theorem dX11_builders_60 : decode cX11_builders 60 = .ok (.goto (-56), 3) := by decide +kernel
theorem dX11_builders_63 : decode cX11_builders 63 = .ok (.iload_n 2, 1) := by decide +kernel
theorem dX11_builders_64 : decode cX11_builders 64 = .ok (.invokestatic 163, 3) := by decide +kernel
theorem dX11_builders_67 : decode cX11_builders 67 = .ok (.ireturn, 1) := by decide +kernel
/-! SealLineModel.builders(I)I -/
theorem eX11_builders {d mc ms : Nat} {w : qW} {Q : Option Value → qW → Prop} {q : Nat} {x0 : Int32} (h : AW (mX11_builders, d, mc, ms, none, Q) 0 [some (.ref q), some (.int x0), none, none] [] w 0 0) : CT mX11_builders d mc ms [.ref q, .int x0] w Q := CT_of (by decide +kernel) rfl (Nat.le_of_ble_eq_true rfl) h
def bX11_builders_0 (G : Nat × Nat × Nat × Option (Nat × (Nat → Int32)) × (Option Value → qW → Prop)) : qK := (s_iconst 0 (s_istore 2 1 (s_iconst 0 (s_istore 3 2 (AW (mX11_builders, G) 4)))))
theorem oX11_builders_0 (G : Nat × Nat × Nat × Option (Nat × (Nat → Int32)) × (Option Value → qW → Prop)) : qImp (bX11_builders_0 G) (AW (mX11_builders, G) 0) := (r_iconst dX11_builders_0 rfl (r_istore_n dX11_builders_1 rfl (Or.inr rfl) (Nat.le_of_ble_eq_true rfl) (r_iconst dX11_builders_2 rfl (r_istore_n dX11_builders_3 rfl (Or.inr rfl) (Nat.le_of_ble_eq_true rfl) qImp.rf))))
def bX11_builders_4 (G : Nat × Nat × Nat × Option (Nat × (Nat → Int32)) × (Option Value → qW → Prop)) : qK := (s_iload 3 (s_aload 0 (s_getfield 11 0 (s_ic_ge (AW (mX11_builders, G) 63) (s_iload 2 (s_aload 0 (s_getfield 11 7 (s_iload 3 (s_iaload (mX11_builders, G) (s_iconst 1 (s_ic_ne (AW (mX11_builders, G) 54) (s_aload 0 (s_getfield 11 8 (s_iload 3 (s_iaload (mX11_builders, G) (s_iload 1 (s_ic_ne (AW (mX11_builders, G) 54) (s_aload 0 (s_getfield 11 15 (s_iload 3 (s_iaload (mX11_builders, G) (s_iconst 1 (s_ic_ne (AW (mX11_builders, G) 54) (s_iconst 1 (s_aload 0 (s_getfield 11 9 (s_iload 3 (s_iaload (mX11_builders, G) (s_ishl (AW (mX11_builders, G) 55))))))))))))))))))))))))))))))
theorem oX11_builders_4 (G : Nat × Nat × Nat × Option (Nat × (Nat → Int32)) × (Option Value → qW → Prop)) : qImp (bX11_builders_4 G) (AW (mX11_builders, G) 4) := (r_iload_n dX11_builders_4 rfl (r_aload_n dX11_builders_5 rfl (r_getfield dX11_builders_6 fgX11_104 (r_ic_ge (tgt := 63) dX11_builders_9 rfl qImp.rf (r_iload_n dX11_builders_12 rfl (r_aload_n dX11_builders_13 rfl (r_getfield dX11_builders_14 fgX11_13 (r_iload_n dX11_builders_17 rfl (r_iaload dX11_builders_18 (r_iconst dX11_builders_19 rfl (r_ic_ne (tgt := 54) dX11_builders_20 rfl qImp.rf (r_aload_n dX11_builders_23 rfl (r_getfield dX11_builders_24 fgX11_17 (r_iload_n dX11_builders_27 rfl (r_iaload dX11_builders_28 (r_iload_n dX11_builders_29 rfl (r_ic_ne (tgt := 54) dX11_builders_30 rfl qImp.rf (r_aload_n dX11_builders_33 rfl (r_getfield dX11_builders_34 fgX11_38 (r_iload_n dX11_builders_37 rfl (r_iaload dX11_builders_38 (r_iconst dX11_builders_39 rfl (r_ic_ne (tgt := 54) dX11_builders_40 rfl qImp.rf (r_iconst dX11_builders_43 rfl (r_aload_n dX11_builders_44 rfl (r_getfield dX11_builders_45 fgX11_20 (r_iload_n dX11_builders_48 rfl (r_iaload dX11_builders_49 (r_ishl dX11_builders_50 (r_goto (tgt := 55) dX11_builders_51 rfl qImp.rf))))))))))))))))))))))))))))))
def bX11_builders_54 (G : Nat × Nat × Nat × Option (Nat × (Nat → Int32)) × (Option Value → qW → Prop)) : qK := (s_iconst 0 (AW (mX11_builders, G) 55))
theorem oX11_builders_54 (G : Nat × Nat × Nat × Option (Nat × (Nat → Int32)) × (Option Value → qW → Prop)) : qImp (bX11_builders_54 G) (AW (mX11_builders, G) 54) := (r_iconst dX11_builders_54 rfl qImp.rf)
def bX11_builders_55 (G : Nat × Nat × Nat × Option (Nat × (Nat → Int32)) × (Option Value → qW → Prop)) : qK := (s_ior (s_istore 2 1 (s_iinc 3 2 1 (AW (mX11_builders, G) 4))))
theorem oX11_builders_55 (G : Nat × Nat × Nat × Option (Nat × (Nat → Int32)) × (Option Value → qW → Prop)) : qImp (bX11_builders_55 G) (AW (mX11_builders, G) 55) := (r_ior dX11_builders_55 (r_istore_n dX11_builders_56 rfl (Or.inr rfl) (Nat.le_of_ble_eq_true rfl) (r_iinc dX11_builders_57 rfl (Or.inr rfl) (Nat.le_of_ble_eq_true rfl) (r_goto (tgt := 4) dX11_builders_60 rfl qImp.rf))))
def bX11_builders_63 (G : Nat × Nat × Nat × Option (Nat × (Nat → Int32)) × (Option Value → qW → Prop)) : qK := (s_iload 2 (AW (mX11_builders, G) 64))
theorem oX11_builders_63 (G : Nat × Nat × Nat × Option (Nat × (Nat → Int32)) × (Option Value → qW → Prop)) : qImp (bX11_builders_63 G) (AW (mX11_builders, G) 63) := (r_iload_n dX11_builders_63 rfl qImp.rf)
def bX11_builders_67 (G : Nat × Nat × Nat × Option (Nat × (Nat → Int32)) × (Option Value → qW → Prop)) : qK := (s_ireturn (mX11_builders, G))
theorem oX11_builders_67 (G : Nat × Nat × Nat × Option (Nat × (Nat → Int32)) × (Option Value → qW → Prop)) : qImp (bX11_builders_67 G) (AW (mX11_builders, G) 67) := (r_ireturn dX11_builders_67 rfl)
theorem kX11_builders_64 {G : Nat × Nat × Nat × Option (Nat × (Nat → Int32)) × (Option Value → qW → Prop)} {L : qL} {w : qW} {kc ks : Nat} {rest : List Value}  {x0 : Int32} {d mc ms : Nat} {Q : Option Value → qW → Prop} (hC : CT mJ6_bitCount_0f7a4 d mc ms [.int x0] w Q) (hst : rest.length ≤ 4) (hdp : d + 1 ≤ G.1) (hmc : kc + mc ≤ G.2.1 ∧ ks + ms ≤ G.2.2.1) (k : ∀ r w', Q r w' → AW (mX11_builders, G) 67 L (r.toList ++ rest) w' (kc + mc) (ks + ms)) : AW (mX11_builders, G) 64 L (.int x0 :: rest) w kc ks := a_callS [.int x0] rest dX11_builders_64 tJ6_bitCount_0f7a4 lk1172 hC rfl hst hdp hmc k
theorem dX11_feed_0 : decode cX11_feed 0 = .ok (.iconst 0, 1) := by decide +kernel
theorem dX11_feed_1 : decode cX11_feed 1 = .ok (.istore_n 2, 1) := by decide +kernel
theorem dX11_feed_2 : decode cX11_feed 2 = .ok (.iconst 0, 1) := by decide +kernel
theorem dX11_feed_3 : decode cX11_feed 3 = .ok (.istore_n 3, 1) := by decide +kernel
theorem dX11_feed_4 : decode cX11_feed 4 = .ok (.iload_n 3, 1) := by decide +kernel
theorem dX11_feed_5 : decode cX11_feed 5 = .ok (.iconst 4, 1) := by decide +kernel
theorem dX11_feed_6 : decode cX11_feed 6 = .ok (.if_icmp .ge 30, 3) := by decide +kernel
theorem dX11_feed_9 : decode cX11_feed 9 = .ok (.iload_n 2, 1) := by decide +kernel
theorem dX11_feed_10 : decode cX11_feed 10 = .ok (.iload_n 1, 1) := by decide +kernel
theorem dX11_feed_11 : decode cX11_feed 11 = .ok (.bipush 8, 2) := by decide +kernel
theorem dX11_feed_13 : decode cX11_feed 13 = .ok (.iload_n 3, 1) := by decide +kernel
theorem dX11_feed_14 : decode cX11_feed 14 = .ok (.imul, 1) := by decide +kernel
theorem dX11_feed_15 : decode cX11_feed 15 = .ok (.ishr, 1) := by decide +kernel
theorem dX11_feed_16 : decode cX11_feed 16 = .ok (.sipush 255, 3) := by decide +kernel
theorem dX11_feed_19 : decode cX11_feed 19 = .ok (.iand, 1) := by decide +kernel
theorem dX11_feed_20 : decode cX11_feed 20 = .ok (.ifCond .eq 7, 3) := by decide +kernel
theorem dX11_feed_23 : decode cX11_feed 23 = .ok (.iconst 1, 1) := by decide +kernel
theorem dX11_feed_24 : decode cX11_feed 24 = .ok (.goto 4, 3) := by decide +kernel
theorem dX11_feed_27 : decode cX11_feed 27 = .ok (.iconst 0, 1) := by decide +kernel
theorem dX11_feed_28 : decode cX11_feed 28 = .ok (.iadd, 1) := by decide +kernel
theorem dX11_feed_29 : decode cX11_feed 29 = .ok (.istore_n 2, 1) := by decide +kernel
theorem dX11_feed_30 : decode cX11_feed 30 = .ok (.iinc 3 1, 3) := by decide +kernel
theorem dX11_feed_33 : decode cX11_feed 33 = .ok (.goto (-29), 3) := by decide +kernel
theorem dX11_feed_36 : decode cX11_feed 36 = .ok (.aload_n 0, 1) := by decide +kernel
theorem dX11_feed_37 : decode cX11_feed 37 = .ok (.getfield 169, 3) := by decide +kernel
theorem dX11_feed_40 : decode cX11_feed 40 = .ok (.iload_n 2, 1) := by decide +kernel
theorem dX11_feed_41 : decode cX11_feed 41 = .ok (.iadd, 1) := by decide +kernel
theorem dX11_feed_42 : decode cX11_feed 42 = .ok (.bipush 100, 2) := by decide +kernel
theorem dX11_feed_44 : decode cX11_feed 44 = .ok (.if_icmp .le 5, 3) := by decide +kernel
theorem dX11_feed_47 : decode cX11_feed 47 = .ok (.iconst (-1), 1) := by decide +kernel
theorem dX11_feed_48 : decode cX11_feed 48 = .ok (.ireturn, 1) := by decide +kernel
theorem dX11_feed_49 : decode cX11_feed 49 = .ok (.iconst 3, 1) := by decide +kernel
theorem dX11_feed_50 : decode cX11_feed 50 = .ok (.istore_n 3, 1) := by decide +kernel
theorem dX11_feed_51 : decode cX11_feed 51 = .ok (.iload_n 3, 1) := by decide +kernel
theorem dX11_feed_52 : decode cX11_feed 52 = .ok (.ifCond .lt 47, 3) := by decide +kernel
theorem dX11_feed_55 : decode cX11_feed 55 = .ok (.iload_n 1, 1) := by decide +kernel
theorem dX11_feed_56 : decode cX11_feed 56 = .ok (.bipush 8, 2) := by decide +kernel
theorem dX11_feed_58 : decode cX11_feed 58 = .ok (.iload_n 3, 1) := by decide +kernel
theorem dX11_feed_59 : decode cX11_feed 59 = .ok (.imul, 1) := by decide +kernel
theorem dX11_feed_60 : decode cX11_feed 60 = .ok (.ishr, 1) := by decide +kernel
theorem dX11_feed_61 : decode cX11_feed 61 = .ok (.sipush 255, 3) := by decide +kernel
theorem dX11_feed_64 : decode cX11_feed 64 = .ok (.iand, 1) := by decide +kernel
theorem dX11_feed_65 : decode cX11_feed 65 = .ok (.istore 4, 2) := by decide +kernel
theorem dX11_feed_67 : decode cX11_feed 67 = .ok (.iload 4, 2) := by decide +kernel
theorem dX11_feed_69 : decode cX11_feed 69 = .ok (.ifCond .eq 24, 3) := by decide +kernel
theorem dX11_feed_72 : decode cX11_feed 72 = .ok (.aload_n 0, 1) := by decide +kernel
theorem dX11_feed_73 : decode cX11_feed 73 = .ok (.getfield 81, 3) := by decide +kernel
theorem dX11_feed_76 : decode cX11_feed 76 = .ok (.aload_n 0, 1) := by decide +kernel
theorem dX11_feed_77 : decode cX11_feed 77 = .ok (.getfield 169, 3) := by decide +kernel
theorem dX11_feed_80 : decode cX11_feed 80 = .ok (.iload 4, 2) := by decide +kernel
theorem dX11_feed_82 : decode cX11_feed 82 = .ok (.iastore, 1) := by decide +kernel
theorem dX11_feed_83 : decode cX11_feed 83 = .ok (.aload_n 0, 1) := by decide +kernel
theorem dX11_feed_84 : decode cX11_feed 84 = .ok (.dup, 1) := by decide +kernel
theorem dX11_feed_85 : decode cX11_feed 85 = .ok (.getfield 169, 3) := by decide +kernel
theorem dX11_feed_88 : decode cX11_feed 88 = .ok (.iconst 1, 1) := by decide +kernel
theorem dX11_feed_89 : decode cX11_feed 89 = .ok (.iadd, 1) := by decide +kernel
theorem dX11_feed_90 : decode cX11_feed 90 = .ok (.putfield 169, 3) := by decide +kernel
theorem dX11_feed_93 : decode cX11_feed 93 = .ok (.iinc 3 (-1), 3) := by decide +kernel
theorem dX11_feed_96 : decode cX11_feed 96 = .ok (.goto (-45), 3) := by decide +kernel
theorem dX11_feed_99 : decode cX11_feed 99 = .ok (.aload_n 0, 1) := by decide +kernel
theorem dX11_feed_100 : decode cX11_feed 100 = .ok (.getfield 169, 3) := by decide +kernel
theorem dX11_feed_103 : decode cX11_feed 103 = .ok (.ireturn, 1) := by decide +kernel
/-! SealLineModel.feed(I)I -/
theorem eX11_feed {d mc ms : Nat} {w : qW} {Q : Option Value → qW → Prop} {q : Nat} {x0 : Int32} (h : AW (mX11_feed, d, mc, ms, none, Q) 0 [some (.ref q), some (.int x0), none, none, none] [] w 0 0) : CT mX11_feed d mc ms [.ref q, .int x0] w Q := CT_of (by decide +kernel) rfl (Nat.le_of_ble_eq_true rfl) h
def bX11_feed_0 (G : Nat × Nat × Nat × Option (Nat × (Nat → Int32)) × (Option Value → qW → Prop)) : qK := (s_iconst 0 (s_istore 2 1 (s_iconst 0 (s_istore 3 2 (AW (mX11_feed, G) 4)))))
theorem oX11_feed_0 (G : Nat × Nat × Nat × Option (Nat × (Nat → Int32)) × (Option Value → qW → Prop)) : qImp (bX11_feed_0 G) (AW (mX11_feed, G) 0) := (r_iconst dX11_feed_0 rfl (r_istore_n dX11_feed_1 rfl (Or.inr rfl) (Nat.le_of_ble_eq_true rfl) (r_iconst dX11_feed_2 rfl (r_istore_n dX11_feed_3 rfl (Or.inr rfl) (Nat.le_of_ble_eq_true rfl) qImp.rf))))
def bX11_feed_4 (G : Nat × Nat × Nat × Option (Nat × (Nat → Int32)) × (Option Value → qW → Prop)) : qK := (s_iload 3 (s_iconst 4 (s_ic_ge (AW (mX11_feed, G) 36) (s_iload 2 (s_iload 1 (s_iconst 8 (s_iload 3 (s_imul (s_ishr (s_iconst 255 (s_iand (s_if_eq (AW (mX11_feed, G) 27) (s_iconst 1 (AW (mX11_feed, G) 28))))))))))))))
theorem oX11_feed_4 (G : Nat × Nat × Nat × Option (Nat × (Nat → Int32)) × (Option Value → qW → Prop)) : qImp (bX11_feed_4 G) (AW (mX11_feed, G) 4) := (r_iload_n dX11_feed_4 rfl (r_iconst dX11_feed_5 rfl (r_ic_ge (tgt := 36) dX11_feed_6 rfl qImp.rf (r_iload_n dX11_feed_9 rfl (r_iload_n dX11_feed_10 rfl (r_bipush dX11_feed_11 rfl (r_iload_n dX11_feed_13 rfl (r_imul dX11_feed_14 (r_ishr dX11_feed_15 (r_sipush dX11_feed_16 rfl (r_iand dX11_feed_19 (r_if_eq (tgt := 27) dX11_feed_20 rfl qImp.rf (r_iconst dX11_feed_23 rfl (r_goto (tgt := 28) dX11_feed_24 rfl qImp.rf))))))))))))))
def bX11_feed_27 (G : Nat × Nat × Nat × Option (Nat × (Nat → Int32)) × (Option Value → qW → Prop)) : qK := (s_iconst 0 (AW (mX11_feed, G) 28))
theorem oX11_feed_27 (G : Nat × Nat × Nat × Option (Nat × (Nat → Int32)) × (Option Value → qW → Prop)) : qImp (bX11_feed_27 G) (AW (mX11_feed, G) 27) := (r_iconst dX11_feed_27 rfl qImp.rf)
def bX11_feed_28 (G : Nat × Nat × Nat × Option (Nat × (Nat → Int32)) × (Option Value → qW → Prop)) : qK := (s_iadd (s_istore 2 1 (s_iinc 3 2 1 (AW (mX11_feed, G) 4))))
theorem oX11_feed_28 (G : Nat × Nat × Nat × Option (Nat × (Nat → Int32)) × (Option Value → qW → Prop)) : qImp (bX11_feed_28 G) (AW (mX11_feed, G) 28) := (r_iadd dX11_feed_28 (r_istore_n dX11_feed_29 rfl (Or.inr rfl) (Nat.le_of_ble_eq_true rfl) (r_iinc dX11_feed_30 rfl (Or.inr rfl) (Nat.le_of_ble_eq_true rfl) (r_goto (tgt := 4) dX11_feed_33 rfl qImp.rf))))
def bX11_feed_36 (G : Nat × Nat × Nat × Option (Nat × (Nat → Int32)) × (Option Value → qW → Prop)) : qK := (s_aload 0 (s_getfield 11 32 (s_iload 2 (s_iadd (s_iconst 100 (s_ic_le (AW (mX11_feed, G) 49) (s_iconst (-1) (s_ireturn (mX11_feed, G)))))))))
theorem oX11_feed_36 (G : Nat × Nat × Nat × Option (Nat × (Nat → Int32)) × (Option Value → qW → Prop)) : qImp (bX11_feed_36 G) (AW (mX11_feed, G) 36) := (r_aload_n dX11_feed_36 rfl (r_getfield dX11_feed_37 fgX11_169 (r_iload_n dX11_feed_40 rfl (r_iadd dX11_feed_41 (r_bipush dX11_feed_42 rfl (r_ic_le (tgt := 49) dX11_feed_44 rfl qImp.rf (r_iconst dX11_feed_47 rfl (r_ireturn dX11_feed_48 rfl))))))))
def bX11_feed_49 (G : Nat × Nat × Nat × Option (Nat × (Nat → Int32)) × (Option Value → qW → Prop)) : qK := (s_iconst 3 (s_istore 3 2 (AW (mX11_feed, G) 51)))
theorem oX11_feed_49 (G : Nat × Nat × Nat × Option (Nat × (Nat → Int32)) × (Option Value → qW → Prop)) : qImp (bX11_feed_49 G) (AW (mX11_feed, G) 49) := (r_iconst dX11_feed_49 rfl (r_istore_n dX11_feed_50 rfl (Or.inr rfl) (Nat.le_of_ble_eq_true rfl) qImp.rf))
def bX11_feed_51 (G : Nat × Nat × Nat × Option (Nat × (Nat → Int32)) × (Option Value → qW → Prop)) : qK := (s_iload 3 (s_if_lt (AW (mX11_feed, G) 99) (s_iload 1 (s_iconst 8 (s_iload 3 (s_imul (s_ishr (s_iconst 255 (s_iand (s_istore 4 3 (s_iload 4 (s_if_eq (AW (mX11_feed, G) 93) (s_aload 0 (s_getfield 11 29 (s_aload 0 (s_getfield 11 32 (s_iload 4 (s_iastore (s_aload 0 (s_dup (s_getfield 11 32 (s_iconst 1 (s_iadd (s_putI 11 32 (AW (mX11_feed, G) 93)))))))))))))))))))))))))
theorem oX11_feed_51 (G : Nat × Nat × Nat × Option (Nat × (Nat → Int32)) × (Option Value → qW → Prop)) : qImp (bX11_feed_51 G) (AW (mX11_feed, G) 51) := (r_iload_n dX11_feed_51 rfl (r_if_lt (tgt := 99) dX11_feed_52 rfl qImp.rf (r_iload_n dX11_feed_55 rfl (r_bipush dX11_feed_56 rfl (r_iload_n dX11_feed_58 rfl (r_imul dX11_feed_59 (r_ishr dX11_feed_60 (r_sipush dX11_feed_61 rfl (r_iand dX11_feed_64 (r_istore dX11_feed_65 (Or.inr rfl) (Nat.le_of_ble_eq_true rfl) (r_iload dX11_feed_67 (r_if_eq (tgt := 93) dX11_feed_69 rfl qImp.rf (r_aload_n dX11_feed_72 rfl (r_getfield dX11_feed_73 fgX11_81 (r_aload_n dX11_feed_76 rfl (r_getfield dX11_feed_77 fgX11_169 (r_iload dX11_feed_80 (r_iastore dX11_feed_82 (r_aload_n dX11_feed_83 rfl (r_dup dX11_feed_84 (r_getfield dX11_feed_85 fgX11_169 (r_iconst dX11_feed_88 rfl (r_iadd dX11_feed_89 (r_putI dX11_feed_90 fpX11_169 (fun q hq => by cases hq; rfl) qImp.rf))))))))))))))))))))))))
def bX11_feed_93 (G : Nat × Nat × Nat × Option (Nat × (Nat → Int32)) × (Option Value → qW → Prop)) : qK := (s_iinc 3 2 (-1) (AW (mX11_feed, G) 51))
theorem oX11_feed_93 (G : Nat × Nat × Nat × Option (Nat × (Nat → Int32)) × (Option Value → qW → Prop)) : qImp (bX11_feed_93 G) (AW (mX11_feed, G) 93) := (r_iinc dX11_feed_93 rfl (Or.inr rfl) (Nat.le_of_ble_eq_true rfl) (r_goto (tgt := 51) dX11_feed_96 rfl qImp.rf))
def bX11_feed_99 (G : Nat × Nat × Nat × Option (Nat × (Nat → Int32)) × (Option Value → qW → Prop)) : qK := (s_aload 0 (s_getfield 11 32 (s_ireturn (mX11_feed, G))))
theorem oX11_feed_99 (G : Nat × Nat × Nat × Option (Nat × (Nat → Int32)) × (Option Value → qW → Prop)) : qImp (bX11_feed_99 G) (AW (mX11_feed, G) 99) := (r_aload_n dX11_feed_99 rfl (r_getfield dX11_feed_100 fgX11_169 (r_ireturn dX11_feed_103 rfl)))
theorem dX11_end_0 : decode cX11_end 0 = .ok (.iload_n 1, 1) := by decide +kernel
theorem dX11_end_1 : decode cX11_end 1 = .ok (.ifCond .lt 11, 3) := by decide +kernel
theorem dX11_end_4 : decode cX11_end 4 = .ok (.iload_n 1, 1) := by decide +kernel
theorem dX11_end_5 : decode cX11_end 5 = .ok (.aload_n 0, 1) := by decide +kernel
theorem dX11_end_6 : decode cX11_end 6 = .ok (.getfield 169, 3) := by decide +kernel
theorem dX11_end_9 : decode cX11_end 9 = .ok (.if_icmp .le 5, 3) := by decide +kernel
theorem dX11_end_12 : decode cX11_end 12 = .ok (.iconst 0, 1) := by decide +kernel
theorem dX11_end_13 : decode cX11_end 13 = .ok (.ireturn, 1) := by decide +kernel
theorem dX11_end_14 : decode cX11_end 14 = .ok (.aload_n 0, 1) := by decide +kernel
theorem dX11_end_15 : decode cX11_end 15 = .ok (.iload_n 1, 1) := by decide +kernel
theorem dX11_end_16 : decode cX11_end 16 = .ok (.putfield 169, 3) := by decide +kernel
theorem dX11_end_19 : decode cX11_end 19 = .ok (.iconst 1, 1) := by decide +kernel
theorem dX11_end_20 : decode cX11_end 20 = .ok (.ireturn, 1) := by decide +kernel
/-! SealLineModel.end(I)Z -/
theorem eX11_end {d mc ms : Nat} {w : qW} {Q : Option Value → qW → Prop} {q : Nat} {x0 : Int32} (h : AW (mX11_end, d, mc, ms, none, Q) 0 [some (.ref q), some (.int x0)] [] w 0 0) : CT mX11_end d mc ms [.ref q, .int x0] w Q := CT_of (by decide +kernel) rfl (Nat.le_of_ble_eq_true rfl) h
def bX11_end_0 (G : Nat × Nat × Nat × Option (Nat × (Nat → Int32)) × (Option Value → qW → Prop)) : qK := (s_iload 1 (s_if_lt (AW (mX11_end, G) 12) (s_iload 1 (s_aload 0 (s_getfield 11 32 (s_ic_le (AW (mX11_end, G) 14) (AW (mX11_end, G) 12)))))))
theorem oX11_end_0 (G : Nat × Nat × Nat × Option (Nat × (Nat → Int32)) × (Option Value → qW → Prop)) : qImp (bX11_end_0 G) (AW (mX11_end, G) 0) := (r_iload_n dX11_end_0 rfl (r_if_lt (tgt := 12) dX11_end_1 rfl qImp.rf (r_iload_n dX11_end_4 rfl (r_aload_n dX11_end_5 rfl (r_getfield dX11_end_6 fgX11_169 (r_ic_le (tgt := 14) dX11_end_9 rfl qImp.rf qImp.rf))))))
def bX11_end_12 (G : Nat × Nat × Nat × Option (Nat × (Nat → Int32)) × (Option Value → qW → Prop)) : qK := (s_iconst 0 (s_zreturn (mX11_end, G)))
theorem oX11_end_12 (G : Nat × Nat × Nat × Option (Nat × (Nat → Int32)) × (Option Value → qW → Prop)) : qImp (bX11_end_12 G) (AW (mX11_end, G) 12) := (r_iconst dX11_end_12 rfl (r_zreturn dX11_end_13 rfl))
def bX11_end_14 (G : Nat × Nat × Nat × Option (Nat × (Nat → Int32)) × (Option Value → qW → Prop)) : qK := (s_aload 0 (s_iload 1 (s_putI 11 32 (s_iconst 1 (s_zreturn (mX11_end, G))))))
theorem oX11_end_14 (G : Nat × Nat × Nat × Option (Nat × (Nat → Int32)) × (Option Value → qW → Prop)) : qImp (bX11_end_14 G) (AW (mX11_end, G) 14) := (r_aload_n dX11_end_14 rfl (r_iload_n dX11_end_15 rfl (r_putI dX11_end_16 fpX11_169 (fun q hq => by cases hq; rfl) (r_iconst dX11_end_19 rfl (r_zreturn dX11_end_20 rfl)))))
theorem dX11_look_0 : decode cX11_look 0 = .ok (.aload_n 0, 1) := by decide +kernel
theorem dX11_look_1 : decode cX11_look 1 = .ok (.getfield 172, 3) := by decide +kernel
theorem dX11_look_4 : decode cX11_look 4 = .ok (.aload_n 0, 1) := by decide +kernel
theorem dX11_look_5 : decode cX11_look 5 = .ok (.getfield 169, 3) := by decide +kernel
theorem dX11_look_8 : decode cX11_look 8 = .ok (.if_icmp .ge 30, 3) := by decide +kernel
theorem dX11_look_11 : decode cX11_look 11 = .ok (.aload_n 0, 1) := by decide +kernel
theorem dX11_look_12 : decode cX11_look 12 = .ok (.getfield 81, 3) := by decide +kernel
theorem dX11_look_15 : decode cX11_look 15 = .ok (.aload_n 0, 1) := by decide +kernel
theorem dX11_look_16 : decode cX11_look 16 = .ok (.getfield 172, 3) := by decide +kernel
theorem dX11_look_19 : decode cX11_look 19 = .ok (.iaload, 1) := by decide +kernel
theorem dX11_look_20 : decode cX11_look 20 = .ok (.bipush 32, 2) := by decide +kernel
theorem dX11_look_22 : decode cX11_look 22 = .ok (.if_icmp .ne 16, 3) := by decide +kernel
theorem dX11_look_25 : decode cX11_look 25 = .ok (.aload_n 0, 1) := by decide +kernel
theorem dX11_look_26 : decode cX11_look 26 = .ok (.dup, 1) := by decide +kernel
theorem dX11_look_27 : decode cX11_look 27 = .ok (.getfield 172, 3) := by decide +kernel
theorem dX11_look_30 : decode cX11_look 30 = .ok (.iconst 1, 1) := by decide +kernel
theorem dX11_look_31 : decode cX11_look 31 = .ok (.iadd, 1) := by decide +kernel
theorem dX11_look_32 : decode cX11_look 32 = .ok (.putfield 172, 3) := by decide +kernel
theorem dX11_look_35 : decode cX11_look 35 = .ok (.goto (-35), 3) := by decide +kernel
theorem dX11_look_38 : decode cX11_look 38 = .ok (.aload_n 0, 1) := by decide +kernel
theorem dX11_look_39 : decode cX11_look 39 = .ok (.getfield 172, 3) := by decide +kernel
theorem dX11_look_42 : decode cX11_look 42 = .ok (.aload_n 0, 1) := by decide +kernel
theorem dX11_look_43 : decode cX11_look 43 = .ok (.getfield 169, 3) := by decide +kernel
theorem dX11_look_46 : decode cX11_look 46 = .ok (.if_icmp .ge 15, 3) := by decide +kernel
theorem dX11_look_49 : decode cX11_look 49 = .ok (.aload_n 0, 1) := by decide +kernel
theorem dX11_look_50 : decode cX11_look 50 = .ok (.getfield 81, 3) := by decide +kernel
theorem dX11_look_53 : decode cX11_look 53 = .ok (.aload_n 0, 1) := by decide +kernel
theorem dX11_look_54 : decode cX11_look 54 = .ok (.getfield 172, 3) := by decide +kernel
theorem dX11_look_57 : decode cX11_look 57 = .ok (.iaload, 1) := by decide +kernel
theorem dX11_look_58 : decode cX11_look 58 = .ok (.goto 4, 3) := by decide +kernel
theorem dX11_look_61 : decode cX11_look 61 = .ok (.iconst (-1), 1) := by decide +kernel
theorem dX11_look_62 : decode cX11_look 62 = .ok (.ireturn, 1) := by decide +kernel
/-! SealLineModel.look()I -/
theorem eX11_look {d mc ms : Nat} {w : qW} {Q : Option Value → qW → Prop} {q : Nat} (h : AW (mX11_look, d, mc, ms, none, Q) 0 [some (.ref q)] [] w 0 0) : CT mX11_look d mc ms [.ref q] w Q := CT_of (by decide +kernel) rfl (Nat.le_of_ble_eq_true rfl) h
def bX11_look_0 (G : Nat × Nat × Nat × Option (Nat × (Nat → Int32)) × (Option Value → qW → Prop)) : qK := (s_aload 0 (s_getfield 11 33 (s_aload 0 (s_getfield 11 32 (s_ic_ge (AW (mX11_look, G) 38) (s_aload 0 (s_getfield 11 29 (s_aload 0 (s_getfield 11 33 (s_iaload (mX11_look, G) (s_iconst 32 (s_ic_ne (AW (mX11_look, G) 38) (s_aload 0 (s_dup (s_getfield 11 33 (s_iconst 1 (s_iadd (s_putI 11 33 (AW (mX11_look, G) 0)))))))))))))))))))
theorem oX11_look_0 (G : Nat × Nat × Nat × Option (Nat × (Nat → Int32)) × (Option Value → qW → Prop)) : qImp (bX11_look_0 G) (AW (mX11_look, G) 0) := (r_aload_n dX11_look_0 rfl (r_getfield dX11_look_1 fgX11_172 (r_aload_n dX11_look_4 rfl (r_getfield dX11_look_5 fgX11_169 (r_ic_ge (tgt := 38) dX11_look_8 rfl qImp.rf (r_aload_n dX11_look_11 rfl (r_getfield dX11_look_12 fgX11_81 (r_aload_n dX11_look_15 rfl (r_getfield dX11_look_16 fgX11_172 (r_iaload dX11_look_19 (r_bipush dX11_look_20 rfl (r_ic_ne (tgt := 38) dX11_look_22 rfl qImp.rf (r_aload_n dX11_look_25 rfl (r_dup dX11_look_26 (r_getfield dX11_look_27 fgX11_172 (r_iconst dX11_look_30 rfl (r_iadd dX11_look_31 (r_putI dX11_look_32 fpX11_172 (fun q hq => by cases hq; rfl) (r_goto (tgt := 0) dX11_look_35 rfl qImp.rf)))))))))))))))))))
def bX11_look_38 (G : Nat × Nat × Nat × Option (Nat × (Nat → Int32)) × (Option Value → qW → Prop)) : qK := (s_aload 0 (s_getfield 11 33 (s_aload 0 (s_getfield 11 32 (s_ic_ge (AW (mX11_look, G) 61) (s_aload 0 (s_getfield 11 29 (s_aload 0 (s_getfield 11 33 (s_iaload (mX11_look, G) (AW (mX11_look, G) 62)))))))))))
theorem oX11_look_38 (G : Nat × Nat × Nat × Option (Nat × (Nat → Int32)) × (Option Value → qW → Prop)) : qImp (bX11_look_38 G) (AW (mX11_look, G) 38) := (r_aload_n dX11_look_38 rfl (r_getfield dX11_look_39 fgX11_172 (r_aload_n dX11_look_42 rfl (r_getfield dX11_look_43 fgX11_169 (r_ic_ge (tgt := 61) dX11_look_46 rfl qImp.rf (r_aload_n dX11_look_49 rfl (r_getfield dX11_look_50 fgX11_81 (r_aload_n dX11_look_53 rfl (r_getfield dX11_look_54 fgX11_172 (r_iaload dX11_look_57 (r_goto (tgt := 62) dX11_look_58 rfl qImp.rf)))))))))))
def bX11_look_61 (G : Nat × Nat × Nat × Option (Nat × (Nat → Int32)) × (Option Value → qW → Prop)) : qK := (s_iconst (-1) (AW (mX11_look, G) 62))
theorem oX11_look_61 (G : Nat × Nat × Nat × Option (Nat × (Nat → Int32)) × (Option Value → qW → Prop)) : qImp (bX11_look_61 G) (AW (mX11_look, G) 61) := (r_iconst dX11_look_61 rfl qImp.rf)
def bX11_look_62 (G : Nat × Nat × Nat × Option (Nat × (Nat → Int32)) × (Option Value → qW → Prop)) : qK := (s_ireturn (mX11_look, G))
theorem oX11_look_62 (G : Nat × Nat × Nat × Option (Nat × (Nat → Int32)) × (Option Value → qW → Prop)) : qImp (bX11_look_62 G) (AW (mX11_look, G) 62) := (r_ireturn dX11_look_62 rfl)
theorem dX11_fail_0 : decode cX11_fail 0 = .ok (.aload_n 0, 1) := by decide +kernel
theorem dX11_fail_1 : decode cX11_fail 1 = .ok (.aload_n 0, 1) := by decide +kernel
theorem dX11_fail_2 : decode cX11_fail 2 = .ok (.getfield 175, 3) := by decide +kernel
theorem dX11_fail_5 : decode cX11_fail 5 = .ok (.iconst (-1), 1) := by decide +kernel
theorem dX11_fail_6 : decode cX11_fail 6 = .ok (.if_icmp .ne 10, 3) := by decide +kernel
theorem dX11_fail_9 : decode cX11_fail 9 = .ok (.aload_n 0, 1) := by decide +kernel
theorem dX11_fail_10 : decode cX11_fail 10 = .ok (.getfield 172, 3) := by decide +kernel
theorem dX11_fail_13 : decode cX11_fail 13 = .ok (.goto 7, 3) := by decide +kernel
theorem dX11_fail_16 : decode cX11_fail 16 = .ok (.aload_n 0, 1) := by decide +kernel
theorem dX11_fail_17 : decode cX11_fail 17 = .ok (.getfield 175, 3) := by decide +kernel
theorem dX11_fail_20 : decode cX11_fail 20 = .ok (.putfield 175, 3) := by decide +kernel
theorem dX11_fail_23 : decode cX11_fail 23 = .ok (.return_, 1) := by decide +kernel
/-! SealLineModel.fail()V -/
theorem eX11_fail {d mc ms : Nat} {w : qW} {Q : Option Value → qW → Prop} {q : Nat} (h : AW (mX11_fail, d, mc, ms, none, Q) 0 [some (.ref q)] [] w 0 0) : CT mX11_fail d mc ms [.ref q] w Q := CT_of (by decide +kernel) rfl (Nat.le_of_ble_eq_true rfl) h
def bX11_fail_0 (G : Nat × Nat × Nat × Option (Nat × (Nat → Int32)) × (Option Value → qW → Prop)) : qK := (s_aload 0 (s_aload 0 (s_getfield 11 34 (s_iconst (-1) (s_ic_ne (AW (mX11_fail, G) 16) (s_aload 0 (s_getfield 11 33 (AW (mX11_fail, G) 20))))))))
theorem oX11_fail_0 (G : Nat × Nat × Nat × Option (Nat × (Nat → Int32)) × (Option Value → qW → Prop)) : qImp (bX11_fail_0 G) (AW (mX11_fail, G) 0) := (r_aload_n dX11_fail_0 rfl (r_aload_n dX11_fail_1 rfl (r_getfield dX11_fail_2 fgX11_175 (r_iconst dX11_fail_5 rfl (r_ic_ne (tgt := 16) dX11_fail_6 rfl qImp.rf (r_aload_n dX11_fail_9 rfl (r_getfield dX11_fail_10 fgX11_172 (r_goto (tgt := 20) dX11_fail_13 rfl qImp.rf))))))))
def bX11_fail_16 (G : Nat × Nat × Nat × Option (Nat × (Nat → Int32)) × (Option Value → qW → Prop)) : qK := (s_aload 0 (s_getfield 11 34 (AW (mX11_fail, G) 20)))
theorem oX11_fail_16 (G : Nat × Nat × Nat × Option (Nat × (Nat → Int32)) × (Option Value → qW → Prop)) : qImp (bX11_fail_16 G) (AW (mX11_fail, G) 16) := (r_aload_n dX11_fail_16 rfl (r_getfield dX11_fail_17 fgX11_175 qImp.rf))
def bX11_fail_20 (G : Nat × Nat × Nat × Option (Nat × (Nat → Int32)) × (Option Value → qW → Prop)) : qK := (s_putI 11 34 (s_vreturn (mX11_fail, G)))
theorem oX11_fail_20 (G : Nat × Nat × Nat × Option (Nat × (Nat → Int32)) × (Option Value → qW → Prop)) : qImp (bX11_fail_20 G) (AW (mX11_fail, G) 20) := (r_putI dX11_fail_20 fpX11_175 (fun q hq => by cases hq; rfl) (r_vreturn dX11_fail_23 rfl))
theorem dX11_say_0 : decode cX11_say 0 = .ok (.aload_n 0, 1) := by decide +kernel
theorem dX11_say_1 : decode cX11_say 1 = .ok (.getfield 87, 3) := by decide +kernel
theorem dX11_say_4 : decode cX11_say 4 = .ok (.aload_n 0, 1) := by decide +kernel
theorem dX11_say_5 : decode cX11_say 5 = .ok (.getfield 178, 3) := by decide +kernel
theorem dX11_say_8 : decode cX11_say 8 = .ok (.iload_n 1, 1) := by decide +kernel
theorem dX11_say_9 : decode cX11_say 9 = .ok (.iastore, 1) := by decide +kernel
theorem dX11_say_10 : decode cX11_say 10 = .ok (.aload_n 0, 1) := by decide +kernel
theorem dX11_say_11 : decode cX11_say 11 = .ok (.dup, 1) := by decide +kernel
theorem dX11_say_12 : decode cX11_say 12 = .ok (.getfield 178, 3) := by decide +kernel
theorem dX11_say_15 : decode cX11_say 15 = .ok (.iconst 1, 1) := by decide +kernel
theorem dX11_say_16 : decode cX11_say 16 = .ok (.iadd, 1) := by decide +kernel
theorem dX11_say_17 : decode cX11_say 17 = .ok (.putfield 178, 3) := by decide +kernel
theorem dX11_say_20 : decode cX11_say 20 = .ok (.return_, 1) := by decide +kernel
/-! SealLineModel.say(I)V -/
theorem eX11_say {d mc ms : Nat} {w : qW} {Q : Option Value → qW → Prop} {q : Nat} {x0 : Int32} (h : AW (mX11_say, d, mc, ms, none, Q) 0 [some (.ref q), some (.int x0)] [] w 0 0) : CT mX11_say d mc ms [.ref q, .int x0] w Q := CT_of (by decide +kernel) rfl (Nat.le_of_ble_eq_true rfl) h
def bX11_say_0 (G : Nat × Nat × Nat × Option (Nat × (Nat → Int32)) × (Option Value → qW → Prop)) : qK := (s_aload 0 (s_getfield 11 31 (s_aload 0 (s_getfield 11 36 (s_iload 1 (s_iastore (s_aload 0 (s_dup (s_getfield 11 36 (s_iconst 1 (s_iadd (s_putI 11 36 (s_vreturn (mX11_say, G))))))))))))))
theorem oX11_say_0 (G : Nat × Nat × Nat × Option (Nat × (Nat → Int32)) × (Option Value → qW → Prop)) : qImp (bX11_say_0 G) (AW (mX11_say, G) 0) := (r_aload_n dX11_say_0 rfl (r_getfield dX11_say_1 fgX11_87 (r_aload_n dX11_say_4 rfl (r_getfield dX11_say_5 fgX11_178 (r_iload_n dX11_say_8 rfl (r_iastore dX11_say_9 (r_aload_n dX11_say_10 rfl (r_dup dX11_say_11 (r_getfield dX11_say_12 fgX11_178 (r_iconst dX11_say_15 rfl (r_iadd dX11_say_16 (r_putI dX11_say_17 fpX11_178 (fun q hq => by cases hq; rfl) (r_vreturn dX11_say_20 rfl)))))))))))))
theorem dX11_tests_0 : decode cX11_tests 0 = .ok (.aload_n 0, 1) := by decide +kernel
theorem dX11_tests_1 : decode cX11_tests 1 = .ok (.invokevirtual 200, 3) := by decide +kernel
theorem dX11_tests_4 : decode cX11_tests 4 = .ok (.aload_n 0, 1) := by decide +kernel
theorem dX11_tests_5 : decode cX11_tests 5 = .ok (.getfield 175, 3) := by decide +kernel
theorem dX11_tests_8 : decode cX11_tests 8 = .ok (.iconst (-1), 1) := by decide +kernel
theorem dX11_tests_9 : decode cX11_tests 9 = .ok (.if_icmp .ne 34, 3) := by decide +kernel
theorem dX11_tests_12 : decode cX11_tests 12 = .ok (.aload_n 0, 1) := by decide +kernel
theorem dX11_tests_13 : decode cX11_tests 13 = .ok (.invokevirtual 181, 3) := by decide +kernel
theorem dX11_tests_16 : decode cX11_tests 16 = .ok (.bipush 124, 2) := by decide +kernel
theorem dX11_tests_18 : decode cX11_tests 18 = .ok (.if_icmp .ne 25, 3) := by decide +kernel
theorem dX11_tests_21 : decode cX11_tests 21 = .ok (.aload_n 0, 1) := by decide +kernel
theorem dX11_tests_22 : decode cX11_tests 22 = .ok (.dup, 1) := by decide +kernel
theorem dX11_tests_23 : decode cX11_tests 23 = .ok (.getfield 172, 3) := by decide +kernel
theorem dX11_tests_26 : decode cX11_tests 26 = .ok (.iconst 1, 1) := by decide +kernel
theorem dX11_tests_27 : decode cX11_tests 27 = .ok (.iadd, 1) := by decide +kernel
theorem dX11_tests_28 : decode cX11_tests 28 = .ok (.putfield 172, 3) := by decide +kernel
theorem dX11_tests_31 : decode cX11_tests 31 = .ok (.aload_n 0, 1) := by decide +kernel
theorem dX11_tests_32 : decode cX11_tests 32 = .ok (.invokevirtual 200, 3) := by decide +kernel
theorem dX11_tests_35 : decode cX11_tests 35 = .ok (.aload_n 0, 1) := by decide +kernel
theorem dX11_tests_36 : decode cX11_tests 36 = .ok (.iconst 2, 1) := by decide +kernel
theorem dX11_tests_37 : decode cX11_tests 37 = .ok (.invokevirtual 194, 3) := by decide +kernel
theorem dX11_tests_40 : decode cX11_tests 40 = .ok (.goto (-36), 3) := by decide +kernel
theorem dX11_tests_43 : decode cX11_tests 43 = .ok (.return_, 1) := by decide +kernel
/-! SealLineModel.tests()V -/
theorem eX11_tests {d mc ms : Nat} {w : qW} {Q : Option Value → qW → Prop} {q : Nat} (h : AW (mX11_tests, d, mc, ms, none, Q) 0 [some (.ref q)] [] w 0 0) : CT mX11_tests d mc ms [.ref q] w Q := CT_of (by decide +kernel) rfl (Nat.le_of_ble_eq_true rfl) h
def bX11_tests_0 (G : Nat × Nat × Nat × Option (Nat × (Nat → Int32)) × (Option Value → qW → Prop)) : qK := (s_aload 0 (AW (mX11_tests, G) 1))
theorem oX11_tests_0 (G : Nat × Nat × Nat × Option (Nat × (Nat → Int32)) × (Option Value → qW → Prop)) : qImp (bX11_tests_0 G) (AW (mX11_tests, G) 0) := (r_aload_n dX11_tests_0 rfl qImp.rf)
def bX11_tests_4 (G : Nat × Nat × Nat × Option (Nat × (Nat → Int32)) × (Option Value → qW → Prop)) : qK := (s_aload 0 (s_getfield 11 34 (s_iconst (-1) (s_ic_ne (AW (mX11_tests, G) 43) (s_aload 0 (AW (mX11_tests, G) 13))))))
theorem oX11_tests_4 (G : Nat × Nat × Nat × Option (Nat × (Nat → Int32)) × (Option Value → qW → Prop)) : qImp (bX11_tests_4 G) (AW (mX11_tests, G) 4) := (r_aload_n dX11_tests_4 rfl (r_getfield dX11_tests_5 fgX11_175 (r_iconst dX11_tests_8 rfl (r_ic_ne (tgt := 43) dX11_tests_9 rfl qImp.rf (r_aload_n dX11_tests_12 rfl qImp.rf)))))
def bX11_tests_16 (G : Nat × Nat × Nat × Option (Nat × (Nat → Int32)) × (Option Value → qW → Prop)) : qK := (s_iconst 124 (s_ic_ne (AW (mX11_tests, G) 43) (s_aload 0 (s_dup (s_getfield 11 33 (s_iconst 1 (s_iadd (s_putI 11 33 (s_aload 0 (AW (mX11_tests, G) 32))))))))))
theorem oX11_tests_16 (G : Nat × Nat × Nat × Option (Nat × (Nat → Int32)) × (Option Value → qW → Prop)) : qImp (bX11_tests_16 G) (AW (mX11_tests, G) 16) := (r_bipush dX11_tests_16 rfl (r_ic_ne (tgt := 43) dX11_tests_18 rfl qImp.rf (r_aload_n dX11_tests_21 rfl (r_dup dX11_tests_22 (r_getfield dX11_tests_23 fgX11_172 (r_iconst dX11_tests_26 rfl (r_iadd dX11_tests_27 (r_putI dX11_tests_28 fpX11_172 (fun q hq => by cases hq; rfl) (r_aload_n dX11_tests_31 rfl qImp.rf)))))))))
def bX11_tests_35 (G : Nat × Nat × Nat × Option (Nat × (Nat → Int32)) × (Option Value → qW → Prop)) : qK := (s_aload 0 (s_iconst 2 (AW (mX11_tests, G) 37)))
theorem oX11_tests_35 (G : Nat × Nat × Nat × Option (Nat × (Nat → Int32)) × (Option Value → qW → Prop)) : qImp (bX11_tests_35 G) (AW (mX11_tests, G) 35) := (r_aload_n dX11_tests_35 rfl (r_iconst dX11_tests_36 rfl qImp.rf))
def bX11_tests_40 (G : Nat × Nat × Nat × Option (Nat × (Nat → Int32)) × (Option Value → qW → Prop)) : qK := (AW (mX11_tests, G) 4)
theorem oX11_tests_40 (G : Nat × Nat × Nat × Option (Nat × (Nat → Int32)) × (Option Value → qW → Prop)) : qImp (bX11_tests_40 G) (AW (mX11_tests, G) 40) := (r_goto (tgt := 4) dX11_tests_40 rfl qImp.rf)
def bX11_tests_43 (G : Nat × Nat × Nat × Option (Nat × (Nat → Int32)) × (Option Value → qW → Prop)) : qK := (s_vreturn (mX11_tests, G))
theorem oX11_tests_43 (G : Nat × Nat × Nat × Option (Nat × (Nat → Int32)) × (Option Value → qW → Prop)) : qImp (bX11_tests_43 G) (AW (mX11_tests, G) 43) := (r_vreturn dX11_tests_43 rfl)
theorem kX11_tests_1 {G : Nat × Nat × Nat × Option (Nat × (Nat → Int32)) × (Option Value → qW → Prop)} {L : qL} {w : qW} {kc ks : Nat} {rest : List Value} {q : Nat}  {d mc ms : Nat} {Q : Option Value → qW → Prop} (hC : CT mX11_part d mc ms [.ref q] w Q) (hq : qci w q = some 11) (hst : rest.length ≤ 4) (hdp : d + 1 ≤ G.1) (hmc : kc + mc ≤ G.2.1 ∧ ks + ms ≤ G.2.2.1) (k : ∀ r w', Q r w' → AW (mX11_tests, G) 4 L (r.toList ++ rest) w' (kc + mc) (ks + ms)) : AW (mX11_tests, G) 1 L (.ref q :: rest) w kc ks := a_callV [] rest dX11_tests_1 vX11_part lk1104 hC hq rfl rfl hst hdp hmc k
theorem kX11_tests_13 {G : Nat × Nat × Nat × Option (Nat × (Nat → Int32)) × (Option Value → qW → Prop)} {L : qL} {w : qW} {kc ks : Nat} {rest : List Value} {q : Nat}  {d mc ms : Nat} {Q : Option Value → qW → Prop} (hC : CT mX11_look d mc ms [.ref q] w Q) (hq : qci w q = some 11) (hst : rest.length ≤ 4) (hdp : d + 1 ≤ G.1) (hmc : kc + mc ≤ G.2.1 ∧ ks + ms ≤ G.2.2.1) (k : ∀ r w', Q r w' → AW (mX11_tests, G) 16 L (r.toList ++ rest) w' (kc + mc) (ks + ms)) : AW (mX11_tests, G) 13 L (.ref q :: rest) w kc ks := a_callV [] rest dX11_tests_13 vX11_look lk1112 hC hq rfl rfl hst hdp hmc k
theorem kX11_tests_32 {G : Nat × Nat × Nat × Option (Nat × (Nat → Int32)) × (Option Value → qW → Prop)} {L : qL} {w : qW} {kc ks : Nat} {rest : List Value} {q : Nat}  {d mc ms : Nat} {Q : Option Value → qW → Prop} (hC : CT mX11_part d mc ms [.ref q] w Q) (hq : qci w q = some 11) (hst : rest.length ≤ 4) (hdp : d + 1 ≤ G.1) (hmc : kc + mc ≤ G.2.1 ∧ ks + ms ≤ G.2.2.1) (k : ∀ r w', Q r w' → AW (mX11_tests, G) 35 L (r.toList ++ rest) w' (kc + mc) (ks + ms)) : AW (mX11_tests, G) 32 L (.ref q :: rest) w kc ks := a_callV [] rest dX11_tests_32 vX11_part lk1104 hC hq rfl rfl hst hdp hmc k
theorem kX11_tests_37 {G : Nat × Nat × Nat × Option (Nat × (Nat → Int32)) × (Option Value → qW → Prop)} {L : qL} {w : qW} {kc ks : Nat} {rest : List Value} {q : Nat} {x0 : Int32} {d mc ms : Nat} {Q : Option Value → qW → Prop} (hC : CT mX11_say d mc ms [.ref q, .int x0] w Q) (hq : qci w q = some 11) (hst : rest.length ≤ 4) (hdp : d + 1 ≤ G.1) (hmc : kc + mc ≤ G.2.1 ∧ ks + ms ≤ G.2.2.1) (k : ∀ r w', Q r w' → AW (mX11_tests, G) 40 L (r.toList ++ rest) w' (kc + mc) (ks + ms)) : AW (mX11_tests, G) 37 L (.int x0 :: .ref q :: rest) w kc ks := a_callV [.int x0] rest dX11_tests_37 vX11_say lk1120 hC hq rfl rfl hst hdp hmc k
theorem dX11_unit_0 : decode cX11_unit 0 = .ok (.aload_n 0, 1) := by decide +kernel
theorem dX11_unit_1 : decode cX11_unit 1 = .ok (.invokevirtual 181, 3) := by decide +kernel
theorem dX11_unit_4 : decode cX11_unit 4 = .ok (.istore_n 1, 1) := by decide +kernel
theorem dX11_unit_5 : decode cX11_unit 5 = .ok (.iload_n 1, 1) := by decide +kernel
theorem dX11_unit_6 : decode cX11_unit 6 = .ok (.bipush 40, 2) := by decide +kernel
theorem dX11_unit_8 : decode cX11_unit 8 = .ok (.if_icmp .ne 78, 3) := by decide +kernel
theorem dX11_unit_11 : decode cX11_unit 11 = .ok (.aload_n 0, 1) := by decide +kernel
theorem dX11_unit_12 : decode cX11_unit 12 = .ok (.getfield 185, 3) := by decide +kernel
theorem dX11_unit_15 : decode cX11_unit 15 = .ok (.bipush 8, 2) := by decide +kernel
theorem dX11_unit_17 : decode cX11_unit 17 = .ok (.if_icmp .ge 69, 3) := by decide +kernel
theorem dX11_unit_20 : decode cX11_unit 20 = .ok (.aload_n 0, 1) := by decide +kernel
theorem dX11_unit_21 : decode cX11_unit 21 = .ok (.dup, 1) := by decide +kernel
theorem dX11_unit_22 : decode cX11_unit 22 = .ok (.getfield 185, 3) := by decide +kernel
theorem dX11_unit_25 : decode cX11_unit 25 = .ok (.iconst 1, 1) := by decide +kernel
theorem dX11_unit_26 : decode cX11_unit 26 = .ok (.iadd, 1) := by decide +kernel
theorem dX11_unit_27 : decode cX11_unit 27 = .ok (.putfield 185, 3) := by decide +kernel
theorem dX11_unit_30 : decode cX11_unit 30 = .ok (.aload_n 0, 1) := by decide +kernel
theorem dX11_unit_31 : decode cX11_unit 31 = .ok (.dup, 1) := by decide +kernel
theorem dX11_unit_32 : decode cX11_unit 32 = .ok (.getfield 172, 3) := by decide +kernel
theorem dX11_unit_35 : decode cX11_unit 35 = .ok (.iconst 1, 1) := by decide +kernel
theorem dX11_unit_36 : decode cX11_unit 36 = .ok (.iadd, 1) := by decide +kernel
theorem dX11_unit_37 : decode cX11_unit 37 = .ok (.putfield 172, 3) := by decide +kernel
theorem dX11_unit_40 : decode cX11_unit 40 = .ok (.aload_n 0, 1) := by decide +kernel
theorem dX11_unit_41 : decode cX11_unit 41 = .ok (.invokevirtual 188, 3) := by decide +kernel
theorem dX11_unit_44 : decode cX11_unit 44 = .ok (.aload_n 0, 1) := by decide +kernel
theorem dX11_unit_45 : decode cX11_unit 45 = .ok (.getfield 175, 3) := by decide +kernel
theorem dX11_unit_48 : decode cX11_unit 48 = .ok (.iconst (-1), 1) := by decide +kernel
theorem dX11_unit_49 : decode cX11_unit 49 = .ok (.if_icmp .ne 16, 3) := by decide +kernel
theorem dX11_unit_52 : decode cX11_unit 52 = .ok (.aload_n 0, 1) := by decide +kernel
theorem dX11_unit_53 : decode cX11_unit 53 = .ok (.invokevirtual 181, 3) := by decide +kernel
theorem dX11_unit_56 : decode cX11_unit 56 = .ok (.bipush 41, 2) := by decide +kernel
theorem dX11_unit_58 : decode cX11_unit 58 = .ok (.if_icmp .eq 7, 3) := by decide +kernel
theorem dX11_unit_61 : decode cX11_unit 61 = .ok (.aload_n 0, 1) := by decide +kernel
theorem dX11_unit_62 : decode cX11_unit 62 = .ok (.invokevirtual 191, 3) := by decide +kernel
theorem dX11_unit_65 : decode cX11_unit 65 = .ok (.aload_n 0, 1) := by decide +kernel
theorem dX11_unit_66 : decode cX11_unit 66 = .ok (.dup, 1) := by decide +kernel
theorem dX11_unit_67 : decode cX11_unit 67 = .ok (.getfield 172, 3) := by decide +kernel
theorem dX11_unit_70 : decode cX11_unit 70 = .ok (.iconst 1, 1) := by decide +kernel
theorem dX11_unit_71 : decode cX11_unit 71 = .ok (.iadd, 1) := by decide +kernel
theorem dX11_unit_72 : decode cX11_unit 72 = .ok (.putfield 172, 3) := by decide +kernel
theorem dX11_unit_75 : decode cX11_unit 75 = .ok (.aload_n 0, 1) := by decide +kernel
theorem dX11_unit_76 : decode cX11_unit 76 = .ok (.dup, 1) := by decide +kernel
theorem dX11_unit_77 : decode cX11_unit 77 = .ok (.getfield 185, 3) := by decide +kernel
theorem dX11_unit_80 : decode cX11_unit 80 = .ok (.iconst 1, 1) := by decide +kernel
theorem dX11_unit_81 : decode cX11_unit 81 = .ok (.isub, 1) := by decide +kernel
theorem dX11_unit_82 : decode cX11_unit 82 = .ok (.putfield 185, 3) := by decide +kernel
theorem dX11_unit_85 : decode cX11_unit 85 = .ok (.return_, 1) := by decide +kernel
theorem dX11_unit_86 : decode cX11_unit 86 = .ok (.iload_n 1, 1) := by decide +kernel
theorem dX11_unit_87 : decode cX11_unit 87 = .ok (.bipush 116, 2) := by decide +kernel
theorem dX11_unit_89 : decode cX11_unit 89 = .ok (.if_icmp .eq 20, 3) := by decide +kernel
theorem dX11_unit_92 : decode cX11_unit 92 = .ok (.iload_n 1, 1) := by decide +kernel
theorem dX11_unit_93 : decode cX11_unit 93 = .ok (.bipush 114, 2) := by decide +kernel
theorem dX11_unit_95 : decode cX11_unit 95 = .ok (.if_icmp .eq 14, 3) := by decide +kernel
theorem dX11_unit_98 : decode cX11_unit 98 = .ok (.iload_n 1, 1) := by decide +kernel
theorem dX11_unit_99 : decode cX11_unit 99 = .ok (.bipush 98, 2) := by decide +kernel
theorem dX11_unit_101 : decode cX11_unit 101 = .ok (.if_icmp .eq 8, 3) := by decide +kernel
theorem dX11_unit_104 : decode cX11_unit 104 = .ok (.aload_n 0, 1) := by decide +kernel
theorem dX11_unit_105 : decode cX11_unit 105 = .ok (.invokevirtual 191, 3) := by decide +kernel
theorem dX11_unit_108 : decode cX11_unit 108 = .ok (.return_, 1) := by decide +kernel
theorem dX11_unit_109 : decode cX11_unit 109 = .ok (.aload_n 0, 1) := by decide +kernel
theorem dX11_unit_110 : decode cX11_unit 110 = .ok (.dup, 1) := by decide +kernel
theorem dX11_unit_111 : decode cX11_unit 111 = .ok (.getfield 172, 3) := by decide +kernel
theorem dX11_unit_114 : decode cX11_unit 114 = .ok (.iconst 1, 1) := by decide +kernel
theorem dX11_unit_115 : decode cX11_unit 115 = .ok (.iadd, 1) := by decide +kernel
theorem dX11_unit_116 : decode cX11_unit 116 = .ok (.putfield 172, 3) := by decide +kernel
theorem dX11_unit_119 : decode cX11_unit 119 = .ok (.aload_n 0, 1) := by decide +kernel
theorem dX11_unit_120 : decode cX11_unit 120 = .ok (.invokevirtual 181, 3) := by decide +kernel
theorem dX11_unit_123 : decode cX11_unit 123 = .ok (.istore_n 2, 1) := by decide +kernel
theorem dX11_unit_124 : decode cX11_unit 124 = .ok (.iload_n 2, 1) := by decide +kernel
theorem dX11_unit_125 : decode cX11_unit 125 = .ok (.bipush 61, 2) := by decide +kernel
theorem dX11_unit_127 : decode cX11_unit 127 = .ok (.if_icmp .eq 20, 3) := by decide +kernel
theorem dX11_unit_130 : decode cX11_unit 130 = .ok (.iload_n 2, 1) := by decide +kernel
theorem dX11_unit_131 : decode cX11_unit 131 = .ok (.bipush 60, 2) := by decide +kernel
theorem dX11_unit_133 : decode cX11_unit 133 = .ok (.if_icmp .eq 14, 3) := by decide +kernel
theorem dX11_unit_136 : decode cX11_unit 136 = .ok (.iload_n 2, 1) := by decide +kernel
theorem dX11_unit_137 : decode cX11_unit 137 = .ok (.bipush 62, 2) := by decide +kernel
theorem dX11_unit_139 : decode cX11_unit 139 = .ok (.if_icmp .eq 8, 3) := by decide +kernel
theorem dX11_unit_142 : decode cX11_unit 142 = .ok (.aload_n 0, 1) := by decide +kernel
theorem dX11_unit_143 : decode cX11_unit 143 = .ok (.invokevirtual 191, 3) := by decide +kernel
theorem dX11_unit_146 : decode cX11_unit 146 = .ok (.return_, 1) := by decide +kernel
theorem dX11_unit_147 : decode cX11_unit 147 = .ok (.aload_n 0, 1) := by decide +kernel
theorem dX11_unit_148 : decode cX11_unit 148 = .ok (.dup, 1) := by decide +kernel
theorem dX11_unit_149 : decode cX11_unit 149 = .ok (.getfield 172, 3) := by decide +kernel
theorem dX11_unit_152 : decode cX11_unit 152 = .ok (.iconst 1, 1) := by decide +kernel
theorem dX11_unit_153 : decode cX11_unit 153 = .ok (.iadd, 1) := by decide +kernel
theorem dX11_unit_154 : decode cX11_unit 154 = .ok (.putfield 172, 3) := by decide +kernel
theorem dX11_unit_157 : decode cX11_unit 157 = .ok (.aload_n 0, 1) := by decide +kernel
theorem dX11_unit_158 : decode cX11_unit 158 = .ok (.invokevirtual 181, 3) := by decide +kernel
theorem dX11_unit_161 : decode cX11_unit 161 = .ok (.istore_n 3, 1) := by decide +kernel
theorem dX11_unit_162 : decode cX11_unit 162 = .ok (.iconst 0, 1) := by decide +kernel
theorem dX11_unit_163 : decode cX11_unit 163 = .ok (.istore 4, 2) := by decide +kernel
theorem dX11_unit_165 : decode cX11_unit 165 = .ok (.iconst 0, 1) := by decide +kernel
theorem dX11_unit_166 : decode cX11_unit 166 = .ok (.istore 5, 2) := by decide +kernel
theorem dX11_unit_168 : decode cX11_unit 168 = .ok (.iload_n 3, 1) := by decide +kernel
theorem dX11_unit_169 : decode cX11_unit 169 = .ok (.bipush 48, 2) := by decide +kernel
theorem dX11_unit_171 : decode cX11_unit 171 = .ok (.if_icmp .lt 9, 3) := by decide +kernel
theorem dX11_unit_174 : decode cX11_unit 174 = .ok (.iload_n 3, 1) := by decide +kernel
theorem dX11_unit_175 : decode cX11_unit 175 = .ok (.bipush 57, 2) := by decide +kernel
theorem dX11_unit_177 : decode cX11_unit 177 = .ok (.if_icmp .le 8, 3) := by decide +kernel
theorem dX11_unit_180 : decode cX11_unit 180 = .ok (.aload_n 0, 1) := by decide +kernel
theorem dX11_unit_181 : decode cX11_unit 181 = .ok (.invokevirtual 191, 3) := by decide +kernel
theorem dX11_unit_184 : decode cX11_unit 184 = .ok (.return_, 1) := by decide +kernel
theorem dX11_unit_185 : decode cX11_unit 185 = .ok (.aload_n 0, 1) := by decide +kernel
theorem dX11_unit_186 : decode cX11_unit 186 = .ok (.getfield 172, 3) := by decide +kernel
theorem dX11_unit_189 : decode cX11_unit 189 = .ok (.aload_n 0, 1) := by decide +kernel
theorem dX11_unit_190 : decode cX11_unit 190 = .ok (.getfield 169, 3) := by decide +kernel
theorem dX11_unit_193 : decode cX11_unit 193 = .ok (.if_icmp .ge 78, 3) := by decide +kernel
theorem dX11_unit_196 : decode cX11_unit 196 = .ok (.aload_n 0, 1) := by decide +kernel
theorem dX11_unit_197 : decode cX11_unit 197 = .ok (.getfield 81, 3) := by decide +kernel
theorem dX11_unit_200 : decode cX11_unit 200 = .ok (.aload_n 0, 1) := by decide +kernel
theorem dX11_unit_201 : decode cX11_unit 201 = .ok (.getfield 172, 3) := by decide +kernel
theorem dX11_unit_204 : decode cX11_unit 204 = .ok (.iaload, 1) := by decide +kernel
theorem dX11_unit_205 : decode cX11_unit 205 = .ok (.bipush 48, 2) := by decide +kernel
theorem dX11_unit_207 : decode cX11_unit 207 = .ok (.if_icmp .lt 64, 3) := by decide +kernel
theorem dX11_unit_210 : decode cX11_unit 210 = .ok (.aload_n 0, 1) := by decide +kernel
theorem dX11_unit_211 : decode cX11_unit 211 = .ok (.getfield 81, 3) := by decide +kernel
theorem dX11_unit_214 : decode cX11_unit 214 = .ok (.aload_n 0, 1) := by decide +kernel
theorem dX11_unit_215 : decode cX11_unit 215 = .ok (.getfield 172, 3) := by decide +kernel
theorem dX11_unit_218 : decode cX11_unit 218 = .ok (.iaload, 1) := by decide +kernel
theorem dX11_unit_219 : decode cX11_unit 219 = .ok (.bipush 57, 2) := by decide +kernel
theorem dX11_unit_221 : decode cX11_unit 221 = .ok (.if_icmp .gt 50, 3) := by decide +kernel
theorem dX11_unit_224 : decode cX11_unit 224 = .ok (.iload 5, 2) := by decide +kernel
theorem dX11_unit_226 : decode cX11_unit 226 = .ok (.iconst 2, 1) := by decide +kernel
theorem dX11_unit_227 : decode cX11_unit 227 = .ok (.if_icmp .ne 8, 3) := by decide +kernel
theorem dX11_unit_230 : decode cX11_unit 230 = .ok (.aload_n 0, 1) := by decide +kernel
theorem dX11_unit_231 : decode cX11_unit 231 = .ok (.invokevirtual 191, 3) := by decide +kernel
theorem dX11_unit_234 : decode cX11_unit 234 = .ok (.return_, 1) := by decide +kernel
theorem dX11_unit_235 : decode cX11_unit 235 = .ok (.bipush 10, 2) := by decide +kernel
theorem dX11_unit_237 : decode cX11_unit 237 = .ok (.iload 4, 2) := by decide +kernel
theorem dX11_unit_239 : decode cX11_unit 239 = .ok (.imul, 1) := by decide +kernel
theorem dX11_unit_240 : decode cX11_unit 240 = .ok (.aload_n 0, 1) := by decide +kernel
theorem dX11_unit_241 : decode cX11_unit 241 = .ok (.getfield 81, 3) := by decide +kernel
theorem dX11_unit_244 : decode cX11_unit 244 = .ok (.aload_n 0, 1) := by decide +kernel
theorem dX11_unit_245 : decode cX11_unit 245 = .ok (.getfield 172, 3) := by decide +kernel
theorem dX11_unit_248 : decode cX11_unit 248 = .ok (.iaload, 1) := by decide +kernel
theorem dX11_unit_249 : decode cX11_unit 249 = .ok (.iadd, 1) := by decide +kernel
theorem dX11_unit_250 : decode cX11_unit 250 = .ok (.bipush 48, 2) := by decide +kernel
theorem dX11_unit_252 : decode cX11_unit 252 = .ok (.isub, 1) := by decide +kernel
theorem dX11_unit_253 : decode cX11_unit 253 = .ok (.istore 4, 2) := by decide +kernel
theorem dX11_unit_255 : decode cX11_unit 255 = .ok (.iinc 5 1, 3) := by decide +kernel
theorem dX11_unit_258 : decode cX11_unit 258 = .ok (.aload_n 0, 1) := by decide +kernel
theorem dX11_unit_259 : decode cX11_unit 259 = .ok (.dup, 1) := by decide +kernel
theorem dX11_unit_260 : decode cX11_unit 260 = .ok (.getfield 172, 3) := by decide +kernel
theorem dX11_unit_263 : decode cX11_unit 263 = .ok (.iconst 1, 1) := by decide +kernel
theorem dX11_unit_264 : decode cX11_unit 264 = .ok (.iadd, 1) := by decide +kernel
theorem dX11_unit_265 : decode cX11_unit 265 = .ok (.putfield 172, 3) := by decide +kernel
theorem dX11_unit_268 : decode cX11_unit 268 = .ok (.goto (-83), 3) := by decide +kernel
theorem dX11_unit_271 : decode cX11_unit 271 = .ok (.aload_n 0, 1) := by decide +kernel
theorem dX11_unit_272 : decode cX11_unit 272 = .ok (.iconst 0, 1) := by decide +kernel
theorem dX11_unit_273 : decode cX11_unit 273 = .ok (.invokevirtual 194, 3) := by decide +kernel
theorem dX11_unit_276 : decode cX11_unit 276 = .ok (.aload_n 0, 1) := by decide +kernel
theorem dX11_unit_277 : decode cX11_unit 277 = .ok (.iload_n 1, 1) := by decide +kernel
theorem dX11_unit_278 : decode cX11_unit 278 = .ok (.invokevirtual 194, 3) := by decide +kernel
theorem dX11_unit_281 : decode cX11_unit 281 = .ok (.aload_n 0, 1) := by decide +kernel
theorem dX11_unit_282 : decode cX11_unit 282 = .ok (.iload_n 2, 1) := by decide +kernel
theorem dX11_unit_283 : decode cX11_unit 283 = .ok (.invokevirtual 194, 3) := by decide +kernel
theorem dX11_unit_286 : decode cX11_unit 286 = .ok (.aload_n 0, 1) := by decide +kernel
theorem dX11_unit_287 : decode cX11_unit 287 = .ok (.iload 4, 2) := by decide +kernel
theorem dX11_unit_289 : decode cX11_unit 289 = .ok (.invokevirtual 194, 3) := by decide +kernel
theorem dX11_unit_292 : decode cX11_unit 292 = .ok (.return_, 1) := by decide +kernel
/-! SealLineModel.unit()V -/
theorem eX11_unit {d mc ms : Nat} {w : qW} {Q : Option Value → qW → Prop} {q : Nat} (h : AW (mX11_unit, d, mc, ms, none, Q) 0 [some (.ref q), none, none, none, none, none] [] w 0 0) : CT mX11_unit d mc ms [.ref q] w Q := CT_of (by decide +kernel) rfl (Nat.le_of_ble_eq_true rfl) h
def bX11_unit_0 (G : Nat × Nat × Nat × Option (Nat × (Nat → Int32)) × (Option Value → qW → Prop)) : qK := (s_aload 0 (AW (mX11_unit, G) 1))
theorem oX11_unit_0 (G : Nat × Nat × Nat × Option (Nat × (Nat → Int32)) × (Option Value → qW → Prop)) : qImp (bX11_unit_0 G) (AW (mX11_unit, G) 0) := (r_aload_n dX11_unit_0 rfl qImp.rf)
def bX11_unit_4 (G : Nat × Nat × Nat × Option (Nat × (Nat → Int32)) × (Option Value → qW → Prop)) : qK := (s_istore 1 0 (s_iload 1 (s_iconst 40 (s_ic_ne (AW (mX11_unit, G) 86) (s_aload 0 (s_getfield 11 35 (s_iconst 8 (s_ic_ge (AW (mX11_unit, G) 86) (s_aload 0 (s_dup (s_getfield 11 35 (s_iconst 1 (s_iadd (s_putI 11 35 (s_aload 0 (s_dup (s_getfield 11 33 (s_iconst 1 (s_iadd (s_putI 11 33 (s_aload 0 (AW (mX11_unit, G) 41))))))))))))))))))))))
theorem oX11_unit_4 (G : Nat × Nat × Nat × Option (Nat × (Nat → Int32)) × (Option Value → qW → Prop)) : qImp (bX11_unit_4 G) (AW (mX11_unit, G) 4) := (r_istore_n dX11_unit_4 rfl (Or.inr rfl) (Nat.le_of_ble_eq_true rfl) (r_iload_n dX11_unit_5 rfl (r_bipush dX11_unit_6 rfl (r_ic_ne (tgt := 86) dX11_unit_8 rfl qImp.rf (r_aload_n dX11_unit_11 rfl (r_getfield dX11_unit_12 fgX11_185 (r_bipush dX11_unit_15 rfl (r_ic_ge (tgt := 86) dX11_unit_17 rfl qImp.rf (r_aload_n dX11_unit_20 rfl (r_dup dX11_unit_21 (r_getfield dX11_unit_22 fgX11_185 (r_iconst dX11_unit_25 rfl (r_iadd dX11_unit_26 (r_putI dX11_unit_27 fpX11_185 (fun q hq => by cases hq; rfl) (r_aload_n dX11_unit_30 rfl (r_dup dX11_unit_31 (r_getfield dX11_unit_32 fgX11_172 (r_iconst dX11_unit_35 rfl (r_iadd dX11_unit_36 (r_putI dX11_unit_37 fpX11_172 (fun q hq => by cases hq; rfl) (r_aload_n dX11_unit_40 rfl qImp.rf)))))))))))))))))))))
def bX11_unit_44 (G : Nat × Nat × Nat × Option (Nat × (Nat → Int32)) × (Option Value → qW → Prop)) : qK := (s_aload 0 (s_getfield 11 34 (s_iconst (-1) (s_ic_ne (AW (mX11_unit, G) 65) (s_aload 0 (AW (mX11_unit, G) 53))))))
theorem oX11_unit_44 (G : Nat × Nat × Nat × Option (Nat × (Nat → Int32)) × (Option Value → qW → Prop)) : qImp (bX11_unit_44 G) (AW (mX11_unit, G) 44) := (r_aload_n dX11_unit_44 rfl (r_getfield dX11_unit_45 fgX11_175 (r_iconst dX11_unit_48 rfl (r_ic_ne (tgt := 65) dX11_unit_49 rfl qImp.rf (r_aload_n dX11_unit_52 rfl qImp.rf)))))
def bX11_unit_56 (G : Nat × Nat × Nat × Option (Nat × (Nat → Int32)) × (Option Value → qW → Prop)) : qK := (s_iconst 41 (s_ic_eq (AW (mX11_unit, G) 65) (s_aload 0 (AW (mX11_unit, G) 62))))
theorem oX11_unit_56 (G : Nat × Nat × Nat × Option (Nat × (Nat → Int32)) × (Option Value → qW → Prop)) : qImp (bX11_unit_56 G) (AW (mX11_unit, G) 56) := (r_bipush dX11_unit_56 rfl (r_ic_eq (tgt := 65) dX11_unit_58 rfl qImp.rf (r_aload_n dX11_unit_61 rfl qImp.rf)))
def bX11_unit_65 (G : Nat × Nat × Nat × Option (Nat × (Nat → Int32)) × (Option Value → qW → Prop)) : qK := (s_aload 0 (s_dup (s_getfield 11 33 (s_iconst 1 (s_iadd (s_putI 11 33 (s_aload 0 (s_dup (s_getfield 11 35 (s_iconst 1 (s_isub (s_putI 11 35 (s_vreturn (mX11_unit, G))))))))))))))
theorem oX11_unit_65 (G : Nat × Nat × Nat × Option (Nat × (Nat → Int32)) × (Option Value → qW → Prop)) : qImp (bX11_unit_65 G) (AW (mX11_unit, G) 65) := (r_aload_n dX11_unit_65 rfl (r_dup dX11_unit_66 (r_getfield dX11_unit_67 fgX11_172 (r_iconst dX11_unit_70 rfl (r_iadd dX11_unit_71 (r_putI dX11_unit_72 fpX11_172 (fun q hq => by cases hq; rfl) (r_aload_n dX11_unit_75 rfl (r_dup dX11_unit_76 (r_getfield dX11_unit_77 fgX11_185 (r_iconst dX11_unit_80 rfl (r_isub dX11_unit_81 (r_putI dX11_unit_82 fpX11_185 (fun q hq => by cases hq; rfl) (r_vreturn dX11_unit_85 rfl)))))))))))))
def bX11_unit_86 (G : Nat × Nat × Nat × Option (Nat × (Nat → Int32)) × (Option Value → qW → Prop)) : qK := (s_iload 1 (s_iconst 116 (s_ic_eq (AW (mX11_unit, G) 109) (s_iload 1 (s_iconst 114 (s_ic_eq (AW (mX11_unit, G) 109) (s_iload 1 (s_iconst 98 (s_ic_eq (AW (mX11_unit, G) 109) (s_aload 0 (AW (mX11_unit, G) 105)))))))))))
theorem oX11_unit_86 (G : Nat × Nat × Nat × Option (Nat × (Nat → Int32)) × (Option Value → qW → Prop)) : qImp (bX11_unit_86 G) (AW (mX11_unit, G) 86) := (r_iload_n dX11_unit_86 rfl (r_bipush dX11_unit_87 rfl (r_ic_eq (tgt := 109) dX11_unit_89 rfl qImp.rf (r_iload_n dX11_unit_92 rfl (r_bipush dX11_unit_93 rfl (r_ic_eq (tgt := 109) dX11_unit_95 rfl qImp.rf (r_iload_n dX11_unit_98 rfl (r_bipush dX11_unit_99 rfl (r_ic_eq (tgt := 109) dX11_unit_101 rfl qImp.rf (r_aload_n dX11_unit_104 rfl qImp.rf))))))))))
def bX11_unit_108 (G : Nat × Nat × Nat × Option (Nat × (Nat → Int32)) × (Option Value → qW → Prop)) : qK := (s_vreturn (mX11_unit, G))
theorem oX11_unit_108 (G : Nat × Nat × Nat × Option (Nat × (Nat → Int32)) × (Option Value → qW → Prop)) : qImp (bX11_unit_108 G) (AW (mX11_unit, G) 108) := (r_vreturn dX11_unit_108 rfl)
def bX11_unit_109 (G : Nat × Nat × Nat × Option (Nat × (Nat → Int32)) × (Option Value → qW → Prop)) : qK := (s_aload 0 (s_dup (s_getfield 11 33 (s_iconst 1 (s_iadd (s_putI 11 33 (s_aload 0 (AW (mX11_unit, G) 120))))))))
theorem oX11_unit_109 (G : Nat × Nat × Nat × Option (Nat × (Nat → Int32)) × (Option Value → qW → Prop)) : qImp (bX11_unit_109 G) (AW (mX11_unit, G) 109) := (r_aload_n dX11_unit_109 rfl (r_dup dX11_unit_110 (r_getfield dX11_unit_111 fgX11_172 (r_iconst dX11_unit_114 rfl (r_iadd dX11_unit_115 (r_putI dX11_unit_116 fpX11_172 (fun q hq => by cases hq; rfl) (r_aload_n dX11_unit_119 rfl qImp.rf)))))))
def bX11_unit_123 (G : Nat × Nat × Nat × Option (Nat × (Nat → Int32)) × (Option Value → qW → Prop)) : qK := (s_istore 2 1 (s_iload 2 (s_iconst 61 (s_ic_eq (AW (mX11_unit, G) 147) (s_iload 2 (s_iconst 60 (s_ic_eq (AW (mX11_unit, G) 147) (s_iload 2 (s_iconst 62 (s_ic_eq (AW (mX11_unit, G) 147) (s_aload 0 (AW (mX11_unit, G) 143))))))))))))
theorem oX11_unit_123 (G : Nat × Nat × Nat × Option (Nat × (Nat → Int32)) × (Option Value → qW → Prop)) : qImp (bX11_unit_123 G) (AW (mX11_unit, G) 123) := (r_istore_n dX11_unit_123 rfl (Or.inr rfl) (Nat.le_of_ble_eq_true rfl) (r_iload_n dX11_unit_124 rfl (r_bipush dX11_unit_125 rfl (r_ic_eq (tgt := 147) dX11_unit_127 rfl qImp.rf (r_iload_n dX11_unit_130 rfl (r_bipush dX11_unit_131 rfl (r_ic_eq (tgt := 147) dX11_unit_133 rfl qImp.rf (r_iload_n dX11_unit_136 rfl (r_bipush dX11_unit_137 rfl (r_ic_eq (tgt := 147) dX11_unit_139 rfl qImp.rf (r_aload_n dX11_unit_142 rfl qImp.rf)))))))))))
def bX11_unit_146 (G : Nat × Nat × Nat × Option (Nat × (Nat → Int32)) × (Option Value → qW → Prop)) : qK := (s_vreturn (mX11_unit, G))
theorem oX11_unit_146 (G : Nat × Nat × Nat × Option (Nat × (Nat → Int32)) × (Option Value → qW → Prop)) : qImp (bX11_unit_146 G) (AW (mX11_unit, G) 146) := (r_vreturn dX11_unit_146 rfl)
def bX11_unit_147 (G : Nat × Nat × Nat × Option (Nat × (Nat → Int32)) × (Option Value → qW → Prop)) : qK := (s_aload 0 (s_dup (s_getfield 11 33 (s_iconst 1 (s_iadd (s_putI 11 33 (s_aload 0 (AW (mX11_unit, G) 158))))))))
theorem oX11_unit_147 (G : Nat × Nat × Nat × Option (Nat × (Nat → Int32)) × (Option Value → qW → Prop)) : qImp (bX11_unit_147 G) (AW (mX11_unit, G) 147) := (r_aload_n dX11_unit_147 rfl (r_dup dX11_unit_148 (r_getfield dX11_unit_149 fgX11_172 (r_iconst dX11_unit_152 rfl (r_iadd dX11_unit_153 (r_putI dX11_unit_154 fpX11_172 (fun q hq => by cases hq; rfl) (r_aload_n dX11_unit_157 rfl qImp.rf)))))))
def bX11_unit_161 (G : Nat × Nat × Nat × Option (Nat × (Nat → Int32)) × (Option Value → qW → Prop)) : qK := (s_istore 3 2 (s_iconst 0 (s_istore 4 3 (s_iconst 0 (s_istore 5 4 (s_iload 3 (s_iconst 48 (s_ic_lt (AW (mX11_unit, G) 180) (s_iload 3 (s_iconst 57 (s_ic_le (AW (mX11_unit, G) 185) (AW (mX11_unit, G) 180))))))))))))
theorem oX11_unit_161 (G : Nat × Nat × Nat × Option (Nat × (Nat → Int32)) × (Option Value → qW → Prop)) : qImp (bX11_unit_161 G) (AW (mX11_unit, G) 161) := (r_istore_n dX11_unit_161 rfl (Or.inr rfl) (Nat.le_of_ble_eq_true rfl) (r_iconst dX11_unit_162 rfl (r_istore dX11_unit_163 (Or.inr rfl) (Nat.le_of_ble_eq_true rfl) (r_iconst dX11_unit_165 rfl (r_istore dX11_unit_166 (Or.inr rfl) (Nat.le_of_ble_eq_true rfl) (r_iload_n dX11_unit_168 rfl (r_bipush dX11_unit_169 rfl (r_ic_lt (tgt := 180) dX11_unit_171 rfl qImp.rf (r_iload_n dX11_unit_174 rfl (r_bipush dX11_unit_175 rfl (r_ic_le (tgt := 185) dX11_unit_177 rfl qImp.rf qImp.rf)))))))))))
def bX11_unit_180 (G : Nat × Nat × Nat × Option (Nat × (Nat → Int32)) × (Option Value → qW → Prop)) : qK := (s_aload 0 (AW (mX11_unit, G) 181))
theorem oX11_unit_180 (G : Nat × Nat × Nat × Option (Nat × (Nat → Int32)) × (Option Value → qW → Prop)) : qImp (bX11_unit_180 G) (AW (mX11_unit, G) 180) := (r_aload_n dX11_unit_180 rfl qImp.rf)
def bX11_unit_184 (G : Nat × Nat × Nat × Option (Nat × (Nat → Int32)) × (Option Value → qW → Prop)) : qK := (s_vreturn (mX11_unit, G))
theorem oX11_unit_184 (G : Nat × Nat × Nat × Option (Nat × (Nat → Int32)) × (Option Value → qW → Prop)) : qImp (bX11_unit_184 G) (AW (mX11_unit, G) 184) := (r_vreturn dX11_unit_184 rfl)
def bX11_unit_185 (G : Nat × Nat × Nat × Option (Nat × (Nat → Int32)) × (Option Value → qW → Prop)) : qK := (s_aload 0 (s_getfield 11 33 (s_aload 0 (s_getfield 11 32 (s_ic_ge (AW (mX11_unit, G) 271) (s_aload 0 (s_getfield 11 29 (s_aload 0 (s_getfield 11 33 (s_iaload (mX11_unit, G) (s_iconst 48 (s_ic_lt (AW (mX11_unit, G) 271) (s_aload 0 (s_getfield 11 29 (s_aload 0 (s_getfield 11 33 (s_iaload (mX11_unit, G) (s_iconst 57 (s_ic_gt (AW (mX11_unit, G) 271) (s_iload 5 (s_iconst 2 (s_ic_ne (AW (mX11_unit, G) 235) (s_aload 0 (AW (mX11_unit, G) 231))))))))))))))))))))))))
theorem oX11_unit_185 (G : Nat × Nat × Nat × Option (Nat × (Nat → Int32)) × (Option Value → qW → Prop)) : qImp (bX11_unit_185 G) (AW (mX11_unit, G) 185) := (r_aload_n dX11_unit_185 rfl (r_getfield dX11_unit_186 fgX11_172 (r_aload_n dX11_unit_189 rfl (r_getfield dX11_unit_190 fgX11_169 (r_ic_ge (tgt := 271) dX11_unit_193 rfl qImp.rf (r_aload_n dX11_unit_196 rfl (r_getfield dX11_unit_197 fgX11_81 (r_aload_n dX11_unit_200 rfl (r_getfield dX11_unit_201 fgX11_172 (r_iaload dX11_unit_204 (r_bipush dX11_unit_205 rfl (r_ic_lt (tgt := 271) dX11_unit_207 rfl qImp.rf (r_aload_n dX11_unit_210 rfl (r_getfield dX11_unit_211 fgX11_81 (r_aload_n dX11_unit_214 rfl (r_getfield dX11_unit_215 fgX11_172 (r_iaload dX11_unit_218 (r_bipush dX11_unit_219 rfl (r_ic_gt (tgt := 271) dX11_unit_221 rfl qImp.rf (r_iload dX11_unit_224 (r_iconst dX11_unit_226 rfl (r_ic_ne (tgt := 235) dX11_unit_227 rfl qImp.rf (r_aload_n dX11_unit_230 rfl qImp.rf)))))))))))))))))))))))
def bX11_unit_234 (G : Nat × Nat × Nat × Option (Nat × (Nat → Int32)) × (Option Value → qW → Prop)) : qK := (s_vreturn (mX11_unit, G))
theorem oX11_unit_234 (G : Nat × Nat × Nat × Option (Nat × (Nat → Int32)) × (Option Value → qW → Prop)) : qImp (bX11_unit_234 G) (AW (mX11_unit, G) 234) := (r_vreturn dX11_unit_234 rfl)
def bX11_unit_235 (G : Nat × Nat × Nat × Option (Nat × (Nat → Int32)) × (Option Value → qW → Prop)) : qK := (s_iconst 10 (s_iload 4 (s_imul (s_aload 0 (s_getfield 11 29 (s_aload 0 (s_getfield 11 33 (s_iaload (mX11_unit, G) (s_iadd (s_iconst 48 (s_isub (s_istore 4 3 (s_iinc 5 4 1 (s_aload 0 (s_dup (s_getfield 11 33 (s_iconst 1 (s_iadd (s_putI 11 33 (AW (mX11_unit, G) 185))))))))))))))))))))
theorem oX11_unit_235 (G : Nat × Nat × Nat × Option (Nat × (Nat → Int32)) × (Option Value → qW → Prop)) : qImp (bX11_unit_235 G) (AW (mX11_unit, G) 235) := (r_bipush dX11_unit_235 rfl (r_iload dX11_unit_237 (r_imul dX11_unit_239 (r_aload_n dX11_unit_240 rfl (r_getfield dX11_unit_241 fgX11_81 (r_aload_n dX11_unit_244 rfl (r_getfield dX11_unit_245 fgX11_172 (r_iaload dX11_unit_248 (r_iadd dX11_unit_249 (r_bipush dX11_unit_250 rfl (r_isub dX11_unit_252 (r_istore dX11_unit_253 (Or.inr rfl) (Nat.le_of_ble_eq_true rfl) (r_iinc dX11_unit_255 rfl (Or.inr rfl) (Nat.le_of_ble_eq_true rfl) (r_aload_n dX11_unit_258 rfl (r_dup dX11_unit_259 (r_getfield dX11_unit_260 fgX11_172 (r_iconst dX11_unit_263 rfl (r_iadd dX11_unit_264 (r_putI dX11_unit_265 fpX11_172 (fun q hq => by cases hq; rfl) (r_goto (tgt := 185) dX11_unit_268 rfl qImp.rf))))))))))))))))))))
def bX11_unit_271 (G : Nat × Nat × Nat × Option (Nat × (Nat → Int32)) × (Option Value → qW → Prop)) : qK := (s_aload 0 (s_iconst 0 (AW (mX11_unit, G) 273)))
theorem oX11_unit_271 (G : Nat × Nat × Nat × Option (Nat × (Nat → Int32)) × (Option Value → qW → Prop)) : qImp (bX11_unit_271 G) (AW (mX11_unit, G) 271) := (r_aload_n dX11_unit_271 rfl (r_iconst dX11_unit_272 rfl qImp.rf))
def bX11_unit_276 (G : Nat × Nat × Nat × Option (Nat × (Nat → Int32)) × (Option Value → qW → Prop)) : qK := (s_aload 0 (s_iload 1 (AW (mX11_unit, G) 278)))
theorem oX11_unit_276 (G : Nat × Nat × Nat × Option (Nat × (Nat → Int32)) × (Option Value → qW → Prop)) : qImp (bX11_unit_276 G) (AW (mX11_unit, G) 276) := (r_aload_n dX11_unit_276 rfl (r_iload_n dX11_unit_277 rfl qImp.rf))
def bX11_unit_281 (G : Nat × Nat × Nat × Option (Nat × (Nat → Int32)) × (Option Value → qW → Prop)) : qK := (s_aload 0 (s_iload 2 (AW (mX11_unit, G) 283)))
theorem oX11_unit_281 (G : Nat × Nat × Nat × Option (Nat × (Nat → Int32)) × (Option Value → qW → Prop)) : qImp (bX11_unit_281 G) (AW (mX11_unit, G) 281) := (r_aload_n dX11_unit_281 rfl (r_iload_n dX11_unit_282 rfl qImp.rf))
def bX11_unit_286 (G : Nat × Nat × Nat × Option (Nat × (Nat → Int32)) × (Option Value → qW → Prop)) : qK := (s_aload 0 (s_iload 4 (AW (mX11_unit, G) 289)))
theorem oX11_unit_286 (G : Nat × Nat × Nat × Option (Nat × (Nat → Int32)) × (Option Value → qW → Prop)) : qImp (bX11_unit_286 G) (AW (mX11_unit, G) 286) := (r_aload_n dX11_unit_286 rfl (r_iload dX11_unit_287 qImp.rf))
def bX11_unit_292 (G : Nat × Nat × Nat × Option (Nat × (Nat → Int32)) × (Option Value → qW → Prop)) : qK := (s_vreturn (mX11_unit, G))
theorem oX11_unit_292 (G : Nat × Nat × Nat × Option (Nat × (Nat → Int32)) × (Option Value → qW → Prop)) : qImp (bX11_unit_292 G) (AW (mX11_unit, G) 292) := (r_vreturn dX11_unit_292 rfl)
theorem kX11_unit_1 {G : Nat × Nat × Nat × Option (Nat × (Nat → Int32)) × (Option Value → qW → Prop)} {L : qL} {w : qW} {kc ks : Nat} {rest : List Value} {q : Nat}  {d mc ms : Nat} {Q : Option Value → qW → Prop} (hC : CT mX11_look d mc ms [.ref q] w Q) (hq : qci w q = some 11) (hst : rest.length ≤ 4) (hdp : d + 1 ≤ G.1) (hmc : kc + mc ≤ G.2.1 ∧ ks + ms ≤ G.2.2.1) (k : ∀ r w', Q r w' → AW (mX11_unit, G) 4 L (r.toList ++ rest) w' (kc + mc) (ks + ms)) : AW (mX11_unit, G) 1 L (.ref q :: rest) w kc ks := a_callV [] rest dX11_unit_1 vX11_look lk1112 hC hq rfl rfl hst hdp hmc k
theorem kX11_unit_41 {G : Nat × Nat × Nat × Option (Nat × (Nat → Int32)) × (Option Value → qW → Prop)} {L : qL} {w : qW} {kc ks : Nat} {rest : List Value} {q : Nat}  {d mc ms : Nat} {Q : Option Value → qW → Prop} (hC : CT mX11_tests d mc ms [.ref q] w Q) (hq : qci w q = some 11) (hst : rest.length ≤ 4) (hdp : d + 1 ≤ G.1) (hmc : kc + mc ≤ G.2.1 ∧ ks + ms ≤ G.2.2.1) (k : ∀ r w', Q r w' → AW (mX11_unit, G) 44 L (r.toList ++ rest) w' (kc + mc) (ks + ms)) : AW (mX11_unit, G) 41 L (.ref q :: rest) w kc ks := a_callV [] rest dX11_unit_41 vX11_tests lk1100 hC hq rfl rfl hst hdp hmc k
theorem kX11_unit_53 {G : Nat × Nat × Nat × Option (Nat × (Nat → Int32)) × (Option Value → qW → Prop)} {L : qL} {w : qW} {kc ks : Nat} {rest : List Value} {q : Nat}  {d mc ms : Nat} {Q : Option Value → qW → Prop} (hC : CT mX11_look d mc ms [.ref q] w Q) (hq : qci w q = some 11) (hst : rest.length ≤ 4) (hdp : d + 1 ≤ G.1) (hmc : kc + mc ≤ G.2.1 ∧ ks + ms ≤ G.2.2.1) (k : ∀ r w', Q r w' → AW (mX11_unit, G) 56 L (r.toList ++ rest) w' (kc + mc) (ks + ms)) : AW (mX11_unit, G) 53 L (.ref q :: rest) w kc ks := a_callV [] rest dX11_unit_53 vX11_look lk1112 hC hq rfl rfl hst hdp hmc k
theorem kX11_unit_62 {G : Nat × Nat × Nat × Option (Nat × (Nat → Int32)) × (Option Value → qW → Prop)} {L : qL} {w : qW} {kc ks : Nat} {rest : List Value} {q : Nat}  {d mc ms : Nat} {Q : Option Value → qW → Prop} (hC : CT mX11_fail d mc ms [.ref q] w Q) (hq : qci w q = some 11) (hst : rest.length ≤ 4) (hdp : d + 1 ≤ G.1) (hmc : kc + mc ≤ G.2.1 ∧ ks + ms ≤ G.2.2.1) (k : ∀ r w', Q r w' → AW (mX11_unit, G) 65 L (r.toList ++ rest) w' (kc + mc) (ks + ms)) : AW (mX11_unit, G) 62 L (.ref q :: rest) w kc ks := a_callV [] rest dX11_unit_62 vX11_fail lk1116 hC hq rfl rfl hst hdp hmc k
theorem kX11_unit_105 {G : Nat × Nat × Nat × Option (Nat × (Nat → Int32)) × (Option Value → qW → Prop)} {L : qL} {w : qW} {kc ks : Nat} {rest : List Value} {q : Nat}  {d mc ms : Nat} {Q : Option Value → qW → Prop} (hC : CT mX11_fail d mc ms [.ref q] w Q) (hq : qci w q = some 11) (hst : rest.length ≤ 4) (hdp : d + 1 ≤ G.1) (hmc : kc + mc ≤ G.2.1 ∧ ks + ms ≤ G.2.2.1) (k : ∀ r w', Q r w' → AW (mX11_unit, G) 108 L (r.toList ++ rest) w' (kc + mc) (ks + ms)) : AW (mX11_unit, G) 105 L (.ref q :: rest) w kc ks := a_callV [] rest dX11_unit_105 vX11_fail lk1116 hC hq rfl rfl hst hdp hmc k
theorem kX11_unit_120 {G : Nat × Nat × Nat × Option (Nat × (Nat → Int32)) × (Option Value → qW → Prop)} {L : qL} {w : qW} {kc ks : Nat} {rest : List Value} {q : Nat}  {d mc ms : Nat} {Q : Option Value → qW → Prop} (hC : CT mX11_look d mc ms [.ref q] w Q) (hq : qci w q = some 11) (hst : rest.length ≤ 4) (hdp : d + 1 ≤ G.1) (hmc : kc + mc ≤ G.2.1 ∧ ks + ms ≤ G.2.2.1) (k : ∀ r w', Q r w' → AW (mX11_unit, G) 123 L (r.toList ++ rest) w' (kc + mc) (ks + ms)) : AW (mX11_unit, G) 120 L (.ref q :: rest) w kc ks := a_callV [] rest dX11_unit_120 vX11_look lk1112 hC hq rfl rfl hst hdp hmc k
theorem kX11_unit_143 {G : Nat × Nat × Nat × Option (Nat × (Nat → Int32)) × (Option Value → qW → Prop)} {L : qL} {w : qW} {kc ks : Nat} {rest : List Value} {q : Nat}  {d mc ms : Nat} {Q : Option Value → qW → Prop} (hC : CT mX11_fail d mc ms [.ref q] w Q) (hq : qci w q = some 11) (hst : rest.length ≤ 4) (hdp : d + 1 ≤ G.1) (hmc : kc + mc ≤ G.2.1 ∧ ks + ms ≤ G.2.2.1) (k : ∀ r w', Q r w' → AW (mX11_unit, G) 146 L (r.toList ++ rest) w' (kc + mc) (ks + ms)) : AW (mX11_unit, G) 143 L (.ref q :: rest) w kc ks := a_callV [] rest dX11_unit_143 vX11_fail lk1116 hC hq rfl rfl hst hdp hmc k
theorem kX11_unit_158 {G : Nat × Nat × Nat × Option (Nat × (Nat → Int32)) × (Option Value → qW → Prop)} {L : qL} {w : qW} {kc ks : Nat} {rest : List Value} {q : Nat}  {d mc ms : Nat} {Q : Option Value → qW → Prop} (hC : CT mX11_look d mc ms [.ref q] w Q) (hq : qci w q = some 11) (hst : rest.length ≤ 4) (hdp : d + 1 ≤ G.1) (hmc : kc + mc ≤ G.2.1 ∧ ks + ms ≤ G.2.2.1) (k : ∀ r w', Q r w' → AW (mX11_unit, G) 161 L (r.toList ++ rest) w' (kc + mc) (ks + ms)) : AW (mX11_unit, G) 158 L (.ref q :: rest) w kc ks := a_callV [] rest dX11_unit_158 vX11_look lk1112 hC hq rfl rfl hst hdp hmc k
theorem kX11_unit_181 {G : Nat × Nat × Nat × Option (Nat × (Nat → Int32)) × (Option Value → qW → Prop)} {L : qL} {w : qW} {kc ks : Nat} {rest : List Value} {q : Nat}  {d mc ms : Nat} {Q : Option Value → qW → Prop} (hC : CT mX11_fail d mc ms [.ref q] w Q) (hq : qci w q = some 11) (hst : rest.length ≤ 4) (hdp : d + 1 ≤ G.1) (hmc : kc + mc ≤ G.2.1 ∧ ks + ms ≤ G.2.2.1) (k : ∀ r w', Q r w' → AW (mX11_unit, G) 184 L (r.toList ++ rest) w' (kc + mc) (ks + ms)) : AW (mX11_unit, G) 181 L (.ref q :: rest) w kc ks := a_callV [] rest dX11_unit_181 vX11_fail lk1116 hC hq rfl rfl hst hdp hmc k
theorem kX11_unit_231 {G : Nat × Nat × Nat × Option (Nat × (Nat → Int32)) × (Option Value → qW → Prop)} {L : qL} {w : qW} {kc ks : Nat} {rest : List Value} {q : Nat}  {d mc ms : Nat} {Q : Option Value → qW → Prop} (hC : CT mX11_fail d mc ms [.ref q] w Q) (hq : qci w q = some 11) (hst : rest.length ≤ 4) (hdp : d + 1 ≤ G.1) (hmc : kc + mc ≤ G.2.1 ∧ ks + ms ≤ G.2.2.1) (k : ∀ r w', Q r w' → AW (mX11_unit, G) 234 L (r.toList ++ rest) w' (kc + mc) (ks + ms)) : AW (mX11_unit, G) 231 L (.ref q :: rest) w kc ks := a_callV [] rest dX11_unit_231 vX11_fail lk1116 hC hq rfl rfl hst hdp hmc k
theorem kX11_unit_273 {G : Nat × Nat × Nat × Option (Nat × (Nat → Int32)) × (Option Value → qW → Prop)} {L : qL} {w : qW} {kc ks : Nat} {rest : List Value} {q : Nat} {x0 : Int32} {d mc ms : Nat} {Q : Option Value → qW → Prop} (hC : CT mX11_say d mc ms [.ref q, .int x0] w Q) (hq : qci w q = some 11) (hst : rest.length ≤ 4) (hdp : d + 1 ≤ G.1) (hmc : kc + mc ≤ G.2.1 ∧ ks + ms ≤ G.2.2.1) (k : ∀ r w', Q r w' → AW (mX11_unit, G) 276 L (r.toList ++ rest) w' (kc + mc) (ks + ms)) : AW (mX11_unit, G) 273 L (.int x0 :: .ref q :: rest) w kc ks := a_callV [.int x0] rest dX11_unit_273 vX11_say lk1120 hC hq rfl rfl hst hdp hmc k
theorem kX11_unit_278 {G : Nat × Nat × Nat × Option (Nat × (Nat → Int32)) × (Option Value → qW → Prop)} {L : qL} {w : qW} {kc ks : Nat} {rest : List Value} {q : Nat} {x0 : Int32} {d mc ms : Nat} {Q : Option Value → qW → Prop} (hC : CT mX11_say d mc ms [.ref q, .int x0] w Q) (hq : qci w q = some 11) (hst : rest.length ≤ 4) (hdp : d + 1 ≤ G.1) (hmc : kc + mc ≤ G.2.1 ∧ ks + ms ≤ G.2.2.1) (k : ∀ r w', Q r w' → AW (mX11_unit, G) 281 L (r.toList ++ rest) w' (kc + mc) (ks + ms)) : AW (mX11_unit, G) 278 L (.int x0 :: .ref q :: rest) w kc ks := a_callV [.int x0] rest dX11_unit_278 vX11_say lk1120 hC hq rfl rfl hst hdp hmc k
theorem kX11_unit_283 {G : Nat × Nat × Nat × Option (Nat × (Nat → Int32)) × (Option Value → qW → Prop)} {L : qL} {w : qW} {kc ks : Nat} {rest : List Value} {q : Nat} {x0 : Int32} {d mc ms : Nat} {Q : Option Value → qW → Prop} (hC : CT mX11_say d mc ms [.ref q, .int x0] w Q) (hq : qci w q = some 11) (hst : rest.length ≤ 4) (hdp : d + 1 ≤ G.1) (hmc : kc + mc ≤ G.2.1 ∧ ks + ms ≤ G.2.2.1) (k : ∀ r w', Q r w' → AW (mX11_unit, G) 286 L (r.toList ++ rest) w' (kc + mc) (ks + ms)) : AW (mX11_unit, G) 283 L (.int x0 :: .ref q :: rest) w kc ks := a_callV [.int x0] rest dX11_unit_283 vX11_say lk1120 hC hq rfl rfl hst hdp hmc k
theorem kX11_unit_289 {G : Nat × Nat × Nat × Option (Nat × (Nat → Int32)) × (Option Value → qW → Prop)} {L : qL} {w : qW} {kc ks : Nat} {rest : List Value} {q : Nat} {x0 : Int32} {d mc ms : Nat} {Q : Option Value → qW → Prop} (hC : CT mX11_say d mc ms [.ref q, .int x0] w Q) (hq : qci w q = some 11) (hst : rest.length ≤ 4) (hdp : d + 1 ≤ G.1) (hmc : kc + mc ≤ G.2.1 ∧ ks + ms ≤ G.2.2.1) (k : ∀ r w', Q r w' → AW (mX11_unit, G) 292 L (r.toList ++ rest) w' (kc + mc) (ks + ms)) : AW (mX11_unit, G) 289 L (.int x0 :: .ref q :: rest) w kc ks := a_callV [.int x0] rest dX11_unit_289 vX11_say lk1120 hC hq rfl rfl hst hdp hmc k
theorem dX11_part_0 : decode cX11_part 0 = .ok (.aload_n 0, 1) := by decide +kernel
theorem dX11_part_1 : decode cX11_part 1 = .ok (.invokevirtual 197, 3) := by decide +kernel
theorem dX11_part_4 : decode cX11_part 4 = .ok (.aload_n 0, 1) := by decide +kernel
theorem dX11_part_5 : decode cX11_part 5 = .ok (.getfield 175, 3) := by decide +kernel
theorem dX11_part_8 : decode cX11_part 8 = .ok (.iconst (-1), 1) := by decide +kernel
theorem dX11_part_9 : decode cX11_part 9 = .ok (.if_icmp .ne 34, 3) := by decide +kernel
theorem dX11_part_12 : decode cX11_part 12 = .ok (.aload_n 0, 1) := by decide +kernel
theorem dX11_part_13 : decode cX11_part 13 = .ok (.invokevirtual 181, 3) := by decide +kernel
theorem dX11_part_16 : decode cX11_part 16 = .ok (.bipush 38, 2) := by decide +kernel
theorem dX11_part_18 : decode cX11_part 18 = .ok (.if_icmp .ne 25, 3) := by decide +kernel
theorem dX11_part_21 : decode cX11_part 21 = .ok (.aload_n 0, 1) := by decide +kernel
theorem dX11_part_22 : decode cX11_part 22 = .ok (.dup, 1) := by decide +kernel
theorem dX11_part_23 : decode cX11_part 23 = .ok (.getfield 172, 3) := by decide +kernel
theorem dX11_part_26 : decode cX11_part 26 = .ok (.iconst 1, 1) := by decide +kernel
theorem dX11_part_27 : decode cX11_part 27 = .ok (.iadd, 1) := by decide +kernel
theorem dX11_part_28 : decode cX11_part 28 = .ok (.putfield 172, 3) := by decide +kernel
theorem dX11_part_31 : decode cX11_part 31 = .ok (.aload_n 0, 1) := by decide +kernel
theorem dX11_part_32 : decode cX11_part 32 = .ok (.invokevirtual 197, 3) := by decide +kernel
theorem dX11_part_35 : decode cX11_part 35 = .ok (.aload_n 0, 1) := by decide +kernel
theorem dX11_part_36 : decode cX11_part 36 = .ok (.iconst 1, 1) := by decide +kernel
theorem dX11_part_37 : decode cX11_part 37 = .ok (.invokevirtual 194, 3) := by decide +kernel
theorem dX11_part_40 : decode cX11_part 40 = .ok (.goto (-36), 3) := by decide +kernel
theorem dX11_part_43 : decode cX11_part 43 = .ok (.return_, 1) := by decide +kernel
/-! SealLineModel.part()V -/
theorem eX11_part {d mc ms : Nat} {w : qW} {Q : Option Value → qW → Prop} {q : Nat} (h : AW (mX11_part, d, mc, ms, none, Q) 0 [some (.ref q)] [] w 0 0) : CT mX11_part d mc ms [.ref q] w Q := CT_of (by decide +kernel) rfl (Nat.le_of_ble_eq_true rfl) h
def bX11_part_0 (G : Nat × Nat × Nat × Option (Nat × (Nat → Int32)) × (Option Value → qW → Prop)) : qK := (s_aload 0 (AW (mX11_part, G) 1))
theorem oX11_part_0 (G : Nat × Nat × Nat × Option (Nat × (Nat → Int32)) × (Option Value → qW → Prop)) : qImp (bX11_part_0 G) (AW (mX11_part, G) 0) := (r_aload_n dX11_part_0 rfl qImp.rf)
def bX11_part_4 (G : Nat × Nat × Nat × Option (Nat × (Nat → Int32)) × (Option Value → qW → Prop)) : qK := (s_aload 0 (s_getfield 11 34 (s_iconst (-1) (s_ic_ne (AW (mX11_part, G) 43) (s_aload 0 (AW (mX11_part, G) 13))))))
theorem oX11_part_4 (G : Nat × Nat × Nat × Option (Nat × (Nat → Int32)) × (Option Value → qW → Prop)) : qImp (bX11_part_4 G) (AW (mX11_part, G) 4) := (r_aload_n dX11_part_4 rfl (r_getfield dX11_part_5 fgX11_175 (r_iconst dX11_part_8 rfl (r_ic_ne (tgt := 43) dX11_part_9 rfl qImp.rf (r_aload_n dX11_part_12 rfl qImp.rf)))))
def bX11_part_16 (G : Nat × Nat × Nat × Option (Nat × (Nat → Int32)) × (Option Value → qW → Prop)) : qK := (s_iconst 38 (s_ic_ne (AW (mX11_part, G) 43) (s_aload 0 (s_dup (s_getfield 11 33 (s_iconst 1 (s_iadd (s_putI 11 33 (s_aload 0 (AW (mX11_part, G) 32))))))))))
theorem oX11_part_16 (G : Nat × Nat × Nat × Option (Nat × (Nat → Int32)) × (Option Value → qW → Prop)) : qImp (bX11_part_16 G) (AW (mX11_part, G) 16) := (r_bipush dX11_part_16 rfl (r_ic_ne (tgt := 43) dX11_part_18 rfl qImp.rf (r_aload_n dX11_part_21 rfl (r_dup dX11_part_22 (r_getfield dX11_part_23 fgX11_172 (r_iconst dX11_part_26 rfl (r_iadd dX11_part_27 (r_putI dX11_part_28 fpX11_172 (fun q hq => by cases hq; rfl) (r_aload_n dX11_part_31 rfl qImp.rf)))))))))
def bX11_part_35 (G : Nat × Nat × Nat × Option (Nat × (Nat → Int32)) × (Option Value → qW → Prop)) : qK := (s_aload 0 (s_iconst 1 (AW (mX11_part, G) 37)))
theorem oX11_part_35 (G : Nat × Nat × Nat × Option (Nat × (Nat → Int32)) × (Option Value → qW → Prop)) : qImp (bX11_part_35 G) (AW (mX11_part, G) 35) := (r_aload_n dX11_part_35 rfl (r_iconst dX11_part_36 rfl qImp.rf))
def bX11_part_40 (G : Nat × Nat × Nat × Option (Nat × (Nat → Int32)) × (Option Value → qW → Prop)) : qK := (AW (mX11_part, G) 4)
theorem oX11_part_40 (G : Nat × Nat × Nat × Option (Nat × (Nat → Int32)) × (Option Value → qW → Prop)) : qImp (bX11_part_40 G) (AW (mX11_part, G) 40) := (r_goto (tgt := 4) dX11_part_40 rfl qImp.rf)
def bX11_part_43 (G : Nat × Nat × Nat × Option (Nat × (Nat → Int32)) × (Option Value → qW → Prop)) : qK := (s_vreturn (mX11_part, G))
theorem oX11_part_43 (G : Nat × Nat × Nat × Option (Nat × (Nat → Int32)) × (Option Value → qW → Prop)) : qImp (bX11_part_43 G) (AW (mX11_part, G) 43) := (r_vreturn dX11_part_43 rfl)
theorem kX11_part_1 {G : Nat × Nat × Nat × Option (Nat × (Nat → Int32)) × (Option Value → qW → Prop)} {L : qL} {w : qW} {kc ks : Nat} {rest : List Value} {q : Nat}  {d mc ms : Nat} {Q : Option Value → qW → Prop} (hC : CT mX11_unit d mc ms [.ref q] w Q) (hq : qci w q = some 11) (hst : rest.length ≤ 4) (hdp : d + 1 ≤ G.1) (hmc : kc + mc ≤ G.2.1 ∧ ks + ms ≤ G.2.2.1) (k : ∀ r w', Q r w' → AW (mX11_part, G) 4 L (r.toList ++ rest) w' (kc + mc) (ks + ms)) : AW (mX11_part, G) 1 L (.ref q :: rest) w kc ks := a_callV [] rest dX11_part_1 vX11_unit lk1108 hC hq rfl rfl hst hdp hmc k
theorem kX11_part_13 {G : Nat × Nat × Nat × Option (Nat × (Nat → Int32)) × (Option Value → qW → Prop)} {L : qL} {w : qW} {kc ks : Nat} {rest : List Value} {q : Nat}  {d mc ms : Nat} {Q : Option Value → qW → Prop} (hC : CT mX11_look d mc ms [.ref q] w Q) (hq : qci w q = some 11) (hst : rest.length ≤ 4) (hdp : d + 1 ≤ G.1) (hmc : kc + mc ≤ G.2.1 ∧ ks + ms ≤ G.2.2.1) (k : ∀ r w', Q r w' → AW (mX11_part, G) 16 L (r.toList ++ rest) w' (kc + mc) (ks + ms)) : AW (mX11_part, G) 13 L (.ref q :: rest) w kc ks := a_callV [] rest dX11_part_13 vX11_look lk1112 hC hq rfl rfl hst hdp hmc k
theorem kX11_part_32 {G : Nat × Nat × Nat × Option (Nat × (Nat → Int32)) × (Option Value → qW → Prop)} {L : qL} {w : qW} {kc ks : Nat} {rest : List Value} {q : Nat}  {d mc ms : Nat} {Q : Option Value → qW → Prop} (hC : CT mX11_unit d mc ms [.ref q] w Q) (hq : qci w q = some 11) (hst : rest.length ≤ 4) (hdp : d + 1 ≤ G.1) (hmc : kc + mc ≤ G.2.1 ∧ ks + ms ≤ G.2.2.1) (k : ∀ r w', Q r w' → AW (mX11_part, G) 35 L (r.toList ++ rest) w' (kc + mc) (ks + ms)) : AW (mX11_part, G) 32 L (.ref q :: rest) w kc ks := a_callV [] rest dX11_part_32 vX11_unit lk1108 hC hq rfl rfl hst hdp hmc k
theorem kX11_part_37 {G : Nat × Nat × Nat × Option (Nat × (Nat → Int32)) × (Option Value → qW → Prop)} {L : qL} {w : qW} {kc ks : Nat} {rest : List Value} {q : Nat} {x0 : Int32} {d mc ms : Nat} {Q : Option Value → qW → Prop} (hC : CT mX11_say d mc ms [.ref q, .int x0] w Q) (hq : qci w q = some 11) (hst : rest.length ≤ 4) (hdp : d + 1 ≤ G.1) (hmc : kc + mc ≤ G.2.1 ∧ ks + ms ≤ G.2.2.1) (k : ∀ r w', Q r w' → AW (mX11_part, G) 40 L (r.toList ++ rest) w' (kc + mc) (ks + ms)) : AW (mX11_part, G) 37 L (.int x0 :: .ref q :: rest) w kc ks := a_callV [.int x0] rest dX11_part_37 vX11_say lk1120 hC hq rfl rfl hst hdp hmc k
theorem dX11_fault_0 : decode cX11_fault 0 = .ok (.aload_n 0, 1) := by decide +kernel
theorem dX11_fault_1 : decode cX11_fault 1 = .ok (.iconst 0, 1) := by decide +kernel
theorem dX11_fault_2 : decode cX11_fault 2 = .ok (.putfield 172, 3) := by decide +kernel
theorem dX11_fault_5 : decode cX11_fault 5 = .ok (.aload_n 0, 1) := by decide +kernel
theorem dX11_fault_6 : decode cX11_fault 6 = .ok (.iconst (-1), 1) := by decide +kernel
theorem dX11_fault_7 : decode cX11_fault 7 = .ok (.putfield 175, 3) := by decide +kernel
theorem dX11_fault_10 : decode cX11_fault 10 = .ok (.aload_n 0, 1) := by decide +kernel
theorem dX11_fault_11 : decode cX11_fault 11 = .ok (.iconst 0, 1) := by decide +kernel
theorem dX11_fault_12 : decode cX11_fault 12 = .ok (.putfield 185, 3) := by decide +kernel
theorem dX11_fault_15 : decode cX11_fault 15 = .ok (.aload_n 0, 1) := by decide +kernel
theorem dX11_fault_16 : decode cX11_fault 16 = .ok (.iconst 0, 1) := by decide +kernel
theorem dX11_fault_17 : decode cX11_fault 17 = .ok (.putfield 178, 3) := by decide +kernel
theorem dX11_fault_20 : decode cX11_fault 20 = .ok (.aload_n 0, 1) := by decide +kernel
theorem dX11_fault_21 : decode cX11_fault 21 = .ok (.invokevirtual 188, 3) := by decide +kernel
theorem dX11_fault_24 : decode cX11_fault 24 = .ok (.aload_n 0, 1) := by decide +kernel
theorem dX11_fault_25 : decode cX11_fault 25 = .ok (.getfield 175, 3) := by decide +kernel
theorem dX11_fault_28 : decode cX11_fault 28 = .ok (.iconst (-1), 1) := by decide +kernel
theorem dX11_fault_29 : decode cX11_fault 29 = .ok (.if_icmp .ne 15, 3) := by decide +kernel
theorem dX11_fault_32 : decode cX11_fault 32 = .ok (.aload_n 0, 1) := by decide +kernel
theorem dX11_fault_33 : decode cX11_fault 33 = .ok (.invokevirtual 181, 3) := by decide +kernel
theorem dX11_fault_36 : decode cX11_fault 36 = .ok (.iconst (-1), 1) := by decide +kernel
theorem dX11_fault_37 : decode cX11_fault 37 = .ok (.if_icmp .eq 7, 3) := by decide +kernel
theorem dX11_fault_40 : decode cX11_fault 40 = .ok (.aload_n 0, 1) := by decide +kernel
theorem dX11_fault_41 : decode cX11_fault 41 = .ok (.invokevirtual 191, 3) := by decide +kernel
theorem dX11_fault_44 : decode cX11_fault 44 = .ok (.aload_n 0, 1) := by decide +kernel
theorem dX11_fault_45 : decode cX11_fault 45 = .ok (.getfield 175, 3) := by decide +kernel
theorem dX11_fault_48 : decode cX11_fault 48 = .ok (.ireturn, 1) := by decide +kernel
/-! SealLineModel.fault()I -/
theorem eX11_fault {d mc ms : Nat} {w : qW} {Q : Option Value → qW → Prop} {q : Nat} (h : AW (mX11_fault, d, mc, ms, none, Q) 0 [some (.ref q)] [] w 0 0) : CT mX11_fault d mc ms [.ref q] w Q := CT_of (by decide +kernel) rfl (Nat.le_of_ble_eq_true rfl) h
def bX11_fault_0 (G : Nat × Nat × Nat × Option (Nat × (Nat → Int32)) × (Option Value → qW → Prop)) : qK := (s_aload 0 (s_iconst 0 (s_putI 11 33 (s_aload 0 (s_iconst (-1) (s_putI 11 34 (s_aload 0 (s_iconst 0 (s_putI 11 35 (s_aload 0 (s_iconst 0 (s_putI 11 36 (s_aload 0 (AW (mX11_fault, G) 21))))))))))))))
theorem oX11_fault_0 (G : Nat × Nat × Nat × Option (Nat × (Nat → Int32)) × (Option Value → qW → Prop)) : qImp (bX11_fault_0 G) (AW (mX11_fault, G) 0) := (r_aload_n dX11_fault_0 rfl (r_iconst dX11_fault_1 rfl (r_putI dX11_fault_2 fpX11_172 (fun q hq => by cases hq; rfl) (r_aload_n dX11_fault_5 rfl (r_iconst dX11_fault_6 rfl (r_putI dX11_fault_7 fpX11_175 (fun q hq => by cases hq; rfl) (r_aload_n dX11_fault_10 rfl (r_iconst dX11_fault_11 rfl (r_putI dX11_fault_12 fpX11_185 (fun q hq => by cases hq; rfl) (r_aload_n dX11_fault_15 rfl (r_iconst dX11_fault_16 rfl (r_putI dX11_fault_17 fpX11_178 (fun q hq => by cases hq; rfl) (r_aload_n dX11_fault_20 rfl qImp.rf)))))))))))))
def bX11_fault_24 (G : Nat × Nat × Nat × Option (Nat × (Nat → Int32)) × (Option Value → qW → Prop)) : qK := (s_aload 0 (s_getfield 11 34 (s_iconst (-1) (s_ic_ne (AW (mX11_fault, G) 44) (s_aload 0 (AW (mX11_fault, G) 33))))))
theorem oX11_fault_24 (G : Nat × Nat × Nat × Option (Nat × (Nat → Int32)) × (Option Value → qW → Prop)) : qImp (bX11_fault_24 G) (AW (mX11_fault, G) 24) := (r_aload_n dX11_fault_24 rfl (r_getfield dX11_fault_25 fgX11_175 (r_iconst dX11_fault_28 rfl (r_ic_ne (tgt := 44) dX11_fault_29 rfl qImp.rf (r_aload_n dX11_fault_32 rfl qImp.rf)))))
def bX11_fault_36 (G : Nat × Nat × Nat × Option (Nat × (Nat → Int32)) × (Option Value → qW → Prop)) : qK := (s_iconst (-1) (s_ic_eq (AW (mX11_fault, G) 44) (s_aload 0 (AW (mX11_fault, G) 41))))
theorem oX11_fault_36 (G : Nat × Nat × Nat × Option (Nat × (Nat → Int32)) × (Option Value → qW → Prop)) : qImp (bX11_fault_36 G) (AW (mX11_fault, G) 36) := (r_iconst dX11_fault_36 rfl (r_ic_eq (tgt := 44) dX11_fault_37 rfl qImp.rf (r_aload_n dX11_fault_40 rfl qImp.rf)))
def bX11_fault_44 (G : Nat × Nat × Nat × Option (Nat × (Nat → Int32)) × (Option Value → qW → Prop)) : qK := (s_aload 0 (s_getfield 11 34 (s_ireturn (mX11_fault, G))))
theorem oX11_fault_44 (G : Nat × Nat × Nat × Option (Nat × (Nat → Int32)) × (Option Value → qW → Prop)) : qImp (bX11_fault_44 G) (AW (mX11_fault, G) 44) := (r_aload_n dX11_fault_44 rfl (r_getfield dX11_fault_45 fgX11_175 (r_ireturn dX11_fault_48 rfl)))
theorem kX11_fault_21 {G : Nat × Nat × Nat × Option (Nat × (Nat → Int32)) × (Option Value → qW → Prop)} {L : qL} {w : qW} {kc ks : Nat} {rest : List Value} {q : Nat}  {d mc ms : Nat} {Q : Option Value → qW → Prop} (hC : CT mX11_tests d mc ms [.ref q] w Q) (hq : qci w q = some 11) (hst : rest.length ≤ 4) (hdp : d + 1 ≤ G.1) (hmc : kc + mc ≤ G.2.1 ∧ ks + ms ≤ G.2.2.1) (k : ∀ r w', Q r w' → AW (mX11_fault, G) 24 L (r.toList ++ rest) w' (kc + mc) (ks + ms)) : AW (mX11_fault, G) 21 L (.ref q :: rest) w kc ks := a_callV [] rest dX11_fault_21 vX11_tests lk1100 hC hq rfl rfl hst hdp hmc k
theorem kX11_fault_33 {G : Nat × Nat × Nat × Option (Nat × (Nat → Int32)) × (Option Value → qW → Prop)} {L : qL} {w : qW} {kc ks : Nat} {rest : List Value} {q : Nat}  {d mc ms : Nat} {Q : Option Value → qW → Prop} (hC : CT mX11_look d mc ms [.ref q] w Q) (hq : qci w q = some 11) (hst : rest.length ≤ 4) (hdp : d + 1 ≤ G.1) (hmc : kc + mc ≤ G.2.1 ∧ ks + ms ≤ G.2.2.1) (k : ∀ r w', Q r w' → AW (mX11_fault, G) 36 L (r.toList ++ rest) w' (kc + mc) (ks + ms)) : AW (mX11_fault, G) 33 L (.ref q :: rest) w kc ks := a_callV [] rest dX11_fault_33 vX11_look lk1112 hC hq rfl rfl hst hdp hmc k
theorem kX11_fault_41 {G : Nat × Nat × Nat × Option (Nat × (Nat → Int32)) × (Option Value → qW → Prop)} {L : qL} {w : qW} {kc ks : Nat} {rest : List Value} {q : Nat}  {d mc ms : Nat} {Q : Option Value → qW → Prop} (hC : CT mX11_fail d mc ms [.ref q] w Q) (hq : qci w q = some 11) (hst : rest.length ≤ 4) (hdp : d + 1 ≤ G.1) (hmc : kc + mc ≤ G.2.1 ∧ ks + ms ≤ G.2.2.1) (k : ∀ r w', Q r w' → AW (mX11_fault, G) 44 L (r.toList ++ rest) w' (kc + mc) (ks + ms)) : AW (mX11_fault, G) 41 L (.ref q :: rest) w kc ks := a_callV [] rest dX11_fault_41 vX11_fail lk1116 hC hq rfl rfl hst hdp hmc k
theorem dX11_rule_0 : decode cX11_rule 0 = .ok (.aload_n 0, 1) := by decide +kernel
theorem dX11_rule_1 : decode cX11_rule 1 = .ok (.getfield 203, 3) := by decide +kernel
theorem dX11_rule_4 : decode cX11_rule 4 = .ok (.bipush 20, 2) := by decide +kernel
theorem dX11_rule_6 : decode cX11_rule 6 = .ok (.if_icmp .eq 11, 3) := by decide +kernel
theorem dX11_rule_9 : decode cX11_rule 9 = .ok (.aload_n 0, 1) := by decide +kernel
theorem dX11_rule_10 : decode cX11_rule 10 = .ok (.invokevirtual 206, 3) := by decide +kernel
theorem dX11_rule_13 : decode cX11_rule 13 = .ok (.iconst (-1), 1) := by decide +kernel
theorem dX11_rule_14 : decode cX11_rule 14 = .ok (.if_icmp .eq 5, 3) := by decide +kernel
theorem dX11_rule_17 : decode cX11_rule 17 = .ok (.iconst (-1), 1) := by decide +kernel
theorem dX11_rule_18 : decode cX11_rule 18 = .ok (.ireturn, 1) := by decide +kernel
theorem dX11_rule_19 : decode cX11_rule 19 = .ok (.aload_n 0, 1) := by decide +kernel
theorem dX11_rule_20 : decode cX11_rule 20 = .ok (.iconst 3, 1) := by decide +kernel
theorem dX11_rule_21 : decode cX11_rule 21 = .ok (.invokevirtual 194, 3) := by decide +kernel
theorem dX11_rule_24 : decode cX11_rule 24 = .ok (.iconst 0, 1) := by decide +kernel
theorem dX11_rule_25 : decode cX11_rule 25 = .ok (.istore_n 1, 1) := by decide +kernel
theorem dX11_rule_26 : decode cX11_rule 26 = .ok (.iload_n 1, 1) := by decide +kernel
theorem dX11_rule_27 : decode cX11_rule 27 = .ok (.aload_n 0, 1) := by decide +kernel
theorem dX11_rule_28 : decode cX11_rule 28 = .ok (.getfield 178, 3) := by decide +kernel
theorem dX11_rule_31 : decode cX11_rule 31 = .ok (.if_icmp .ge 30, 3) := by decide +kernel
theorem dX11_rule_34 : decode cX11_rule 34 = .ok (.aload_n 0, 1) := by decide +kernel
theorem dX11_rule_35 : decode cX11_rule 35 = .ok (.getfield 84, 3) := by decide +kernel
theorem dX11_rule_38 : decode cX11_rule 38 = .ok (.sipush 220, 3) := by decide +kernel
theorem dX11_rule_41 : decode cX11_rule 41 = .ok (.aload_n 0, 1) := by decide +kernel
theorem dX11_rule_42 : decode cX11_rule 42 = .ok (.getfield 203, 3) := by decide +kernel
theorem dX11_rule_45 : decode cX11_rule 45 = .ok (.imul, 1) := by decide +kernel
theorem dX11_rule_46 : decode cX11_rule 46 = .ok (.iload_n 1, 1) := by decide +kernel
theorem dX11_rule_47 : decode cX11_rule 47 = .ok (.iadd, 1) := by decide +kernel
theorem dX11_rule_48 : decode cX11_rule 48 = .ok (.aload_n 0, 1) := by decide +kernel
theorem dX11_rule_49 : decode cX11_rule 49 = .ok (.getfield 87, 3) := by decide +kernel
theorem dX11_rule_52 : decode cX11_rule 52 = .ok (.iload_n 1, 1) := by decide +kernel
theorem dX11_rule_53 : decode cX11_rule 53 = .ok (.iaload, 1) := by decide +kernel
theorem dX11_rule_54 : decode cX11_rule 54 = .ok (.iastore, 1) := by decide +kernel
theorem dX11_rule_55 : decode cX11_rule 55 = .ok (.iinc 1 1, 3) := by decide +kernel
theorem dX11_rule_58 : decode cX11_rule 58 = .ok (.goto (-32), 3) := by decide +kernel
theorem dX11_rule_61 : decode cX11_rule 61 = .ok (.aload_n 0, 1) := by decide +kernel
theorem dX11_rule_62 : decode cX11_rule 62 = .ok (.dup, 1) := by decide +kernel
theorem dX11_rule_63 : decode cX11_rule 63 = .ok (.getfield 203, 3) := by decide +kernel
theorem dX11_rule_66 : decode cX11_rule 66 = .ok (.iconst 1, 1) := by decide +kernel
theorem dX11_rule_67 : decode cX11_rule 67 = .ok (.iadd, 1) := by decide +kernel
theorem dX11_rule_68 : decode cX11_rule 68 = .ok (.putfield 203, 3) := by decide +kernel
theorem dX11_rule_71 : decode cX11_rule 71 = .ok (.aload_n 0, 1) := by decide +kernel
theorem dX11_rule_72 : decode cX11_rule 72 = .ok (.iconst 0, 1) := by decide +kernel
theorem dX11_rule_73 : decode cX11_rule 73 = .ok (.putfield 169, 3) := by decide +kernel
theorem dX11_rule_76 : decode cX11_rule 76 = .ok (.aload_n 0, 1) := by decide +kernel
theorem dX11_rule_77 : decode cX11_rule 77 = .ok (.getfield 203, 3) := by decide +kernel
theorem dX11_rule_80 : decode cX11_rule 80 = .ok (.iconst 1, 1) := by decide +kernel
theorem dX11_rule_81 : decode cX11_rule 81 = .ok (.isub, 1) := by decide +kernel
theorem dX11_rule_82 : decode cX11_rule 82 = .ok (.ireturn, 1) := by decide +kernel
/-! SealLineModel.rule()I -/
theorem eX11_rule {d mc ms : Nat} {w : qW} {Q : Option Value → qW → Prop} {q : Nat} (h : AW (mX11_rule, d, mc, ms, none, Q) 0 [some (.ref q), none] [] w 0 0) : CT mX11_rule d mc ms [.ref q] w Q := CT_of (by decide +kernel) rfl (Nat.le_of_ble_eq_true rfl) h
def bX11_rule_0 (G : Nat × Nat × Nat × Option (Nat × (Nat → Int32)) × (Option Value → qW → Prop)) : qK := (s_aload 0 (s_getfield 11 2 (s_iconst 20 (s_ic_eq (AW (mX11_rule, G) 17) (s_aload 0 (AW (mX11_rule, G) 10))))))
theorem oX11_rule_0 (G : Nat × Nat × Nat × Option (Nat × (Nat → Int32)) × (Option Value → qW → Prop)) : qImp (bX11_rule_0 G) (AW (mX11_rule, G) 0) := (r_aload_n dX11_rule_0 rfl (r_getfield dX11_rule_1 fgX11_203 (r_bipush dX11_rule_4 rfl (r_ic_eq (tgt := 17) dX11_rule_6 rfl qImp.rf (r_aload_n dX11_rule_9 rfl qImp.rf)))))
def bX11_rule_13 (G : Nat × Nat × Nat × Option (Nat × (Nat → Int32)) × (Option Value → qW → Prop)) : qK := (s_iconst (-1) (s_ic_eq (AW (mX11_rule, G) 19) (AW (mX11_rule, G) 17)))
theorem oX11_rule_13 (G : Nat × Nat × Nat × Option (Nat × (Nat → Int32)) × (Option Value → qW → Prop)) : qImp (bX11_rule_13 G) (AW (mX11_rule, G) 13) := (r_iconst dX11_rule_13 rfl (r_ic_eq (tgt := 19) dX11_rule_14 rfl qImp.rf qImp.rf))
def bX11_rule_17 (G : Nat × Nat × Nat × Option (Nat × (Nat → Int32)) × (Option Value → qW → Prop)) : qK := (s_iconst (-1) (s_ireturn (mX11_rule, G)))
theorem oX11_rule_17 (G : Nat × Nat × Nat × Option (Nat × (Nat → Int32)) × (Option Value → qW → Prop)) : qImp (bX11_rule_17 G) (AW (mX11_rule, G) 17) := (r_iconst dX11_rule_17 rfl (r_ireturn dX11_rule_18 rfl))
def bX11_rule_19 (G : Nat × Nat × Nat × Option (Nat × (Nat → Int32)) × (Option Value → qW → Prop)) : qK := (s_aload 0 (s_iconst 3 (AW (mX11_rule, G) 21)))
theorem oX11_rule_19 (G : Nat × Nat × Nat × Option (Nat × (Nat → Int32)) × (Option Value → qW → Prop)) : qImp (bX11_rule_19 G) (AW (mX11_rule, G) 19) := (r_aload_n dX11_rule_19 rfl (r_iconst dX11_rule_20 rfl qImp.rf))
def bX11_rule_24 (G : Nat × Nat × Nat × Option (Nat × (Nat → Int32)) × (Option Value → qW → Prop)) : qK := (s_iconst 0 (s_istore 1 0 (AW (mX11_rule, G) 26)))
theorem oX11_rule_24 (G : Nat × Nat × Nat × Option (Nat × (Nat → Int32)) × (Option Value → qW → Prop)) : qImp (bX11_rule_24 G) (AW (mX11_rule, G) 24) := (r_iconst dX11_rule_24 rfl (r_istore_n dX11_rule_25 rfl (Or.inr rfl) (Nat.le_of_ble_eq_true rfl) qImp.rf))
def bX11_rule_26 (G : Nat × Nat × Nat × Option (Nat × (Nat → Int32)) × (Option Value → qW → Prop)) : qK := (s_iload 1 (s_aload 0 (s_getfield 11 36 (s_ic_ge (AW (mX11_rule, G) 61) (s_aload 0 (s_getfield 11 30 (s_iconst 220 (s_aload 0 (s_getfield 11 2 (s_imul (s_iload 1 (s_iadd (s_aload 0 (s_getfield 11 31 (s_iload 1 (s_iaload (mX11_rule, G) (s_iastore (s_iinc 1 0 1 (AW (mX11_rule, G) 26)))))))))))))))))))
theorem oX11_rule_26 (G : Nat × Nat × Nat × Option (Nat × (Nat → Int32)) × (Option Value → qW → Prop)) : qImp (bX11_rule_26 G) (AW (mX11_rule, G) 26) := (r_iload_n dX11_rule_26 rfl (r_aload_n dX11_rule_27 rfl (r_getfield dX11_rule_28 fgX11_178 (r_ic_ge (tgt := 61) dX11_rule_31 rfl qImp.rf (r_aload_n dX11_rule_34 rfl (r_getfield dX11_rule_35 fgX11_84 (r_sipush dX11_rule_38 rfl (r_aload_n dX11_rule_41 rfl (r_getfield dX11_rule_42 fgX11_203 (r_imul dX11_rule_45 (r_iload_n dX11_rule_46 rfl (r_iadd dX11_rule_47 (r_aload_n dX11_rule_48 rfl (r_getfield dX11_rule_49 fgX11_87 (r_iload_n dX11_rule_52 rfl (r_iaload dX11_rule_53 (r_iastore dX11_rule_54 (r_iinc dX11_rule_55 rfl (Or.inr rfl) (Nat.le_of_ble_eq_true rfl) (r_goto (tgt := 26) dX11_rule_58 rfl qImp.rf)))))))))))))))))))
def bX11_rule_61 (G : Nat × Nat × Nat × Option (Nat × (Nat → Int32)) × (Option Value → qW → Prop)) : qK := (s_aload 0 (s_dup (s_getfield 11 2 (s_iconst 1 (s_iadd (s_putI 11 2 (s_aload 0 (s_iconst 0 (s_putI 11 32 (s_aload 0 (s_getfield 11 2 (s_iconst 1 (s_isub (s_ireturn (mX11_rule, G)))))))))))))))
theorem oX11_rule_61 (G : Nat × Nat × Nat × Option (Nat × (Nat → Int32)) × (Option Value → qW → Prop)) : qImp (bX11_rule_61 G) (AW (mX11_rule, G) 61) := (r_aload_n dX11_rule_61 rfl (r_dup dX11_rule_62 (r_getfield dX11_rule_63 fgX11_203 (r_iconst dX11_rule_66 rfl (r_iadd dX11_rule_67 (r_putI dX11_rule_68 fpX11_203 (fun q hq => by cases hq; rfl) (r_aload_n dX11_rule_71 rfl (r_iconst dX11_rule_72 rfl (r_putI dX11_rule_73 fpX11_169 (fun q hq => by cases hq; rfl) (r_aload_n dX11_rule_76 rfl (r_getfield dX11_rule_77 fgX11_203 (r_iconst dX11_rule_80 rfl (r_isub dX11_rule_81 (r_ireturn dX11_rule_82 rfl))))))))))))))
theorem kX11_rule_10 {G : Nat × Nat × Nat × Option (Nat × (Nat → Int32)) × (Option Value → qW → Prop)} {L : qL} {w : qW} {kc ks : Nat} {rest : List Value} {q : Nat}  {d mc ms : Nat} {Q : Option Value → qW → Prop} (hC : CT mX11_fault d mc ms [.ref q] w Q) (hq : qci w q = some 11) (hst : rest.length ≤ 4) (hdp : d + 1 ≤ G.1) (hmc : kc + mc ≤ G.2.1 ∧ ks + ms ≤ G.2.2.1) (k : ∀ r w', Q r w' → AW (mX11_rule, G) 13 L (r.toList ++ rest) w' (kc + mc) (ks + ms)) : AW (mX11_rule, G) 10 L (.ref q :: rest) w kc ks := a_callV [] rest dX11_rule_10 vX11_fault lk1128 hC hq rfl rfl hst hdp hmc k
theorem kX11_rule_21 {G : Nat × Nat × Nat × Option (Nat × (Nat → Int32)) × (Option Value → qW → Prop)} {L : qL} {w : qW} {kc ks : Nat} {rest : List Value} {q : Nat} {x0 : Int32} {d mc ms : Nat} {Q : Option Value → qW → Prop} (hC : CT mX11_say d mc ms [.ref q, .int x0] w Q) (hq : qci w q = some 11) (hst : rest.length ≤ 4) (hdp : d + 1 ≤ G.1) (hmc : kc + mc ≤ G.2.1 ∧ ks + ms ≤ G.2.2.1) (k : ∀ r w', Q r w' → AW (mX11_rule, G) 24 L (r.toList ++ rest) w' (kc + mc) (ks + ms)) : AW (mX11_rule, G) 21 L (.int x0 :: .ref q :: rest) w kc ks := a_callV [.int x0] rest dX11_rule_21 vX11_say lk1120 hC hq rfl rfl hst hdp hmc k
