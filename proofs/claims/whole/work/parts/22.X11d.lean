theorem dX11_holds_0 : decode cX11_holds 0 = .ok (.aload_n 0, 1) := by decide +kernel
theorem dX11_holds_1 : decode cX11_holds 1 = .ok (.getfield 203, 3) := by decide +kernel
theorem dX11_holds_4 : decode cX11_holds 4 = .ok (.ifCond .ne 5, 3) := by decide +kernel
theorem dX11_holds_7 : decode cX11_holds 7 = .ok (.iconst 1, 1) := by decide +kernel
theorem dX11_holds_8 : decode cX11_holds 8 = .ok (.ireturn, 1) := by decide +kernel
theorem dX11_holds_9 : decode cX11_holds 9 = .ok (.sipush 220, 3) := by decide +kernel
theorem dX11_holds_12 : decode cX11_holds 12 = .ok (.aload_n 0, 1) := by decide +kernel
theorem dX11_holds_13 : decode cX11_holds 13 = .ok (.getfield 203, 3) := by decide +kernel
theorem dX11_holds_16 : decode cX11_holds 16 = .ok (.iconst 1, 1) := by decide +kernel
theorem dX11_holds_17 : decode cX11_holds 17 = .ok (.isub, 1) := by decide +kernel
theorem dX11_holds_18 : decode cX11_holds 18 = .ok (.imul, 1) := by decide +kernel
theorem dX11_holds_19 : decode cX11_holds 19 = .ok (.istore 4, 2) := by decide +kernel
theorem dX11_holds_21 : decode cX11_holds 21 = .ok (.iconst 0, 1) := by decide +kernel
theorem dX11_holds_22 : decode cX11_holds 22 = .ok (.istore 5, 2) := by decide +kernel
theorem dX11_holds_24 : decode cX11_holds 24 = .ok (.aload_n 0, 1) := by decide +kernel
theorem dX11_holds_25 : decode cX11_holds 25 = .ok (.getfield 84, 3) := by decide +kernel
theorem dX11_holds_28 : decode cX11_holds 28 = .ok (.iload 4, 2) := by decide +kernel
theorem dX11_holds_30 : decode cX11_holds 30 = .ok (.iaload, 1) := by decide +kernel
theorem dX11_holds_31 : decode cX11_holds 31 = .ok (.iconst 3, 1) := by decide +kernel
theorem dX11_holds_32 : decode cX11_holds 32 = .ok (.if_icmp .eq 235, 3) := by decide +kernel
theorem dX11_holds_35 : decode cX11_holds 35 = .ok (.aload_n 0, 1) := by decide +kernel
theorem dX11_holds_36 : decode cX11_holds 36 = .ok (.getfield 84, 3) := by decide +kernel
theorem dX11_holds_39 : decode cX11_holds 39 = .ok (.iload 4, 2) := by decide +kernel
theorem dX11_holds_41 : decode cX11_holds 41 = .ok (.iaload, 1) := by decide +kernel
theorem dX11_holds_42 : decode cX11_holds 42 = .ok (.ifCond .ne 139, 3) := by decide +kernel
theorem dX11_holds_45 : decode cX11_holds 45 = .ok (.aload_n 0, 1) := by decide +kernel
theorem dX11_holds_46 : decode cX11_holds 46 = .ok (.getfield 84, 3) := by decide +kernel
theorem dX11_holds_49 : decode cX11_holds 49 = .ok (.iload 4, 2) := by decide +kernel
theorem dX11_holds_51 : decode cX11_holds 51 = .ok (.iconst 1, 1) := by decide +kernel
theorem dX11_holds_52 : decode cX11_holds 52 = .ok (.iadd, 1) := by decide +kernel
theorem dX11_holds_53 : decode cX11_holds 53 = .ok (.iaload, 1) := by decide +kernel
theorem dX11_holds_54 : decode cX11_holds 54 = .ok (.bipush 116, 2) := by decide +kernel
theorem dX11_holds_56 : decode cX11_holds 56 = .ok (.if_icmp .ne 7, 3) := by decide +kernel
theorem dX11_holds_59 : decode cX11_holds 59 = .ok (.iload_n 1, 1) := by decide +kernel
theorem dX11_holds_60 : decode cX11_holds 60 = .ok (.goto 22, 3) := by decide +kernel
theorem dX11_holds_63 : decode cX11_holds 63 = .ok (.aload_n 0, 1) := by decide +kernel
theorem dX11_holds_64 : decode cX11_holds 64 = .ok (.getfield 84, 3) := by decide +kernel
theorem dX11_holds_67 : decode cX11_holds 67 = .ok (.iload 4, 2) := by decide +kernel
theorem dX11_holds_69 : decode cX11_holds 69 = .ok (.iconst 1, 1) := by decide +kernel
theorem dX11_holds_70 : decode cX11_holds 70 = .ok (.iadd, 1) := by decide +kernel
theorem dX11_holds_71 : decode cX11_holds 71 = .ok (.iaload, 1) := by decide +kernel
theorem dX11_holds_72 : decode cX11_holds 72 = .ok (.bipush 114, 2) := by decide +kernel
theorem dX11_holds_74 : decode cX11_holds 74 = .ok (.if_icmp .ne 7, 3) := by decide +kernel
theorem dX11_holds_77 : decode cX11_holds 77 = .ok (.iload_n 2, 1) := by decide +kernel
theorem dX11_holds_78 : decode cX11_holds 78 = .ok (.goto 4, 3) := by decide +kernel
theorem dX11_holds_81 : decode cX11_holds 81 = .ok (.iload_n 3, 1) := by decide +kernel
theorem dX11_holds_82 : decode cX11_holds 82 = .ok (.istore 6, 2) := by decide +kernel
theorem dX11_holds_84 : decode cX11_holds 84 = .ok (.aload_n 0, 1) := by decide +kernel
theorem dX11_holds_85 : decode cX11_holds 85 = .ok (.getfield 84, 3) := by decide +kernel
theorem dX11_holds_88 : decode cX11_holds 88 = .ok (.iload 4, 2) := by decide +kernel
theorem dX11_holds_90 : decode cX11_holds 90 = .ok (.iconst 3, 1) := by decide +kernel
theorem dX11_holds_91 : decode cX11_holds 91 = .ok (.iadd, 1) := by decide +kernel
theorem dX11_holds_92 : decode cX11_holds 92 = .ok (.iaload, 1) := by decide +kernel
theorem dX11_holds_93 : decode cX11_holds 93 = .ok (.istore 7, 2) := by decide +kernel
theorem dX11_holds_95 : decode cX11_holds 95 = .ok (.aload_n 0, 1) := by decide +kernel
theorem dX11_holds_96 : decode cX11_holds 96 = .ok (.getfield 90, 3) := by decide +kernel
theorem dX11_holds_99 : decode cX11_holds 99 = .ok (.iload 5, 2) := by decide +kernel
theorem dX11_holds_101 : decode cX11_holds 101 = .ok (.aload_n 0, 1) := by decide +kernel
theorem dX11_holds_102 : decode cX11_holds 102 = .ok (.getfield 84, 3) := by decide +kernel
theorem dX11_holds_105 : decode cX11_holds 105 = .ok (.iload 4, 2) := by decide +kernel
theorem dX11_holds_107 : decode cX11_holds 107 = .ok (.iconst 2, 1) := by decide +kernel
theorem dX11_holds_108 : decode cX11_holds 108 = .ok (.iadd, 1) := by decide +kernel
theorem dX11_holds_109 : decode cX11_holds 109 = .ok (.iaload, 1) := by decide +kernel
theorem dX11_holds_110 : decode cX11_holds 110 = .ok (.bipush 61, 2) := by decide +kernel
theorem dX11_holds_112 : decode cX11_holds 112 = .ok (.if_icmp .ne 18, 3) := by decide +kernel
theorem dX11_holds_115 : decode cX11_holds 115 = .ok (.iload 6, 2) := by decide +kernel
theorem dX11_holds_117 : decode cX11_holds 117 = .ok (.iload 7, 2) := by decide +kernel
theorem dX11_holds_119 : decode cX11_holds 119 = .ok (.if_icmp .ne 7, 3) := by decide +kernel
theorem dX11_holds_122 : decode cX11_holds 122 = .ok (.iconst 1, 1) := by decide +kernel
theorem dX11_holds_123 : decode cX11_holds 123 = .ok (.goto 48, 3) := by decide +kernel
theorem dX11_holds_126 : decode cX11_holds 126 = .ok (.iconst 0, 1) := by decide +kernel
theorem dX11_holds_127 : decode cX11_holds 127 = .ok (.goto 44, 3) := by decide +kernel
theorem dX11_holds_130 : decode cX11_holds 130 = .ok (.aload_n 0, 1) := by decide +kernel
theorem dX11_holds_131 : decode cX11_holds 131 = .ok (.getfield 84, 3) := by decide +kernel
theorem dX11_holds_134 : decode cX11_holds 134 = .ok (.iload 4, 2) := by decide +kernel
theorem dX11_holds_136 : decode cX11_holds 136 = .ok (.iconst 2, 1) := by decide +kernel
theorem dX11_holds_137 : decode cX11_holds 137 = .ok (.iadd, 1) := by decide +kernel
theorem dX11_holds_138 : decode cX11_holds 138 = .ok (.iaload, 1) := by decide +kernel
theorem dX11_holds_139 : decode cX11_holds 139 = .ok (.bipush 60, 2) := by decide +kernel
theorem dX11_holds_141 : decode cX11_holds 141 = .ok (.if_icmp .ne 18, 3) := by decide +kernel
theorem dX11_holds_144 : decode cX11_holds 144 = .ok (.iload 6, 2) := by decide +kernel
theorem dX11_holds_146 : decode cX11_holds 146 = .ok (.iload 7, 2) := by decide +kernel
theorem dX11_holds_148 : decode cX11_holds 148 = .ok (.if_icmp .ge 7, 3) := by decide +kernel
theorem dX11_holds_151 : decode cX11_holds 151 = .ok (.iconst 1, 1) := by decide +kernel
theorem dX11_holds_152 : decode cX11_holds 152 = .ok (.goto 19, 3) := by decide +kernel
theorem dX11_holds_155 : decode cX11_holds 155 = .ok (.iconst 0, 1) := by decide +kernel
theorem dX11_holds_156 : decode cX11_holds 156 = .ok (.goto 15, 3) := by decide +kernel
theorem dX11_holds_159 : decode cX11_holds 159 = .ok (.iload 6, 2) := by decide +kernel
theorem dX11_holds_161 : decode cX11_holds 161 = .ok (.iload 7, 2) := by decide +kernel
theorem dX11_holds_163 : decode cX11_holds 163 = .ok (.if_icmp .le 7, 3) := by decide +kernel
theorem dX11_holds_166 : decode cX11_holds 166 = .ok (.iconst 1, 1) := by decide +kernel
theorem dX11_holds_167 : decode cX11_holds 167 = .ok (.goto 4, 3) := by decide +kernel
theorem dX11_holds_170 : decode cX11_holds 170 = .ok (.iconst 0, 1) := by decide +kernel
theorem dX11_holds_171 : decode cX11_holds 171 = .ok (.bastore, 1) := by decide +kernel
theorem dX11_holds_172 : decode cX11_holds 172 = .ok (.iinc 5 1, 3) := by decide +kernel
theorem dX11_holds_175 : decode cX11_holds 175 = .ok (.iinc 4 4, 3) := by decide +kernel
theorem dX11_holds_178 : decode cX11_holds 178 = .ok (.goto (-154), 3) := by decide +kernel
theorem dX11_holds_181 : decode cX11_holds 181 = .ok (.iinc 5 (-1), 3) := by decide +kernel
theorem dX11_holds_184 : decode cX11_holds 184 = .ok (.aload_n 0, 1) := by decide +kernel
theorem dX11_holds_185 : decode cX11_holds 185 = .ok (.getfield 90, 3) := by decide +kernel
theorem dX11_holds_188 : decode cX11_holds 188 = .ok (.iload 5, 2) := by decide +kernel
theorem dX11_holds_190 : decode cX11_holds 190 = .ok (.iconst 1, 1) := by decide +kernel
theorem dX11_holds_191 : decode cX11_holds 191 = .ok (.isub, 1) := by decide +kernel
theorem dX11_holds_192 : decode cX11_holds 192 = .ok (.aload_n 0, 1) := by decide +kernel
theorem dX11_holds_193 : decode cX11_holds 193 = .ok (.getfield 84, 3) := by decide +kernel
theorem dX11_holds_196 : decode cX11_holds 196 = .ok (.iload 4, 2) := by decide +kernel
theorem dX11_holds_198 : decode cX11_holds 198 = .ok (.iaload, 1) := by decide +kernel
theorem dX11_holds_199 : decode cX11_holds 199 = .ok (.iconst 1, 1) := by decide +kernel
theorem dX11_holds_200 : decode cX11_holds 200 = .ok (.if_icmp .ne 33, 3) := by decide +kernel
theorem dX11_holds_203 : decode cX11_holds 203 = .ok (.aload_n 0, 1) := by decide +kernel
theorem dX11_holds_204 : decode cX11_holds 204 = .ok (.getfield 90, 3) := by decide +kernel
theorem dX11_holds_207 : decode cX11_holds 207 = .ok (.iload 5, 2) := by decide +kernel
theorem dX11_holds_209 : decode cX11_holds 209 = .ok (.iconst 1, 1) := by decide +kernel
theorem dX11_holds_210 : decode cX11_holds 210 = .ok (.isub, 1) := by decide +kernel
theorem dX11_holds_211 : decode cX11_holds 211 = .ok (.baload, 1) := by decide +kernel
theorem dX11_holds_212 : decode cX11_holds 212 = .ok (.ifCond .eq 17, 3) := by decide +kernel
theorem dX11_holds_215 : decode cX11_holds 215 = .ok (.aload_n 0, 1) := by decide +kernel
theorem dX11_holds_216 : decode cX11_holds 216 = .ok (.getfield 90, 3) := by decide +kernel
theorem dX11_holds_219 : decode cX11_holds 219 = .ok (.iload 5, 2) := by decide +kernel
theorem dX11_holds_221 : decode cX11_holds 221 = .ok (.baload, 1) := by decide +kernel
theorem dX11_holds_222 : decode cX11_holds 222 = .ok (.ifCond .eq 7, 3) := by decide +kernel
theorem dX11_holds_225 : decode cX11_holds 225 = .ok (.iconst 1, 1) := by decide +kernel
theorem dX11_holds_226 : decode cX11_holds 226 = .ok (.goto 34, 3) := by decide +kernel
theorem dX11_holds_229 : decode cX11_holds 229 = .ok (.iconst 0, 1) := by decide +kernel
theorem dX11_holds_230 : decode cX11_holds 230 = .ok (.goto 30, 3) := by decide +kernel
theorem dX11_holds_233 : decode cX11_holds 233 = .ok (.aload_n 0, 1) := by decide +kernel
theorem dX11_holds_234 : decode cX11_holds 234 = .ok (.getfield 90, 3) := by decide +kernel
theorem dX11_holds_237 : decode cX11_holds 237 = .ok (.iload 5, 2) := by decide +kernel
theorem dX11_holds_239 : decode cX11_holds 239 = .ok (.iconst 1, 1) := by decide +kernel
theorem dX11_holds_240 : decode cX11_holds 240 = .ok (.isub, 1) := by decide +kernel
theorem dX11_holds_241 : decode cX11_holds 241 = .ok (.baload, 1) := by decide +kernel
theorem dX11_holds_242 : decode cX11_holds 242 = .ok (.ifCond .ne 13, 3) := by decide +kernel
theorem dX11_holds_245 : decode cX11_holds 245 = .ok (.aload_n 0, 1) := by decide +kernel
theorem dX11_holds_246 : decode cX11_holds 246 = .ok (.getfield 90, 3) := by decide +kernel
theorem dX11_holds_249 : decode cX11_holds 249 = .ok (.iload 5, 2) := by decide +kernel
theorem dX11_holds_251 : decode cX11_holds 251 = .ok (.baload, 1) := by decide +kernel
theorem dX11_holds_252 : decode cX11_holds 252 = .ok (.ifCond .eq 7, 3) := by decide +kernel
theorem dX11_holds_255 : decode cX11_holds 255 = .ok (.iconst 1, 1) := by decide +kernel
theorem dX11_holds_256 : decode cX11_holds 256 = .ok (.goto 4, 3) := by decide +kernel
theorem dX11_holds_259 : decode cX11_holds 259 = .ok (.iconst 0, 1) := by decide +kernel
theorem dX11_holds_260 : decode cX11_holds 260 = .ok (.bastore, 1) := by decide +kernel
theorem dX11_holds_261 : decode cX11_holds 261 = .ok (.iinc 4 1, 3) := by decide +kernel
theorem dX11_holds_264 : decode cX11_holds 264 = .ok (.goto (-240), 3) := by decide +kernel
theorem dX11_holds_267 : decode cX11_holds 267 = .ok (.aload_n 0, 1) := by decide +kernel
theorem dX11_holds_268 : decode cX11_holds 268 = .ok (.getfield 90, 3) := by decide +kernel
theorem dX11_holds_271 : decode cX11_holds 271 = .ok (.iconst 0, 1) := by decide +kernel
theorem dX11_holds_272 : decode cX11_holds 272 = .ok (.baload, 1) := by decide +kernel
theorem dX11_holds_273 : decode cX11_holds 273 = .ok (.ireturn, 1) := by decide +kernel
/-! SealLineModel.holds(III)Z -/
theorem eX11_holds {d mc ms : Nat} {w : qW} {Q : Option Value → qW → Prop} {q : Nat} {x0 : Int32} {x1 : Int32} {x2 : Int32} (h : AW (mX11_holds, d, mc, ms, none, Q) 0 [some (.ref q), some (.int x0), some (.int x1), some (.int x2), none, none, none, none] [] w 0 0) : CT mX11_holds d mc ms [.ref q, .int x0, .int x1, .int x2] w Q := CT_of (by decide +kernel) rfl (Nat.le_of_ble_eq_true rfl) h
def bX11_holds_0 (G : Nat × Nat × Nat × Option (Nat × (Nat → Int32)) × (Option Value → qW → Prop)) : qK := (s_aload 0 (s_getfield 11 2 (s_if_ne (AW (mX11_holds, G) 9) (s_iconst 1 (s_zreturn (mX11_holds, G))))))
theorem oX11_holds_0 (G : Nat × Nat × Nat × Option (Nat × (Nat → Int32)) × (Option Value → qW → Prop)) : qImp (bX11_holds_0 G) (AW (mX11_holds, G) 0) := (r_aload_n dX11_holds_0 rfl (r_getfield dX11_holds_1 fgX11_203 (r_if_ne (tgt := 9) dX11_holds_4 rfl qImp.rf (r_iconst dX11_holds_7 rfl (r_zreturn dX11_holds_8 rfl)))))
def bX11_holds_9 (G : Nat × Nat × Nat × Option (Nat × (Nat → Int32)) × (Option Value → qW → Prop)) : qK := (s_iconst 220 (s_aload 0 (s_getfield 11 2 (s_iconst 1 (s_isub (s_imul (s_istore 4 3 (s_iconst 0 (s_istore 5 4 (AW (mX11_holds, G) 24))))))))))
theorem oX11_holds_9 (G : Nat × Nat × Nat × Option (Nat × (Nat → Int32)) × (Option Value → qW → Prop)) : qImp (bX11_holds_9 G) (AW (mX11_holds, G) 9) := (r_sipush dX11_holds_9 rfl (r_aload_n dX11_holds_12 rfl (r_getfield dX11_holds_13 fgX11_203 (r_iconst dX11_holds_16 rfl (r_isub dX11_holds_17 (r_imul dX11_holds_18 (r_istore dX11_holds_19 (Or.inr rfl) (Nat.le_of_ble_eq_true rfl) (r_iconst dX11_holds_21 rfl (r_istore dX11_holds_22 (Or.inr rfl) (Nat.le_of_ble_eq_true rfl) qImp.rf)))))))))
def bX11_holds_24 (G : Nat × Nat × Nat × Option (Nat × (Nat → Int32)) × (Option Value → qW → Prop)) : qK := (s_aload 0 (s_getfield 11 30 (s_iload 4 (s_iaload (mX11_holds, G) (s_iconst 3 (s_ic_eq (AW (mX11_holds, G) 267) (s_aload 0 (s_getfield 11 30 (s_iload 4 (s_iaload (mX11_holds, G) (s_if_ne (AW (mX11_holds, G) 181) (s_aload 0 (s_getfield 11 30 (s_iload 4 (s_iconst 1 (s_iadd (s_iaload (mX11_holds, G) (s_iconst 116 (s_ic_ne (AW (mX11_holds, G) 63) (s_iload 1 (AW (mX11_holds, G) 82)))))))))))))))))))))
theorem oX11_holds_24 (G : Nat × Nat × Nat × Option (Nat × (Nat → Int32)) × (Option Value → qW → Prop)) : qImp (bX11_holds_24 G) (AW (mX11_holds, G) 24) := (r_aload_n dX11_holds_24 rfl (r_getfield dX11_holds_25 fgX11_84 (r_iload dX11_holds_28 (r_iaload dX11_holds_30 (r_iconst dX11_holds_31 rfl (r_ic_eq (tgt := 267) dX11_holds_32 rfl qImp.rf (r_aload_n dX11_holds_35 rfl (r_getfield dX11_holds_36 fgX11_84 (r_iload dX11_holds_39 (r_iaload dX11_holds_41 (r_if_ne (tgt := 181) dX11_holds_42 rfl qImp.rf (r_aload_n dX11_holds_45 rfl (r_getfield dX11_holds_46 fgX11_84 (r_iload dX11_holds_49 (r_iconst dX11_holds_51 rfl (r_iadd dX11_holds_52 (r_iaload dX11_holds_53 (r_bipush dX11_holds_54 rfl (r_ic_ne (tgt := 63) dX11_holds_56 rfl qImp.rf (r_iload_n dX11_holds_59 rfl (r_goto (tgt := 82) dX11_holds_60 rfl qImp.rf)))))))))))))))))))))
def bX11_holds_63 (G : Nat × Nat × Nat × Option (Nat × (Nat → Int32)) × (Option Value → qW → Prop)) : qK := (s_aload 0 (s_getfield 11 30 (s_iload 4 (s_iconst 1 (s_iadd (s_iaload (mX11_holds, G) (s_iconst 114 (s_ic_ne (AW (mX11_holds, G) 81) (s_iload 2 (AW (mX11_holds, G) 82))))))))))
theorem oX11_holds_63 (G : Nat × Nat × Nat × Option (Nat × (Nat → Int32)) × (Option Value → qW → Prop)) : qImp (bX11_holds_63 G) (AW (mX11_holds, G) 63) := (r_aload_n dX11_holds_63 rfl (r_getfield dX11_holds_64 fgX11_84 (r_iload dX11_holds_67 (r_iconst dX11_holds_69 rfl (r_iadd dX11_holds_70 (r_iaload dX11_holds_71 (r_bipush dX11_holds_72 rfl (r_ic_ne (tgt := 81) dX11_holds_74 rfl qImp.rf (r_iload_n dX11_holds_77 rfl (r_goto (tgt := 82) dX11_holds_78 rfl qImp.rf))))))))))
def bX11_holds_81 (G : Nat × Nat × Nat × Option (Nat × (Nat → Int32)) × (Option Value → qW → Prop)) : qK := (s_iload 3 (AW (mX11_holds, G) 82))
theorem oX11_holds_81 (G : Nat × Nat × Nat × Option (Nat × (Nat → Int32)) × (Option Value → qW → Prop)) : qImp (bX11_holds_81 G) (AW (mX11_holds, G) 81) := (r_iload_n dX11_holds_81 rfl qImp.rf)
def bX11_holds_82 (G : Nat × Nat × Nat × Option (Nat × (Nat → Int32)) × (Option Value → qW → Prop)) : qK := (s_istore 6 5 (s_aload 0 (s_getfield 11 30 (s_iload 4 (s_iconst 3 (s_iadd (s_iaload (mX11_holds, G) (s_istore 7 6 (s_aload 0 (s_getfield 11 37 (s_iload 5 (s_aload 0 (s_getfield 11 30 (s_iload 4 (s_iconst 2 (s_iadd (s_iaload (mX11_holds, G) (s_iconst 61 (s_ic_ne (AW (mX11_holds, G) 130) (s_iload 6 (s_iload 7 (s_ic_ne (AW (mX11_holds, G) 126) (s_iconst 1 (AW (mX11_holds, G) 171))))))))))))))))))))))))
theorem oX11_holds_82 (G : Nat × Nat × Nat × Option (Nat × (Nat → Int32)) × (Option Value → qW → Prop)) : qImp (bX11_holds_82 G) (AW (mX11_holds, G) 82) := (r_istore dX11_holds_82 (Or.inr rfl) (Nat.le_of_ble_eq_true rfl) (r_aload_n dX11_holds_84 rfl (r_getfield dX11_holds_85 fgX11_84 (r_iload dX11_holds_88 (r_iconst dX11_holds_90 rfl (r_iadd dX11_holds_91 (r_iaload dX11_holds_92 (r_istore dX11_holds_93 (Or.inr rfl) (Nat.le_of_ble_eq_true rfl) (r_aload_n dX11_holds_95 rfl (r_getfield dX11_holds_96 fgX11_90 (r_iload dX11_holds_99 (r_aload_n dX11_holds_101 rfl (r_getfield dX11_holds_102 fgX11_84 (r_iload dX11_holds_105 (r_iconst dX11_holds_107 rfl (r_iadd dX11_holds_108 (r_iaload dX11_holds_109 (r_bipush dX11_holds_110 rfl (r_ic_ne (tgt := 130) dX11_holds_112 rfl qImp.rf (r_iload dX11_holds_115 (r_iload dX11_holds_117 (r_ic_ne (tgt := 126) dX11_holds_119 rfl qImp.rf (r_iconst dX11_holds_122 rfl (r_goto (tgt := 171) dX11_holds_123 rfl qImp.rf))))))))))))))))))))))))
def bX11_holds_126 (G : Nat × Nat × Nat × Option (Nat × (Nat → Int32)) × (Option Value → qW → Prop)) : qK := (s_iconst 0 (AW (mX11_holds, G) 171))
theorem oX11_holds_126 (G : Nat × Nat × Nat × Option (Nat × (Nat → Int32)) × (Option Value → qW → Prop)) : qImp (bX11_holds_126 G) (AW (mX11_holds, G) 126) := (r_iconst dX11_holds_126 rfl (r_goto (tgt := 171) dX11_holds_127 rfl qImp.rf))
def bX11_holds_130 (G : Nat × Nat × Nat × Option (Nat × (Nat → Int32)) × (Option Value → qW → Prop)) : qK := (s_aload 0 (s_getfield 11 30 (s_iload 4 (s_iconst 2 (s_iadd (s_iaload (mX11_holds, G) (s_iconst 60 (s_ic_ne (AW (mX11_holds, G) 159) (s_iload 6 (s_iload 7 (s_ic_ge (AW (mX11_holds, G) 155) (s_iconst 1 (AW (mX11_holds, G) 171)))))))))))))
theorem oX11_holds_130 (G : Nat × Nat × Nat × Option (Nat × (Nat → Int32)) × (Option Value → qW → Prop)) : qImp (bX11_holds_130 G) (AW (mX11_holds, G) 130) := (r_aload_n dX11_holds_130 rfl (r_getfield dX11_holds_131 fgX11_84 (r_iload dX11_holds_134 (r_iconst dX11_holds_136 rfl (r_iadd dX11_holds_137 (r_iaload dX11_holds_138 (r_bipush dX11_holds_139 rfl (r_ic_ne (tgt := 159) dX11_holds_141 rfl qImp.rf (r_iload dX11_holds_144 (r_iload dX11_holds_146 (r_ic_ge (tgt := 155) dX11_holds_148 rfl qImp.rf (r_iconst dX11_holds_151 rfl (r_goto (tgt := 171) dX11_holds_152 rfl qImp.rf)))))))))))))
def bX11_holds_155 (G : Nat × Nat × Nat × Option (Nat × (Nat → Int32)) × (Option Value → qW → Prop)) : qK := (s_iconst 0 (AW (mX11_holds, G) 171))
theorem oX11_holds_155 (G : Nat × Nat × Nat × Option (Nat × (Nat → Int32)) × (Option Value → qW → Prop)) : qImp (bX11_holds_155 G) (AW (mX11_holds, G) 155) := (r_iconst dX11_holds_155 rfl (r_goto (tgt := 171) dX11_holds_156 rfl qImp.rf))
def bX11_holds_159 (G : Nat × Nat × Nat × Option (Nat × (Nat → Int32)) × (Option Value → qW → Prop)) : qK := (s_iload 6 (s_iload 7 (s_ic_le (AW (mX11_holds, G) 170) (s_iconst 1 (AW (mX11_holds, G) 171)))))
theorem oX11_holds_159 (G : Nat × Nat × Nat × Option (Nat × (Nat → Int32)) × (Option Value → qW → Prop)) : qImp (bX11_holds_159 G) (AW (mX11_holds, G) 159) := (r_iload dX11_holds_159 (r_iload dX11_holds_161 (r_ic_le (tgt := 170) dX11_holds_163 rfl qImp.rf (r_iconst dX11_holds_166 rfl (r_goto (tgt := 171) dX11_holds_167 rfl qImp.rf)))))
def bX11_holds_170 (G : Nat × Nat × Nat × Option (Nat × (Nat → Int32)) × (Option Value → qW → Prop)) : qK := (s_iconst 0 (AW (mX11_holds, G) 171))
theorem oX11_holds_170 (G : Nat × Nat × Nat × Option (Nat × (Nat → Int32)) × (Option Value → qW → Prop)) : qImp (bX11_holds_170 G) (AW (mX11_holds, G) 170) := (r_iconst dX11_holds_170 rfl qImp.rf)
def bX11_holds_171 (G : Nat × Nat × Nat × Option (Nat × (Nat → Int32)) × (Option Value → qW → Prop)) : qK := (s_bastore (s_iinc 5 4 1 (s_iinc 4 3 4 (AW (mX11_holds, G) 24))))
theorem oX11_holds_171 (G : Nat × Nat × Nat × Option (Nat × (Nat → Int32)) × (Option Value → qW → Prop)) : qImp (bX11_holds_171 G) (AW (mX11_holds, G) 171) := (r_bastore dX11_holds_171 (r_iinc dX11_holds_172 rfl (Or.inr rfl) (Nat.le_of_ble_eq_true rfl) (r_iinc dX11_holds_175 rfl (Or.inr rfl) (Nat.le_of_ble_eq_true rfl) (r_goto (tgt := 24) dX11_holds_178 rfl qImp.rf))))
def bX11_holds_181 (G : Nat × Nat × Nat × Option (Nat × (Nat → Int32)) × (Option Value → qW → Prop)) : qK := (s_iinc 5 4 (-1) (s_aload 0 (s_getfield 11 37 (s_iload 5 (s_iconst 1 (s_isub (s_aload 0 (s_getfield 11 30 (s_iload 4 (s_iaload (mX11_holds, G) (s_iconst 1 (s_ic_ne (AW (mX11_holds, G) 233) (s_aload 0 (s_getfield 11 37 (s_iload 5 (s_iconst 1 (s_isub (s_baload (s_if_eq (AW (mX11_holds, G) 229) (s_aload 0 (s_getfield 11 37 (s_iload 5 (s_baload (s_if_eq (AW (mX11_holds, G) 229) (s_iconst 1 (AW (mX11_holds, G) 260))))))))))))))))))))))))))
theorem oX11_holds_181 (G : Nat × Nat × Nat × Option (Nat × (Nat → Int32)) × (Option Value → qW → Prop)) : qImp (bX11_holds_181 G) (AW (mX11_holds, G) 181) := (r_iinc dX11_holds_181 rfl (Or.inr rfl) (Nat.le_of_ble_eq_true rfl) (r_aload_n dX11_holds_184 rfl (r_getfield dX11_holds_185 fgX11_90 (r_iload dX11_holds_188 (r_iconst dX11_holds_190 rfl (r_isub dX11_holds_191 (r_aload_n dX11_holds_192 rfl (r_getfield dX11_holds_193 fgX11_84 (r_iload dX11_holds_196 (r_iaload dX11_holds_198 (r_iconst dX11_holds_199 rfl (r_ic_ne (tgt := 233) dX11_holds_200 rfl qImp.rf (r_aload_n dX11_holds_203 rfl (r_getfield dX11_holds_204 fgX11_90 (r_iload dX11_holds_207 (r_iconst dX11_holds_209 rfl (r_isub dX11_holds_210 (r_baload dX11_holds_211 (r_if_eq (tgt := 229) dX11_holds_212 rfl qImp.rf (r_aload_n dX11_holds_215 rfl (r_getfield dX11_holds_216 fgX11_90 (r_iload dX11_holds_219 (r_baload dX11_holds_221 (r_if_eq (tgt := 229) dX11_holds_222 rfl qImp.rf (r_iconst dX11_holds_225 rfl (r_goto (tgt := 260) dX11_holds_226 rfl qImp.rf))))))))))))))))))))))))))
def bX11_holds_229 (G : Nat × Nat × Nat × Option (Nat × (Nat → Int32)) × (Option Value → qW → Prop)) : qK := (s_iconst 0 (AW (mX11_holds, G) 260))
theorem oX11_holds_229 (G : Nat × Nat × Nat × Option (Nat × (Nat → Int32)) × (Option Value → qW → Prop)) : qImp (bX11_holds_229 G) (AW (mX11_holds, G) 229) := (r_iconst dX11_holds_229 rfl (r_goto (tgt := 260) dX11_holds_230 rfl qImp.rf))
def bX11_holds_233 (G : Nat × Nat × Nat × Option (Nat × (Nat → Int32)) × (Option Value → qW → Prop)) : qK := (s_aload 0 (s_getfield 11 37 (s_iload 5 (s_iconst 1 (s_isub (s_baload (s_if_ne (AW (mX11_holds, G) 255) (s_aload 0 (s_getfield 11 37 (s_iload 5 (s_baload (s_if_eq (AW (mX11_holds, G) 259) (AW (mX11_holds, G) 255)))))))))))))
theorem oX11_holds_233 (G : Nat × Nat × Nat × Option (Nat × (Nat → Int32)) × (Option Value → qW → Prop)) : qImp (bX11_holds_233 G) (AW (mX11_holds, G) 233) := (r_aload_n dX11_holds_233 rfl (r_getfield dX11_holds_234 fgX11_90 (r_iload dX11_holds_237 (r_iconst dX11_holds_239 rfl (r_isub dX11_holds_240 (r_baload dX11_holds_241 (r_if_ne (tgt := 255) dX11_holds_242 rfl qImp.rf (r_aload_n dX11_holds_245 rfl (r_getfield dX11_holds_246 fgX11_90 (r_iload dX11_holds_249 (r_baload dX11_holds_251 (r_if_eq (tgt := 259) dX11_holds_252 rfl qImp.rf qImp.rf))))))))))))
def bX11_holds_255 (G : Nat × Nat × Nat × Option (Nat × (Nat → Int32)) × (Option Value → qW → Prop)) : qK := (s_iconst 1 (AW (mX11_holds, G) 260))
theorem oX11_holds_255 (G : Nat × Nat × Nat × Option (Nat × (Nat → Int32)) × (Option Value → qW → Prop)) : qImp (bX11_holds_255 G) (AW (mX11_holds, G) 255) := (r_iconst dX11_holds_255 rfl (r_goto (tgt := 260) dX11_holds_256 rfl qImp.rf))
def bX11_holds_259 (G : Nat × Nat × Nat × Option (Nat × (Nat → Int32)) × (Option Value → qW → Prop)) : qK := (s_iconst 0 (AW (mX11_holds, G) 260))
theorem oX11_holds_259 (G : Nat × Nat × Nat × Option (Nat × (Nat → Int32)) × (Option Value → qW → Prop)) : qImp (bX11_holds_259 G) (AW (mX11_holds, G) 259) := (r_iconst dX11_holds_259 rfl qImp.rf)
def bX11_holds_260 (G : Nat × Nat × Nat × Option (Nat × (Nat → Int32)) × (Option Value → qW → Prop)) : qK := (s_bastore (s_iinc 4 3 1 (AW (mX11_holds, G) 24)))
theorem oX11_holds_260 (G : Nat × Nat × Nat × Option (Nat × (Nat → Int32)) × (Option Value → qW → Prop)) : qImp (bX11_holds_260 G) (AW (mX11_holds, G) 260) := (r_bastore dX11_holds_260 (r_iinc dX11_holds_261 rfl (Or.inr rfl) (Nat.le_of_ble_eq_true rfl) (r_goto (tgt := 24) dX11_holds_264 rfl qImp.rf)))
def bX11_holds_267 (G : Nat × Nat × Nat × Option (Nat × (Nat → Int32)) × (Option Value → qW → Prop)) : qK := (s_aload 0 (s_getfield 11 37 (s_iconst 0 (s_baload (s_zreturn (mX11_holds, G))))))
theorem oX11_holds_267 (G : Nat × Nat × Nat × Option (Nat × (Nat → Int32)) × (Option Value → qW → Prop)) : qImp (bX11_holds_267 G) (AW (mX11_holds, G) 267) := (r_aload_n dX11_holds_267 rfl (r_getfield dX11_holds_268 fgX11_90 (r_iconst dX11_holds_271 rfl (r_baload dX11_holds_272 (r_zreturn dX11_holds_273 rfl)))))
theorem dX11_placeOf_0 : decode cX11_placeOf 0 = .ok (.iconst 0, 1) := by decide +kernel
theorem dX11_placeOf_1 : decode cX11_placeOf 1 = .ok (.istore_n 2, 1) := by decide +kernel
theorem dX11_placeOf_2 : decode cX11_placeOf 2 = .ok (.iload_n 2, 1) := by decide +kernel
theorem dX11_placeOf_3 : decode cX11_placeOf 3 = .ok (.aload_n 0, 1) := by decide +kernel
theorem dX11_placeOf_4 : decode cX11_placeOf 4 = .ok (.getfield 209, 3) := by decide +kernel
theorem dX11_placeOf_7 : decode cX11_placeOf 7 = .ok (.if_icmp .ge 21, 3) := by decide +kernel
theorem dX11_placeOf_10 : decode cX11_placeOf 10 = .ok (.aload_n 0, 1) := by decide +kernel
theorem dX11_placeOf_11 : decode cX11_placeOf 11 = .ok (.getfield 50, 3) := by decide +kernel
theorem dX11_placeOf_14 : decode cX11_placeOf 14 = .ok (.iload_n 2, 1) := by decide +kernel
theorem dX11_placeOf_15 : decode cX11_placeOf 15 = .ok (.iaload, 1) := by decide +kernel
theorem dX11_placeOf_16 : decode cX11_placeOf 16 = .ok (.iload_n 1, 1) := by decide +kernel
theorem dX11_placeOf_17 : decode cX11_placeOf 17 = .ok (.if_icmp .ne 5, 3) := by decide +kernel
theorem dX11_placeOf_20 : decode cX11_placeOf 20 = .ok (.iload_n 2, 1) := by decide +kernel
theorem dX11_placeOf_21 : decode cX11_placeOf 21 = .ok (.ireturn, 1) := by decide +kernel
theorem dX11_placeOf_22 : decode cX11_placeOf 22 = .ok (.iinc 2 1, 3) := by decide +kernel
theorem dX11_placeOf_25 : decode cX11_placeOf 25 = .ok (.goto (-23), 3) := by decide +kernel
theorem dX11_placeOf_28 : decode cX11_placeOf 28 = .ok (.iconst (-1), 1) := by decide +kernel
theorem dX11_placeOf_29 : decode cX11_placeOf 29 = .ok (.ireturn, 1) := by decide +kernel
/-! SealLineModel.placeOf(I)I -/
theorem eX11_placeOf {d mc ms : Nat} {w : qW} {Q : Option Value → qW → Prop} {q : Nat} {x0 : Int32} (h : AW (mX11_placeOf, d, mc, ms, none, Q) 0 [some (.ref q), some (.int x0), none] [] w 0 0) : CT mX11_placeOf d mc ms [.ref q, .int x0] w Q := CT_of (by decide +kernel) rfl (Nat.le_of_ble_eq_true rfl) h
def bX11_placeOf_0 (G : Nat × Nat × Nat × Option (Nat × (Nat → Int32)) × (Option Value → qW → Prop)) : qK := (s_iconst 0 (s_istore 2 1 (AW (mX11_placeOf, G) 2)))
theorem oX11_placeOf_0 (G : Nat × Nat × Nat × Option (Nat × (Nat → Int32)) × (Option Value → qW → Prop)) : qImp (bX11_placeOf_0 G) (AW (mX11_placeOf, G) 0) := (r_iconst dX11_placeOf_0 rfl (r_istore_n dX11_placeOf_1 rfl (Or.inr rfl) (Nat.le_of_ble_eq_true rfl) qImp.rf))
def bX11_placeOf_2 (G : Nat × Nat × Nat × Option (Nat × (Nat → Int32)) × (Option Value → qW → Prop)) : qK := (s_iload 2 (s_aload 0 (s_getfield 11 4 (s_ic_ge (AW (mX11_placeOf, G) 28) (s_aload 0 (s_getfield 11 19 (s_iload 2 (s_iaload (mX11_placeOf, G) (s_iload 1 (s_ic_ne (AW (mX11_placeOf, G) 22) (s_iload 2 (s_ireturn (mX11_placeOf, G)))))))))))))
theorem oX11_placeOf_2 (G : Nat × Nat × Nat × Option (Nat × (Nat → Int32)) × (Option Value → qW → Prop)) : qImp (bX11_placeOf_2 G) (AW (mX11_placeOf, G) 2) := (r_iload_n dX11_placeOf_2 rfl (r_aload_n dX11_placeOf_3 rfl (r_getfield dX11_placeOf_4 fgX11_209 (r_ic_ge (tgt := 28) dX11_placeOf_7 rfl qImp.rf (r_aload_n dX11_placeOf_10 rfl (r_getfield dX11_placeOf_11 fgX11_50 (r_iload_n dX11_placeOf_14 rfl (r_iaload dX11_placeOf_15 (r_iload_n dX11_placeOf_16 rfl (r_ic_ne (tgt := 22) dX11_placeOf_17 rfl qImp.rf (r_iload_n dX11_placeOf_20 rfl (r_ireturn dX11_placeOf_21 rfl))))))))))))
def bX11_placeOf_22 (G : Nat × Nat × Nat × Option (Nat × (Nat → Int32)) × (Option Value → qW → Prop)) : qK := (s_iinc 2 1 1 (AW (mX11_placeOf, G) 2))
theorem oX11_placeOf_22 (G : Nat × Nat × Nat × Option (Nat × (Nat → Int32)) × (Option Value → qW → Prop)) : qImp (bX11_placeOf_22 G) (AW (mX11_placeOf, G) 22) := (r_iinc dX11_placeOf_22 rfl (Or.inr rfl) (Nat.le_of_ble_eq_true rfl) (r_goto (tgt := 2) dX11_placeOf_25 rfl qImp.rf))
def bX11_placeOf_28 (G : Nat × Nat × Nat × Option (Nat × (Nat → Int32)) × (Option Value → qW → Prop)) : qK := (s_iconst (-1) (s_ireturn (mX11_placeOf, G)))
theorem oX11_placeOf_28 (G : Nat × Nat × Nat × Option (Nat × (Nat → Int32)) × (Option Value → qW → Prop)) : qImp (bX11_placeOf_28 G) (AW (mX11_placeOf, G) 28) := (r_iconst dX11_placeOf_28 rfl (r_ireturn dX11_placeOf_29 rfl))
theorem dX11_ask_0 : decode cX11_ask 0 = .ok (.aload_n 0, 1) := by decide +kernel
theorem dX11_ask_1 : decode cX11_ask 1 = .ok (.iload_n 1, 1) := by decide +kernel
theorem dX11_ask_2 : decode cX11_ask 2 = .ok (.invokevirtual 130, 3) := by decide +kernel
theorem dX11_ask_5 : decode cX11_ask 5 = .ok (.ifCond .eq 12, 3) := by decide +kernel
theorem dX11_ask_8 : decode cX11_ask 8 = .ok (.aload_n 0, 1) := by decide +kernel
theorem dX11_ask_9 : decode cX11_ask 9 = .ok (.iload_n 1, 1) := by decide +kernel
theorem dX11_ask_10 : decode cX11_ask 10 = .ok (.invokevirtual 212, 3) := by decide +kernel
theorem dX11_ask_13 : decode cX11_ask 13 = .ok (.iconst (-1), 1) := by decide +kernel
theorem dX11_ask_14 : decode cX11_ask 14 = .ok (.if_icmp .eq 5, 3) := by decide +kernel
theorem dX11_ask_17 : decode cX11_ask 17 = .ok (.iconst (-1), 1) := by decide +kernel
theorem dX11_ask_18 : decode cX11_ask 18 = .ok (.ireturn, 1) := by decide +kernel
theorem dX11_ask_19 : decode cX11_ask 19 = .ok (.aload_n 0, 1) := by decide +kernel
theorem dX11_ask_20 : decode cX11_ask 20 = .ok (.getfield 50, 3) := by decide +kernel
theorem dX11_ask_23 : decode cX11_ask 23 = .ok (.aload_n 0, 1) := by decide +kernel
theorem dX11_ask_24 : decode cX11_ask 24 = .ok (.getfield 209, 3) := by decide +kernel
theorem dX11_ask_27 : decode cX11_ask 27 = .ok (.iload_n 1, 1) := by decide +kernel
theorem dX11_ask_28 : decode cX11_ask 28 = .ok (.iastore, 1) := by decide +kernel
theorem dX11_ask_29 : decode cX11_ask 29 = .ok (.aload_n 0, 1) := by decide +kernel
theorem dX11_ask_30 : decode cX11_ask 30 = .ok (.dup, 1) := by decide +kernel
theorem dX11_ask_31 : decode cX11_ask 31 = .ok (.getfield 209, 3) := by decide +kernel
theorem dX11_ask_34 : decode cX11_ask 34 = .ok (.iconst 1, 1) := by decide +kernel
theorem dX11_ask_35 : decode cX11_ask 35 = .ok (.iadd, 1) := by decide +kernel
theorem dX11_ask_36 : decode cX11_ask 36 = .ok (.putfield 209, 3) := by decide +kernel
theorem dX11_ask_39 : decode cX11_ask 39 = .ok (.aload_n 0, 1) := by decide +kernel
theorem dX11_ask_40 : decode cX11_ask 40 = .ok (.getfield 209, 3) := by decide +kernel
theorem dX11_ask_43 : decode cX11_ask 43 = .ok (.iconst 1, 1) := by decide +kernel
theorem dX11_ask_44 : decode cX11_ask 44 = .ok (.isub, 1) := by decide +kernel
theorem dX11_ask_45 : decode cX11_ask 45 = .ok (.ireturn, 1) := by decide +kernel
/-! SealLineModel.ask(I)I -/
theorem eX11_ask {d mc ms : Nat} {w : qW} {Q : Option Value → qW → Prop} {q : Nat} {x0 : Int32} (h : AW (mX11_ask, d, mc, ms, none, Q) 0 [some (.ref q), some (.int x0)] [] w 0 0) : CT mX11_ask d mc ms [.ref q, .int x0] w Q := CT_of (by decide +kernel) rfl (Nat.le_of_ble_eq_true rfl) h
def bX11_ask_0 (G : Nat × Nat × Nat × Option (Nat × (Nat → Int32)) × (Option Value → qW → Prop)) : qK := (s_aload 0 (s_iload 1 (AW (mX11_ask, G) 2)))
theorem oX11_ask_0 (G : Nat × Nat × Nat × Option (Nat × (Nat → Int32)) × (Option Value → qW → Prop)) : qImp (bX11_ask_0 G) (AW (mX11_ask, G) 0) := (r_aload_n dX11_ask_0 rfl (r_iload_n dX11_ask_1 rfl qImp.rf))
def bX11_ask_5 (G : Nat × Nat × Nat × Option (Nat × (Nat → Int32)) × (Option Value → qW → Prop)) : qK := (s_if_eq (AW (mX11_ask, G) 17) (s_aload 0 (s_iload 1 (AW (mX11_ask, G) 10))))
theorem oX11_ask_5 (G : Nat × Nat × Nat × Option (Nat × (Nat → Int32)) × (Option Value → qW → Prop)) : qImp (bX11_ask_5 G) (AW (mX11_ask, G) 5) := (r_if_eq (tgt := 17) dX11_ask_5 rfl qImp.rf (r_aload_n dX11_ask_8 rfl (r_iload_n dX11_ask_9 rfl qImp.rf)))
def bX11_ask_13 (G : Nat × Nat × Nat × Option (Nat × (Nat → Int32)) × (Option Value → qW → Prop)) : qK := (s_iconst (-1) (s_ic_eq (AW (mX11_ask, G) 19) (AW (mX11_ask, G) 17)))
theorem oX11_ask_13 (G : Nat × Nat × Nat × Option (Nat × (Nat → Int32)) × (Option Value → qW → Prop)) : qImp (bX11_ask_13 G) (AW (mX11_ask, G) 13) := (r_iconst dX11_ask_13 rfl (r_ic_eq (tgt := 19) dX11_ask_14 rfl qImp.rf qImp.rf))
def bX11_ask_17 (G : Nat × Nat × Nat × Option (Nat × (Nat → Int32)) × (Option Value → qW → Prop)) : qK := (s_iconst (-1) (s_ireturn (mX11_ask, G)))
theorem oX11_ask_17 (G : Nat × Nat × Nat × Option (Nat × (Nat → Int32)) × (Option Value → qW → Prop)) : qImp (bX11_ask_17 G) (AW (mX11_ask, G) 17) := (r_iconst dX11_ask_17 rfl (r_ireturn dX11_ask_18 rfl))
def bX11_ask_19 (G : Nat × Nat × Nat × Option (Nat × (Nat → Int32)) × (Option Value → qW → Prop)) : qK := (s_aload 0 (s_getfield 11 19 (s_aload 0 (s_getfield 11 4 (s_iload 1 (s_iastore (s_aload 0 (s_dup (s_getfield 11 4 (s_iconst 1 (s_iadd (s_putI 11 4 (s_aload 0 (s_getfield 11 4 (s_iconst 1 (s_isub (s_ireturn (mX11_ask, G))))))))))))))))))
theorem oX11_ask_19 (G : Nat × Nat × Nat × Option (Nat × (Nat → Int32)) × (Option Value → qW → Prop)) : qImp (bX11_ask_19 G) (AW (mX11_ask, G) 19) := (r_aload_n dX11_ask_19 rfl (r_getfield dX11_ask_20 fgX11_50 (r_aload_n dX11_ask_23 rfl (r_getfield dX11_ask_24 fgX11_209 (r_iload_n dX11_ask_27 rfl (r_iastore dX11_ask_28 (r_aload_n dX11_ask_29 rfl (r_dup dX11_ask_30 (r_getfield dX11_ask_31 fgX11_209 (r_iconst dX11_ask_34 rfl (r_iadd dX11_ask_35 (r_putI dX11_ask_36 fpX11_209 (fun q hq => by cases hq; rfl) (r_aload_n dX11_ask_39 rfl (r_getfield dX11_ask_40 fgX11_209 (r_iconst dX11_ask_43 rfl (r_isub dX11_ask_44 (r_ireturn dX11_ask_45 rfl)))))))))))))))))
theorem kX11_ask_2 {G : Nat × Nat × Nat × Option (Nat × (Nat → Int32)) × (Option Value → qW → Prop)} {L : qL} {w : qW} {kc ks : Nat} {rest : List Value} {q : Nat} {x0 : Int32} {d mc ms : Nat} {Q : Option Value → qW → Prop} (hC : CT mX11_isFile d mc ms [.ref q, .int x0] w Q) (hq : qci w q = some 11) (hst : rest.length ≤ 4) (hdp : d + 1 ≤ G.1) (hmc : kc + mc ≤ G.2.1 ∧ ks + ms ≤ G.2.2.1) (k : ∀ r w', Q r w' → AW (mX11_ask, G) 5 L (r.toList ++ rest) w' (kc + mc) (ks + ms)) : AW (mX11_ask, G) 2 L (.int x0 :: .ref q :: rest) w kc ks := a_callV [.int x0] rest dX11_ask_2 vX11_isFile lk1050 hC hq rfl rfl hst hdp hmc k
theorem kX11_ask_10 {G : Nat × Nat × Nat × Option (Nat × (Nat → Int32)) × (Option Value → qW → Prop)} {L : qL} {w : qW} {kc ks : Nat} {rest : List Value} {q : Nat} {x0 : Int32} {d mc ms : Nat} {Q : Option Value → qW → Prop} (hC : CT mX11_placeOf d mc ms [.ref q, .int x0] w Q) (hq : qci w q = some 11) (hst : rest.length ≤ 4) (hdp : d + 1 ≤ G.1) (hmc : kc + mc ≤ G.2.1 ∧ ks + ms ≤ G.2.2.1) (k : ∀ r w', Q r w' → AW (mX11_ask, G) 13 L (r.toList ++ rest) w' (kc + mc) (ks + ms)) : AW (mX11_ask, G) 10 L (.int x0 :: .ref q :: rest) w kc ks := a_callV [.int x0] rest dX11_ask_10 vX11_placeOf lk1133 hC hq rfl rfl hst hdp hmc k
theorem dX11_skip_0 : decode cX11_skip 0 = .ok (.aload_n 0, 1) := by decide +kernel
theorem dX11_skip_1 : decode cX11_skip 1 = .ok (.getfield 209, 3) := by decide +kernel
theorem dX11_skip_4 : decode cX11_skip 4 = .ok (.ifCond .ne 5, 3) := by decide +kernel
theorem dX11_skip_7 : decode cX11_skip 7 = .ok (.iconst (-1), 1) := by decide +kernel
theorem dX11_skip_8 : decode cX11_skip 8 = .ok (.ireturn, 1) := by decide +kernel
theorem dX11_skip_9 : decode cX11_skip 9 = .ok (.aload_n 0, 1) := by decide +kernel
theorem dX11_skip_10 : decode cX11_skip 10 = .ok (.getfield 50, 3) := by decide +kernel
theorem dX11_skip_13 : decode cX11_skip 13 = .ok (.iconst 0, 1) := by decide +kernel
theorem dX11_skip_14 : decode cX11_skip 14 = .ok (.iaload, 1) := by decide +kernel
theorem dX11_skip_15 : decode cX11_skip 15 = .ok (.istore_n 1, 1) := by decide +kernel
theorem dX11_skip_16 : decode cX11_skip 16 = .ok (.aload_n 0, 1) := by decide +kernel
theorem dX11_skip_17 : decode cX11_skip 17 = .ok (.dup, 1) := by decide +kernel
theorem dX11_skip_18 : decode cX11_skip 18 = .ok (.getfield 209, 3) := by decide +kernel
theorem dX11_skip_21 : decode cX11_skip 21 = .ok (.iconst 1, 1) := by decide +kernel
theorem dX11_skip_22 : decode cX11_skip 22 = .ok (.isub, 1) := by decide +kernel
theorem dX11_skip_23 : decode cX11_skip 23 = .ok (.putfield 209, 3) := by decide +kernel
theorem dX11_skip_26 : decode cX11_skip 26 = .ok (.iconst 0, 1) := by decide +kernel
theorem dX11_skip_27 : decode cX11_skip 27 = .ok (.istore_n 2, 1) := by decide +kernel
theorem dX11_skip_28 : decode cX11_skip 28 = .ok (.iload_n 2, 1) := by decide +kernel
theorem dX11_skip_29 : decode cX11_skip 29 = .ok (.aload_n 0, 1) := by decide +kernel
theorem dX11_skip_30 : decode cX11_skip 30 = .ok (.getfield 209, 3) := by decide +kernel
theorem dX11_skip_33 : decode cX11_skip 33 = .ok (.if_icmp .ge 23, 3) := by decide +kernel
theorem dX11_skip_36 : decode cX11_skip 36 = .ok (.aload_n 0, 1) := by decide +kernel
theorem dX11_skip_37 : decode cX11_skip 37 = .ok (.getfield 50, 3) := by decide +kernel
theorem dX11_skip_40 : decode cX11_skip 40 = .ok (.iload_n 2, 1) := by decide +kernel
theorem dX11_skip_41 : decode cX11_skip 41 = .ok (.aload_n 0, 1) := by decide +kernel
theorem dX11_skip_42 : decode cX11_skip 42 = .ok (.getfield 50, 3) := by decide +kernel
theorem dX11_skip_45 : decode cX11_skip 45 = .ok (.iload_n 2, 1) := by decide +kernel
theorem dX11_skip_46 : decode cX11_skip 46 = .ok (.iconst 1, 1) := by decide +kernel
theorem dX11_skip_47 : decode cX11_skip 47 = .ok (.iadd, 1) := by decide +kernel
theorem dX11_skip_48 : decode cX11_skip 48 = .ok (.iaload, 1) := by decide +kernel
theorem dX11_skip_49 : decode cX11_skip 49 = .ok (.iastore, 1) := by decide +kernel
theorem dX11_skip_50 : decode cX11_skip 50 = .ok (.iinc 2 1, 3) := by decide +kernel
theorem dX11_skip_53 : decode cX11_skip 53 = .ok (.goto (-25), 3) := by decide +kernel
theorem dX11_skip_56 : decode cX11_skip 56 = .ok (.iload_n 1, 1) := by decide +kernel
theorem dX11_skip_57 : decode cX11_skip 57 = .ok (.ireturn, 1) := by decide +kernel
/-! SealLineModel.skip()I -/
theorem eX11_skip {d mc ms : Nat} {w : qW} {Q : Option Value → qW → Prop} {q : Nat} (h : AW (mX11_skip, d, mc, ms, none, Q) 0 [some (.ref q), none, none] [] w 0 0) : CT mX11_skip d mc ms [.ref q] w Q := CT_of (by decide +kernel) rfl (Nat.le_of_ble_eq_true rfl) h
def bX11_skip_0 (G : Nat × Nat × Nat × Option (Nat × (Nat → Int32)) × (Option Value → qW → Prop)) : qK := (s_aload 0 (s_getfield 11 4 (s_if_ne (AW (mX11_skip, G) 9) (s_iconst (-1) (s_ireturn (mX11_skip, G))))))
theorem oX11_skip_0 (G : Nat × Nat × Nat × Option (Nat × (Nat → Int32)) × (Option Value → qW → Prop)) : qImp (bX11_skip_0 G) (AW (mX11_skip, G) 0) := (r_aload_n dX11_skip_0 rfl (r_getfield dX11_skip_1 fgX11_209 (r_if_ne (tgt := 9) dX11_skip_4 rfl qImp.rf (r_iconst dX11_skip_7 rfl (r_ireturn dX11_skip_8 rfl)))))
def bX11_skip_9 (G : Nat × Nat × Nat × Option (Nat × (Nat → Int32)) × (Option Value → qW → Prop)) : qK := (s_aload 0 (s_getfield 11 19 (s_iconst 0 (s_iaload (mX11_skip, G) (s_istore 1 0 (s_aload 0 (s_dup (s_getfield 11 4 (s_iconst 1 (s_isub (s_putI 11 4 (s_iconst 0 (s_istore 2 1 (AW (mX11_skip, G) 28))))))))))))))
theorem oX11_skip_9 (G : Nat × Nat × Nat × Option (Nat × (Nat → Int32)) × (Option Value → qW → Prop)) : qImp (bX11_skip_9 G) (AW (mX11_skip, G) 9) := (r_aload_n dX11_skip_9 rfl (r_getfield dX11_skip_10 fgX11_50 (r_iconst dX11_skip_13 rfl (r_iaload dX11_skip_14 (r_istore_n dX11_skip_15 rfl (Or.inr rfl) (Nat.le_of_ble_eq_true rfl) (r_aload_n dX11_skip_16 rfl (r_dup dX11_skip_17 (r_getfield dX11_skip_18 fgX11_209 (r_iconst dX11_skip_21 rfl (r_isub dX11_skip_22 (r_putI dX11_skip_23 fpX11_209 (fun q hq => by cases hq; rfl) (r_iconst dX11_skip_26 rfl (r_istore_n dX11_skip_27 rfl (Or.inr rfl) (Nat.le_of_ble_eq_true rfl) qImp.rf)))))))))))))
def bX11_skip_28 (G : Nat × Nat × Nat × Option (Nat × (Nat → Int32)) × (Option Value → qW → Prop)) : qK := (s_iload 2 (s_aload 0 (s_getfield 11 4 (s_ic_ge (AW (mX11_skip, G) 56) (s_aload 0 (s_getfield 11 19 (s_iload 2 (s_aload 0 (s_getfield 11 19 (s_iload 2 (s_iconst 1 (s_iadd (s_iaload (mX11_skip, G) (s_iastore (s_iinc 2 1 1 (AW (mX11_skip, G) 28))))))))))))))))
theorem oX11_skip_28 (G : Nat × Nat × Nat × Option (Nat × (Nat → Int32)) × (Option Value → qW → Prop)) : qImp (bX11_skip_28 G) (AW (mX11_skip, G) 28) := (r_iload_n dX11_skip_28 rfl (r_aload_n dX11_skip_29 rfl (r_getfield dX11_skip_30 fgX11_209 (r_ic_ge (tgt := 56) dX11_skip_33 rfl qImp.rf (r_aload_n dX11_skip_36 rfl (r_getfield dX11_skip_37 fgX11_50 (r_iload_n dX11_skip_40 rfl (r_aload_n dX11_skip_41 rfl (r_getfield dX11_skip_42 fgX11_50 (r_iload_n dX11_skip_45 rfl (r_iconst dX11_skip_46 rfl (r_iadd dX11_skip_47 (r_iaload dX11_skip_48 (r_iastore dX11_skip_49 (r_iinc dX11_skip_50 rfl (Or.inr rfl) (Nat.le_of_ble_eq_true rfl) (r_goto (tgt := 28) dX11_skip_53 rfl qImp.rf))))))))))))))))
def bX11_skip_56 (G : Nat × Nat × Nat × Option (Nat × (Nat → Int32)) × (Option Value → qW → Prop)) : qK := (s_iload 1 (s_ireturn (mX11_skip, G)))
theorem oX11_skip_56 (G : Nat × Nat × Nat × Option (Nat × (Nat → Int32)) × (Option Value → qW → Prop)) : qImp (bX11_skip_56 G) (AW (mX11_skip, G) 56) := (r_iload_n dX11_skip_56 rfl (r_ireturn dX11_skip_57 rfl))
theorem dX11_why_0 : decode cX11_why 0 = .ok (.aload_n 0, 1) := by decide +kernel
theorem dX11_why_1 : decode cX11_why 1 = .ok (.getfield 209, 3) := by decide +kernel
theorem dX11_why_4 : decode cX11_why 4 = .ok (.ifCond .ne 5, 3) := by decide +kernel
theorem dX11_why_7 : decode cX11_why 7 = .ok (.iconst 1, 1) := by decide +kernel
theorem dX11_why_8 : decode cX11_why 8 = .ok (.ireturn, 1) := by decide +kernel
theorem dX11_why_9 : decode cX11_why 9 = .ok (.iload_n 1, 1) := by decide +kernel
theorem dX11_why_10 : decode cX11_why 10 = .ok (.invokestatic 111, 3) := by decide +kernel
theorem dX11_why_13 : decode cX11_why 13 = .ok (.ifCond .eq 15, 3) := by decide +kernel
theorem dX11_why_16 : decode cX11_why 16 = .ok (.iload_n 2, 1) := by decide +kernel
theorem dX11_why_17 : decode cX11_why 17 = .ok (.invokestatic 111, 3) := by decide +kernel
theorem dX11_why_20 : decode cX11_why 20 = .ok (.ifCond .eq 8, 3) := by decide +kernel
theorem dX11_why_23 : decode cX11_why 23 = .ok (.iload_n 1, 1) := by decide +kernel
theorem dX11_why_24 : decode cX11_why 24 = .ok (.iload_n 2, 1) := by decide +kernel
theorem dX11_why_25 : decode cX11_why 25 = .ok (.if_icmp .ne 5, 3) := by decide +kernel
theorem dX11_why_28 : decode cX11_why 28 = .ok (.iconst 2, 1) := by decide +kernel
theorem dX11_why_29 : decode cX11_why 29 = .ok (.ireturn, 1) := by decide +kernel
theorem dX11_why_30 : decode cX11_why 30 = .ok (.aload_n 0, 1) := by decide +kernel
theorem dX11_why_31 : decode cX11_why 31 = .ok (.getfield 50, 3) := by decide +kernel
theorem dX11_why_34 : decode cX11_why 34 = .ok (.iconst 0, 1) := by decide +kernel
theorem dX11_why_35 : decode cX11_why 35 = .ok (.iaload, 1) := by decide +kernel
theorem dX11_why_36 : decode cX11_why 36 = .ok (.istore 4, 2) := by decide +kernel
theorem dX11_why_38 : decode cX11_why 38 = .ok (.aload_n 0, 1) := by decide +kernel
theorem dX11_why_39 : decode cX11_why 39 = .ok (.iload 4, 2) := by decide +kernel
theorem dX11_why_41 : decode cX11_why 41 = .ok (.invokevirtual 215, 3) := by decide +kernel
theorem dX11_why_44 : decode cX11_why 44 = .ok (.istore 5, 2) := by decide +kernel
theorem dX11_why_46 : decode cX11_why 46 = .ok (.iload 5, 2) := by decide +kernel
theorem dX11_why_48 : decode cX11_why 48 = .ok (.iload_n 1, 1) := by decide +kernel
theorem dX11_why_49 : decode cX11_why 49 = .ok (.ishr, 1) := by decide +kernel
theorem dX11_why_50 : decode cX11_why 50 = .ok (.iconst 1, 1) := by decide +kernel
theorem dX11_why_51 : decode cX11_why 51 = .ok (.iand, 1) := by decide +kernel
theorem dX11_why_52 : decode cX11_why 52 = .ok (.iconst 1, 1) := by decide +kernel
theorem dX11_why_53 : decode cX11_why 53 = .ok (.if_icmp .eq 13, 3) := by decide +kernel
theorem dX11_why_56 : decode cX11_why 56 = .ok (.iload 5, 2) := by decide +kernel
theorem dX11_why_58 : decode cX11_why 58 = .ok (.iload_n 2, 1) := by decide +kernel
theorem dX11_why_59 : decode cX11_why 59 = .ok (.ishr, 1) := by decide +kernel
theorem dX11_why_60 : decode cX11_why 60 = .ok (.iconst 1, 1) := by decide +kernel
theorem dX11_why_61 : decode cX11_why 61 = .ok (.iand, 1) := by decide +kernel
theorem dX11_why_62 : decode cX11_why 62 = .ok (.iconst 1, 1) := by decide +kernel
theorem dX11_why_63 : decode cX11_why 63 = .ok (.if_icmp .ne 5, 3) := by decide +kernel
theorem dX11_why_66 : decode cX11_why 66 = .ok (.iconst 3, 1) := by decide +kernel
theorem dX11_why_67 : decode cX11_why 67 = .ok (.ireturn, 1) := by decide +kernel
theorem dX11_why_68 : decode cX11_why 68 = .ok (.iload_n 3, 1) := by decide +kernel
theorem dX11_why_69 : decode cX11_why 69 = .ok (.invokestatic 218, 3) := by decide +kernel
theorem dX11_why_72 : decode cX11_why 72 = .ok (.ifCond .eq 31, 3) := by decide +kernel
theorem dX11_why_75 : decode cX11_why 75 = .ok (.aload_n 0, 1) := by decide +kernel
theorem dX11_why_76 : decode cX11_why 76 = .ok (.getfield 53, 3) := by decide +kernel
theorem dX11_why_79 : decode cX11_why 79 = .ok (.iload_n 3, 1) := by decide +kernel
theorem dX11_why_80 : decode cX11_why 80 = .ok (.iaload, 1) := by decide +kernel
theorem dX11_why_81 : decode cX11_why 81 = .ok (.ifCond .eq 22, 3) := by decide +kernel
theorem dX11_why_84 : decode cX11_why 84 = .ok (.aload_n 0, 1) := by decide +kernel
theorem dX11_why_85 : decode cX11_why 85 = .ok (.getfield 56, 3) := by decide +kernel
theorem dX11_why_88 : decode cX11_why 88 = .ok (.iload_n 3, 1) := by decide +kernel
theorem dX11_why_89 : decode cX11_why 89 = .ok (.baload, 1) := by decide +kernel
theorem dX11_why_90 : decode cX11_why 90 = .ok (.ifCond .ne 13, 3) := by decide +kernel
theorem dX11_why_93 : decode cX11_why 93 = .ok (.aload_n 0, 1) := by decide +kernel
theorem dX11_why_94 : decode cX11_why 94 = .ok (.getfield 60, 3) := by decide +kernel
theorem dX11_why_97 : decode cX11_why 97 = .ok (.iload_n 3, 1) := by decide +kernel
theorem dX11_why_98 : decode cX11_why 98 = .ok (.iaload, 1) := by decide +kernel
theorem dX11_why_99 : decode cX11_why 99 = .ok (.iconst (-1), 1) := by decide +kernel
theorem dX11_why_100 : decode cX11_why 100 = .ok (.if_icmp .eq 5, 3) := by decide +kernel
theorem dX11_why_103 : decode cX11_why 103 = .ok (.iconst 4, 1) := by decide +kernel
theorem dX11_why_104 : decode cX11_why 104 = .ok (.ireturn, 1) := by decide +kernel
theorem dX11_why_105 : decode cX11_why 105 = .ok (.aload_n 0, 1) := by decide +kernel
theorem dX11_why_106 : decode cX11_why 106 = .ok (.iload 4, 2) := by decide +kernel
theorem dX11_why_108 : decode cX11_why 108 = .ok (.invokevirtual 221, 3) := by decide +kernel
theorem dX11_why_111 : decode cX11_why 111 = .ok (.ifCond .ne 5, 3) := by decide +kernel
theorem dX11_why_114 : decode cX11_why 114 = .ok (.iconst 5, 1) := by decide +kernel
theorem dX11_why_115 : decode cX11_why 115 = .ok (.ireturn, 1) := by decide +kernel
theorem dX11_why_116 : decode cX11_why 116 = .ok (.aload_n 0, 1) := by decide +kernel
theorem dX11_why_117 : decode cX11_why 117 = .ok (.aload_n 0, 1) := by decide +kernel
theorem dX11_why_118 : decode cX11_why 118 = .ok (.iconst 2, 1) := by decide +kernel
theorem dX11_why_119 : decode cX11_why 119 = .ok (.iload 4, 2) := by decide +kernel
theorem dX11_why_121 : decode cX11_why 121 = .ok (.iconst 0, 1) := by decide +kernel
theorem dX11_why_122 : decode cX11_why 122 = .ok (.invokevirtual 224, 3) := by decide +kernel
theorem dX11_why_125 : decode cX11_why 125 = .ok (.aload_n 0, 1) := by decide +kernel
theorem dX11_why_126 : decode cX11_why 126 = .ok (.iconst 3, 1) := by decide +kernel
theorem dX11_why_127 : decode cX11_why 127 = .ok (.iload 4, 2) := by decide +kernel
theorem dX11_why_129 : decode cX11_why 129 = .ok (.iload 5, 2) := by decide +kernel
theorem dX11_why_131 : decode cX11_why 131 = .ok (.invokevirtual 224, 3) := by decide +kernel
theorem dX11_why_134 : decode cX11_why 134 = .ok (.aload_n 0, 1) := by decide +kernel
theorem dX11_why_135 : decode cX11_why 135 = .ok (.iload 4, 2) := by decide +kernel
theorem dX11_why_137 : decode cX11_why 137 = .ok (.invokevirtual 227, 3) := by decide +kernel
theorem dX11_why_140 : decode cX11_why 140 = .ok (.invokevirtual 230, 3) := by decide +kernel
theorem dX11_why_143 : decode cX11_why 143 = .ok (.ifCond .ne 6, 3) := by decide +kernel
theorem dX11_why_146 : decode cX11_why 146 = .ok (.bipush 6, 2) := by decide +kernel
theorem dX11_why_148 : decode cX11_why 148 = .ok (.ireturn, 1) := by decide +kernel
theorem dX11_why_149 : decode cX11_why 149 = .ok (.aload_n 0, 1) := by decide +kernel
theorem dX11_why_150 : decode cX11_why 150 = .ok (.iload 4, 2) := by decide +kernel
theorem dX11_why_152 : decode cX11_why 152 = .ok (.invokevirtual 233, 3) := by decide +kernel
theorem dX11_why_155 : decode cX11_why 155 = .ok (.ifCond .eq 6, 3) := by decide +kernel
theorem dX11_why_158 : decode cX11_why 158 = .ok (.bipush 7, 2) := by decide +kernel
theorem dX11_why_160 : decode cX11_why 160 = .ok (.ireturn, 1) := by decide +kernel
theorem dX11_why_161 : decode cX11_why 161 = .ok (.aload_n 0, 1) := by decide +kernel
theorem dX11_why_162 : decode cX11_why 162 = .ok (.getfield 104, 3) := by decide +kernel
theorem dX11_why_165 : decode cX11_why 165 = .ok (.sipush 400, 3) := by decide +kernel
theorem dX11_why_168 : decode cX11_why 168 = .ok (.if_icmp .ne 8, 3) := by decide +kernel
theorem dX11_why_171 : decode cX11_why 171 = .ok (.bipush 8, 2) := by decide +kernel
theorem dX11_why_173 : decode cX11_why 173 = .ok (.goto 4, 3) := by decide +kernel
theorem dX11_why_176 : decode cX11_why 176 = .ok (.iconst 0, 1) := by decide +kernel
theorem dX11_why_177 : decode cX11_why 177 = .ok (.ireturn, 1) := by decide +kernel
/-! SealLineModel.why(III)I -/
theorem eX11_why {d mc ms : Nat} {w : qW} {Q : Option Value → qW → Prop} {q : Nat} {x0 : Int32} {x1 : Int32} {x2 : Int32} (h : AW (mX11_why, d, mc, ms, none, Q) 0 [some (.ref q), some (.int x0), some (.int x1), some (.int x2), none, none] [] w 0 0) : CT mX11_why d mc ms [.ref q, .int x0, .int x1, .int x2] w Q := CT_of (by decide +kernel) rfl (Nat.le_of_ble_eq_true rfl) h
def bX11_why_0 (G : Nat × Nat × Nat × Option (Nat × (Nat → Int32)) × (Option Value → qW → Prop)) : qK := (s_aload 0 (s_getfield 11 4 (s_if_ne (AW (mX11_why, G) 9) (s_iconst 1 (s_ireturn (mX11_why, G))))))
theorem oX11_why_0 (G : Nat × Nat × Nat × Option (Nat × (Nat → Int32)) × (Option Value → qW → Prop)) : qImp (bX11_why_0 G) (AW (mX11_why, G) 0) := (r_aload_n dX11_why_0 rfl (r_getfield dX11_why_1 fgX11_209 (r_if_ne (tgt := 9) dX11_why_4 rfl qImp.rf (r_iconst dX11_why_7 rfl (r_ireturn dX11_why_8 rfl)))))
def bX11_why_9 (G : Nat × Nat × Nat × Option (Nat × (Nat → Int32)) × (Option Value → qW → Prop)) : qK := (s_iload 1 (AW (mX11_why, G) 10))
theorem oX11_why_9 (G : Nat × Nat × Nat × Option (Nat × (Nat → Int32)) × (Option Value → qW → Prop)) : qImp (bX11_why_9 G) (AW (mX11_why, G) 9) := (r_iload_n dX11_why_9 rfl qImp.rf)
def bX11_why_13 (G : Nat × Nat × Nat × Option (Nat × (Nat → Int32)) × (Option Value → qW → Prop)) : qK := (s_if_eq (AW (mX11_why, G) 28) (s_iload 2 (AW (mX11_why, G) 17)))
theorem oX11_why_13 (G : Nat × Nat × Nat × Option (Nat × (Nat → Int32)) × (Option Value → qW → Prop)) : qImp (bX11_why_13 G) (AW (mX11_why, G) 13) := (r_if_eq (tgt := 28) dX11_why_13 rfl qImp.rf (r_iload_n dX11_why_16 rfl qImp.rf))
def bX11_why_20 (G : Nat × Nat × Nat × Option (Nat × (Nat → Int32)) × (Option Value → qW → Prop)) : qK := (s_if_eq (AW (mX11_why, G) 28) (s_iload 1 (s_iload 2 (s_ic_ne (AW (mX11_why, G) 30) (AW (mX11_why, G) 28)))))
theorem oX11_why_20 (G : Nat × Nat × Nat × Option (Nat × (Nat → Int32)) × (Option Value → qW → Prop)) : qImp (bX11_why_20 G) (AW (mX11_why, G) 20) := (r_if_eq (tgt := 28) dX11_why_20 rfl qImp.rf (r_iload_n dX11_why_23 rfl (r_iload_n dX11_why_24 rfl (r_ic_ne (tgt := 30) dX11_why_25 rfl qImp.rf qImp.rf))))
def bX11_why_28 (G : Nat × Nat × Nat × Option (Nat × (Nat → Int32)) × (Option Value → qW → Prop)) : qK := (s_iconst 2 (s_ireturn (mX11_why, G)))
theorem oX11_why_28 (G : Nat × Nat × Nat × Option (Nat × (Nat → Int32)) × (Option Value → qW → Prop)) : qImp (bX11_why_28 G) (AW (mX11_why, G) 28) := (r_iconst dX11_why_28 rfl (r_ireturn dX11_why_29 rfl))
def bX11_why_30 (G : Nat × Nat × Nat × Option (Nat × (Nat → Int32)) × (Option Value → qW → Prop)) : qK := (s_aload 0 (s_getfield 11 19 (s_iconst 0 (s_iaload (mX11_why, G) (s_istore 4 3 (s_aload 0 (s_iload 4 (AW (mX11_why, G) 41))))))))
theorem oX11_why_30 (G : Nat × Nat × Nat × Option (Nat × (Nat → Int32)) × (Option Value → qW → Prop)) : qImp (bX11_why_30 G) (AW (mX11_why, G) 30) := (r_aload_n dX11_why_30 rfl (r_getfield dX11_why_31 fgX11_50 (r_iconst dX11_why_34 rfl (r_iaload dX11_why_35 (r_istore dX11_why_36 (Or.inr rfl) (Nat.le_of_ble_eq_true rfl) (r_aload_n dX11_why_38 rfl (r_iload dX11_why_39 qImp.rf)))))))
def bX11_why_44 (G : Nat × Nat × Nat × Option (Nat × (Nat → Int32)) × (Option Value → qW → Prop)) : qK := (s_istore 5 4 (s_iload 5 (s_iload 1 (s_ishr (s_iconst 1 (s_iand (s_iconst 1 (s_ic_eq (AW (mX11_why, G) 66) (s_iload 5 (s_iload 2 (s_ishr (s_iconst 1 (s_iand (s_iconst 1 (s_ic_ne (AW (mX11_why, G) 68) (AW (mX11_why, G) 66))))))))))))))))
theorem oX11_why_44 (G : Nat × Nat × Nat × Option (Nat × (Nat → Int32)) × (Option Value → qW → Prop)) : qImp (bX11_why_44 G) (AW (mX11_why, G) 44) := (r_istore dX11_why_44 (Or.inr rfl) (Nat.le_of_ble_eq_true rfl) (r_iload dX11_why_46 (r_iload_n dX11_why_48 rfl (r_ishr dX11_why_49 (r_iconst dX11_why_50 rfl (r_iand dX11_why_51 (r_iconst dX11_why_52 rfl (r_ic_eq (tgt := 66) dX11_why_53 rfl qImp.rf (r_iload dX11_why_56 (r_iload_n dX11_why_58 rfl (r_ishr dX11_why_59 (r_iconst dX11_why_60 rfl (r_iand dX11_why_61 (r_iconst dX11_why_62 rfl (r_ic_ne (tgt := 68) dX11_why_63 rfl qImp.rf qImp.rf)))))))))))))))
def bX11_why_66 (G : Nat × Nat × Nat × Option (Nat × (Nat → Int32)) × (Option Value → qW → Prop)) : qK := (s_iconst 3 (s_ireturn (mX11_why, G)))
theorem oX11_why_66 (G : Nat × Nat × Nat × Option (Nat × (Nat → Int32)) × (Option Value → qW → Prop)) : qImp (bX11_why_66 G) (AW (mX11_why, G) 66) := (r_iconst dX11_why_66 rfl (r_ireturn dX11_why_67 rfl))
def bX11_why_68 (G : Nat × Nat × Nat × Option (Nat × (Nat → Int32)) × (Option Value → qW → Prop)) : qK := (s_iload 3 (AW (mX11_why, G) 69))
theorem oX11_why_68 (G : Nat × Nat × Nat × Option (Nat × (Nat → Int32)) × (Option Value → qW → Prop)) : qImp (bX11_why_68 G) (AW (mX11_why, G) 68) := (r_iload_n dX11_why_68 rfl qImp.rf)
def bX11_why_72 (G : Nat × Nat × Nat × Option (Nat × (Nat → Int32)) × (Option Value → qW → Prop)) : qK := (s_if_eq (AW (mX11_why, G) 103) (s_aload 0 (s_getfield 11 20 (s_iload 3 (s_iaload (mX11_why, G) (s_if_eq (AW (mX11_why, G) 103) (s_aload 0 (s_getfield 11 21 (s_iload 3 (s_baload (s_if_ne (AW (mX11_why, G) 103) (s_aload 0 (s_getfield 11 22 (s_iload 3 (s_iaload (mX11_why, G) (s_iconst (-1) (s_ic_eq (AW (mX11_why, G) 105) (AW (mX11_why, G) 103))))))))))))))))))
theorem oX11_why_72 (G : Nat × Nat × Nat × Option (Nat × (Nat → Int32)) × (Option Value → qW → Prop)) : qImp (bX11_why_72 G) (AW (mX11_why, G) 72) := (r_if_eq (tgt := 103) dX11_why_72 rfl qImp.rf (r_aload_n dX11_why_75 rfl (r_getfield dX11_why_76 fgX11_53 (r_iload_n dX11_why_79 rfl (r_iaload dX11_why_80 (r_if_eq (tgt := 103) dX11_why_81 rfl qImp.rf (r_aload_n dX11_why_84 rfl (r_getfield dX11_why_85 fgX11_56 (r_iload_n dX11_why_88 rfl (r_baload dX11_why_89 (r_if_ne (tgt := 103) dX11_why_90 rfl qImp.rf (r_aload_n dX11_why_93 rfl (r_getfield dX11_why_94 fgX11_60 (r_iload_n dX11_why_97 rfl (r_iaload dX11_why_98 (r_iconst dX11_why_99 rfl (r_ic_eq (tgt := 105) dX11_why_100 rfl qImp.rf qImp.rf)))))))))))))))))
def bX11_why_103 (G : Nat × Nat × Nat × Option (Nat × (Nat → Int32)) × (Option Value → qW → Prop)) : qK := (s_iconst 4 (s_ireturn (mX11_why, G)))
theorem oX11_why_103 (G : Nat × Nat × Nat × Option (Nat × (Nat → Int32)) × (Option Value → qW → Prop)) : qImp (bX11_why_103 G) (AW (mX11_why, G) 103) := (r_iconst dX11_why_103 rfl (r_ireturn dX11_why_104 rfl))
def bX11_why_105 (G : Nat × Nat × Nat × Option (Nat × (Nat → Int32)) × (Option Value → qW → Prop)) : qK := (s_aload 0 (s_iload 4 (AW (mX11_why, G) 108)))
theorem oX11_why_105 (G : Nat × Nat × Nat × Option (Nat × (Nat → Int32)) × (Option Value → qW → Prop)) : qImp (bX11_why_105 G) (AW (mX11_why, G) 105) := (r_aload_n dX11_why_105 rfl (r_iload dX11_why_106 qImp.rf))
def bX11_why_111 (G : Nat × Nat × Nat × Option (Nat × (Nat → Int32)) × (Option Value → qW → Prop)) : qK := (s_if_ne (AW (mX11_why, G) 116) (s_iconst 5 (s_ireturn (mX11_why, G))))
theorem oX11_why_111 (G : Nat × Nat × Nat × Option (Nat × (Nat → Int32)) × (Option Value → qW → Prop)) : qImp (bX11_why_111 G) (AW (mX11_why, G) 111) := (r_if_ne (tgt := 116) dX11_why_111 rfl qImp.rf (r_iconst dX11_why_114 rfl (r_ireturn dX11_why_115 rfl)))
def bX11_why_116 (G : Nat × Nat × Nat × Option (Nat × (Nat → Int32)) × (Option Value → qW → Prop)) : qK := (s_aload 0 (s_aload 0 (s_iconst 2 (s_iload 4 (s_iconst 0 (AW (mX11_why, G) 122))))))
theorem oX11_why_116 (G : Nat × Nat × Nat × Option (Nat × (Nat → Int32)) × (Option Value → qW → Prop)) : qImp (bX11_why_116 G) (AW (mX11_why, G) 116) := (r_aload_n dX11_why_116 rfl (r_aload_n dX11_why_117 rfl (r_iconst dX11_why_118 rfl (r_iload dX11_why_119 (r_iconst dX11_why_121 rfl qImp.rf)))))
def bX11_why_125 (G : Nat × Nat × Nat × Option (Nat × (Nat → Int32)) × (Option Value → qW → Prop)) : qK := (s_aload 0 (s_iconst 3 (s_iload 4 (s_iload 5 (AW (mX11_why, G) 131)))))
theorem oX11_why_125 (G : Nat × Nat × Nat × Option (Nat × (Nat → Int32)) × (Option Value → qW → Prop)) : qImp (bX11_why_125 G) (AW (mX11_why, G) 125) := (r_aload_n dX11_why_125 rfl (r_iconst dX11_why_126 rfl (r_iload dX11_why_127 (r_iload dX11_why_129 qImp.rf))))
def bX11_why_134 (G : Nat × Nat × Nat × Option (Nat × (Nat → Int32)) × (Option Value → qW → Prop)) : qK := (s_aload 0 (s_iload 4 (AW (mX11_why, G) 137)))
theorem oX11_why_134 (G : Nat × Nat × Nat × Option (Nat × (Nat → Int32)) × (Option Value → qW → Prop)) : qImp (bX11_why_134 G) (AW (mX11_why, G) 134) := (r_aload_n dX11_why_134 rfl (r_iload dX11_why_135 qImp.rf))
def bX11_why_143 (G : Nat × Nat × Nat × Option (Nat × (Nat → Int32)) × (Option Value → qW → Prop)) : qK := (s_if_ne (AW (mX11_why, G) 149) (s_iconst 6 (s_ireturn (mX11_why, G))))
theorem oX11_why_143 (G : Nat × Nat × Nat × Option (Nat × (Nat → Int32)) × (Option Value → qW → Prop)) : qImp (bX11_why_143 G) (AW (mX11_why, G) 143) := (r_if_ne (tgt := 149) dX11_why_143 rfl qImp.rf (r_bipush dX11_why_146 rfl (r_ireturn dX11_why_148 rfl)))
def bX11_why_149 (G : Nat × Nat × Nat × Option (Nat × (Nat → Int32)) × (Option Value → qW → Prop)) : qK := (s_aload 0 (s_iload 4 (AW (mX11_why, G) 152)))
theorem oX11_why_149 (G : Nat × Nat × Nat × Option (Nat × (Nat → Int32)) × (Option Value → qW → Prop)) : qImp (bX11_why_149 G) (AW (mX11_why, G) 149) := (r_aload_n dX11_why_149 rfl (r_iload dX11_why_150 qImp.rf))
def bX11_why_155 (G : Nat × Nat × Nat × Option (Nat × (Nat → Int32)) × (Option Value → qW → Prop)) : qK := (s_if_eq (AW (mX11_why, G) 161) (s_iconst 7 (s_ireturn (mX11_why, G))))
theorem oX11_why_155 (G : Nat × Nat × Nat × Option (Nat × (Nat → Int32)) × (Option Value → qW → Prop)) : qImp (bX11_why_155 G) (AW (mX11_why, G) 155) := (r_if_eq (tgt := 161) dX11_why_155 rfl qImp.rf (r_bipush dX11_why_158 rfl (r_ireturn dX11_why_160 rfl)))
def bX11_why_161 (G : Nat × Nat × Nat × Option (Nat × (Nat → Int32)) × (Option Value → qW → Prop)) : qK := (s_aload 0 (s_getfield 11 0 (s_iconst 400 (s_ic_ne (AW (mX11_why, G) 176) (s_iconst 8 (AW (mX11_why, G) 177))))))
theorem oX11_why_161 (G : Nat × Nat × Nat × Option (Nat × (Nat → Int32)) × (Option Value → qW → Prop)) : qImp (bX11_why_161 G) (AW (mX11_why, G) 161) := (r_aload_n dX11_why_161 rfl (r_getfield dX11_why_162 fgX11_104 (r_sipush dX11_why_165 rfl (r_ic_ne (tgt := 176) dX11_why_168 rfl qImp.rf (r_bipush dX11_why_171 rfl (r_goto (tgt := 177) dX11_why_173 rfl qImp.rf))))))
def bX11_why_176 (G : Nat × Nat × Nat × Option (Nat × (Nat → Int32)) × (Option Value → qW → Prop)) : qK := (s_iconst 0 (AW (mX11_why, G) 177))
theorem oX11_why_176 (G : Nat × Nat × Nat × Option (Nat × (Nat → Int32)) × (Option Value → qW → Prop)) : qImp (bX11_why_176 G) (AW (mX11_why, G) 176) := (r_iconst dX11_why_176 rfl qImp.rf)
def bX11_why_177 (G : Nat × Nat × Nat × Option (Nat × (Nat → Int32)) × (Option Value → qW → Prop)) : qK := (s_ireturn (mX11_why, G))
theorem oX11_why_177 (G : Nat × Nat × Nat × Option (Nat × (Nat → Int32)) × (Option Value → qW → Prop)) : qImp (bX11_why_177 G) (AW (mX11_why, G) 177) := (r_ireturn dX11_why_177 rfl)
theorem kX11_why_10 {G : Nat × Nat × Nat × Option (Nat × (Nat → Int32)) × (Option Value → qW → Prop)} {L : qL} {w : qW} {kc ks : Nat} {rest : List Value}  {x0 : Int32} {d mc ms : Nat} {Q : Option Value → qW → Prop} (hC : CT mX11_isHand d mc ms [.int x0] w Q) (hst : rest.length ≤ 4) (hdp : d + 1 ≤ G.1) (hmc : kc + mc ≤ G.2.1 ∧ ks + ms ≤ G.2.2.1) (k : ∀ r w', Q r w' → AW (mX11_why, G) 13 L (r.toList ++ rest) w' (kc + mc) (ks + ms)) : AW (mX11_why, G) 10 L (.int x0 :: rest) w kc ks := a_callS [.int x0] rest dX11_why_10 tX11_isHand lk1027 hC rfl hst hdp hmc k
theorem kX11_why_17 {G : Nat × Nat × Nat × Option (Nat × (Nat → Int32)) × (Option Value → qW → Prop)} {L : qL} {w : qW} {kc ks : Nat} {rest : List Value}  {x0 : Int32} {d mc ms : Nat} {Q : Option Value → qW → Prop} (hC : CT mX11_isHand d mc ms [.int x0] w Q) (hst : rest.length ≤ 4) (hdp : d + 1 ≤ G.1) (hmc : kc + mc ≤ G.2.1 ∧ ks + ms ≤ G.2.2.1) (k : ∀ r w', Q r w' → AW (mX11_why, G) 20 L (r.toList ++ rest) w' (kc + mc) (ks + ms)) : AW (mX11_why, G) 17 L (.int x0 :: rest) w kc ks := a_callS [.int x0] rest dX11_why_17 tX11_isHand lk1027 hC rfl hst hdp hmc k
theorem kX11_why_41 {G : Nat × Nat × Nat × Option (Nat × (Nat → Int32)) × (Option Value → qW → Prop)} {L : qL} {w : qW} {kc ks : Nat} {rest : List Value} {q : Nat} {x0 : Int32} {d mc ms : Nat} {Q : Option Value → qW → Prop} (hC : CT mX11_makersOf d mc ms [.ref q, .int x0] w Q) (hq : qci w q = some 11) (hst : rest.length ≤ 4) (hdp : d + 1 ≤ G.1) (hmc : kc + mc ≤ G.2.1 ∧ ks + ms ≤ G.2.2.1) (k : ∀ r w', Q r w' → AW (mX11_why, G) 44 L (r.toList ++ rest) w' (kc + mc) (ks + ms)) : AW (mX11_why, G) 41 L (.int x0 :: .ref q :: rest) w kc ks := a_callV [.int x0] rest dX11_why_41 vX11_makersOf lk1145 hC hq rfl rfl hst hdp hmc k
theorem kX11_why_69 {G : Nat × Nat × Nat × Option (Nat × (Nat → Int32)) × (Option Value → qW → Prop)} {L : qL} {w : qW} {kc ks : Nat} {rest : List Value}  {x0 : Int32} {d mc ms : Nat} {Q : Option Value → qW → Prop} (hC : CT mX11_isKey d mc ms [.int x0] w Q) (hst : rest.length ≤ 4) (hdp : d + 1 ≤ G.1) (hmc : kc + mc ≤ G.2.1 ∧ ks + ms ≤ G.2.2.1) (k : ∀ r w', Q r w' → AW (mX11_why, G) 72 L (r.toList ++ rest) w' (kc + mc) (ks + ms)) : AW (mX11_why, G) 69 L (.int x0 :: rest) w kc ks := a_callS [.int x0] rest dX11_why_69 tX11_isKey lk1149 hC rfl hst hdp hmc k
theorem kX11_why_108 {G : Nat × Nat × Nat × Option (Nat × (Nat → Int32)) × (Option Value → qW → Prop)} {L : qL} {w : qW} {kc ks : Nat} {rest : List Value} {q : Nat} {x0 : Int32} {d mc ms : Nat} {Q : Option Value → qW → Prop} (hC : CT mX11_isClean d mc ms [.ref q, .int x0] w Q) (hq : qci w q = some 11) (hst : rest.length ≤ 4) (hdp : d + 1 ≤ G.1) (hmc : kc + mc ≤ G.2.1 ∧ ks + ms ≤ G.2.2.1) (k : ∀ r w', Q r w' → AW (mX11_why, G) 111 L (r.toList ++ rest) w' (kc + mc) (ks + ms)) : AW (mX11_why, G) 108 L (.int x0 :: .ref q :: rest) w kc ks := a_callV [.int x0] rest dX11_why_108 vX11_isClean lk1152 hC hq rfl rfl hst hdp hmc k
theorem kX11_why_122 {G : Nat × Nat × Nat × Option (Nat × (Nat → Int32)) × (Option Value → qW → Prop)} {L : qL} {w : qW} {kc ks : Nat} {rest : List Value} {q : Nat} {x0 : Int32} {x1 : Int32} {x2 : Int32} {d mc ms : Nat} {Q : Option Value → qW → Prop} (hC : CT mX11_handsWith d mc ms [.ref q, .int x0, .int x1, .int x2] w Q) (hq : qci w q = some 11) (hst : rest.length ≤ 4) (hdp : d + 1 ≤ G.1) (hmc : kc + mc ≤ G.2.1 ∧ ks + ms ≤ G.2.2.1) (k : ∀ r w', Q r w' → AW (mX11_why, G) 125 L (r.toList ++ rest) w' (kc + mc) (ks + ms)) : AW (mX11_why, G) 122 L (.int x2 :: .int x1 :: .int x0 :: .ref q :: rest) w kc ks := a_callV [.int x0, .int x1, .int x2] rest dX11_why_122 vX11_handsWith lk1164 hC hq rfl rfl hst hdp hmc k
theorem kX11_why_131 {G : Nat × Nat × Nat × Option (Nat × (Nat → Int32)) × (Option Value → qW → Prop)} {L : qL} {w : qW} {kc ks : Nat} {rest : List Value} {q : Nat} {x0 : Int32} {x1 : Int32} {x2 : Int32} {d mc ms : Nat} {Q : Option Value → qW → Prop} (hC : CT mX11_handsWith d mc ms [.ref q, .int x0, .int x1, .int x2] w Q) (hq : qci w q = some 11) (hst : rest.length ≤ 4) (hdp : d + 1 ≤ G.1) (hmc : kc + mc ≤ G.2.1 ∧ ks + ms ≤ G.2.2.1) (k : ∀ r w', Q r w' → AW (mX11_why, G) 134 L (r.toList ++ rest) w' (kc + mc) (ks + ms)) : AW (mX11_why, G) 131 L (.int x2 :: .int x1 :: .int x0 :: .ref q :: rest) w kc ks := a_callV [.int x0, .int x1, .int x2] rest dX11_why_131 vX11_handsWith lk1164 hC hq rfl rfl hst hdp hmc k
theorem kX11_why_137 {G : Nat × Nat × Nat × Option (Nat × (Nat → Int32)) × (Option Value → qW → Prop)} {L : qL} {w : qW} {kc ks : Nat} {rest : List Value} {q : Nat} {x0 : Int32} {d mc ms : Nat} {Q : Option Value → qW → Prop} (hC : CT mX11_builders d mc ms [.ref q, .int x0] w Q) (hq : qci w q = some 11) (hst : rest.length ≤ 4) (hdp : d + 1 ≤ G.1) (hmc : kc + mc ≤ G.2.1 ∧ ks + ms ≤ G.2.2.1) (k : ∀ r w', Q r w' → AW (mX11_why, G) 140 L (r.toList ++ rest) w' (kc + mc) (ks + ms)) : AW (mX11_why, G) 137 L (.int x0 :: .ref q :: rest) w kc ks := a_callV [.int x0] rest dX11_why_137 vX11_builders lk1168 hC hq rfl rfl hst hdp hmc k
theorem kX11_why_140 {G : Nat × Nat × Nat × Option (Nat × (Nat → Int32)) × (Option Value → qW → Prop)} {L : qL} {w : qW} {kc ks : Nat} {rest : List Value} {q : Nat} {x0 : Int32} {x1 : Int32} {x2 : Int32} {d mc ms : Nat} {Q : Option Value → qW → Prop} (hC : CT mX11_holds d mc ms [.ref q, .int x0, .int x1, .int x2] w Q) (hq : qci w q = some 11) (hst : rest.length ≤ 4) (hdp : d + 1 ≤ G.1) (hmc : kc + mc ≤ G.2.1 ∧ ks + ms ≤ G.2.2.1) (k : ∀ r w', Q r w' → AW (mX11_why, G) 143 L (r.toList ++ rest) w' (kc + mc) (ks + ms)) : AW (mX11_why, G) 140 L (.int x2 :: .int x1 :: .int x0 :: .ref q :: rest) w kc ks := a_callV [.int x0, .int x1, .int x2] rest dX11_why_140 vX11_holds lk1173 hC hq rfl rfl hst hdp hmc k
theorem kX11_why_152 {G : Nat × Nat × Nat × Option (Nat × (Nat → Int32)) × (Option Value → qW → Prop)} {L : qL} {w : qW} {kc ks : Nat} {rest : List Value} {q : Nat} {x0 : Int32} {d mc ms : Nat} {Q : Option Value → qW → Prop} (hC : CT mX11_isCalled d mc ms [.ref q, .int x0] w Q) (hq : qci w q = some 11) (hst : rest.length ≤ 4) (hdp : d + 1 ≤ G.1) (hmc : kc + mc ≤ G.2.1 ∧ ks + ms ≤ G.2.2.1) (k : ∀ r w', Q r w' → AW (mX11_why, G) 155 L (r.toList ++ rest) w' (kc + mc) (ks + ms)) : AW (mX11_why, G) 152 L (.int x0 :: .ref q :: rest) w kc ks := a_callV [.int x0] rest dX11_why_152 vX11_isCalled lk1177 hC hq rfl rfl hst hdp hmc k
theorem dX11_seal_0 : decode cX11_seal 0 = .ok (.aload_n 0, 1) := by decide +kernel
theorem dX11_seal_1 : decode cX11_seal 1 = .ok (.iload_n 1, 1) := by decide +kernel
theorem dX11_seal_2 : decode cX11_seal 2 = .ok (.iload_n 2, 1) := by decide +kernel
theorem dX11_seal_3 : decode cX11_seal 3 = .ok (.iload_n 3, 1) := by decide +kernel
theorem dX11_seal_4 : decode cX11_seal 4 = .ok (.invokevirtual 236, 3) := by decide +kernel
theorem dX11_seal_7 : decode cX11_seal 7 = .ok (.ifCond .eq 5, 3) := by decide +kernel
theorem dX11_seal_10 : decode cX11_seal 10 = .ok (.iconst (-1), 1) := by decide +kernel
theorem dX11_seal_11 : decode cX11_seal 11 = .ok (.ireturn, 1) := by decide +kernel
theorem dX11_seal_12 : decode cX11_seal 12 = .ok (.aload_n 0, 1) := by decide +kernel
theorem dX11_seal_13 : decode cX11_seal 13 = .ok (.invokevirtual 239, 3) := by decide +kernel
theorem dX11_seal_16 : decode cX11_seal 16 = .ok (.istore 4, 2) := by decide +kernel
theorem dX11_seal_18 : decode cX11_seal 18 = .ok (.aload_n 0, 1) := by decide +kernel
theorem dX11_seal_19 : decode cX11_seal 19 = .ok (.iconst 4, 1) := by decide +kernel
theorem dX11_seal_20 : decode cX11_seal 20 = .ok (.iload 4, 2) := by decide +kernel
theorem dX11_seal_22 : decode cX11_seal 22 = .ok (.iload_n 1, 1) := by decide +kernel
theorem dX11_seal_23 : decode cX11_seal 23 = .ok (.invokevirtual 118, 3) := by decide +kernel
theorem dX11_seal_26 : decode cX11_seal 26 = .ok (.istore 5, 2) := by decide +kernel
theorem dX11_seal_28 : decode cX11_seal 28 = .ok (.aload_n 0, 1) := by decide +kernel
theorem dX11_seal_29 : decode cX11_seal 29 = .ok (.getfield 23, 3) := by decide +kernel
theorem dX11_seal_32 : decode cX11_seal 32 = .ok (.iload 5, 2) := by decide +kernel
theorem dX11_seal_34 : decode cX11_seal 34 = .ok (.iload_n 2, 1) := by decide +kernel
theorem dX11_seal_35 : decode cX11_seal 35 = .ok (.iastore, 1) := by decide +kernel
theorem dX11_seal_36 : decode cX11_seal 36 = .ok (.aload_n 0, 1) := by decide +kernel
theorem dX11_seal_37 : decode cX11_seal 37 = .ok (.getfield 41, 3) := by decide +kernel
theorem dX11_seal_40 : decode cX11_seal 40 = .ok (.iload 5, 2) := by decide +kernel
theorem dX11_seal_42 : decode cX11_seal 42 = .ok (.iload_n 3, 1) := by decide +kernel
theorem dX11_seal_43 : decode cX11_seal 43 = .ok (.iastore, 1) := by decide +kernel
theorem dX11_seal_44 : decode cX11_seal 44 = .ok (.aload_n 0, 1) := by decide +kernel
theorem dX11_seal_45 : decode cX11_seal 45 = .ok (.getfield 44, 3) := by decide +kernel
theorem dX11_seal_48 : decode cX11_seal 48 = .ok (.iload 5, 2) := by decide +kernel
theorem dX11_seal_50 : decode cX11_seal 50 = .ok (.aload_n 0, 1) := by decide +kernel
theorem dX11_seal_51 : decode cX11_seal 51 = .ok (.getfield 203, 3) := by decide +kernel
theorem dX11_seal_54 : decode cX11_seal 54 = .ok (.iconst 1, 1) := by decide +kernel
theorem dX11_seal_55 : decode cX11_seal 55 = .ok (.isub, 1) := by decide +kernel
theorem dX11_seal_56 : decode cX11_seal 56 = .ok (.iastore, 1) := by decide +kernel
theorem dX11_seal_57 : decode cX11_seal 57 = .ok (.aload_n 0, 1) := by decide +kernel
theorem dX11_seal_58 : decode cX11_seal 58 = .ok (.getfield 53, 3) := by decide +kernel
theorem dX11_seal_61 : decode cX11_seal 61 = .ok (.iload_n 3, 1) := by decide +kernel
theorem dX11_seal_62 : decode cX11_seal 62 = .ok (.dup2, 1) := by decide +kernel
theorem dX11_seal_63 : decode cX11_seal 63 = .ok (.iaload, 1) := by decide +kernel
theorem dX11_seal_64 : decode cX11_seal 64 = .ok (.iconst 1, 1) := by decide +kernel
theorem dX11_seal_65 : decode cX11_seal 65 = .ok (.isub, 1) := by decide +kernel
theorem dX11_seal_66 : decode cX11_seal 66 = .ok (.iastore, 1) := by decide +kernel
theorem dX11_seal_67 : decode cX11_seal 67 = .ok (.aload_n 0, 1) := by decide +kernel
theorem dX11_seal_68 : decode cX11_seal 68 = .ok (.getfield 47, 3) := by decide +kernel
theorem dX11_seal_71 : decode cX11_seal 71 = .ok (.aload_n 0, 1) := by decide +kernel
theorem dX11_seal_72 : decode cX11_seal 72 = .ok (.getfield 242, 3) := by decide +kernel
theorem dX11_seal_75 : decode cX11_seal 75 = .ok (.iload 5, 2) := by decide +kernel
theorem dX11_seal_77 : decode cX11_seal 77 = .ok (.iastore, 1) := by decide +kernel
theorem dX11_seal_78 : decode cX11_seal 78 = .ok (.aload_n 0, 1) := by decide +kernel
theorem dX11_seal_79 : decode cX11_seal 79 = .ok (.dup, 1) := by decide +kernel
theorem dX11_seal_80 : decode cX11_seal 80 = .ok (.getfield 242, 3) := by decide +kernel
theorem dX11_seal_83 : decode cX11_seal 83 = .ok (.iconst 1, 1) := by decide +kernel
theorem dX11_seal_84 : decode cX11_seal 84 = .ok (.iadd, 1) := by decide +kernel
theorem dX11_seal_85 : decode cX11_seal 85 = .ok (.putfield 242, 3) := by decide +kernel
theorem dX11_seal_88 : decode cX11_seal 88 = .ok (.aload_n 0, 1) := by decide +kernel
theorem dX11_seal_89 : decode cX11_seal 89 = .ok (.getfield 242, 3) := by decide +kernel
theorem dX11_seal_92 : decode cX11_seal 92 = .ok (.iconst 1, 1) := by decide +kernel
theorem dX11_seal_93 : decode cX11_seal 93 = .ok (.isub, 1) := by decide +kernel
theorem dX11_seal_94 : decode cX11_seal 94 = .ok (.ireturn, 1) := by decide +kernel
/-! SealLineModel.seal(III)I -/
theorem eX11_seal {d mc ms : Nat} {w : qW} {Q : Option Value → qW → Prop} {q : Nat} {x0 : Int32} {x1 : Int32} {x2 : Int32} (h : AW (mX11_seal, d, mc, ms, none, Q) 0 [some (.ref q), some (.int x0), some (.int x1), some (.int x2), none, none] [] w 0 0) : CT mX11_seal d mc ms [.ref q, .int x0, .int x1, .int x2] w Q := CT_of (by decide +kernel) rfl (Nat.le_of_ble_eq_true rfl) h
def bX11_seal_0 (G : Nat × Nat × Nat × Option (Nat × (Nat → Int32)) × (Option Value → qW → Prop)) : qK := (s_aload 0 (s_iload 1 (s_iload 2 (s_iload 3 (AW (mX11_seal, G) 4)))))
theorem oX11_seal_0 (G : Nat × Nat × Nat × Option (Nat × (Nat → Int32)) × (Option Value → qW → Prop)) : qImp (bX11_seal_0 G) (AW (mX11_seal, G) 0) := (r_aload_n dX11_seal_0 rfl (r_iload_n dX11_seal_1 rfl (r_iload_n dX11_seal_2 rfl (r_iload_n dX11_seal_3 rfl qImp.rf))))
def bX11_seal_7 (G : Nat × Nat × Nat × Option (Nat × (Nat → Int32)) × (Option Value → qW → Prop)) : qK := (s_if_eq (AW (mX11_seal, G) 12) (s_iconst (-1) (s_ireturn (mX11_seal, G))))
theorem oX11_seal_7 (G : Nat × Nat × Nat × Option (Nat × (Nat → Int32)) × (Option Value → qW → Prop)) : qImp (bX11_seal_7 G) (AW (mX11_seal, G) 7) := (r_if_eq (tgt := 12) dX11_seal_7 rfl qImp.rf (r_iconst dX11_seal_10 rfl (r_ireturn dX11_seal_11 rfl)))
def bX11_seal_12 (G : Nat × Nat × Nat × Option (Nat × (Nat → Int32)) × (Option Value → qW → Prop)) : qK := (s_aload 0 (AW (mX11_seal, G) 13))
theorem oX11_seal_12 (G : Nat × Nat × Nat × Option (Nat × (Nat → Int32)) × (Option Value → qW → Prop)) : qImp (bX11_seal_12 G) (AW (mX11_seal, G) 12) := (r_aload_n dX11_seal_12 rfl qImp.rf)
def bX11_seal_16 (G : Nat × Nat × Nat × Option (Nat × (Nat → Int32)) × (Option Value → qW → Prop)) : qK := (s_istore 4 3 (s_aload 0 (s_iconst 4 (s_iload 4 (s_iload 1 (AW (mX11_seal, G) 23))))))
theorem oX11_seal_16 (G : Nat × Nat × Nat × Option (Nat × (Nat → Int32)) × (Option Value → qW → Prop)) : qImp (bX11_seal_16 G) (AW (mX11_seal, G) 16) := (r_istore dX11_seal_16 (Or.inr rfl) (Nat.le_of_ble_eq_true rfl) (r_aload_n dX11_seal_18 rfl (r_iconst dX11_seal_19 rfl (r_iload dX11_seal_20 (r_iload_n dX11_seal_22 rfl qImp.rf)))))
def bX11_seal_26 (G : Nat × Nat × Nat × Option (Nat × (Nat → Int32)) × (Option Value → qW → Prop)) : qK := (s_istore 5 4 (s_aload 0 (s_getfield 11 10 (s_iload 5 (s_iload 2 (s_iastore (s_aload 0 (s_getfield 11 16 (s_iload 5 (s_iload 3 (s_iastore (s_aload 0 (s_getfield 11 17 (s_iload 5 (s_aload 0 (s_getfield 11 2 (s_iconst 1 (s_isub (s_iastore (s_aload 0 (s_getfield 11 20 (s_iload 3 (s_dup2 (s_iaload (mX11_seal, G) (s_iconst 1 (s_isub (s_iastore (s_aload 0 (s_getfield 11 18 (s_aload 0 (s_getfield 11 5 (s_iload 5 (s_iastore (s_aload 0 (s_dup (s_getfield 11 5 (s_iconst 1 (s_iadd (s_putI 11 5 (s_aload 0 (s_getfield 11 5 (s_iconst 1 (s_isub (s_ireturn (mX11_seal, G)))))))))))))))))))))))))))))))))))))))))))))
theorem oX11_seal_26 (G : Nat × Nat × Nat × Option (Nat × (Nat → Int32)) × (Option Value → qW → Prop)) : qImp (bX11_seal_26 G) (AW (mX11_seal, G) 26) := (r_istore dX11_seal_26 (Or.inr rfl) (Nat.le_of_ble_eq_true rfl) (r_aload_n dX11_seal_28 rfl (r_getfield dX11_seal_29 fgX11_23 (r_iload dX11_seal_32 (r_iload_n dX11_seal_34 rfl (r_iastore dX11_seal_35 (r_aload_n dX11_seal_36 rfl (r_getfield dX11_seal_37 fgX11_41 (r_iload dX11_seal_40 (r_iload_n dX11_seal_42 rfl (r_iastore dX11_seal_43 (r_aload_n dX11_seal_44 rfl (r_getfield dX11_seal_45 fgX11_44 (r_iload dX11_seal_48 (r_aload_n dX11_seal_50 rfl (r_getfield dX11_seal_51 fgX11_203 (r_iconst dX11_seal_54 rfl (r_isub dX11_seal_55 (r_iastore dX11_seal_56 (r_aload_n dX11_seal_57 rfl (r_getfield dX11_seal_58 fgX11_53 (r_iload_n dX11_seal_61 rfl (r_dup2 dX11_seal_62 (r_iaload dX11_seal_63 (r_iconst dX11_seal_64 rfl (r_isub dX11_seal_65 (r_iastore dX11_seal_66 (r_aload_n dX11_seal_67 rfl (r_getfield dX11_seal_68 fgX11_47 (r_aload_n dX11_seal_71 rfl (r_getfield dX11_seal_72 fgX11_242 (r_iload dX11_seal_75 (r_iastore dX11_seal_77 (r_aload_n dX11_seal_78 rfl (r_dup dX11_seal_79 (r_getfield dX11_seal_80 fgX11_242 (r_iconst dX11_seal_83 rfl (r_iadd dX11_seal_84 (r_putI dX11_seal_85 fpX11_242 (fun q hq => by cases hq; rfl) (r_aload_n dX11_seal_88 rfl (r_getfield dX11_seal_89 fgX11_242 (r_iconst dX11_seal_92 rfl (r_isub dX11_seal_93 (r_ireturn dX11_seal_94 rfl))))))))))))))))))))))))))))))))))))))))))))
theorem kX11_seal_4 {G : Nat × Nat × Nat × Option (Nat × (Nat → Int32)) × (Option Value → qW → Prop)} {L : qL} {w : qW} {kc ks : Nat} {rest : List Value} {q : Nat} {x0 : Int32} {x1 : Int32} {x2 : Int32} {d mc ms : Nat} {Q : Option Value → qW → Prop} (hC : CT mX11_why d mc ms [.ref q, .int x0, .int x1, .int x2] w Q) (hq : qci w q = some 11) (hst : rest.length ≤ 4) (hdp : d + 1 ≤ G.1) (hmc : kc + mc ≤ G.2.1 ∧ ks + ms ≤ G.2.2.1) (k : ∀ r w', Q r w' → AW (mX11_seal, G) 7 L (r.toList ++ rest) w' (kc + mc) (ks + ms)) : AW (mX11_seal, G) 4 L (.int x2 :: .int x1 :: .int x0 :: .ref q :: rest) w kc ks := a_callV [.int x0, .int x1, .int x2] rest dX11_seal_4 vX11_why lk1189 hC hq rfl rfl hst hdp hmc k
theorem kX11_seal_13 {G : Nat × Nat × Nat × Option (Nat × (Nat → Int32)) × (Option Value → qW → Prop)} {L : qL} {w : qW} {kc ks : Nat} {rest : List Value} {q : Nat}  {d mc ms : Nat} {Q : Option Value → qW → Prop} (hC : CT mX11_skip d mc ms [.ref q] w Q) (hq : qci w q = some 11) (hst : rest.length ≤ 4) (hdp : d + 1 ≤ G.1) (hmc : kc + mc ≤ G.2.1 ∧ ks + ms ≤ G.2.2.1) (k : ∀ r w', Q r w' → AW (mX11_seal, G) 16 L (r.toList ++ rest) w' (kc + mc) (ks + ms)) : AW (mX11_seal, G) 13 L (.ref q :: rest) w kc ks := a_callV [] rest dX11_seal_13 vX11_skip lk1190 hC hq rfl rfl hst hdp hmc k
theorem kX11_seal_23 {G : Nat × Nat × Nat × Option (Nat × (Nat → Int32)) × (Option Value → qW → Prop)} {L : qL} {w : qW} {kc ks : Nat} {rest : List Value} {q : Nat} {x0 : Int32} {x1 : Int32} {x2 : Int32} {d mc ms : Nat} {Q : Option Value → qW → Prop} (hC : CT mX11_addNote d mc ms [.ref q, .int x0, .int x1, .int x2] w Q) (hq : qci w q = some 11) (hst : rest.length ≤ 4) (hdp : d + 1 ≤ G.1) (hmc : kc + mc ≤ G.2.1 ∧ ks + ms ≤ G.2.2.1) (k : ∀ r w', Q r w' → AW (mX11_seal, G) 26 L (r.toList ++ rest) w' (kc + mc) (ks + ms)) : AW (mX11_seal, G) 23 L (.int x2 :: .int x1 :: .int x0 :: .ref q :: rest) w kc ks := a_callV [.int x0, .int x1, .int x2] rest dX11_seal_23 vX11_addNote lk1038 hC hq rfl rfl hst hdp hmc k
theorem dX11_stands_0 : decode cX11_stands 0 = .ok (.aload_n 0, 1) := by decide +kernel
theorem dX11_stands_1 : decode cX11_stands 1 = .ok (.getfield 47, 3) := by decide +kernel
theorem dX11_stands_4 : decode cX11_stands 4 = .ok (.iload_n 1, 1) := by decide +kernel
theorem dX11_stands_5 : decode cX11_stands 5 = .ok (.iaload, 1) := by decide +kernel
theorem dX11_stands_6 : decode cX11_stands 6 = .ok (.istore_n 2, 1) := by decide +kernel
theorem dX11_stands_7 : decode cX11_stands 7 = .ok (.aload_n 0, 1) := by decide +kernel
theorem dX11_stands_8 : decode cX11_stands 8 = .ok (.getfield 60, 3) := by decide +kernel
theorem dX11_stands_11 : decode cX11_stands 11 = .ok (.aload_n 0, 1) := by decide +kernel
theorem dX11_stands_12 : decode cX11_stands 12 = .ok (.getfield 41, 3) := by decide +kernel
theorem dX11_stands_15 : decode cX11_stands 15 = .ok (.iload_n 2, 1) := by decide +kernel
theorem dX11_stands_16 : decode cX11_stands 16 = .ok (.iaload, 1) := by decide +kernel
theorem dX11_stands_17 : decode cX11_stands 17 = .ok (.iaload, 1) := by decide +kernel
theorem dX11_stands_18 : decode cX11_stands 18 = .ok (.istore_n 3, 1) := by decide +kernel
theorem dX11_stands_19 : decode cX11_stands 19 = .ok (.iload_n 3, 1) := by decide +kernel
theorem dX11_stands_20 : decode cX11_stands 20 = .ok (.iconst (-1), 1) := by decide +kernel
theorem dX11_stands_21 : decode cX11_stands 21 = .ok (.if_icmp .eq 8, 3) := by decide +kernel
theorem dX11_stands_24 : decode cX11_stands 24 = .ok (.iload_n 2, 1) := by decide +kernel
theorem dX11_stands_25 : decode cX11_stands 25 = .ok (.iload_n 3, 1) := by decide +kernel
theorem dX11_stands_26 : decode cX11_stands 26 = .ok (.if_icmp .ge 20, 3) := by decide +kernel
theorem dX11_stands_29 : decode cX11_stands 29 = .ok (.aload_n 0, 1) := by decide +kernel
theorem dX11_stands_30 : decode cX11_stands 30 = .ok (.aload_n 0, 1) := by decide +kernel
theorem dX11_stands_31 : decode cX11_stands 31 = .ok (.getfield 17, 3) := by decide +kernel
theorem dX11_stands_34 : decode cX11_stands 34 = .ok (.iload_n 2, 1) := by decide +kernel
theorem dX11_stands_35 : decode cX11_stands 35 = .ok (.iaload, 1) := by decide +kernel
theorem dX11_stands_36 : decode cX11_stands 36 = .ok (.invokevirtual 233, 3) := by decide +kernel
theorem dX11_stands_39 : decode cX11_stands 39 = .ok (.ifCond .ne 7, 3) := by decide +kernel
theorem dX11_stands_42 : decode cX11_stands 42 = .ok (.iconst 1, 1) := by decide +kernel
theorem dX11_stands_43 : decode cX11_stands 43 = .ok (.goto 4, 3) := by decide +kernel
theorem dX11_stands_46 : decode cX11_stands 46 = .ok (.iconst 0, 1) := by decide +kernel
theorem dX11_stands_47 : decode cX11_stands 47 = .ok (.ireturn, 1) := by decide +kernel
/-! SealLineModel.stands(I)Z -/
theorem eX11_stands {d mc ms : Nat} {w : qW} {Q : Option Value → qW → Prop} {q : Nat} {x0 : Int32} (h : AW (mX11_stands, d, mc, ms, none, Q) 0 [some (.ref q), some (.int x0), none, none] [] w 0 0) : CT mX11_stands d mc ms [.ref q, .int x0] w Q := CT_of (by decide +kernel) rfl (Nat.le_of_ble_eq_true rfl) h
def bX11_stands_0 (G : Nat × Nat × Nat × Option (Nat × (Nat → Int32)) × (Option Value → qW → Prop)) : qK := (s_aload 0 (s_getfield 11 18 (s_iload 1 (s_iaload (mX11_stands, G) (s_istore 2 1 (s_aload 0 (s_getfield 11 22 (s_aload 0 (s_getfield 11 16 (s_iload 2 (s_iaload (mX11_stands, G) (s_iaload (mX11_stands, G) (s_istore 3 2 (s_iload 3 (s_iconst (-1) (s_ic_eq (AW (mX11_stands, G) 29) (s_iload 2 (s_iload 3 (s_ic_ge (AW (mX11_stands, G) 46) (AW (mX11_stands, G) 29))))))))))))))))))))
theorem oX11_stands_0 (G : Nat × Nat × Nat × Option (Nat × (Nat → Int32)) × (Option Value → qW → Prop)) : qImp (bX11_stands_0 G) (AW (mX11_stands, G) 0) := (r_aload_n dX11_stands_0 rfl (r_getfield dX11_stands_1 fgX11_47 (r_iload_n dX11_stands_4 rfl (r_iaload dX11_stands_5 (r_istore_n dX11_stands_6 rfl (Or.inr rfl) (Nat.le_of_ble_eq_true rfl) (r_aload_n dX11_stands_7 rfl (r_getfield dX11_stands_8 fgX11_60 (r_aload_n dX11_stands_11 rfl (r_getfield dX11_stands_12 fgX11_41 (r_iload_n dX11_stands_15 rfl (r_iaload dX11_stands_16 (r_iaload dX11_stands_17 (r_istore_n dX11_stands_18 rfl (Or.inr rfl) (Nat.le_of_ble_eq_true rfl) (r_iload_n dX11_stands_19 rfl (r_iconst dX11_stands_20 rfl (r_ic_eq (tgt := 29) dX11_stands_21 rfl qImp.rf (r_iload_n dX11_stands_24 rfl (r_iload_n dX11_stands_25 rfl (r_ic_ge (tgt := 46) dX11_stands_26 rfl qImp.rf qImp.rf)))))))))))))))))))
def bX11_stands_29 (G : Nat × Nat × Nat × Option (Nat × (Nat → Int32)) × (Option Value → qW → Prop)) : qK := (s_aload 0 (s_aload 0 (s_getfield 11 8 (s_iload 2 (s_iaload (mX11_stands, G) (AW (mX11_stands, G) 36))))))
theorem oX11_stands_29 (G : Nat × Nat × Nat × Option (Nat × (Nat → Int32)) × (Option Value → qW → Prop)) : qImp (bX11_stands_29 G) (AW (mX11_stands, G) 29) := (r_aload_n dX11_stands_29 rfl (r_aload_n dX11_stands_30 rfl (r_getfield dX11_stands_31 fgX11_17 (r_iload_n dX11_stands_34 rfl (r_iaload dX11_stands_35 qImp.rf)))))
def bX11_stands_39 (G : Nat × Nat × Nat × Option (Nat × (Nat → Int32)) × (Option Value → qW → Prop)) : qK := (s_if_ne (AW (mX11_stands, G) 46) (s_iconst 1 (AW (mX11_stands, G) 47)))
theorem oX11_stands_39 (G : Nat × Nat × Nat × Option (Nat × (Nat → Int32)) × (Option Value → qW → Prop)) : qImp (bX11_stands_39 G) (AW (mX11_stands, G) 39) := (r_if_ne (tgt := 46) dX11_stands_39 rfl qImp.rf (r_iconst dX11_stands_42 rfl (r_goto (tgt := 47) dX11_stands_43 rfl qImp.rf)))
def bX11_stands_46 (G : Nat × Nat × Nat × Option (Nat × (Nat → Int32)) × (Option Value → qW → Prop)) : qK := (s_iconst 0 (AW (mX11_stands, G) 47))
theorem oX11_stands_46 (G : Nat × Nat × Nat × Option (Nat × (Nat → Int32)) × (Option Value → qW → Prop)) : qImp (bX11_stands_46 G) (AW (mX11_stands, G) 46) := (r_iconst dX11_stands_46 rfl qImp.rf)
def bX11_stands_47 (G : Nat × Nat × Nat × Option (Nat × (Nat → Int32)) × (Option Value → qW → Prop)) : qK := (s_zreturn (mX11_stands, G))
theorem oX11_stands_47 (G : Nat × Nat × Nat × Option (Nat × (Nat → Int32)) × (Option Value → qW → Prop)) : qImp (bX11_stands_47 G) (AW (mX11_stands, G) 47) := (r_zreturn dX11_stands_47 rfl)
theorem kX11_stands_36 {G : Nat × Nat × Nat × Option (Nat × (Nat → Int32)) × (Option Value → qW → Prop)} {L : qL} {w : qW} {kc ks : Nat} {rest : List Value} {q : Nat} {x0 : Int32} {d mc ms : Nat} {Q : Option Value → qW → Prop} (hC : CT mX11_isCalled d mc ms [.ref q, .int x0] w Q) (hq : qci w q = some 11) (hst : rest.length ≤ 4) (hdp : d + 1 ≤ G.1) (hmc : kc + mc ≤ G.2.1 ∧ ks + ms ≤ G.2.2.1) (k : ∀ r w', Q r w' → AW (mX11_stands, G) 39 L (r.toList ++ rest) w' (kc + mc) (ks + ms)) : AW (mX11_stands, G) 36 L (.int x0 :: .ref q :: rest) w kc ks := a_callV [.int x0] rest dX11_stands_36 vX11_isCalled lk1177 hC hq rfl rfl hst hdp hmc k
theorem dX11_uses_0 : decode cX11_uses 0 = .ok (.iload_n 1, 1) := by decide +kernel
theorem dX11_uses_1 : decode cX11_uses 1 = .ok (.invokestatic 218, 3) := by decide +kernel
theorem dX11_uses_4 : decode cX11_uses 4 = .ok (.ifCond .eq 46, 3) := by decide +kernel
theorem dX11_uses_7 : decode cX11_uses 7 = .ok (.iload_n 2, 1) := by decide +kernel
theorem dX11_uses_8 : decode cX11_uses 8 = .ok (.iconst 1, 1) := by decide +kernel
theorem dX11_uses_9 : decode cX11_uses 9 = .ok (.sipush 1000, 3) := by decide +kernel
theorem dX11_uses_12 : decode cX11_uses 12 = .ok (.invokestatic 100, 3) := by decide +kernel
theorem dX11_uses_15 : decode cX11_uses 15 = .ok (.ifCond .eq 35, 3) := by decide +kernel
theorem dX11_uses_18 : decode cX11_uses 18 = .ok (.aload_n 0, 1) := by decide +kernel
theorem dX11_uses_19 : decode cX11_uses 19 = .ok (.getfield 56, 3) := by decide +kernel
theorem dX11_uses_22 : decode cX11_uses 22 = .ok (.iload_n 1, 1) := by decide +kernel
theorem dX11_uses_23 : decode cX11_uses 23 = .ok (.baload, 1) := by decide +kernel
theorem dX11_uses_24 : decode cX11_uses 24 = .ok (.ifCond .ne 26, 3) := by decide +kernel
theorem dX11_uses_27 : decode cX11_uses 27 = .ok (.aload_n 0, 1) := by decide +kernel
theorem dX11_uses_28 : decode cX11_uses 28 = .ok (.getfield 60, 3) := by decide +kernel
theorem dX11_uses_31 : decode cX11_uses 31 = .ok (.iload_n 1, 1) := by decide +kernel
theorem dX11_uses_32 : decode cX11_uses 32 = .ok (.iaload, 1) := by decide +kernel
theorem dX11_uses_33 : decode cX11_uses 33 = .ok (.iconst (-1), 1) := by decide +kernel
theorem dX11_uses_34 : decode cX11_uses 34 = .ok (.if_icmp .ne 16, 3) := by decide +kernel
theorem dX11_uses_37 : decode cX11_uses 37 = .ok (.aload_n 0, 1) := by decide +kernel
theorem dX11_uses_38 : decode cX11_uses 38 = .ok (.getfield 53, 3) := by decide +kernel
theorem dX11_uses_41 : decode cX11_uses 41 = .ok (.iload_n 1, 1) := by decide +kernel
theorem dX11_uses_42 : decode cX11_uses 42 = .ok (.iaload, 1) := by decide +kernel
theorem dX11_uses_43 : decode cX11_uses 43 = .ok (.iload_n 2, 1) := by decide +kernel
theorem dX11_uses_44 : decode cX11_uses 44 = .ok (.iadd, 1) := by decide +kernel
theorem dX11_uses_45 : decode cX11_uses 45 = .ok (.ldc 245, 2) := by decide +kernel
theorem dX11_uses_47 : decode cX11_uses 47 = .ok (.if_icmp .le 5, 3) := by decide +kernel
theorem dX11_uses_50 : decode cX11_uses 50 = .ok (.iconst (-1), 1) := by decide +kernel
theorem dX11_uses_51 : decode cX11_uses 51 = .ok (.ireturn, 1) := by decide +kernel
theorem dX11_uses_52 : decode cX11_uses 52 = .ok (.aload_n 0, 1) := by decide +kernel
theorem dX11_uses_53 : decode cX11_uses 53 = .ok (.getfield 53, 3) := by decide +kernel
theorem dX11_uses_56 : decode cX11_uses 56 = .ok (.iload_n 1, 1) := by decide +kernel
theorem dX11_uses_57 : decode cX11_uses 57 = .ok (.dup2, 1) := by decide +kernel
theorem dX11_uses_58 : decode cX11_uses 58 = .ok (.iaload, 1) := by decide +kernel
theorem dX11_uses_59 : decode cX11_uses 59 = .ok (.iload_n 2, 1) := by decide +kernel
theorem dX11_uses_60 : decode cX11_uses 60 = .ok (.iadd, 1) := by decide +kernel
theorem dX11_uses_61 : decode cX11_uses 61 = .ok (.iastore, 1) := by decide +kernel
theorem dX11_uses_62 : decode cX11_uses 62 = .ok (.aload_n 0, 1) := by decide +kernel
theorem dX11_uses_63 : decode cX11_uses 63 = .ok (.getfield 53, 3) := by decide +kernel
theorem dX11_uses_66 : decode cX11_uses 66 = .ok (.iload_n 1, 1) := by decide +kernel
theorem dX11_uses_67 : decode cX11_uses 67 = .ok (.iaload, 1) := by decide +kernel
theorem dX11_uses_68 : decode cX11_uses 68 = .ok (.ireturn, 1) := by decide +kernel
/-! SealLineModel.uses(II)I -/
theorem eX11_uses {d mc ms : Nat} {w : qW} {Q : Option Value → qW → Prop} {q : Nat} {x0 : Int32} {x1 : Int32} (h : AW (mX11_uses, d, mc, ms, none, Q) 0 [some (.ref q), some (.int x0), some (.int x1)] [] w 0 0) : CT mX11_uses d mc ms [.ref q, .int x0, .int x1] w Q := CT_of (by decide +kernel) rfl (Nat.le_of_ble_eq_true rfl) h
def bX11_uses_0 (G : Nat × Nat × Nat × Option (Nat × (Nat → Int32)) × (Option Value → qW → Prop)) : qK := (s_iload 1 (AW (mX11_uses, G) 1))
theorem oX11_uses_0 (G : Nat × Nat × Nat × Option (Nat × (Nat → Int32)) × (Option Value → qW → Prop)) : qImp (bX11_uses_0 G) (AW (mX11_uses, G) 0) := (r_iload_n dX11_uses_0 rfl qImp.rf)
def bX11_uses_4 (G : Nat × Nat × Nat × Option (Nat × (Nat → Int32)) × (Option Value → qW → Prop)) : qK := (s_if_eq (AW (mX11_uses, G) 50) (s_iload 2 (s_iconst 1 (s_iconst 1000 (AW (mX11_uses, G) 12)))))
theorem oX11_uses_4 (G : Nat × Nat × Nat × Option (Nat × (Nat → Int32)) × (Option Value → qW → Prop)) : qImp (bX11_uses_4 G) (AW (mX11_uses, G) 4) := (r_if_eq (tgt := 50) dX11_uses_4 rfl qImp.rf (r_iload_n dX11_uses_7 rfl (r_iconst dX11_uses_8 rfl (r_sipush dX11_uses_9 rfl qImp.rf))))
def bX11_uses_15 (G : Nat × Nat × Nat × Option (Nat × (Nat → Int32)) × (Option Value → qW → Prop)) : qK := (s_if_eq (AW (mX11_uses, G) 50) (s_aload 0 (s_getfield 11 21 (s_iload 1 (s_baload (s_if_ne (AW (mX11_uses, G) 50) (s_aload 0 (s_getfield 11 22 (s_iload 1 (s_iaload (mX11_uses, G) (s_iconst (-1) (s_ic_ne (AW (mX11_uses, G) 50) (s_aload 0 (s_getfield 11 20 (s_iload 1 (s_iaload (mX11_uses, G) (s_iload 2 (s_iadd (s_iconst 1000000 (s_ic_le (AW (mX11_uses, G) 52) (AW (mX11_uses, G) 50)))))))))))))))))))))
theorem oX11_uses_15 (G : Nat × Nat × Nat × Option (Nat × (Nat → Int32)) × (Option Value → qW → Prop)) : qImp (bX11_uses_15 G) (AW (mX11_uses, G) 15) := (r_if_eq (tgt := 50) dX11_uses_15 rfl qImp.rf (r_aload_n dX11_uses_18 rfl (r_getfield dX11_uses_19 fgX11_56 (r_iload_n dX11_uses_22 rfl (r_baload dX11_uses_23 (r_if_ne (tgt := 50) dX11_uses_24 rfl qImp.rf (r_aload_n dX11_uses_27 rfl (r_getfield dX11_uses_28 fgX11_60 (r_iload_n dX11_uses_31 rfl (r_iaload dX11_uses_32 (r_iconst dX11_uses_33 rfl (r_ic_ne (tgt := 50) dX11_uses_34 rfl qImp.rf (r_aload_n dX11_uses_37 rfl (r_getfield dX11_uses_38 fgX11_53 (r_iload_n dX11_uses_41 rfl (r_iaload dX11_uses_42 (r_iload_n dX11_uses_43 rfl (r_iadd dX11_uses_44 (r_ldc dX11_uses_45 lk1195 (r_ic_le (tgt := 52) dX11_uses_47 rfl qImp.rf qImp.rf))))))))))))))))))))
def bX11_uses_50 (G : Nat × Nat × Nat × Option (Nat × (Nat → Int32)) × (Option Value → qW → Prop)) : qK := (s_iconst (-1) (s_ireturn (mX11_uses, G)))
theorem oX11_uses_50 (G : Nat × Nat × Nat × Option (Nat × (Nat → Int32)) × (Option Value → qW → Prop)) : qImp (bX11_uses_50 G) (AW (mX11_uses, G) 50) := (r_iconst dX11_uses_50 rfl (r_ireturn dX11_uses_51 rfl))
def bX11_uses_52 (G : Nat × Nat × Nat × Option (Nat × (Nat → Int32)) × (Option Value → qW → Prop)) : qK := (s_aload 0 (s_getfield 11 20 (s_iload 1 (s_dup2 (s_iaload (mX11_uses, G) (s_iload 2 (s_iadd (s_iastore (s_aload 0 (s_getfield 11 20 (s_iload 1 (s_iaload (mX11_uses, G) (s_ireturn (mX11_uses, G))))))))))))))
theorem oX11_uses_52 (G : Nat × Nat × Nat × Option (Nat × (Nat → Int32)) × (Option Value → qW → Prop)) : qImp (bX11_uses_52 G) (AW (mX11_uses, G) 52) := (r_aload_n dX11_uses_52 rfl (r_getfield dX11_uses_53 fgX11_53 (r_iload_n dX11_uses_56 rfl (r_dup2 dX11_uses_57 (r_iaload dX11_uses_58 (r_iload_n dX11_uses_59 rfl (r_iadd dX11_uses_60 (r_iastore dX11_uses_61 (r_aload_n dX11_uses_62 rfl (r_getfield dX11_uses_63 fgX11_53 (r_iload_n dX11_uses_66 rfl (r_iaload dX11_uses_67 (r_ireturn dX11_uses_68 rfl)))))))))))))
theorem kX11_uses_1 {G : Nat × Nat × Nat × Option (Nat × (Nat → Int32)) × (Option Value → qW → Prop)} {L : qL} {w : qW} {kc ks : Nat} {rest : List Value}  {x0 : Int32} {d mc ms : Nat} {Q : Option Value → qW → Prop} (hC : CT mX11_isKey d mc ms [.int x0] w Q) (hst : rest.length ≤ 4) (hdp : d + 1 ≤ G.1) (hmc : kc + mc ≤ G.2.1 ∧ ks + ms ≤ G.2.2.1) (k : ∀ r w', Q r w' → AW (mX11_uses, G) 4 L (r.toList ++ rest) w' (kc + mc) (ks + ms)) : AW (mX11_uses, G) 1 L (.int x0 :: rest) w kc ks := a_callS [.int x0] rest dX11_uses_1 tX11_isKey lk1149 hC rfl hst hdp hmc k
theorem kX11_uses_12 {G : Nat × Nat × Nat × Option (Nat × (Nat → Int32)) × (Option Value → qW → Prop)} {L : qL} {w : qW} {kc ks : Nat} {rest : List Value}  {x0 : Int32} {x1 : Int32} {x2 : Int32} {d mc ms : Nat} {Q : Option Value → qW → Prop} (hC : CT mX11_in d mc ms [.int x0, .int x1, .int x2] w Q) (hst : rest.length ≤ 4) (hdp : d + 1 ≤ G.1) (hmc : kc + mc ≤ G.2.1 ∧ ks + ms ≤ G.2.2.1) (k : ∀ r w', Q r w' → AW (mX11_uses, G) 15 L (r.toList ++ rest) w' (kc + mc) (ks + ms)) : AW (mX11_uses, G) 12 L (.int x2 :: .int x1 :: .int x0 :: rest) w kc ks := a_callS [.int x0, .int x1, .int x2] rest dX11_uses_12 tX11_in lk1030 hC rfl hst hdp hmc k
theorem dX11_finish_0 : decode cX11_finish 0 = .ok (.iload_n 1, 1) := by decide +kernel
theorem dX11_finish_1 : decode cX11_finish 1 = .ok (.invokestatic 218, 3) := by decide +kernel
theorem dX11_finish_4 : decode cX11_finish 4 = .ok (.ifCond .eq 22, 3) := by decide +kernel
theorem dX11_finish_7 : decode cX11_finish 7 = .ok (.aload_n 0, 1) := by decide +kernel
theorem dX11_finish_8 : decode cX11_finish 8 = .ok (.getfield 56, 3) := by decide +kernel
theorem dX11_finish_11 : decode cX11_finish 11 = .ok (.iload_n 1, 1) := by decide +kernel
theorem dX11_finish_12 : decode cX11_finish 12 = .ok (.baload, 1) := by decide +kernel
theorem dX11_finish_13 : decode cX11_finish 13 = .ok (.ifCond .ne 13, 3) := by decide +kernel
theorem dX11_finish_16 : decode cX11_finish 16 = .ok (.aload_n 0, 1) := by decide +kernel
theorem dX11_finish_17 : decode cX11_finish 17 = .ok (.getfield 60, 3) := by decide +kernel
theorem dX11_finish_20 : decode cX11_finish 20 = .ok (.iload_n 1, 1) := by decide +kernel
theorem dX11_finish_21 : decode cX11_finish 21 = .ok (.iaload, 1) := by decide +kernel
theorem dX11_finish_22 : decode cX11_finish 22 = .ok (.iconst (-1), 1) := by decide +kernel
theorem dX11_finish_23 : decode cX11_finish 23 = .ok (.if_icmp .eq 5, 3) := by decide +kernel
theorem dX11_finish_26 : decode cX11_finish 26 = .ok (.iconst 0, 1) := by decide +kernel
theorem dX11_finish_27 : decode cX11_finish 27 = .ok (.ireturn, 1) := by decide +kernel
theorem dX11_finish_28 : decode cX11_finish 28 = .ok (.aload_n 0, 1) := by decide +kernel
theorem dX11_finish_29 : decode cX11_finish 29 = .ok (.getfield 56, 3) := by decide +kernel
theorem dX11_finish_32 : decode cX11_finish 32 = .ok (.iload_n 1, 1) := by decide +kernel
theorem dX11_finish_33 : decode cX11_finish 33 = .ok (.iconst 1, 1) := by decide +kernel
theorem dX11_finish_34 : decode cX11_finish 34 = .ok (.bastore, 1) := by decide +kernel
theorem dX11_finish_35 : decode cX11_finish 35 = .ok (.iconst 1, 1) := by decide +kernel
theorem dX11_finish_36 : decode cX11_finish 36 = .ok (.ireturn, 1) := by decide +kernel
/-! SealLineModel.finish(I)Z -/
theorem eX11_finish {d mc ms : Nat} {w : qW} {Q : Option Value → qW → Prop} {q : Nat} {x0 : Int32} (h : AW (mX11_finish, d, mc, ms, none, Q) 0 [some (.ref q), some (.int x0)] [] w 0 0) : CT mX11_finish d mc ms [.ref q, .int x0] w Q := CT_of (by decide +kernel) rfl (Nat.le_of_ble_eq_true rfl) h
def bX11_finish_0 (G : Nat × Nat × Nat × Option (Nat × (Nat → Int32)) × (Option Value → qW → Prop)) : qK := (s_iload 1 (AW (mX11_finish, G) 1))
theorem oX11_finish_0 (G : Nat × Nat × Nat × Option (Nat × (Nat → Int32)) × (Option Value → qW → Prop)) : qImp (bX11_finish_0 G) (AW (mX11_finish, G) 0) := (r_iload_n dX11_finish_0 rfl qImp.rf)
def bX11_finish_4 (G : Nat × Nat × Nat × Option (Nat × (Nat → Int32)) × (Option Value → qW → Prop)) : qK := (s_if_eq (AW (mX11_finish, G) 26) (s_aload 0 (s_getfield 11 21 (s_iload 1 (s_baload (s_if_ne (AW (mX11_finish, G) 26) (s_aload 0 (s_getfield 11 22 (s_iload 1 (s_iaload (mX11_finish, G) (s_iconst (-1) (s_ic_eq (AW (mX11_finish, G) 28) (AW (mX11_finish, G) 26)))))))))))))
theorem oX11_finish_4 (G : Nat × Nat × Nat × Option (Nat × (Nat → Int32)) × (Option Value → qW → Prop)) : qImp (bX11_finish_4 G) (AW (mX11_finish, G) 4) := (r_if_eq (tgt := 26) dX11_finish_4 rfl qImp.rf (r_aload_n dX11_finish_7 rfl (r_getfield dX11_finish_8 fgX11_56 (r_iload_n dX11_finish_11 rfl (r_baload dX11_finish_12 (r_if_ne (tgt := 26) dX11_finish_13 rfl qImp.rf (r_aload_n dX11_finish_16 rfl (r_getfield dX11_finish_17 fgX11_60 (r_iload_n dX11_finish_20 rfl (r_iaload dX11_finish_21 (r_iconst dX11_finish_22 rfl (r_ic_eq (tgt := 28) dX11_finish_23 rfl qImp.rf qImp.rf))))))))))))
def bX11_finish_26 (G : Nat × Nat × Nat × Option (Nat × (Nat → Int32)) × (Option Value → qW → Prop)) : qK := (s_iconst 0 (s_zreturn (mX11_finish, G)))
theorem oX11_finish_26 (G : Nat × Nat × Nat × Option (Nat × (Nat → Int32)) × (Option Value → qW → Prop)) : qImp (bX11_finish_26 G) (AW (mX11_finish, G) 26) := (r_iconst dX11_finish_26 rfl (r_zreturn dX11_finish_27 rfl))
def bX11_finish_28 (G : Nat × Nat × Nat × Option (Nat × (Nat → Int32)) × (Option Value → qW → Prop)) : qK := (s_aload 0 (s_getfield 11 21 (s_iload 1 (s_iconst 1 (s_bastore (s_iconst 1 (s_zreturn (mX11_finish, G))))))))
theorem oX11_finish_28 (G : Nat × Nat × Nat × Option (Nat × (Nat → Int32)) × (Option Value → qW → Prop)) : qImp (bX11_finish_28 G) (AW (mX11_finish, G) 28) := (r_aload_n dX11_finish_28 rfl (r_getfield dX11_finish_29 fgX11_56 (r_iload_n dX11_finish_32 rfl (r_iconst dX11_finish_33 rfl (r_bastore dX11_finish_34 (r_iconst dX11_finish_35 rfl (r_zreturn dX11_finish_36 rfl)))))))
theorem kX11_finish_1 {G : Nat × Nat × Nat × Option (Nat × (Nat → Int32)) × (Option Value → qW → Prop)} {L : qL} {w : qW} {kc ks : Nat} {rest : List Value}  {x0 : Int32} {d mc ms : Nat} {Q : Option Value → qW → Prop} (hC : CT mX11_isKey d mc ms [.int x0] w Q) (hst : rest.length ≤ 4) (hdp : d + 1 ≤ G.1) (hmc : kc + mc ≤ G.2.1 ∧ ks + ms ≤ G.2.2.1) (k : ∀ r w', Q r w' → AW (mX11_finish, G) 4 L (r.toList ++ rest) w' (kc + mc) (ks + ms)) : AW (mX11_finish, G) 1 L (.int x0 :: rest) w kc ks := a_callS [.int x0] rest dX11_finish_1 tX11_isKey lk1149 hC rfl hst hdp hmc k
