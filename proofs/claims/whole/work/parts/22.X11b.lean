theorem dX11_build_0 : decode cX11_build 0 = .ok (.iload_n 1, 1) := by decide +kernel
theorem dX11_build_1 : decode cX11_build 1 = .ok (.invokestatic 111, 3) := by decide +kernel
theorem dX11_build_4 : decode cX11_build 4 = .ok (.ifCond .eq 34, 3) := by decide +kernel
theorem dX11_build_7 : decode cX11_build 7 = .ok (.iload_n 2, 1) := by decide +kernel
theorem dX11_build_8 : decode cX11_build 8 = .ok (.iconst 0, 1) := by decide +kernel
theorem dX11_build_9 : decode cX11_build 9 = .ok (.iconst 5, 1) := by decide +kernel
theorem dX11_build_10 : decode cX11_build 10 = .ok (.invokestatic 100, 3) := by decide +kernel
theorem dX11_build_13 : decode cX11_build 13 = .ok (.ifCond .eq 25, 3) := by decide +kernel
theorem dX11_build_16 : decode cX11_build 16 = .ok (.aload_n 0, 1) := by decide +kernel
theorem dX11_build_17 : decode cX11_build 17 = .ok (.iload_n 3, 1) := by decide +kernel
theorem dX11_build_18 : decode cX11_build 18 = .ok (.iload 4, 2) := by decide +kernel
theorem dX11_build_20 : decode cX11_build 20 = .ok (.iload 5, 2) := by decide +kernel
theorem dX11_build_22 : decode cX11_build 22 = .ok (.invokevirtual 137, 3) := by decide +kernel
theorem dX11_build_25 : decode cX11_build 25 = .ok (.ifCond .eq 13, 3) := by decide +kernel
theorem dX11_build_28 : decode cX11_build 28 = .ok (.aload_n 0, 1) := by decide +kernel
theorem dX11_build_29 : decode cX11_build 29 = .ok (.getfield 104, 3) := by decide +kernel
theorem dX11_build_32 : decode cX11_build 32 = .ok (.sipush 400, 3) := by decide +kernel
theorem dX11_build_35 : decode cX11_build 35 = .ok (.if_icmp .ne 5, 3) := by decide +kernel
theorem dX11_build_38 : decode cX11_build 38 = .ok (.iconst (-1), 1) := by decide +kernel
theorem dX11_build_39 : decode cX11_build 39 = .ok (.ireturn, 1) := by decide +kernel
theorem dX11_build_40 : decode cX11_build 40 = .ok (.aload_n 0, 1) := by decide +kernel
theorem dX11_build_41 : decode cX11_build 41 = .ok (.lload 6, 2) := by decide +kernel
theorem dX11_build_43 : decode cX11_build 43 = .ok (.invokevirtual 107, 3) := by decide +kernel
theorem dX11_build_46 : decode cX11_build 46 = .ok (.istore 8, 2) := by decide +kernel
theorem dX11_build_48 : decode cX11_build 48 = .ok (.iload 8, 2) := by decide +kernel
theorem dX11_build_50 : decode cX11_build 50 = .ok (.iconst (-1), 1) := by decide +kernel
theorem dX11_build_51 : decode cX11_build 51 = .ok (.if_icmp .ne 14, 3) := by decide +kernel
theorem dX11_build_54 : decode cX11_build 54 = .ok (.aload_n 0, 1) := by decide +kernel
theorem dX11_build_55 : decode cX11_build 55 = .ok (.getfield 96, 3) := by decide +kernel
theorem dX11_build_58 : decode cX11_build 58 = .ok (.bipush 100, 2) := by decide +kernel
theorem dX11_build_60 : decode cX11_build 60 = .ok (.if_icmp .ne 5, 3) := by decide +kernel
theorem dX11_build_63 : decode cX11_build 63 = .ok (.iconst (-1), 1) := by decide +kernel
theorem dX11_build_64 : decode cX11_build 64 = .ok (.ireturn, 1) := by decide +kernel
theorem dX11_build_65 : decode cX11_build 65 = .ok (.iload 8, 2) := by decide +kernel
theorem dX11_build_67 : decode cX11_build 67 = .ok (.iconst (-1), 1) := by decide +kernel
theorem dX11_build_68 : decode cX11_build 68 = .ok (.if_icmp .eq 44, 3) := by decide +kernel
theorem dX11_build_71 : decode cX11_build 71 = .ok (.aload_n 0, 1) := by decide +kernel
theorem dX11_build_72 : decode cX11_build 72 = .ok (.iload_n 3, 1) := by decide +kernel
theorem dX11_build_73 : decode cX11_build 73 = .ok (.invokevirtual 144, 3) := by decide +kernel
theorem dX11_build_76 : decode cX11_build 76 = .ok (.iload 4, 2) := by decide +kernel
theorem dX11_build_78 : decode cX11_build 78 = .ok (.iconst (-1), 1) := by decide +kernel
theorem dX11_build_79 : decode cX11_build 79 = .ok (.if_icmp .eq 9, 3) := by decide +kernel
theorem dX11_build_82 : decode cX11_build 82 = .ok (.aload_n 0, 1) := by decide +kernel
theorem dX11_build_83 : decode cX11_build 83 = .ok (.iload 4, 2) := by decide +kernel
theorem dX11_build_85 : decode cX11_build 85 = .ok (.invokevirtual 126, 3) := by decide +kernel
theorem dX11_build_88 : decode cX11_build 88 = .ok (.iload 5, 2) := by decide +kernel
theorem dX11_build_90 : decode cX11_build 90 = .ok (.iconst (-1), 1) := by decide +kernel
theorem dX11_build_91 : decode cX11_build 91 = .ok (.if_icmp .eq 9, 3) := by decide +kernel
theorem dX11_build_94 : decode cX11_build 94 = .ok (.aload_n 0, 1) := by decide +kernel
theorem dX11_build_95 : decode cX11_build 95 = .ok (.iload 5, 2) := by decide +kernel
theorem dX11_build_97 : decode cX11_build 97 = .ok (.invokevirtual 126, 3) := by decide +kernel
theorem dX11_build_100 : decode cX11_build 100 = .ok (.aload_n 0, 1) := by decide +kernel
theorem dX11_build_101 : decode cX11_build 101 = .ok (.getfield 72, 3) := by decide +kernel
theorem dX11_build_104 : decode cX11_build 104 = .ok (.iload 8, 2) := by decide +kernel
theorem dX11_build_106 : decode cX11_build 106 = .ok (.baload, 1) := by decide +kernel
theorem dX11_build_107 : decode cX11_build 107 = .ok (.ifCond .eq 5, 3) := by decide +kernel
theorem dX11_build_110 : decode cX11_build 110 = .ok (.iconst (-1), 1) := by decide +kernel
theorem dX11_build_111 : decode cX11_build 111 = .ok (.ireturn, 1) := by decide +kernel
theorem dX11_build_112 : decode cX11_build 112 = .ok (.aload_n 0, 1) := by decide +kernel
theorem dX11_build_113 : decode cX11_build 113 = .ok (.iload_n 2, 1) := by decide +kernel
theorem dX11_build_114 : decode cX11_build 114 = .ok (.iload_n 3, 1) := by decide +kernel
theorem dX11_build_115 : decode cX11_build 115 = .ok (.iload 4, 2) := by decide +kernel
theorem dX11_build_117 : decode cX11_build 117 = .ok (.iload 5, 2) := by decide +kernel
theorem dX11_build_119 : decode cX11_build 119 = .ok (.invokevirtual 140, 3) := by decide +kernel
theorem dX11_build_122 : decode cX11_build 122 = .ok (.lload 6, 2) := by decide +kernel
theorem dX11_build_124 : decode cX11_build 124 = .ok (.lcmp, 1) := by decide +kernel
theorem dX11_build_125 : decode cX11_build 125 = .ok (.ifCond .ne 7, 3) := by decide +kernel
theorem dX11_build_128 : decode cX11_build 128 = .ok (.iconst 1, 1) := by decide +kernel
theorem dX11_build_129 : decode cX11_build 129 = .ok (.goto 4, 3) := by decide +kernel
theorem dX11_build_132 : decode cX11_build 132 = .ok (.iconst 0, 1) := by decide +kernel
theorem dX11_build_133 : decode cX11_build 133 = .ok (.istore 9, 2) := by decide +kernel
theorem dX11_build_135 : decode cX11_build 135 = .ok (.aload_n 0, 1) := by decide +kernel
theorem dX11_build_136 : decode cX11_build 136 = .ok (.lload 6, 2) := by decide +kernel
theorem dX11_build_138 : decode cX11_build 138 = .ok (.invokevirtual 115, 3) := by decide +kernel
theorem dX11_build_141 : decode cX11_build 141 = .ok (.istore 10, 2) := by decide +kernel
theorem dX11_build_143 : decode cX11_build 143 = .ok (.aload_n 0, 1) := by decide +kernel
theorem dX11_build_144 : decode cX11_build 144 = .ok (.iconst 1, 1) := by decide +kernel
theorem dX11_build_145 : decode cX11_build 145 = .ok (.iload 10, 2) := by decide +kernel
theorem dX11_build_147 : decode cX11_build 147 = .ok (.iload_n 1, 1) := by decide +kernel
theorem dX11_build_148 : decode cX11_build 148 = .ok (.invokevirtual 118, 3) := by decide +kernel
theorem dX11_build_151 : decode cX11_build 151 = .ok (.istore 11, 2) := by decide +kernel
theorem dX11_build_153 : decode cX11_build 153 = .ok (.aload_n 0, 1) := by decide +kernel
theorem dX11_build_154 : decode cX11_build 154 = .ok (.getfield 26, 3) := by decide +kernel
theorem dX11_build_157 : decode cX11_build 157 = .ok (.iload 11, 2) := by decide +kernel
theorem dX11_build_159 : decode cX11_build 159 = .ok (.iload_n 2, 1) := by decide +kernel
theorem dX11_build_160 : decode cX11_build 160 = .ok (.iastore, 1) := by decide +kernel
theorem dX11_build_161 : decode cX11_build 161 = .ok (.aload_n 0, 1) := by decide +kernel
theorem dX11_build_162 : decode cX11_build 162 = .ok (.getfield 29, 3) := by decide +kernel
theorem dX11_build_165 : decode cX11_build 165 = .ok (.iload 11, 2) := by decide +kernel
theorem dX11_build_167 : decode cX11_build 167 = .ok (.iload_n 3, 1) := by decide +kernel
theorem dX11_build_168 : decode cX11_build 168 = .ok (.iastore, 1) := by decide +kernel
theorem dX11_build_169 : decode cX11_build 169 = .ok (.aload_n 0, 1) := by decide +kernel
theorem dX11_build_170 : decode cX11_build 170 = .ok (.getfield 32, 3) := by decide +kernel
theorem dX11_build_173 : decode cX11_build 173 = .ok (.iload 11, 2) := by decide +kernel
theorem dX11_build_175 : decode cX11_build 175 = .ok (.iload 4, 2) := by decide +kernel
theorem dX11_build_177 : decode cX11_build 177 = .ok (.iastore, 1) := by decide +kernel
theorem dX11_build_178 : decode cX11_build 178 = .ok (.aload_n 0, 1) := by decide +kernel
theorem dX11_build_179 : decode cX11_build 179 = .ok (.getfield 35, 3) := by decide +kernel
theorem dX11_build_182 : decode cX11_build 182 = .ok (.iload 11, 2) := by decide +kernel
theorem dX11_build_184 : decode cX11_build 184 = .ok (.iload 5, 2) := by decide +kernel
theorem dX11_build_186 : decode cX11_build 186 = .ok (.iastore, 1) := by decide +kernel
theorem dX11_build_187 : decode cX11_build 187 = .ok (.aload_n 0, 1) := by decide +kernel
theorem dX11_build_188 : decode cX11_build 188 = .ok (.getfield 38, 3) := by decide +kernel
theorem dX11_build_191 : decode cX11_build 191 = .ok (.iload 11, 2) := by decide +kernel
theorem dX11_build_193 : decode cX11_build 193 = .ok (.iload 9, 2) := by decide +kernel
theorem dX11_build_195 : decode cX11_build 195 = .ok (.ifCond .eq 7, 3) := by decide +kernel
theorem dX11_build_198 : decode cX11_build 198 = .ok (.iconst 1, 1) := by decide +kernel
theorem dX11_build_199 : decode cX11_build 199 = .ok (.goto 4, 3) := by decide +kernel
theorem dX11_build_202 : decode cX11_build 202 = .ok (.iconst 0, 1) := by decide +kernel
theorem dX11_build_203 : decode cX11_build 203 = .ok (.iastore, 1) := by decide +kernel
theorem dX11_build_204 : decode cX11_build 204 = .ok (.iload 10, 2) := by decide +kernel
theorem dX11_build_206 : decode cX11_build 206 = .ok (.ireturn, 1) := by decide +kernel
/-! SealLineModel.build(IIIIIJ)I -/
theorem eX11_build {d mc ms : Nat} {w : qW} {Q : Option Value → qW → Prop} {q : Nat} {x0 : Int32} {x1 : Int32} {x2 : Int32} {x3 : Int32} {x4 : Int32} {x5 : Int64} (h : AW (mX11_build, d, mc, ms, none, Q) 0 [some (.ref q), some (.int x0), some (.int x1), some (.int x2), some (.int x3), some (.int x4), some (.long x5), none, none, none, none, none] [] w 0 0) : CT mX11_build d mc ms [.ref q, .int x0, .int x1, .int x2, .int x3, .int x4, .long x5] w Q := CT_of (by decide +kernel) rfl (Nat.le_of_ble_eq_true rfl) h
def bX11_build_0 (G : Nat × Nat × Nat × Option (Nat × (Nat → Int32)) × (Option Value → qW → Prop)) : qK := (s_iload 1 (AW (mX11_build, G) 1))
theorem oX11_build_0 (G : Nat × Nat × Nat × Option (Nat × (Nat → Int32)) × (Option Value → qW → Prop)) : qImp (bX11_build_0 G) (AW (mX11_build, G) 0) := (r_iload_n dX11_build_0 rfl qImp.rf)
def bX11_build_4 (G : Nat × Nat × Nat × Option (Nat × (Nat → Int32)) × (Option Value → qW → Prop)) : qK := (s_if_eq (AW (mX11_build, G) 38) (s_iload 2 (s_iconst 0 (s_iconst 5 (AW (mX11_build, G) 10)))))
theorem oX11_build_4 (G : Nat × Nat × Nat × Option (Nat × (Nat → Int32)) × (Option Value → qW → Prop)) : qImp (bX11_build_4 G) (AW (mX11_build, G) 4) := (r_if_eq (tgt := 38) dX11_build_4 rfl qImp.rf (r_iload_n dX11_build_7 rfl (r_iconst dX11_build_8 rfl (r_iconst dX11_build_9 rfl qImp.rf))))
def bX11_build_13 (G : Nat × Nat × Nat × Option (Nat × (Nat → Int32)) × (Option Value → qW → Prop)) : qK := (s_if_eq (AW (mX11_build, G) 38) (s_aload 0 (s_iload 3 (s_iload 4 (s_iload 5 (AW (mX11_build, G) 22))))))
theorem oX11_build_13 (G : Nat × Nat × Nat × Option (Nat × (Nat → Int32)) × (Option Value → qW → Prop)) : qImp (bX11_build_13 G) (AW (mX11_build, G) 13) := (r_if_eq (tgt := 38) dX11_build_13 rfl qImp.rf (r_aload_n dX11_build_16 rfl (r_iload_n dX11_build_17 rfl (r_iload dX11_build_18 (r_iload dX11_build_20 qImp.rf)))))
def bX11_build_25 (G : Nat × Nat × Nat × Option (Nat × (Nat → Int32)) × (Option Value → qW → Prop)) : qK := (s_if_eq (AW (mX11_build, G) 38) (s_aload 0 (s_getfield 11 0 (s_iconst 400 (s_ic_ne (AW (mX11_build, G) 40) (AW (mX11_build, G) 38))))))
theorem oX11_build_25 (G : Nat × Nat × Nat × Option (Nat × (Nat → Int32)) × (Option Value → qW → Prop)) : qImp (bX11_build_25 G) (AW (mX11_build, G) 25) := (r_if_eq (tgt := 38) dX11_build_25 rfl qImp.rf (r_aload_n dX11_build_28 rfl (r_getfield dX11_build_29 fgX11_104 (r_sipush dX11_build_32 rfl (r_ic_ne (tgt := 40) dX11_build_35 rfl qImp.rf qImp.rf)))))
def bX11_build_38 (G : Nat × Nat × Nat × Option (Nat × (Nat → Int32)) × (Option Value → qW → Prop)) : qK := (s_iconst (-1) (s_ireturn (mX11_build, G)))
theorem oX11_build_38 (G : Nat × Nat × Nat × Option (Nat × (Nat → Int32)) × (Option Value → qW → Prop)) : qImp (bX11_build_38 G) (AW (mX11_build, G) 38) := (r_iconst dX11_build_38 rfl (r_ireturn dX11_build_39 rfl))
def bX11_build_40 (G : Nat × Nat × Nat × Option (Nat × (Nat → Int32)) × (Option Value → qW → Prop)) : qK := (s_aload 0 (s_lload 6 (AW (mX11_build, G) 43)))
theorem oX11_build_40 (G : Nat × Nat × Nat × Option (Nat × (Nat → Int32)) × (Option Value → qW → Prop)) : qImp (bX11_build_40 G) (AW (mX11_build, G) 40) := (r_aload_n dX11_build_40 rfl (r_lload dX11_build_41 qImp.rf))
def bX11_build_46 (G : Nat × Nat × Nat × Option (Nat × (Nat → Int32)) × (Option Value → qW → Prop)) : qK := (s_istore 8 7 (s_iload 8 (s_iconst (-1) (s_ic_ne (AW (mX11_build, G) 65) (s_aload 0 (s_getfield 11 1 (s_iconst 100 (s_ic_ne (AW (mX11_build, G) 65) (s_iconst (-1) (s_ireturn (mX11_build, G)))))))))))
theorem oX11_build_46 (G : Nat × Nat × Nat × Option (Nat × (Nat → Int32)) × (Option Value → qW → Prop)) : qImp (bX11_build_46 G) (AW (mX11_build, G) 46) := (r_istore dX11_build_46 (Or.inr rfl) (Nat.le_of_ble_eq_true rfl) (r_iload dX11_build_48 (r_iconst dX11_build_50 rfl (r_ic_ne (tgt := 65) dX11_build_51 rfl qImp.rf (r_aload_n dX11_build_54 rfl (r_getfield dX11_build_55 fgX11_96 (r_bipush dX11_build_58 rfl (r_ic_ne (tgt := 65) dX11_build_60 rfl qImp.rf (r_iconst dX11_build_63 rfl (r_ireturn dX11_build_64 rfl))))))))))
def bX11_build_65 (G : Nat × Nat × Nat × Option (Nat × (Nat → Int32)) × (Option Value → qW → Prop)) : qK := (s_iload 8 (s_iconst (-1) (s_ic_eq (AW (mX11_build, G) 112) (s_aload 0 (s_iload 3 (AW (mX11_build, G) 73))))))
theorem oX11_build_65 (G : Nat × Nat × Nat × Option (Nat × (Nat → Int32)) × (Option Value → qW → Prop)) : qImp (bX11_build_65 G) (AW (mX11_build, G) 65) := (r_iload dX11_build_65 (r_iconst dX11_build_67 rfl (r_ic_eq (tgt := 112) dX11_build_68 rfl qImp.rf (r_aload_n dX11_build_71 rfl (r_iload_n dX11_build_72 rfl qImp.rf)))))
def bX11_build_76 (G : Nat × Nat × Nat × Option (Nat × (Nat → Int32)) × (Option Value → qW → Prop)) : qK := (s_iload 4 (s_iconst (-1) (s_ic_eq (AW (mX11_build, G) 88) (s_aload 0 (s_iload 4 (AW (mX11_build, G) 85))))))
theorem oX11_build_76 (G : Nat × Nat × Nat × Option (Nat × (Nat → Int32)) × (Option Value → qW → Prop)) : qImp (bX11_build_76 G) (AW (mX11_build, G) 76) := (r_iload dX11_build_76 (r_iconst dX11_build_78 rfl (r_ic_eq (tgt := 88) dX11_build_79 rfl qImp.rf (r_aload_n dX11_build_82 rfl (r_iload dX11_build_83 qImp.rf)))))
def bX11_build_88 (G : Nat × Nat × Nat × Option (Nat × (Nat → Int32)) × (Option Value → qW → Prop)) : qK := (s_iload 5 (s_iconst (-1) (s_ic_eq (AW (mX11_build, G) 100) (s_aload 0 (s_iload 5 (AW (mX11_build, G) 97))))))
theorem oX11_build_88 (G : Nat × Nat × Nat × Option (Nat × (Nat → Int32)) × (Option Value → qW → Prop)) : qImp (bX11_build_88 G) (AW (mX11_build, G) 88) := (r_iload dX11_build_88 (r_iconst dX11_build_90 rfl (r_ic_eq (tgt := 100) dX11_build_91 rfl qImp.rf (r_aload_n dX11_build_94 rfl (r_iload dX11_build_95 qImp.rf)))))
def bX11_build_100 (G : Nat × Nat × Nat × Option (Nat × (Nat → Int32)) × (Option Value → qW → Prop)) : qK := (s_aload 0 (s_getfield 11 26 (s_iload 8 (s_baload (s_if_eq (AW (mX11_build, G) 112) (s_iconst (-1) (s_ireturn (mX11_build, G))))))))
theorem oX11_build_100 (G : Nat × Nat × Nat × Option (Nat × (Nat → Int32)) × (Option Value → qW → Prop)) : qImp (bX11_build_100 G) (AW (mX11_build, G) 100) := (r_aload_n dX11_build_100 rfl (r_getfield dX11_build_101 fgX11_72 (r_iload dX11_build_104 (r_baload dX11_build_106 (r_if_eq (tgt := 112) dX11_build_107 rfl qImp.rf (r_iconst dX11_build_110 rfl (r_ireturn dX11_build_111 rfl)))))))
def bX11_build_112 (G : Nat × Nat × Nat × Option (Nat × (Nat → Int32)) × (Option Value → qW → Prop)) : qK := (s_aload 0 (s_iload 2 (s_iload 3 (s_iload 4 (s_iload 5 (AW (mX11_build, G) 119))))))
theorem oX11_build_112 (G : Nat × Nat × Nat × Option (Nat × (Nat → Int32)) × (Option Value → qW → Prop)) : qImp (bX11_build_112 G) (AW (mX11_build, G) 112) := (r_aload_n dX11_build_112 rfl (r_iload_n dX11_build_113 rfl (r_iload_n dX11_build_114 rfl (r_iload dX11_build_115 (r_iload dX11_build_117 qImp.rf)))))
def bX11_build_122 (G : Nat × Nat × Nat × Option (Nat × (Nat → Int32)) × (Option Value → qW → Prop)) : qK := (s_lload 6 (s_lcmp (s_if_ne (AW (mX11_build, G) 132) (s_iconst 1 (AW (mX11_build, G) 133)))))
theorem oX11_build_122 (G : Nat × Nat × Nat × Option (Nat × (Nat → Int32)) × (Option Value → qW → Prop)) : qImp (bX11_build_122 G) (AW (mX11_build, G) 122) := (r_lload dX11_build_122 (r_lcmp dX11_build_124 (r_if_ne (tgt := 132) dX11_build_125 rfl qImp.rf (r_iconst dX11_build_128 rfl (r_goto (tgt := 133) dX11_build_129 rfl qImp.rf)))))
def bX11_build_132 (G : Nat × Nat × Nat × Option (Nat × (Nat → Int32)) × (Option Value → qW → Prop)) : qK := (s_iconst 0 (AW (mX11_build, G) 133))
theorem oX11_build_132 (G : Nat × Nat × Nat × Option (Nat × (Nat → Int32)) × (Option Value → qW → Prop)) : qImp (bX11_build_132 G) (AW (mX11_build, G) 132) := (r_iconst dX11_build_132 rfl qImp.rf)
def bX11_build_133 (G : Nat × Nat × Nat × Option (Nat × (Nat → Int32)) × (Option Value → qW → Prop)) : qK := (s_istore 9 8 (s_aload 0 (s_lload 6 (AW (mX11_build, G) 138))))
theorem oX11_build_133 (G : Nat × Nat × Nat × Option (Nat × (Nat → Int32)) × (Option Value → qW → Prop)) : qImp (bX11_build_133 G) (AW (mX11_build, G) 133) := (r_istore dX11_build_133 (Or.inr rfl) (Nat.le_of_ble_eq_true rfl) (r_aload_n dX11_build_135 rfl (r_lload dX11_build_136 qImp.rf)))
def bX11_build_141 (G : Nat × Nat × Nat × Option (Nat × (Nat → Int32)) × (Option Value → qW → Prop)) : qK := (s_istore 10 9 (s_aload 0 (s_iconst 1 (s_iload 10 (s_iload 1 (AW (mX11_build, G) 148))))))
theorem oX11_build_141 (G : Nat × Nat × Nat × Option (Nat × (Nat → Int32)) × (Option Value → qW → Prop)) : qImp (bX11_build_141 G) (AW (mX11_build, G) 141) := (r_istore dX11_build_141 (Or.inr rfl) (Nat.le_of_ble_eq_true rfl) (r_aload_n dX11_build_143 rfl (r_iconst dX11_build_144 rfl (r_iload dX11_build_145 (r_iload_n dX11_build_147 rfl qImp.rf)))))
def bX11_build_151 (G : Nat × Nat × Nat × Option (Nat × (Nat → Int32)) × (Option Value → qW → Prop)) : qK := (s_istore 11 10 (s_aload 0 (s_getfield 11 11 (s_iload 11 (s_iload 2 (s_iastore (s_aload 0 (s_getfield 11 12 (s_iload 11 (s_iload 3 (s_iastore (s_aload 0 (s_getfield 11 13 (s_iload 11 (s_iload 4 (s_iastore (s_aload 0 (s_getfield 11 14 (s_iload 11 (s_iload 5 (s_iastore (s_aload 0 (s_getfield 11 15 (s_iload 11 (s_iload 9 (s_if_eq (AW (mX11_build, G) 202) (s_iconst 1 (AW (mX11_build, G) 203))))))))))))))))))))))))))))
theorem oX11_build_151 (G : Nat × Nat × Nat × Option (Nat × (Nat → Int32)) × (Option Value → qW → Prop)) : qImp (bX11_build_151 G) (AW (mX11_build, G) 151) := (r_istore dX11_build_151 (Or.inr rfl) (Nat.le_of_ble_eq_true rfl) (r_aload_n dX11_build_153 rfl (r_getfield dX11_build_154 fgX11_26 (r_iload dX11_build_157 (r_iload_n dX11_build_159 rfl (r_iastore dX11_build_160 (r_aload_n dX11_build_161 rfl (r_getfield dX11_build_162 fgX11_29 (r_iload dX11_build_165 (r_iload_n dX11_build_167 rfl (r_iastore dX11_build_168 (r_aload_n dX11_build_169 rfl (r_getfield dX11_build_170 fgX11_32 (r_iload dX11_build_173 (r_iload dX11_build_175 (r_iastore dX11_build_177 (r_aload_n dX11_build_178 rfl (r_getfield dX11_build_179 fgX11_35 (r_iload dX11_build_182 (r_iload dX11_build_184 (r_iastore dX11_build_186 (r_aload_n dX11_build_187 rfl (r_getfield dX11_build_188 fgX11_38 (r_iload dX11_build_191 (r_iload dX11_build_193 (r_if_eq (tgt := 202) dX11_build_195 rfl qImp.rf (r_iconst dX11_build_198 rfl (r_goto (tgt := 203) dX11_build_199 rfl qImp.rf))))))))))))))))))))))))))))
def bX11_build_202 (G : Nat × Nat × Nat × Option (Nat × (Nat → Int32)) × (Option Value → qW → Prop)) : qK := (s_iconst 0 (AW (mX11_build, G) 203))
theorem oX11_build_202 (G : Nat × Nat × Nat × Option (Nat × (Nat → Int32)) × (Option Value → qW → Prop)) : qImp (bX11_build_202 G) (AW (mX11_build, G) 202) := (r_iconst dX11_build_202 rfl qImp.rf)
def bX11_build_203 (G : Nat × Nat × Nat × Option (Nat × (Nat → Int32)) × (Option Value → qW → Prop)) : qK := (s_iastore (s_iload 10 (s_ireturn (mX11_build, G))))
theorem oX11_build_203 (G : Nat × Nat × Nat × Option (Nat × (Nat → Int32)) × (Option Value → qW → Prop)) : qImp (bX11_build_203 G) (AW (mX11_build, G) 203) := (r_iastore dX11_build_203 (r_iload dX11_build_204 (r_ireturn dX11_build_206 rfl)))
theorem kX11_build_1 {G : Nat × Nat × Nat × Option (Nat × (Nat → Int32)) × (Option Value → qW → Prop)} {L : qL} {w : qW} {kc ks : Nat} {rest : List Value}  {x0 : Int32} {d mc ms : Nat} {Q : Option Value → qW → Prop} (hC : CT mX11_isHand d mc ms [.int x0] w Q) (hst : rest.length ≤ 4) (hdp : d + 1 ≤ G.1) (hmc : kc + mc ≤ G.2.1 ∧ ks + ms ≤ G.2.2.1) (k : ∀ r w', Q r w' → AW (mX11_build, G) 4 L (r.toList ++ rest) w' (kc + mc) (ks + ms)) : AW (mX11_build, G) 1 L (.int x0 :: rest) w kc ks := a_callS [.int x0] rest dX11_build_1 tX11_isHand lk1027 hC rfl hst hdp hmc k
theorem kX11_build_10 {G : Nat × Nat × Nat × Option (Nat × (Nat → Int32)) × (Option Value → qW → Prop)} {L : qL} {w : qW} {kc ks : Nat} {rest : List Value}  {x0 : Int32} {x1 : Int32} {x2 : Int32} {d mc ms : Nat} {Q : Option Value → qW → Prop} (hC : CT mX11_in d mc ms [.int x0, .int x1, .int x2] w Q) (hst : rest.length ≤ 4) (hdp : d + 1 ≤ G.1) (hmc : kc + mc ≤ G.2.1 ∧ ks + ms ≤ G.2.2.1) (k : ∀ r w', Q r w' → AW (mX11_build, G) 13 L (r.toList ++ rest) w' (kc + mc) (ks + ms)) : AW (mX11_build, G) 10 L (.int x2 :: .int x1 :: .int x0 :: rest) w kc ks := a_callS [.int x0, .int x1, .int x2] rest dX11_build_10 tX11_in lk1030 hC rfl hst hdp hmc k
theorem kX11_build_22 {G : Nat × Nat × Nat × Option (Nat × (Nat → Int32)) × (Option Value → qW → Prop)} {L : qL} {w : qW} {kc ks : Nat} {rest : List Value} {q : Nat} {x0 : Int32} {x1 : Int32} {x2 : Int32} {d mc ms : Nat} {Q : Option Value → qW → Prop} (hC : CT mX11_areFiles d mc ms [.ref q, .int x0, .int x1, .int x2] w Q) (hq : qci w q = some 11) (hst : rest.length ≤ 4) (hdp : d + 1 ≤ G.1) (hmc : kc + mc ≤ G.2.1 ∧ ks + ms ≤ G.2.2.1) (k : ∀ r w', Q r w' → AW (mX11_build, G) 25 L (r.toList ++ rest) w' (kc + mc) (ks + ms)) : AW (mX11_build, G) 22 L (.int x2 :: .int x1 :: .int x0 :: .ref q :: rest) w kc ks := a_callV [.int x0, .int x1, .int x2] rest dX11_build_22 vX11_areFiles lk1046 hC hq rfl rfl hst hdp hmc k
theorem kX11_build_43 {G : Nat × Nat × Nat × Option (Nat × (Nat → Int32)) × (Option Value → qW → Prop)} {L : qL} {w : qW} {kc ks : Nat} {rest : List Value} {q : Nat} {x0 : Int64} {d mc ms : Nat} {Q : Option Value → qW → Prop} (hC : CT mX11_find d mc ms [.ref q, .long x0] w Q) (hq : qci w q = some 11) (hst : rest.length ≤ 4) (hdp : d + 1 ≤ G.1) (hmc : kc + mc ≤ G.2.1 ∧ ks + ms ≤ G.2.2.1) (k : ∀ r w', Q r w' → AW (mX11_build, G) 46 L (r.toList ++ rest) w' (kc + mc) (ks + ms)) : AW (mX11_build, G) 43 L (.long x0 :: .ref q :: rest) w kc ks := a_callV [.long x0] rest dX11_build_43 vX11_find lk1033 hC hq rfl rfl hst hdp hmc k
theorem kX11_build_73 {G : Nat × Nat × Nat × Option (Nat × (Nat → Int32)) × (Option Value → qW → Prop)} {L : qL} {w : qW} {kc ks : Nat} {rest : List Value} {q : Nat} {x0 : Int32} {d mc ms : Nat} {Q : Option Value → qW → Prop} (hC : CT mX11_rowOf d mc ms [.ref q, .int x0] w Q) (hq : qci w q = some 11) (hst : rest.length ≤ 4) (hdp : d + 1 ≤ G.1) (hmc : kc + mc ≤ G.2.1 ∧ ks + ms ≤ G.2.2.1) (k : ∀ r w', Q r w' → AW (mX11_build, G) 76 L (r.toList ++ rest) w' (kc + mc) (ks + ms)) : AW (mX11_build, G) 73 L (.int x0 :: .ref q :: rest) w kc ks := a_callV [.int x0] rest dX11_build_73 vX11_rowOf lk1064 hC hq rfl rfl hst hdp hmc k
theorem kX11_build_85 {G : Nat × Nat × Nat × Option (Nat × (Nat → Int32)) × (Option Value → qW → Prop)} {L : qL} {w : qW} {kc ks : Nat} {rest : List Value} {q : Nat} {x0 : Int32} {d mc ms : Nat} {Q : Option Value → qW → Prop} (hC : CT mX11_addRow d mc ms [.ref q, .int x0] w Q) (hq : qci w q = some 11) (hst : rest.length ≤ 4) (hdp : d + 1 ≤ G.1) (hmc : kc + mc ≤ G.2.1 ∧ ks + ms ≤ G.2.2.1) (k : ∀ r w', Q r w' → AW (mX11_build, G) 88 L (r.toList ++ rest) w' (kc + mc) (ks + ms)) : AW (mX11_build, G) 85 L (.int x0 :: .ref q :: rest) w kc ks := a_callV [.int x0] rest dX11_build_85 vX11_addRow lk1068 hC hq rfl rfl hst hdp hmc k
theorem kX11_build_97 {G : Nat × Nat × Nat × Option (Nat × (Nat → Int32)) × (Option Value → qW → Prop)} {L : qL} {w : qW} {kc ks : Nat} {rest : List Value} {q : Nat} {x0 : Int32} {d mc ms : Nat} {Q : Option Value → qW → Prop} (hC : CT mX11_addRow d mc ms [.ref q, .int x0] w Q) (hq : qci w q = some 11) (hst : rest.length ≤ 4) (hdp : d + 1 ≤ G.1) (hmc : kc + mc ≤ G.2.1 ∧ ks + ms ≤ G.2.2.1) (k : ∀ r w', Q r w' → AW (mX11_build, G) 100 L (r.toList ++ rest) w' (kc + mc) (ks + ms)) : AW (mX11_build, G) 97 L (.int x0 :: .ref q :: rest) w kc ks := a_callV [.int x0] rest dX11_build_97 vX11_addRow lk1068 hC hq rfl rfl hst hdp hmc k
theorem kX11_build_119 {G : Nat × Nat × Nat × Option (Nat × (Nat → Int32)) × (Option Value → qW → Prop)} {L : qL} {w : qW} {kc ks : Nat} {rest : List Value} {q : Nat} {x0 : Int32} {x1 : Int32} {x2 : Int32} {x3 : Int32} {d mc ms : Nat} {Q : Option Value → qW → Prop} (hC : CT mX11_mixOf d mc ms [.ref q, .int x0, .int x1, .int x2, .int x3] w Q) (hq : qci w q = some 11) (hst : rest.length ≤ 4) (hdp : d + 1 ≤ G.1) (hmc : kc + mc ≤ G.2.1 ∧ ks + ms ≤ G.2.2.1) (k : ∀ r w', Q r w' → AW (mX11_build, G) 122 L (r.toList ++ rest) w' (kc + mc) (ks + ms)) : AW (mX11_build, G) 119 L (.int x3 :: .int x2 :: .int x1 :: .int x0 :: .ref q :: rest) w kc ks := a_callV [.int x0, .int x1, .int x2, .int x3] rest dX11_build_119 vX11_mixOf lk1054 hC hq rfl rfl hst hdp hmc k
theorem kX11_build_138 {G : Nat × Nat × Nat × Option (Nat × (Nat → Int32)) × (Option Value → qW → Prop)} {L : qL} {w : qW} {kc ks : Nat} {rest : List Value} {q : Nat} {x0 : Int64} {d mc ms : Nat} {Q : Option Value → qW → Prop} (hC : CT mX11_fileFor d mc ms [.ref q, .long x0] w Q) (hq : qci w q = some 11) (hst : rest.length ≤ 4) (hdp : d + 1 ≤ G.1) (hmc : kc + mc ≤ G.2.1 ∧ ks + ms ≤ G.2.2.1) (k : ∀ r w', Q r w' → AW (mX11_build, G) 141 L (r.toList ++ rest) w' (kc + mc) (ks + ms)) : AW (mX11_build, G) 138 L (.long x0 :: .ref q :: rest) w kc ks := a_callV [.long x0] rest dX11_build_138 vX11_fileFor lk1034 hC hq rfl rfl hst hdp hmc k
theorem kX11_build_148 {G : Nat × Nat × Nat × Option (Nat × (Nat → Int32)) × (Option Value → qW → Prop)} {L : qL} {w : qW} {kc ks : Nat} {rest : List Value} {q : Nat} {x0 : Int32} {x1 : Int32} {x2 : Int32} {d mc ms : Nat} {Q : Option Value → qW → Prop} (hC : CT mX11_addNote d mc ms [.ref q, .int x0, .int x1, .int x2] w Q) (hq : qci w q = some 11) (hst : rest.length ≤ 4) (hdp : d + 1 ≤ G.1) (hmc : kc + mc ≤ G.2.1 ∧ ks + ms ≤ G.2.2.1) (k : ∀ r w', Q r w' → AW (mX11_build, G) 151 L (r.toList ++ rest) w' (kc + mc) (ks + ms)) : AW (mX11_build, G) 148 L (.int x2 :: .int x1 :: .int x0 :: .ref q :: rest) w kc ks := a_callV [.int x0, .int x1, .int x2] rest dX11_build_148 vX11_addNote lk1038 hC hq rfl rfl hst hdp hmc k
theorem dX11_says_0 : decode cX11_says 0 = .ok (.iload_n 2, 1) := by decide +kernel
theorem dX11_says_1 : decode cX11_says 1 = .ok (.invokestatic 111, 3) := by decide +kernel
theorem dX11_says_4 : decode cX11_says 4 = .ok (.ifCond .eq 21, 3) := by decide +kernel
theorem dX11_says_7 : decode cX11_says 7 = .ok (.aload_n 0, 1) := by decide +kernel
theorem dX11_says_8 : decode cX11_says 8 = .ok (.iload_n 3, 1) := by decide +kernel
theorem dX11_says_9 : decode cX11_says 9 = .ok (.invokevirtual 130, 3) := by decide +kernel
theorem dX11_says_12 : decode cX11_says 12 = .ok (.ifCond .eq 13, 3) := by decide +kernel
theorem dX11_says_15 : decode cX11_says 15 = .ok (.aload_n 0, 1) := by decide +kernel
theorem dX11_says_16 : decode cX11_says 16 = .ok (.getfield 104, 3) := by decide +kernel
theorem dX11_says_19 : decode cX11_says 19 = .ok (.sipush 400, 3) := by decide +kernel
theorem dX11_says_22 : decode cX11_says 22 = .ok (.if_icmp .ne 5, 3) := by decide +kernel
theorem dX11_says_25 : decode cX11_says 25 = .ok (.iconst (-1), 1) := by decide +kernel
theorem dX11_says_26 : decode cX11_says 26 = .ok (.ireturn, 1) := by decide +kernel
theorem dX11_says_27 : decode cX11_says 27 = .ok (.aload_n 0, 1) := by decide +kernel
theorem dX11_says_28 : decode cX11_says 28 = .ok (.iload_n 1, 1) := by decide +kernel
theorem dX11_says_29 : decode cX11_says 29 = .ok (.iload_n 3, 1) := by decide +kernel
theorem dX11_says_30 : decode cX11_says 30 = .ok (.iload_n 2, 1) := by decide +kernel
theorem dX11_says_31 : decode cX11_says 31 = .ok (.invokevirtual 118, 3) := by decide +kernel
theorem dX11_says_34 : decode cX11_says 34 = .ok (.istore 5, 2) := by decide +kernel
theorem dX11_says_36 : decode cX11_says 36 = .ok (.aload_n 0, 1) := by decide +kernel
theorem dX11_says_37 : decode cX11_says 37 = .ok (.getfield 38, 3) := by decide +kernel
theorem dX11_says_40 : decode cX11_says 40 = .ok (.iload 5, 2) := by decide +kernel
theorem dX11_says_42 : decode cX11_says 42 = .ok (.iload 4, 2) := by decide +kernel
theorem dX11_says_44 : decode cX11_says 44 = .ok (.ifCond .eq 7, 3) := by decide +kernel
theorem dX11_says_47 : decode cX11_says 47 = .ok (.iconst 1, 1) := by decide +kernel
theorem dX11_says_48 : decode cX11_says 48 = .ok (.goto 4, 3) := by decide +kernel
theorem dX11_says_51 : decode cX11_says 51 = .ok (.iconst 0, 1) := by decide +kernel
theorem dX11_says_52 : decode cX11_says 52 = .ok (.iastore, 1) := by decide +kernel
theorem dX11_says_53 : decode cX11_says 53 = .ok (.iload 5, 2) := by decide +kernel
theorem dX11_says_55 : decode cX11_says 55 = .ok (.ireturn, 1) := by decide +kernel
/-! SealLineModel.says(IIIZ)I -/
theorem eX11_says {d mc ms : Nat} {w : qW} {Q : Option Value → qW → Prop} {q : Nat} {x0 : Int32} {x1 : Int32} {x2 : Int32} {x3 : Int32} (h : AW (mX11_says, d, mc, ms, none, Q) 0 [some (.ref q), some (.int x0), some (.int x1), some (.int x2), some (.int x3), none] [] w 0 0) : CT mX11_says d mc ms [.ref q, .int x0, .int x1, .int x2, .int x3] w Q := CT_of (by decide +kernel) rfl (Nat.le_of_ble_eq_true rfl) h
def bX11_says_0 (G : Nat × Nat × Nat × Option (Nat × (Nat → Int32)) × (Option Value → qW → Prop)) : qK := (s_iload 2 (AW (mX11_says, G) 1))
theorem oX11_says_0 (G : Nat × Nat × Nat × Option (Nat × (Nat → Int32)) × (Option Value → qW → Prop)) : qImp (bX11_says_0 G) (AW (mX11_says, G) 0) := (r_iload_n dX11_says_0 rfl qImp.rf)
def bX11_says_4 (G : Nat × Nat × Nat × Option (Nat × (Nat → Int32)) × (Option Value → qW → Prop)) : qK := (s_if_eq (AW (mX11_says, G) 25) (s_aload 0 (s_iload 3 (AW (mX11_says, G) 9))))
theorem oX11_says_4 (G : Nat × Nat × Nat × Option (Nat × (Nat → Int32)) × (Option Value → qW → Prop)) : qImp (bX11_says_4 G) (AW (mX11_says, G) 4) := (r_if_eq (tgt := 25) dX11_says_4 rfl qImp.rf (r_aload_n dX11_says_7 rfl (r_iload_n dX11_says_8 rfl qImp.rf)))
def bX11_says_12 (G : Nat × Nat × Nat × Option (Nat × (Nat → Int32)) × (Option Value → qW → Prop)) : qK := (s_if_eq (AW (mX11_says, G) 25) (s_aload 0 (s_getfield 11 0 (s_iconst 400 (s_ic_ne (AW (mX11_says, G) 27) (AW (mX11_says, G) 25))))))
theorem oX11_says_12 (G : Nat × Nat × Nat × Option (Nat × (Nat → Int32)) × (Option Value → qW → Prop)) : qImp (bX11_says_12 G) (AW (mX11_says, G) 12) := (r_if_eq (tgt := 25) dX11_says_12 rfl qImp.rf (r_aload_n dX11_says_15 rfl (r_getfield dX11_says_16 fgX11_104 (r_sipush dX11_says_19 rfl (r_ic_ne (tgt := 27) dX11_says_22 rfl qImp.rf qImp.rf)))))
def bX11_says_25 (G : Nat × Nat × Nat × Option (Nat × (Nat → Int32)) × (Option Value → qW → Prop)) : qK := (s_iconst (-1) (s_ireturn (mX11_says, G)))
theorem oX11_says_25 (G : Nat × Nat × Nat × Option (Nat × (Nat → Int32)) × (Option Value → qW → Prop)) : qImp (bX11_says_25 G) (AW (mX11_says, G) 25) := (r_iconst dX11_says_25 rfl (r_ireturn dX11_says_26 rfl))
def bX11_says_27 (G : Nat × Nat × Nat × Option (Nat × (Nat → Int32)) × (Option Value → qW → Prop)) : qK := (s_aload 0 (s_iload 1 (s_iload 3 (s_iload 2 (AW (mX11_says, G) 31)))))
theorem oX11_says_27 (G : Nat × Nat × Nat × Option (Nat × (Nat → Int32)) × (Option Value → qW → Prop)) : qImp (bX11_says_27 G) (AW (mX11_says, G) 27) := (r_aload_n dX11_says_27 rfl (r_iload_n dX11_says_28 rfl (r_iload_n dX11_says_29 rfl (r_iload_n dX11_says_30 rfl qImp.rf))))
def bX11_says_34 (G : Nat × Nat × Nat × Option (Nat × (Nat → Int32)) × (Option Value → qW → Prop)) : qK := (s_istore 5 4 (s_aload 0 (s_getfield 11 15 (s_iload 5 (s_iload 4 (s_if_eq (AW (mX11_says, G) 51) (s_iconst 1 (AW (mX11_says, G) 52))))))))
theorem oX11_says_34 (G : Nat × Nat × Nat × Option (Nat × (Nat → Int32)) × (Option Value → qW → Prop)) : qImp (bX11_says_34 G) (AW (mX11_says, G) 34) := (r_istore dX11_says_34 (Or.inr rfl) (Nat.le_of_ble_eq_true rfl) (r_aload_n dX11_says_36 rfl (r_getfield dX11_says_37 fgX11_38 (r_iload dX11_says_40 (r_iload dX11_says_42 (r_if_eq (tgt := 51) dX11_says_44 rfl qImp.rf (r_iconst dX11_says_47 rfl (r_goto (tgt := 52) dX11_says_48 rfl qImp.rf))))))))
def bX11_says_51 (G : Nat × Nat × Nat × Option (Nat × (Nat → Int32)) × (Option Value → qW → Prop)) : qK := (s_iconst 0 (AW (mX11_says, G) 52))
theorem oX11_says_51 (G : Nat × Nat × Nat × Option (Nat × (Nat → Int32)) × (Option Value → qW → Prop)) : qImp (bX11_says_51 G) (AW (mX11_says, G) 51) := (r_iconst dX11_says_51 rfl qImp.rf)
def bX11_says_52 (G : Nat × Nat × Nat × Option (Nat × (Nat → Int32)) × (Option Value → qW → Prop)) : qK := (s_iastore (s_iload 5 (s_ireturn (mX11_says, G))))
theorem oX11_says_52 (G : Nat × Nat × Nat × Option (Nat × (Nat → Int32)) × (Option Value → qW → Prop)) : qImp (bX11_says_52 G) (AW (mX11_says, G) 52) := (r_iastore dX11_says_52 (r_iload dX11_says_53 (r_ireturn dX11_says_55 rfl)))
theorem kX11_says_1 {G : Nat × Nat × Nat × Option (Nat × (Nat → Int32)) × (Option Value → qW → Prop)} {L : qL} {w : qW} {kc ks : Nat} {rest : List Value}  {x0 : Int32} {d mc ms : Nat} {Q : Option Value → qW → Prop} (hC : CT mX11_isHand d mc ms [.int x0] w Q) (hst : rest.length ≤ 4) (hdp : d + 1 ≤ G.1) (hmc : kc + mc ≤ G.2.1 ∧ ks + ms ≤ G.2.2.1) (k : ∀ r w', Q r w' → AW (mX11_says, G) 4 L (r.toList ++ rest) w' (kc + mc) (ks + ms)) : AW (mX11_says, G) 1 L (.int x0 :: rest) w kc ks := a_callS [.int x0] rest dX11_says_1 tX11_isHand lk1027 hC rfl hst hdp hmc k
theorem kX11_says_9 {G : Nat × Nat × Nat × Option (Nat × (Nat → Int32)) × (Option Value → qW → Prop)} {L : qL} {w : qW} {kc ks : Nat} {rest : List Value} {q : Nat} {x0 : Int32} {d mc ms : Nat} {Q : Option Value → qW → Prop} (hC : CT mX11_isFile d mc ms [.ref q, .int x0] w Q) (hq : qci w q = some 11) (hst : rest.length ≤ 4) (hdp : d + 1 ≤ G.1) (hmc : kc + mc ≤ G.2.1 ∧ ks + ms ≤ G.2.2.1) (k : ∀ r w', Q r w' → AW (mX11_says, G) 12 L (r.toList ++ rest) w' (kc + mc) (ks + ms)) : AW (mX11_says, G) 9 L (.int x0 :: .ref q :: rest) w kc ks := a_callV [.int x0] rest dX11_says_9 vX11_isFile lk1050 hC hq rfl rfl hst hdp hmc k
theorem kX11_says_31 {G : Nat × Nat × Nat × Option (Nat × (Nat → Int32)) × (Option Value → qW → Prop)} {L : qL} {w : qW} {kc ks : Nat} {rest : List Value} {q : Nat} {x0 : Int32} {x1 : Int32} {x2 : Int32} {d mc ms : Nat} {Q : Option Value → qW → Prop} (hC : CT mX11_addNote d mc ms [.ref q, .int x0, .int x1, .int x2] w Q) (hq : qci w q = some 11) (hst : rest.length ≤ 4) (hdp : d + 1 ≤ G.1) (hmc : kc + mc ≤ G.2.1 ∧ ks + ms ≤ G.2.2.1) (k : ∀ r w', Q r w' → AW (mX11_says, G) 34 L (r.toList ++ rest) w' (kc + mc) (ks + ms)) : AW (mX11_says, G) 31 L (.int x2 :: .int x1 :: .int x0 :: .ref q :: rest) w kc ks := a_callV [.int x0, .int x1, .int x2] rest dX11_says_31 vX11_addNote lk1038 hC hq rfl rfl hst hdp hmc k
theorem dX11_tries_0 : decode cX11_tries 0 = .ok (.aload_n 0, 1) := by decide +kernel
theorem dX11_tries_1 : decode cX11_tries 1 = .ok (.iconst 2, 1) := by decide +kernel
theorem dX11_tries_2 : decode cX11_tries 2 = .ok (.iload_n 1, 1) := by decide +kernel
theorem dX11_tries_3 : decode cX11_tries 3 = .ok (.iload_n 2, 1) := by decide +kernel
theorem dX11_tries_4 : decode cX11_tries 4 = .ok (.iload_n 3, 1) := by decide +kernel
theorem dX11_tries_5 : decode cX11_tries 5 = .ok (.invokevirtual 147, 3) := by decide +kernel
theorem dX11_tries_8 : decode cX11_tries 8 = .ok (.ireturn, 1) := by decide +kernel
/-! SealLineModel.tries(IIZ)I -/
theorem eX11_tries {d mc ms : Nat} {w : qW} {Q : Option Value → qW → Prop} {q : Nat} {x0 : Int32} {x1 : Int32} {x2 : Int32} (h : AW (mX11_tries, d, mc, ms, none, Q) 0 [some (.ref q), some (.int x0), some (.int x1), some (.int x2)] [] w 0 0) : CT mX11_tries d mc ms [.ref q, .int x0, .int x1, .int x2] w Q := CT_of (by decide +kernel) rfl (Nat.le_of_ble_eq_true rfl) h
def bX11_tries_0 (G : Nat × Nat × Nat × Option (Nat × (Nat → Int32)) × (Option Value → qW → Prop)) : qK := (s_aload 0 (s_iconst 2 (s_iload 1 (s_iload 2 (s_iload 3 (AW (mX11_tries, G) 5))))))
theorem oX11_tries_0 (G : Nat × Nat × Nat × Option (Nat × (Nat → Int32)) × (Option Value → qW → Prop)) : qImp (bX11_tries_0 G) (AW (mX11_tries, G) 0) := (r_aload_n dX11_tries_0 rfl (r_iconst dX11_tries_1 rfl (r_iload_n dX11_tries_2 rfl (r_iload_n dX11_tries_3 rfl (r_iload_n dX11_tries_4 rfl qImp.rf)))))
def bX11_tries_8 (G : Nat × Nat × Nat × Option (Nat × (Nat → Int32)) × (Option Value → qW → Prop)) : qK := (s_ireturn (mX11_tries, G))
theorem oX11_tries_8 (G : Nat × Nat × Nat × Option (Nat × (Nat → Int32)) × (Option Value → qW → Prop)) : qImp (bX11_tries_8 G) (AW (mX11_tries, G) 8) := (r_ireturn dX11_tries_8 rfl)
theorem kX11_tries_5 {G : Nat × Nat × Nat × Option (Nat × (Nat → Int32)) × (Option Value → qW → Prop)} {L : qL} {w : qW} {kc ks : Nat} {rest : List Value} {q : Nat} {x0 : Int32} {x1 : Int32} {x2 : Int32} {x3 : Int32} {d mc ms : Nat} {Q : Option Value → qW → Prop} (hC : CT mX11_says d mc ms [.ref q, .int x0, .int x1, .int x2, .int x3] w Q) (hq : qci w q = some 11) (hst : rest.length ≤ 4) (hdp : d + 1 ≤ G.1) (hmc : kc + mc ≤ G.2.1 ∧ ks + ms ≤ G.2.2.1) (k : ∀ r w', Q r w' → AW (mX11_tries, G) 8 L (r.toList ++ rest) w' (kc + mc) (ks + ms)) : AW (mX11_tries, G) 5 L (.int x3 :: .int x2 :: .int x1 :: .int x0 :: .ref q :: rest) w kc ks := a_callV [.int x0, .int x1, .int x2, .int x3] rest dX11_tries_5 vX11_says lk1080 hC hq rfl rfl hst hdp hmc k
theorem dX11_review_0 : decode cX11_review 0 = .ok (.aload_n 0, 1) := by decide +kernel
theorem dX11_review_1 : decode cX11_review 1 = .ok (.iconst 3, 1) := by decide +kernel
theorem dX11_review_2 : decode cX11_review 2 = .ok (.iload_n 1, 1) := by decide +kernel
theorem dX11_review_3 : decode cX11_review 3 = .ok (.iload_n 2, 1) := by decide +kernel
theorem dX11_review_4 : decode cX11_review 4 = .ok (.iload_n 3, 1) := by decide +kernel
theorem dX11_review_5 : decode cX11_review 5 = .ok (.invokevirtual 147, 3) := by decide +kernel
theorem dX11_review_8 : decode cX11_review 8 = .ok (.ireturn, 1) := by decide +kernel
/-! SealLineModel.review(IIZ)I -/
theorem eX11_review {d mc ms : Nat} {w : qW} {Q : Option Value → qW → Prop} {q : Nat} {x0 : Int32} {x1 : Int32} {x2 : Int32} (h : AW (mX11_review, d, mc, ms, none, Q) 0 [some (.ref q), some (.int x0), some (.int x1), some (.int x2)] [] w 0 0) : CT mX11_review d mc ms [.ref q, .int x0, .int x1, .int x2] w Q := CT_of (by decide +kernel) rfl (Nat.le_of_ble_eq_true rfl) h
def bX11_review_0 (G : Nat × Nat × Nat × Option (Nat × (Nat → Int32)) × (Option Value → qW → Prop)) : qK := (s_aload 0 (s_iconst 3 (s_iload 1 (s_iload 2 (s_iload 3 (AW (mX11_review, G) 5))))))
theorem oX11_review_0 (G : Nat × Nat × Nat × Option (Nat × (Nat → Int32)) × (Option Value → qW → Prop)) : qImp (bX11_review_0 G) (AW (mX11_review, G) 0) := (r_aload_n dX11_review_0 rfl (r_iconst dX11_review_1 rfl (r_iload_n dX11_review_2 rfl (r_iload_n dX11_review_3 rfl (r_iload_n dX11_review_4 rfl qImp.rf)))))
def bX11_review_8 (G : Nat × Nat × Nat × Option (Nat × (Nat → Int32)) × (Option Value → qW → Prop)) : qK := (s_ireturn (mX11_review, G))
theorem oX11_review_8 (G : Nat × Nat × Nat × Option (Nat × (Nat → Int32)) × (Option Value → qW → Prop)) : qImp (bX11_review_8 G) (AW (mX11_review, G) 8) := (r_ireturn dX11_review_8 rfl)
theorem kX11_review_5 {G : Nat × Nat × Nat × Option (Nat × (Nat → Int32)) × (Option Value → qW → Prop)} {L : qL} {w : qW} {kc ks : Nat} {rest : List Value} {q : Nat} {x0 : Int32} {x1 : Int32} {x2 : Int32} {x3 : Int32} {d mc ms : Nat} {Q : Option Value → qW → Prop} (hC : CT mX11_says d mc ms [.ref q, .int x0, .int x1, .int x2, .int x3] w Q) (hq : qci w q = some 11) (hst : rest.length ≤ 4) (hdp : d + 1 ≤ G.1) (hmc : kc + mc ≤ G.2.1 ∧ ks + ms ≤ G.2.2.1) (k : ∀ r w', Q r w' → AW (mX11_review, G) 8 L (r.toList ++ rest) w' (kc + mc) (ks + ms)) : AW (mX11_review, G) 5 L (.int x3 :: .int x2 :: .int x1 :: .int x0 :: .ref q :: rest) w kc ks := a_callV [.int x0, .int x1, .int x2, .int x3] rest dX11_review_5 vX11_says lk1080 hC hq rfl rfl hst hdp hmc k
theorem dX11_allClean_0 : decode cX11_allClean 0 = .ok (.iconst 0, 1) := by decide +kernel
theorem dX11_allClean_1 : decode cX11_allClean 1 = .ok (.istore_n 2, 1) := by decide +kernel
theorem dX11_allClean_2 : decode cX11_allClean 2 = .ok (.iload_n 2, 1) := by decide +kernel
theorem dX11_allClean_3 : decode cX11_allClean 3 = .ok (.iconst 3, 1) := by decide +kernel
theorem dX11_allClean_4 : decode cX11_allClean 4 = .ok (.if_icmp .ge 32, 3) := by decide +kernel
theorem dX11_allClean_7 : decode cX11_allClean 7 = .ok (.aload_n 0, 1) := by decide +kernel
theorem dX11_allClean_8 : decode cX11_allClean 8 = .ok (.iload_n 1, 1) := by decide +kernel
theorem dX11_allClean_9 : decode cX11_allClean 9 = .ok (.iload_n 2, 1) := by decide +kernel
theorem dX11_allClean_10 : decode cX11_allClean 10 = .ok (.invokevirtual 122, 3) := by decide +kernel
theorem dX11_allClean_13 : decode cX11_allClean 13 = .ok (.istore_n 3, 1) := by decide +kernel
theorem dX11_allClean_14 : decode cX11_allClean 14 = .ok (.iload_n 3, 1) := by decide +kernel
theorem dX11_allClean_15 : decode cX11_allClean 15 = .ok (.iconst (-1), 1) := by decide +kernel
theorem dX11_allClean_16 : decode cX11_allClean 16 = .ok (.if_icmp .eq 14, 3) := by decide +kernel
theorem dX11_allClean_19 : decode cX11_allClean 19 = .ok (.aload_n 0, 1) := by decide +kernel
theorem dX11_allClean_20 : decode cX11_allClean 20 = .ok (.getfield 78, 3) := by decide +kernel
theorem dX11_allClean_23 : decode cX11_allClean 23 = .ok (.iload_n 3, 1) := by decide +kernel
theorem dX11_allClean_24 : decode cX11_allClean 24 = .ok (.baload, 1) := by decide +kernel
theorem dX11_allClean_25 : decode cX11_allClean 25 = .ok (.ifCond .ne 5, 3) := by decide +kernel
theorem dX11_allClean_28 : decode cX11_allClean 28 = .ok (.iconst 0, 1) := by decide +kernel
theorem dX11_allClean_29 : decode cX11_allClean 29 = .ok (.ireturn, 1) := by decide +kernel
theorem dX11_allClean_30 : decode cX11_allClean 30 = .ok (.iinc 2 1, 3) := by decide +kernel
theorem dX11_allClean_33 : decode cX11_allClean 33 = .ok (.goto (-31), 3) := by decide +kernel
theorem dX11_allClean_36 : decode cX11_allClean 36 = .ok (.iconst 1, 1) := by decide +kernel
theorem dX11_allClean_37 : decode cX11_allClean 37 = .ok (.ireturn, 1) := by decide +kernel
/-! SealLineModel.allClean(I)Z -/
theorem eX11_allClean {d mc ms : Nat} {w : qW} {Q : Option Value → qW → Prop} {q : Nat} {x0 : Int32} (h : AW (mX11_allClean, d, mc, ms, none, Q) 0 [some (.ref q), some (.int x0), none, none] [] w 0 0) : CT mX11_allClean d mc ms [.ref q, .int x0] w Q := CT_of (by decide +kernel) rfl (Nat.le_of_ble_eq_true rfl) h
def bX11_allClean_0 (G : Nat × Nat × Nat × Option (Nat × (Nat → Int32)) × (Option Value → qW → Prop)) : qK := (s_iconst 0 (s_istore 2 1 (AW (mX11_allClean, G) 2)))
theorem oX11_allClean_0 (G : Nat × Nat × Nat × Option (Nat × (Nat → Int32)) × (Option Value → qW → Prop)) : qImp (bX11_allClean_0 G) (AW (mX11_allClean, G) 0) := (r_iconst dX11_allClean_0 rfl (r_istore_n dX11_allClean_1 rfl (Or.inr rfl) (Nat.le_of_ble_eq_true rfl) qImp.rf))
def bX11_allClean_2 (G : Nat × Nat × Nat × Option (Nat × (Nat → Int32)) × (Option Value → qW → Prop)) : qK := (s_iload 2 (s_iconst 3 (s_ic_ge (AW (mX11_allClean, G) 36) (s_aload 0 (s_iload 1 (s_iload 2 (AW (mX11_allClean, G) 10)))))))
theorem oX11_allClean_2 (G : Nat × Nat × Nat × Option (Nat × (Nat → Int32)) × (Option Value → qW → Prop)) : qImp (bX11_allClean_2 G) (AW (mX11_allClean, G) 2) := (r_iload_n dX11_allClean_2 rfl (r_iconst dX11_allClean_3 rfl (r_ic_ge (tgt := 36) dX11_allClean_4 rfl qImp.rf (r_aload_n dX11_allClean_7 rfl (r_iload_n dX11_allClean_8 rfl (r_iload_n dX11_allClean_9 rfl qImp.rf))))))
def bX11_allClean_13 (G : Nat × Nat × Nat × Option (Nat × (Nat → Int32)) × (Option Value → qW → Prop)) : qK := (s_istore 3 2 (s_iload 3 (s_iconst (-1) (s_ic_eq (AW (mX11_allClean, G) 30) (s_aload 0 (s_getfield 11 28 (s_iload 3 (s_baload (s_if_ne (AW (mX11_allClean, G) 30) (s_iconst 0 (s_zreturn (mX11_allClean, G))))))))))))
theorem oX11_allClean_13 (G : Nat × Nat × Nat × Option (Nat × (Nat → Int32)) × (Option Value → qW → Prop)) : qImp (bX11_allClean_13 G) (AW (mX11_allClean, G) 13) := (r_istore_n dX11_allClean_13 rfl (Or.inr rfl) (Nat.le_of_ble_eq_true rfl) (r_iload_n dX11_allClean_14 rfl (r_iconst dX11_allClean_15 rfl (r_ic_eq (tgt := 30) dX11_allClean_16 rfl qImp.rf (r_aload_n dX11_allClean_19 rfl (r_getfield dX11_allClean_20 fgX11_78 (r_iload_n dX11_allClean_23 rfl (r_baload dX11_allClean_24 (r_if_ne (tgt := 30) dX11_allClean_25 rfl qImp.rf (r_iconst dX11_allClean_28 rfl (r_zreturn dX11_allClean_29 rfl)))))))))))
def bX11_allClean_30 (G : Nat × Nat × Nat × Option (Nat × (Nat → Int32)) × (Option Value → qW → Prop)) : qK := (s_iinc 2 1 1 (AW (mX11_allClean, G) 2))
theorem oX11_allClean_30 (G : Nat × Nat × Nat × Option (Nat × (Nat → Int32)) × (Option Value → qW → Prop)) : qImp (bX11_allClean_30 G) (AW (mX11_allClean, G) 30) := (r_iinc dX11_allClean_30 rfl (Or.inr rfl) (Nat.le_of_ble_eq_true rfl) (r_goto (tgt := 2) dX11_allClean_33 rfl qImp.rf))
def bX11_allClean_36 (G : Nat × Nat × Nat × Option (Nat × (Nat → Int32)) × (Option Value → qW → Prop)) : qK := (s_iconst 1 (s_zreturn (mX11_allClean, G)))
theorem oX11_allClean_36 (G : Nat × Nat × Nat × Option (Nat × (Nat → Int32)) × (Option Value → qW → Prop)) : qImp (bX11_allClean_36 G) (AW (mX11_allClean, G) 36) := (r_iconst dX11_allClean_36 rfl (r_zreturn dX11_allClean_37 rfl))
theorem kX11_allClean_10 {G : Nat × Nat × Nat × Option (Nat × (Nat → Int32)) × (Option Value → qW → Prop)} {L : qL} {w : qW} {kc ks : Nat} {rest : List Value} {q : Nat} {x0 : Int32} {x1 : Int32} {d mc ms : Nat} {Q : Option Value → qW → Prop} (hC : CT mX11_went d mc ms [.ref q, .int x0, .int x1] w Q) (hq : qci w q = some 11) (hst : rest.length ≤ 4) (hdp : d + 1 ≤ G.1) (hmc : kc + mc ≤ G.2.1 ∧ ks + ms ≤ G.2.2.1) (k : ∀ r w', Q r w' → AW (mX11_allClean, G) 13 L (r.toList ++ rest) w' (kc + mc) (ks + ms)) : AW (mX11_allClean, G) 10 L (.int x1 :: .int x0 :: .ref q :: rest) w kc ks := a_callV [.int x0, .int x1] rest dX11_allClean_10 vX11_went lk1072 hC hq rfl rfl hst hdp hmc k
theorem dX11_findClean_0 : decode cX11_findClean 0 = .ok (.iconst 0, 1) := by decide +kernel
theorem dX11_findClean_1 : decode cX11_findClean 1 = .ok (.istore_n 1, 1) := by decide +kernel
theorem dX11_findClean_2 : decode cX11_findClean 2 = .ok (.iload_n 1, 1) := by decide +kernel
theorem dX11_findClean_3 : decode cX11_findClean 3 = .ok (.bipush 100, 2) := by decide +kernel
theorem dX11_findClean_5 : decode cX11_findClean 5 = .ok (.if_icmp .ge 16, 3) := by decide +kernel
theorem dX11_findClean_8 : decode cX11_findClean 8 = .ok (.aload_n 0, 1) := by decide +kernel
theorem dX11_findClean_9 : decode cX11_findClean 9 = .ok (.getfield 78, 3) := by decide +kernel
theorem dX11_findClean_12 : decode cX11_findClean 12 = .ok (.iload_n 1, 1) := by decide +kernel
theorem dX11_findClean_13 : decode cX11_findClean 13 = .ok (.iconst 0, 1) := by decide +kernel
theorem dX11_findClean_14 : decode cX11_findClean 14 = .ok (.bastore, 1) := by decide +kernel
theorem dX11_findClean_15 : decode cX11_findClean 15 = .ok (.iinc 1 1, 3) := by decide +kernel
theorem dX11_findClean_18 : decode cX11_findClean 18 = .ok (.goto (-16), 3) := by decide +kernel
theorem dX11_findClean_21 : decode cX11_findClean 21 = .ok (.iconst 1, 1) := by decide +kernel
theorem dX11_findClean_22 : decode cX11_findClean 22 = .ok (.istore_n 1, 1) := by decide +kernel
theorem dX11_findClean_23 : decode cX11_findClean 23 = .ok (.iload_n 1, 1) := by decide +kernel
theorem dX11_findClean_24 : decode cX11_findClean 24 = .ok (.ifCond .eq 99, 3) := by decide +kernel
theorem dX11_findClean_27 : decode cX11_findClean 27 = .ok (.iconst 0, 1) := by decide +kernel
theorem dX11_findClean_28 : decode cX11_findClean 28 = .ok (.istore_n 1, 1) := by decide +kernel
theorem dX11_findClean_29 : decode cX11_findClean 29 = .ok (.iconst 0, 1) := by decide +kernel
theorem dX11_findClean_30 : decode cX11_findClean 30 = .ok (.istore_n 2, 1) := by decide +kernel
theorem dX11_findClean_31 : decode cX11_findClean 31 = .ok (.iload_n 2, 1) := by decide +kernel
theorem dX11_findClean_32 : decode cX11_findClean 32 = .ok (.aload_n 0, 1) := by decide +kernel
theorem dX11_findClean_33 : decode cX11_findClean 33 = .ok (.getfield 104, 3) := by decide +kernel
theorem dX11_findClean_36 : decode cX11_findClean 36 = .ok (.if_icmp .ge 84, 3) := by decide +kernel
theorem dX11_findClean_39 : decode cX11_findClean 39 = .ok (.aload_n 0, 1) := by decide +kernel
theorem dX11_findClean_40 : decode cX11_findClean 40 = .ok (.getfield 13, 3) := by decide +kernel
theorem dX11_findClean_43 : decode cX11_findClean 43 = .ok (.iload_n 2, 1) := by decide +kernel
theorem dX11_findClean_44 : decode cX11_findClean 44 = .ok (.iaload, 1) := by decide +kernel
theorem dX11_findClean_45 : decode cX11_findClean 45 = .ok (.ifCond .eq 31, 3) := by decide +kernel
theorem dX11_findClean_48 : decode cX11_findClean 48 = .ok (.aload_n 0, 1) := by decide +kernel
theorem dX11_findClean_49 : decode cX11_findClean 49 = .ok (.getfield 13, 3) := by decide +kernel
theorem dX11_findClean_52 : decode cX11_findClean 52 = .ok (.iload_n 2, 1) := by decide +kernel
theorem dX11_findClean_53 : decode cX11_findClean 53 = .ok (.iaload, 1) := by decide +kernel
theorem dX11_findClean_54 : decode cX11_findClean 54 = .ok (.iconst 1, 1) := by decide +kernel
theorem dX11_findClean_55 : decode cX11_findClean 55 = .ok (.if_icmp .ne 25, 3) := by decide +kernel
theorem dX11_findClean_58 : decode cX11_findClean 58 = .ok (.aload_n 0, 1) := by decide +kernel
theorem dX11_findClean_59 : decode cX11_findClean 59 = .ok (.getfield 38, 3) := by decide +kernel
theorem dX11_findClean_62 : decode cX11_findClean 62 = .ok (.iload_n 2, 1) := by decide +kernel
theorem dX11_findClean_63 : decode cX11_findClean 63 = .ok (.iaload, 1) := by decide +kernel
theorem dX11_findClean_64 : decode cX11_findClean 64 = .ok (.iconst 1, 1) := by decide +kernel
theorem dX11_findClean_65 : decode cX11_findClean 65 = .ok (.if_icmp .ne 15, 3) := by decide +kernel
theorem dX11_findClean_68 : decode cX11_findClean 68 = .ok (.aload_n 0, 1) := by decide +kernel
theorem dX11_findClean_69 : decode cX11_findClean 69 = .ok (.iload_n 2, 1) := by decide +kernel
theorem dX11_findClean_70 : decode cX11_findClean 70 = .ok (.invokevirtual 151, 3) := by decide +kernel
theorem dX11_findClean_73 : decode cX11_findClean 73 = .ok (.ifCond .eq 7, 3) := by decide +kernel
theorem dX11_findClean_76 : decode cX11_findClean 76 = .ok (.iconst 1, 1) := by decide +kernel
theorem dX11_findClean_77 : decode cX11_findClean 77 = .ok (.goto 4, 3) := by decide +kernel
theorem dX11_findClean_80 : decode cX11_findClean 80 = .ok (.iconst 0, 1) := by decide +kernel
theorem dX11_findClean_81 : decode cX11_findClean 81 = .ok (.istore_n 3, 1) := by decide +kernel
theorem dX11_findClean_82 : decode cX11_findClean 82 = .ok (.iload_n 3, 1) := by decide +kernel
theorem dX11_findClean_83 : decode cX11_findClean 83 = .ok (.ifCond .eq 31, 3) := by decide +kernel
theorem dX11_findClean_86 : decode cX11_findClean 86 = .ok (.aload_n 0, 1) := by decide +kernel
theorem dX11_findClean_87 : decode cX11_findClean 87 = .ok (.getfield 78, 3) := by decide +kernel
theorem dX11_findClean_90 : decode cX11_findClean 90 = .ok (.aload_n 0, 1) := by decide +kernel
theorem dX11_findClean_91 : decode cX11_findClean 91 = .ok (.getfield 17, 3) := by decide +kernel
theorem dX11_findClean_94 : decode cX11_findClean 94 = .ok (.iload_n 2, 1) := by decide +kernel
theorem dX11_findClean_95 : decode cX11_findClean 95 = .ok (.iaload, 1) := by decide +kernel
theorem dX11_findClean_96 : decode cX11_findClean 96 = .ok (.baload, 1) := by decide +kernel
theorem dX11_findClean_97 : decode cX11_findClean 97 = .ok (.ifCond .ne 17, 3) := by decide +kernel
theorem dX11_findClean_100 : decode cX11_findClean 100 = .ok (.aload_n 0, 1) := by decide +kernel
theorem dX11_findClean_101 : decode cX11_findClean 101 = .ok (.getfield 78, 3) := by decide +kernel
theorem dX11_findClean_104 : decode cX11_findClean 104 = .ok (.aload_n 0, 1) := by decide +kernel
theorem dX11_findClean_105 : decode cX11_findClean 105 = .ok (.getfield 17, 3) := by decide +kernel
theorem dX11_findClean_108 : decode cX11_findClean 108 = .ok (.iload_n 2, 1) := by decide +kernel
theorem dX11_findClean_109 : decode cX11_findClean 109 = .ok (.iaload, 1) := by decide +kernel
theorem dX11_findClean_110 : decode cX11_findClean 110 = .ok (.iconst 1, 1) := by decide +kernel
theorem dX11_findClean_111 : decode cX11_findClean 111 = .ok (.bastore, 1) := by decide +kernel
theorem dX11_findClean_112 : decode cX11_findClean 112 = .ok (.iconst 1, 1) := by decide +kernel
theorem dX11_findClean_113 : decode cX11_findClean 113 = .ok (.istore_n 1, 1) := by decide +kernel
theorem dX11_findClean_114 : decode cX11_findClean 114 = .ok (.iinc 2 1, 3) := by decide +kernel
theorem dX11_findClean_117 : decode cX11_findClean 117 = .ok (.goto (-86), 3) := by decide +kernel
theorem dX11_findClean_120 : decode cX11_findClean 120 = .ok (.goto (-97), 3) := by decide +kernel
theorem dX11_findClean_123 : decode cX11_findClean 123 = .ok (.return_, 1) := by decide +kernel
/-! SealLineModel.findClean()V -/
theorem eX11_findClean {d mc ms : Nat} {w : qW} {Q : Option Value → qW → Prop} {q : Nat} (h : AW (mX11_findClean, d, mc, ms, none, Q) 0 [some (.ref q), none, none, none] [] w 0 0) : CT mX11_findClean d mc ms [.ref q] w Q := CT_of (by decide +kernel) rfl (Nat.le_of_ble_eq_true rfl) h
def bX11_findClean_0 (G : Nat × Nat × Nat × Option (Nat × (Nat → Int32)) × (Option Value → qW → Prop)) : qK := (s_iconst 0 (s_istore 1 0 (AW (mX11_findClean, G) 2)))
theorem oX11_findClean_0 (G : Nat × Nat × Nat × Option (Nat × (Nat → Int32)) × (Option Value → qW → Prop)) : qImp (bX11_findClean_0 G) (AW (mX11_findClean, G) 0) := (r_iconst dX11_findClean_0 rfl (r_istore_n dX11_findClean_1 rfl (Or.inr rfl) (Nat.le_of_ble_eq_true rfl) qImp.rf))
def bX11_findClean_2 (G : Nat × Nat × Nat × Option (Nat × (Nat → Int32)) × (Option Value → qW → Prop)) : qK := (s_iload 1 (s_iconst 100 (s_ic_ge (AW (mX11_findClean, G) 21) (s_aload 0 (s_getfield 11 28 (s_iload 1 (s_iconst 0 (s_bastore (s_iinc 1 0 1 (AW (mX11_findClean, G) 2))))))))))
theorem oX11_findClean_2 (G : Nat × Nat × Nat × Option (Nat × (Nat → Int32)) × (Option Value → qW → Prop)) : qImp (bX11_findClean_2 G) (AW (mX11_findClean, G) 2) := (r_iload_n dX11_findClean_2 rfl (r_bipush dX11_findClean_3 rfl (r_ic_ge (tgt := 21) dX11_findClean_5 rfl qImp.rf (r_aload_n dX11_findClean_8 rfl (r_getfield dX11_findClean_9 fgX11_78 (r_iload_n dX11_findClean_12 rfl (r_iconst dX11_findClean_13 rfl (r_bastore dX11_findClean_14 (r_iinc dX11_findClean_15 rfl (Or.inr rfl) (Nat.le_of_ble_eq_true rfl) (r_goto (tgt := 2) dX11_findClean_18 rfl qImp.rf))))))))))
def bX11_findClean_21 (G : Nat × Nat × Nat × Option (Nat × (Nat → Int32)) × (Option Value → qW → Prop)) : qK := (s_iconst 1 (s_istore 1 0 (AW (mX11_findClean, G) 23)))
theorem oX11_findClean_21 (G : Nat × Nat × Nat × Option (Nat × (Nat → Int32)) × (Option Value → qW → Prop)) : qImp (bX11_findClean_21 G) (AW (mX11_findClean, G) 21) := (r_iconst dX11_findClean_21 rfl (r_istore_n dX11_findClean_22 rfl (Or.inr rfl) (Nat.le_of_ble_eq_true rfl) qImp.rf))
def bX11_findClean_23 (G : Nat × Nat × Nat × Option (Nat × (Nat → Int32)) × (Option Value → qW → Prop)) : qK := (s_iload 1 (s_if_eq (AW (mX11_findClean, G) 123) (s_iconst 0 (s_istore 1 0 (s_iconst 0 (s_istore 2 1 (AW (mX11_findClean, G) 31)))))))
theorem oX11_findClean_23 (G : Nat × Nat × Nat × Option (Nat × (Nat → Int32)) × (Option Value → qW → Prop)) : qImp (bX11_findClean_23 G) (AW (mX11_findClean, G) 23) := (r_iload_n dX11_findClean_23 rfl (r_if_eq (tgt := 123) dX11_findClean_24 rfl qImp.rf (r_iconst dX11_findClean_27 rfl (r_istore_n dX11_findClean_28 rfl (Or.inr rfl) (Nat.le_of_ble_eq_true rfl) (r_iconst dX11_findClean_29 rfl (r_istore_n dX11_findClean_30 rfl (Or.inr rfl) (Nat.le_of_ble_eq_true rfl) qImp.rf))))))
def bX11_findClean_31 (G : Nat × Nat × Nat × Option (Nat × (Nat → Int32)) × (Option Value → qW → Prop)) : qK := (s_iload 2 (s_aload 0 (s_getfield 11 0 (s_ic_ge (AW (mX11_findClean, G) 120) (s_aload 0 (s_getfield 11 7 (s_iload 2 (s_iaload (mX11_findClean, G) (s_if_eq (AW (mX11_findClean, G) 76) (s_aload 0 (s_getfield 11 7 (s_iload 2 (s_iaload (mX11_findClean, G) (s_iconst 1 (s_ic_ne (AW (mX11_findClean, G) 80) (s_aload 0 (s_getfield 11 15 (s_iload 2 (s_iaload (mX11_findClean, G) (s_iconst 1 (s_ic_ne (AW (mX11_findClean, G) 80) (s_aload 0 (s_iload 2 (AW (mX11_findClean, G) 70))))))))))))))))))))))))
theorem oX11_findClean_31 (G : Nat × Nat × Nat × Option (Nat × (Nat → Int32)) × (Option Value → qW → Prop)) : qImp (bX11_findClean_31 G) (AW (mX11_findClean, G) 31) := (r_iload_n dX11_findClean_31 rfl (r_aload_n dX11_findClean_32 rfl (r_getfield dX11_findClean_33 fgX11_104 (r_ic_ge (tgt := 120) dX11_findClean_36 rfl qImp.rf (r_aload_n dX11_findClean_39 rfl (r_getfield dX11_findClean_40 fgX11_13 (r_iload_n dX11_findClean_43 rfl (r_iaload dX11_findClean_44 (r_if_eq (tgt := 76) dX11_findClean_45 rfl qImp.rf (r_aload_n dX11_findClean_48 rfl (r_getfield dX11_findClean_49 fgX11_13 (r_iload_n dX11_findClean_52 rfl (r_iaload dX11_findClean_53 (r_iconst dX11_findClean_54 rfl (r_ic_ne (tgt := 80) dX11_findClean_55 rfl qImp.rf (r_aload_n dX11_findClean_58 rfl (r_getfield dX11_findClean_59 fgX11_38 (r_iload_n dX11_findClean_62 rfl (r_iaload dX11_findClean_63 (r_iconst dX11_findClean_64 rfl (r_ic_ne (tgt := 80) dX11_findClean_65 rfl qImp.rf (r_aload_n dX11_findClean_68 rfl (r_iload_n dX11_findClean_69 rfl qImp.rf)))))))))))))))))))))))
def bX11_findClean_73 (G : Nat × Nat × Nat × Option (Nat × (Nat → Int32)) × (Option Value → qW → Prop)) : qK := (s_if_eq (AW (mX11_findClean, G) 80) (AW (mX11_findClean, G) 76))
theorem oX11_findClean_73 (G : Nat × Nat × Nat × Option (Nat × (Nat → Int32)) × (Option Value → qW → Prop)) : qImp (bX11_findClean_73 G) (AW (mX11_findClean, G) 73) := (r_if_eq (tgt := 80) dX11_findClean_73 rfl qImp.rf qImp.rf)
def bX11_findClean_76 (G : Nat × Nat × Nat × Option (Nat × (Nat → Int32)) × (Option Value → qW → Prop)) : qK := (s_iconst 1 (AW (mX11_findClean, G) 81))
theorem oX11_findClean_76 (G : Nat × Nat × Nat × Option (Nat × (Nat → Int32)) × (Option Value → qW → Prop)) : qImp (bX11_findClean_76 G) (AW (mX11_findClean, G) 76) := (r_iconst dX11_findClean_76 rfl (r_goto (tgt := 81) dX11_findClean_77 rfl qImp.rf))
def bX11_findClean_80 (G : Nat × Nat × Nat × Option (Nat × (Nat → Int32)) × (Option Value → qW → Prop)) : qK := (s_iconst 0 (AW (mX11_findClean, G) 81))
theorem oX11_findClean_80 (G : Nat × Nat × Nat × Option (Nat × (Nat → Int32)) × (Option Value → qW → Prop)) : qImp (bX11_findClean_80 G) (AW (mX11_findClean, G) 80) := (r_iconst dX11_findClean_80 rfl qImp.rf)
def bX11_findClean_81 (G : Nat × Nat × Nat × Option (Nat × (Nat → Int32)) × (Option Value → qW → Prop)) : qK := (s_istore 3 2 (s_iload 3 (s_if_eq (AW (mX11_findClean, G) 114) (s_aload 0 (s_getfield 11 28 (s_aload 0 (s_getfield 11 8 (s_iload 2 (s_iaload (mX11_findClean, G) (s_baload (s_if_ne (AW (mX11_findClean, G) 114) (s_aload 0 (s_getfield 11 28 (s_aload 0 (s_getfield 11 8 (s_iload 2 (s_iaload (mX11_findClean, G) (s_iconst 1 (s_bastore (s_iconst 1 (s_istore 1 0 (AW (mX11_findClean, G) 114))))))))))))))))))))))
theorem oX11_findClean_81 (G : Nat × Nat × Nat × Option (Nat × (Nat → Int32)) × (Option Value → qW → Prop)) : qImp (bX11_findClean_81 G) (AW (mX11_findClean, G) 81) := (r_istore_n dX11_findClean_81 rfl (Or.inr rfl) (Nat.le_of_ble_eq_true rfl) (r_iload_n dX11_findClean_82 rfl (r_if_eq (tgt := 114) dX11_findClean_83 rfl qImp.rf (r_aload_n dX11_findClean_86 rfl (r_getfield dX11_findClean_87 fgX11_78 (r_aload_n dX11_findClean_90 rfl (r_getfield dX11_findClean_91 fgX11_17 (r_iload_n dX11_findClean_94 rfl (r_iaload dX11_findClean_95 (r_baload dX11_findClean_96 (r_if_ne (tgt := 114) dX11_findClean_97 rfl qImp.rf (r_aload_n dX11_findClean_100 rfl (r_getfield dX11_findClean_101 fgX11_78 (r_aload_n dX11_findClean_104 rfl (r_getfield dX11_findClean_105 fgX11_17 (r_iload_n dX11_findClean_108 rfl (r_iaload dX11_findClean_109 (r_iconst dX11_findClean_110 rfl (r_bastore dX11_findClean_111 (r_iconst dX11_findClean_112 rfl (r_istore_n dX11_findClean_113 rfl (Or.inr rfl) (Nat.le_of_ble_eq_true rfl) qImp.rf)))))))))))))))))))))
def bX11_findClean_114 (G : Nat × Nat × Nat × Option (Nat × (Nat → Int32)) × (Option Value → qW → Prop)) : qK := (s_iinc 2 1 1 (AW (mX11_findClean, G) 31))
theorem oX11_findClean_114 (G : Nat × Nat × Nat × Option (Nat × (Nat → Int32)) × (Option Value → qW → Prop)) : qImp (bX11_findClean_114 G) (AW (mX11_findClean, G) 114) := (r_iinc dX11_findClean_114 rfl (Or.inr rfl) (Nat.le_of_ble_eq_true rfl) (r_goto (tgt := 31) dX11_findClean_117 rfl qImp.rf))
def bX11_findClean_120 (G : Nat × Nat × Nat × Option (Nat × (Nat → Int32)) × (Option Value → qW → Prop)) : qK := (AW (mX11_findClean, G) 23)
theorem oX11_findClean_120 (G : Nat × Nat × Nat × Option (Nat × (Nat → Int32)) × (Option Value → qW → Prop)) : qImp (bX11_findClean_120 G) (AW (mX11_findClean, G) 120) := (r_goto (tgt := 23) dX11_findClean_120 rfl qImp.rf)
def bX11_findClean_123 (G : Nat × Nat × Nat × Option (Nat × (Nat → Int32)) × (Option Value → qW → Prop)) : qK := (s_vreturn (mX11_findClean, G))
theorem oX11_findClean_123 (G : Nat × Nat × Nat × Option (Nat × (Nat → Int32)) × (Option Value → qW → Prop)) : qImp (bX11_findClean_123 G) (AW (mX11_findClean, G) 123) := (r_vreturn dX11_findClean_123 rfl)
theorem kX11_findClean_70 {G : Nat × Nat × Nat × Option (Nat × (Nat → Int32)) × (Option Value → qW → Prop)} {L : qL} {w : qW} {kc ks : Nat} {rest : List Value} {q : Nat} {x0 : Int32} {d mc ms : Nat} {Q : Option Value → qW → Prop} (hC : CT mX11_allClean d mc ms [.ref q, .int x0] w Q) (hq : qci w q = some 11) (hst : rest.length ≤ 4) (hdp : d + 1 ≤ G.1) (hmc : kc + mc ≤ G.2.1 ∧ ks + ms ≤ G.2.2.1) (k : ∀ r w', Q r w' → AW (mX11_findClean, G) 73 L (r.toList ++ rest) w' (kc + mc) (ks + ms)) : AW (mX11_findClean, G) 70 L (.int x0 :: .ref q :: rest) w kc ks := a_callV [.int x0] rest dX11_findClean_70 vX11_allClean lk1160 hC hq rfl rfl hst hdp hmc k
theorem dX11_isClean_0 : decode cX11_isClean 0 = .ok (.aload_n 0, 1) := by decide +kernel
theorem dX11_isClean_1 : decode cX11_isClean 1 = .ok (.invokevirtual 154, 3) := by decide +kernel
theorem dX11_isClean_4 : decode cX11_isClean 4 = .ok (.aload_n 0, 1) := by decide +kernel
theorem dX11_isClean_5 : decode cX11_isClean 5 = .ok (.getfield 78, 3) := by decide +kernel
theorem dX11_isClean_8 : decode cX11_isClean 8 = .ok (.iload_n 1, 1) := by decide +kernel
theorem dX11_isClean_9 : decode cX11_isClean 9 = .ok (.baload, 1) := by decide +kernel
theorem dX11_isClean_10 : decode cX11_isClean 10 = .ok (.ireturn, 1) := by decide +kernel
/-! SealLineModel.isClean(I)Z -/
theorem eX11_isClean {d mc ms : Nat} {w : qW} {Q : Option Value → qW → Prop} {q : Nat} {x0 : Int32} (h : AW (mX11_isClean, d, mc, ms, none, Q) 0 [some (.ref q), some (.int x0)] [] w 0 0) : CT mX11_isClean d mc ms [.ref q, .int x0] w Q := CT_of (by decide +kernel) rfl (Nat.le_of_ble_eq_true rfl) h
def bX11_isClean_0 (G : Nat × Nat × Nat × Option (Nat × (Nat → Int32)) × (Option Value → qW → Prop)) : qK := (s_aload 0 (AW (mX11_isClean, G) 1))
theorem oX11_isClean_0 (G : Nat × Nat × Nat × Option (Nat × (Nat → Int32)) × (Option Value → qW → Prop)) : qImp (bX11_isClean_0 G) (AW (mX11_isClean, G) 0) := (r_aload_n dX11_isClean_0 rfl qImp.rf)
def bX11_isClean_4 (G : Nat × Nat × Nat × Option (Nat × (Nat → Int32)) × (Option Value → qW → Prop)) : qK := (s_aload 0 (s_getfield 11 28 (s_iload 1 (s_baload (s_zreturn (mX11_isClean, G))))))
theorem oX11_isClean_4 (G : Nat × Nat × Nat × Option (Nat × (Nat → Int32)) × (Option Value → qW → Prop)) : qImp (bX11_isClean_4 G) (AW (mX11_isClean, G) 4) := (r_aload_n dX11_isClean_4 rfl (r_getfield dX11_isClean_5 fgX11_78 (r_iload_n dX11_isClean_8 rfl (r_baload dX11_isClean_9 (r_zreturn dX11_isClean_10 rfl)))))
theorem kX11_isClean_1 {G : Nat × Nat × Nat × Option (Nat × (Nat → Int32)) × (Option Value → qW → Prop)} {L : qL} {w : qW} {kc ks : Nat} {rest : List Value} {q : Nat}  {d mc ms : Nat} {Q : Option Value → qW → Prop} (hC : CT mX11_findClean d mc ms [.ref q] w Q) (hq : qci w q = some 11) (hst : rest.length ≤ 4) (hdp : d + 1 ≤ G.1) (hmc : kc + mc ≤ G.2.1 ∧ ks + ms ≤ G.2.2.1) (k : ∀ r w', Q r w' → AW (mX11_isClean, G) 4 L (r.toList ++ rest) w' (kc + mc) (ks + ms)) : AW (mX11_isClean, G) 1 L (.ref q :: rest) w kc ks := a_callV [] rest dX11_isClean_1 vX11_findClean lk1156 hC hq rfl rfl hst hdp hmc k
theorem dX11_makersOf_0 : decode cX11_makersOf 0 = .ok (.aload_n 0, 1) := by decide +kernel
theorem dX11_makersOf_1 : decode cX11_makersOf 1 = .ok (.iload_n 1, 1) := by decide +kernel
theorem dX11_makersOf_2 : decode cX11_makersOf 2 = .ok (.invokevirtual 144, 3) := by decide +kernel
theorem dX11_makersOf_5 : decode cX11_makersOf 5 = .ok (.iconst 0, 1) := by decide +kernel
theorem dX11_makersOf_6 : decode cX11_makersOf 6 = .ok (.istore_n 2, 1) := by decide +kernel
theorem dX11_makersOf_7 : decode cX11_makersOf 7 = .ok (.iconst 0, 1) := by decide +kernel
theorem dX11_makersOf_8 : decode cX11_makersOf 8 = .ok (.istore_n 3, 1) := by decide +kernel
theorem dX11_makersOf_9 : decode cX11_makersOf 9 = .ok (.iload_n 3, 1) := by decide +kernel
theorem dX11_makersOf_10 : decode cX11_makersOf 10 = .ok (.aload_n 0, 1) := by decide +kernel
theorem dX11_makersOf_11 : decode cX11_makersOf 11 = .ok (.getfield 104, 3) := by decide +kernel
theorem dX11_makersOf_14 : decode cX11_makersOf 14 = .ok (.if_icmp .ge 44, 3) := by decide +kernel
theorem dX11_makersOf_17 : decode cX11_makersOf 17 = .ok (.aload_n 0, 1) := by decide +kernel
theorem dX11_makersOf_18 : decode cX11_makersOf 18 = .ok (.getfield 13, 3) := by decide +kernel
theorem dX11_makersOf_21 : decode cX11_makersOf 21 = .ok (.iload_n 3, 1) := by decide +kernel
theorem dX11_makersOf_22 : decode cX11_makersOf 22 = .ok (.iaload, 1) := by decide +kernel
theorem dX11_makersOf_23 : decode cX11_makersOf 23 = .ok (.iconst 2, 1) := by decide +kernel
theorem dX11_makersOf_24 : decode cX11_makersOf 24 = .ok (.if_icmp .ge 28, 3) := by decide +kernel
theorem dX11_makersOf_27 : decode cX11_makersOf 27 = .ok (.aload_n 0, 1) := by decide +kernel
theorem dX11_makersOf_28 : decode cX11_makersOf 28 = .ok (.getfield 72, 3) := by decide +kernel
theorem dX11_makersOf_31 : decode cX11_makersOf 31 = .ok (.aload_n 0, 1) := by decide +kernel
theorem dX11_makersOf_32 : decode cX11_makersOf 32 = .ok (.getfield 17, 3) := by decide +kernel
theorem dX11_makersOf_35 : decode cX11_makersOf 35 = .ok (.iload_n 3, 1) := by decide +kernel
theorem dX11_makersOf_36 : decode cX11_makersOf 36 = .ok (.iaload, 1) := by decide +kernel
theorem dX11_makersOf_37 : decode cX11_makersOf 37 = .ok (.baload, 1) := by decide +kernel
theorem dX11_makersOf_38 : decode cX11_makersOf 38 = .ok (.ifCond .eq 14, 3) := by decide +kernel
theorem dX11_makersOf_41 : decode cX11_makersOf 41 = .ok (.iload_n 2, 1) := by decide +kernel
theorem dX11_makersOf_42 : decode cX11_makersOf 42 = .ok (.iconst 1, 1) := by decide +kernel
theorem dX11_makersOf_43 : decode cX11_makersOf 43 = .ok (.aload_n 0, 1) := by decide +kernel
theorem dX11_makersOf_44 : decode cX11_makersOf 44 = .ok (.getfield 20, 3) := by decide +kernel
theorem dX11_makersOf_47 : decode cX11_makersOf 47 = .ok (.iload_n 3, 1) := by decide +kernel
theorem dX11_makersOf_48 : decode cX11_makersOf 48 = .ok (.iaload, 1) := by decide +kernel
theorem dX11_makersOf_49 : decode cX11_makersOf 49 = .ok (.ishl, 1) := by decide +kernel
theorem dX11_makersOf_50 : decode cX11_makersOf 50 = .ok (.ior, 1) := by decide +kernel
theorem dX11_makersOf_51 : decode cX11_makersOf 51 = .ok (.istore_n 2, 1) := by decide +kernel
theorem dX11_makersOf_52 : decode cX11_makersOf 52 = .ok (.iinc 3 1, 3) := by decide +kernel
theorem dX11_makersOf_55 : decode cX11_makersOf 55 = .ok (.goto (-46), 3) := by decide +kernel
theorem dX11_makersOf_58 : decode cX11_makersOf 58 = .ok (.iload_n 2, 1) := by decide +kernel
theorem dX11_makersOf_59 : decode cX11_makersOf 59 = .ok (.ireturn, 1) := by decide +kernel
/-! SealLineModel.makersOf(I)I -/
theorem eX11_makersOf {d mc ms : Nat} {w : qW} {Q : Option Value → qW → Prop} {q : Nat} {x0 : Int32} (h : AW (mX11_makersOf, d, mc, ms, none, Q) 0 [some (.ref q), some (.int x0), none, none] [] w 0 0) : CT mX11_makersOf d mc ms [.ref q, .int x0] w Q := CT_of (by decide +kernel) rfl (Nat.le_of_ble_eq_true rfl) h
def bX11_makersOf_0 (G : Nat × Nat × Nat × Option (Nat × (Nat → Int32)) × (Option Value → qW → Prop)) : qK := (s_aload 0 (s_iload 1 (AW (mX11_makersOf, G) 2)))
theorem oX11_makersOf_0 (G : Nat × Nat × Nat × Option (Nat × (Nat → Int32)) × (Option Value → qW → Prop)) : qImp (bX11_makersOf_0 G) (AW (mX11_makersOf, G) 0) := (r_aload_n dX11_makersOf_0 rfl (r_iload_n dX11_makersOf_1 rfl qImp.rf))
def bX11_makersOf_5 (G : Nat × Nat × Nat × Option (Nat × (Nat → Int32)) × (Option Value → qW → Prop)) : qK := (s_iconst 0 (s_istore 2 1 (s_iconst 0 (s_istore 3 2 (AW (mX11_makersOf, G) 9)))))
theorem oX11_makersOf_5 (G : Nat × Nat × Nat × Option (Nat × (Nat → Int32)) × (Option Value → qW → Prop)) : qImp (bX11_makersOf_5 G) (AW (mX11_makersOf, G) 5) := (r_iconst dX11_makersOf_5 rfl (r_istore_n dX11_makersOf_6 rfl (Or.inr rfl) (Nat.le_of_ble_eq_true rfl) (r_iconst dX11_makersOf_7 rfl (r_istore_n dX11_makersOf_8 rfl (Or.inr rfl) (Nat.le_of_ble_eq_true rfl) qImp.rf))))
def bX11_makersOf_9 (G : Nat × Nat × Nat × Option (Nat × (Nat → Int32)) × (Option Value → qW → Prop)) : qK := (s_iload 3 (s_aload 0 (s_getfield 11 0 (s_ic_ge (AW (mX11_makersOf, G) 58) (s_aload 0 (s_getfield 11 7 (s_iload 3 (s_iaload (mX11_makersOf, G) (s_iconst 2 (s_ic_ge (AW (mX11_makersOf, G) 52) (s_aload 0 (s_getfield 11 26 (s_aload 0 (s_getfield 11 8 (s_iload 3 (s_iaload (mX11_makersOf, G) (s_baload (s_if_eq (AW (mX11_makersOf, G) 52) (s_iload 2 (s_iconst 1 (s_aload 0 (s_getfield 11 9 (s_iload 3 (s_iaload (mX11_makersOf, G) (s_ishl (s_ior (s_istore 2 1 (AW (mX11_makersOf, G) 52))))))))))))))))))))))))))))
theorem oX11_makersOf_9 (G : Nat × Nat × Nat × Option (Nat × (Nat → Int32)) × (Option Value → qW → Prop)) : qImp (bX11_makersOf_9 G) (AW (mX11_makersOf, G) 9) := (r_iload_n dX11_makersOf_9 rfl (r_aload_n dX11_makersOf_10 rfl (r_getfield dX11_makersOf_11 fgX11_104 (r_ic_ge (tgt := 58) dX11_makersOf_14 rfl qImp.rf (r_aload_n dX11_makersOf_17 rfl (r_getfield dX11_makersOf_18 fgX11_13 (r_iload_n dX11_makersOf_21 rfl (r_iaload dX11_makersOf_22 (r_iconst dX11_makersOf_23 rfl (r_ic_ge (tgt := 52) dX11_makersOf_24 rfl qImp.rf (r_aload_n dX11_makersOf_27 rfl (r_getfield dX11_makersOf_28 fgX11_72 (r_aload_n dX11_makersOf_31 rfl (r_getfield dX11_makersOf_32 fgX11_17 (r_iload_n dX11_makersOf_35 rfl (r_iaload dX11_makersOf_36 (r_baload dX11_makersOf_37 (r_if_eq (tgt := 52) dX11_makersOf_38 rfl qImp.rf (r_iload_n dX11_makersOf_41 rfl (r_iconst dX11_makersOf_42 rfl (r_aload_n dX11_makersOf_43 rfl (r_getfield dX11_makersOf_44 fgX11_20 (r_iload_n dX11_makersOf_47 rfl (r_iaload dX11_makersOf_48 (r_ishl dX11_makersOf_49 (r_ior dX11_makersOf_50 (r_istore_n dX11_makersOf_51 rfl (Or.inr rfl) (Nat.le_of_ble_eq_true rfl) qImp.rf)))))))))))))))))))))))))))
def bX11_makersOf_52 (G : Nat × Nat × Nat × Option (Nat × (Nat → Int32)) × (Option Value → qW → Prop)) : qK := (s_iinc 3 2 1 (AW (mX11_makersOf, G) 9))
theorem oX11_makersOf_52 (G : Nat × Nat × Nat × Option (Nat × (Nat → Int32)) × (Option Value → qW → Prop)) : qImp (bX11_makersOf_52 G) (AW (mX11_makersOf, G) 52) := (r_iinc dX11_makersOf_52 rfl (Or.inr rfl) (Nat.le_of_ble_eq_true rfl) (r_goto (tgt := 9) dX11_makersOf_55 rfl qImp.rf))
def bX11_makersOf_58 (G : Nat × Nat × Nat × Option (Nat × (Nat → Int32)) × (Option Value → qW → Prop)) : qK := (s_iload 2 (s_ireturn (mX11_makersOf, G)))
theorem oX11_makersOf_58 (G : Nat × Nat × Nat × Option (Nat × (Nat → Int32)) × (Option Value → qW → Prop)) : qImp (bX11_makersOf_58 G) (AW (mX11_makersOf, G) 58) := (r_iload_n dX11_makersOf_58 rfl (r_ireturn dX11_makersOf_59 rfl))
theorem kX11_makersOf_2 {G : Nat × Nat × Nat × Option (Nat × (Nat → Int32)) × (Option Value → qW → Prop)} {L : qL} {w : qW} {kc ks : Nat} {rest : List Value} {q : Nat} {x0 : Int32} {d mc ms : Nat} {Q : Option Value → qW → Prop} (hC : CT mX11_rowOf d mc ms [.ref q, .int x0] w Q) (hq : qci w q = some 11) (hst : rest.length ≤ 4) (hdp : d + 1 ≤ G.1) (hmc : kc + mc ≤ G.2.1 ∧ ks + ms ≤ G.2.2.1) (k : ∀ r w', Q r w' → AW (mX11_makersOf, G) 5 L (r.toList ++ rest) w' (kc + mc) (ks + ms)) : AW (mX11_makersOf, G) 2 L (.int x0 :: .ref q :: rest) w kc ks := a_callV [.int x0] rest dX11_makersOf_2 vX11_rowOf lk1064 hC hq rfl rfl hst hdp hmc k
theorem dX11_isCalledNote_0 : decode cX11_isCalledNote 0 = .ok (.iconst 0, 1) := by decide +kernel
theorem dX11_isCalledNote_1 : decode cX11_isCalledNote 1 = .ok (.istore_n 2, 1) := by decide +kernel
theorem dX11_isCalledNote_2 : decode cX11_isCalledNote 2 = .ok (.iload_n 2, 1) := by decide +kernel
theorem dX11_isCalledNote_3 : decode cX11_isCalledNote 3 = .ok (.aload_n 0, 1) := by decide +kernel
theorem dX11_isCalledNote_4 : decode cX11_isCalledNote 4 = .ok (.getfield 157, 3) := by decide +kernel
theorem dX11_isCalledNote_7 : decode cX11_isCalledNote 7 = .ok (.if_icmp .ge 109, 3) := by decide +kernel
theorem dX11_isCalledNote_10 : decode cX11_isCalledNote 10 = .ok (.aload_n 0, 1) := by decide +kernel
theorem dX11_isCalledNote_11 : decode cX11_isCalledNote 11 = .ok (.getfield 63, 3) := by decide +kernel
theorem dX11_isCalledNote_14 : decode cX11_isCalledNote 14 = .ok (.iload_n 2, 1) := by decide +kernel
theorem dX11_isCalledNote_15 : decode cX11_isCalledNote 15 = .ok (.iaload, 1) := by decide +kernel
theorem dX11_isCalledNote_16 : decode cX11_isCalledNote 16 = .ok (.iconst 1, 1) := by decide +kernel
theorem dX11_isCalledNote_17 : decode cX11_isCalledNote 17 = .ok (.if_icmp .ne 36, 3) := by decide +kernel
theorem dX11_isCalledNote_20 : decode cX11_isCalledNote 20 = .ok (.aload_n 0, 1) := by decide +kernel
theorem dX11_isCalledNote_21 : decode cX11_isCalledNote 21 = .ok (.getfield 13, 3) := by decide +kernel
theorem dX11_isCalledNote_24 : decode cX11_isCalledNote 24 = .ok (.iload_n 1, 1) := by decide +kernel
theorem dX11_isCalledNote_25 : decode cX11_isCalledNote 25 = .ok (.iaload, 1) := by decide +kernel
theorem dX11_isCalledNote_26 : decode cX11_isCalledNote 26 = .ok (.iconst 1, 1) := by decide +kernel
theorem dX11_isCalledNote_27 : decode cX11_isCalledNote 27 = .ok (.if_icmp .ne 22, 3) := by decide +kernel
theorem dX11_isCalledNote_30 : decode cX11_isCalledNote 30 = .ok (.aload_n 0, 1) := by decide +kernel
theorem dX11_isCalledNote_31 : decode cX11_isCalledNote 31 = .ok (.getfield 26, 3) := by decide +kernel
theorem dX11_isCalledNote_34 : decode cX11_isCalledNote 34 = .ok (.iload_n 1, 1) := by decide +kernel
theorem dX11_isCalledNote_35 : decode cX11_isCalledNote 35 = .ok (.iaload, 1) := by decide +kernel
theorem dX11_isCalledNote_36 : decode cX11_isCalledNote 36 = .ok (.aload_n 0, 1) := by decide +kernel
theorem dX11_isCalledNote_37 : decode cX11_isCalledNote 37 = .ok (.getfield 66, 3) := by decide +kernel
theorem dX11_isCalledNote_40 : decode cX11_isCalledNote 40 = .ok (.iload_n 2, 1) := by decide +kernel
theorem dX11_isCalledNote_41 : decode cX11_isCalledNote 41 = .ok (.iaload, 1) := by decide +kernel
theorem dX11_isCalledNote_42 : decode cX11_isCalledNote 42 = .ok (.if_icmp .ne 7, 3) := by decide +kernel
theorem dX11_isCalledNote_45 : decode cX11_isCalledNote 45 = .ok (.iconst 1, 1) := by decide +kernel
theorem dX11_isCalledNote_46 : decode cX11_isCalledNote 46 = .ok (.goto 47, 3) := by decide +kernel
theorem dX11_isCalledNote_49 : decode cX11_isCalledNote 49 = .ok (.iconst 0, 1) := by decide +kernel
theorem dX11_isCalledNote_50 : decode cX11_isCalledNote 50 = .ok (.goto 43, 3) := by decide +kernel
theorem dX11_isCalledNote_53 : decode cX11_isCalledNote 53 = .ok (.aload_n 0, 1) := by decide +kernel
theorem dX11_isCalledNote_54 : decode cX11_isCalledNote 54 = .ok (.getfield 63, 3) := by decide +kernel
theorem dX11_isCalledNote_57 : decode cX11_isCalledNote 57 = .ok (.iload_n 2, 1) := by decide +kernel
theorem dX11_isCalledNote_58 : decode cX11_isCalledNote 58 = .ok (.iaload, 1) := by decide +kernel
theorem dX11_isCalledNote_59 : decode cX11_isCalledNote 59 = .ok (.iconst 2, 1) := by decide +kernel
theorem dX11_isCalledNote_60 : decode cX11_isCalledNote 60 = .ok (.if_icmp .ne 32, 3) := by decide +kernel
theorem dX11_isCalledNote_63 : decode cX11_isCalledNote 63 = .ok (.aload_n 0, 1) := by decide +kernel
theorem dX11_isCalledNote_64 : decode cX11_isCalledNote 64 = .ok (.getfield 13, 3) := by decide +kernel
theorem dX11_isCalledNote_67 : decode cX11_isCalledNote 67 = .ok (.iload_n 1, 1) := by decide +kernel
theorem dX11_isCalledNote_68 : decode cX11_isCalledNote 68 = .ok (.iaload, 1) := by decide +kernel
theorem dX11_isCalledNote_69 : decode cX11_isCalledNote 69 = .ok (.iconst 2, 1) := by decide +kernel
theorem dX11_isCalledNote_70 : decode cX11_isCalledNote 70 = .ok (.if_icmp .ge 22, 3) := by decide +kernel
theorem dX11_isCalledNote_73 : decode cX11_isCalledNote 73 = .ok (.aload_n 0, 1) := by decide +kernel
theorem dX11_isCalledNote_74 : decode cX11_isCalledNote 74 = .ok (.getfield 20, 3) := by decide +kernel
theorem dX11_isCalledNote_77 : decode cX11_isCalledNote 77 = .ok (.iload_n 1, 1) := by decide +kernel
theorem dX11_isCalledNote_78 : decode cX11_isCalledNote 78 = .ok (.iaload, 1) := by decide +kernel
theorem dX11_isCalledNote_79 : decode cX11_isCalledNote 79 = .ok (.aload_n 0, 1) := by decide +kernel
theorem dX11_isCalledNote_80 : decode cX11_isCalledNote 80 = .ok (.getfield 66, 3) := by decide +kernel
theorem dX11_isCalledNote_83 : decode cX11_isCalledNote 83 = .ok (.iload_n 2, 1) := by decide +kernel
theorem dX11_isCalledNote_84 : decode cX11_isCalledNote 84 = .ok (.iaload, 1) := by decide +kernel
theorem dX11_isCalledNote_85 : decode cX11_isCalledNote 85 = .ok (.if_icmp .ne 7, 3) := by decide +kernel
theorem dX11_isCalledNote_88 : decode cX11_isCalledNote 88 = .ok (.iconst 1, 1) := by decide +kernel
theorem dX11_isCalledNote_89 : decode cX11_isCalledNote 89 = .ok (.goto 4, 3) := by decide +kernel
theorem dX11_isCalledNote_92 : decode cX11_isCalledNote 92 = .ok (.iconst 0, 1) := by decide +kernel
theorem dX11_isCalledNote_93 : decode cX11_isCalledNote 93 = .ok (.istore_n 3, 1) := by decide +kernel
theorem dX11_isCalledNote_94 : decode cX11_isCalledNote 94 = .ok (.iload_n 3, 1) := by decide +kernel
theorem dX11_isCalledNote_95 : decode cX11_isCalledNote 95 = .ok (.ifCond .eq 15, 3) := by decide +kernel
theorem dX11_isCalledNote_98 : decode cX11_isCalledNote 98 = .ok (.iload_n 1, 1) := by decide +kernel
theorem dX11_isCalledNote_99 : decode cX11_isCalledNote 99 = .ok (.aload_n 0, 1) := by decide +kernel
theorem dX11_isCalledNote_100 : decode cX11_isCalledNote 100 = .ok (.getfield 69, 3) := by decide +kernel
theorem dX11_isCalledNote_103 : decode cX11_isCalledNote 103 = .ok (.iload_n 2, 1) := by decide +kernel
theorem dX11_isCalledNote_104 : decode cX11_isCalledNote 104 = .ok (.iaload, 1) := by decide +kernel
theorem dX11_isCalledNote_105 : decode cX11_isCalledNote 105 = .ok (.if_icmp .lt 5, 3) := by decide +kernel
theorem dX11_isCalledNote_108 : decode cX11_isCalledNote 108 = .ok (.iconst 1, 1) := by decide +kernel
theorem dX11_isCalledNote_109 : decode cX11_isCalledNote 109 = .ok (.ireturn, 1) := by decide +kernel
theorem dX11_isCalledNote_110 : decode cX11_isCalledNote 110 = .ok (.iinc 2 1, 3) := by decide +kernel
theorem dX11_isCalledNote_113 : decode cX11_isCalledNote 113 = .ok (.goto (-111), 3) := by decide +kernel
theorem dX11_isCalledNote_116 : decode cX11_isCalledNote 116 = .ok (.iconst 0, 1) := by decide +kernel
theorem dX11_isCalledNote_117 : decode cX11_isCalledNote 117 = .ok (.ireturn, 1) := by decide +kernel
/-! SealLineModel.isCalledNote(I)Z -/
theorem eX11_isCalledNote {d mc ms : Nat} {w : qW} {Q : Option Value → qW → Prop} {q : Nat} {x0 : Int32} (h : AW (mX11_isCalledNote, d, mc, ms, none, Q) 0 [some (.ref q), some (.int x0), none, none] [] w 0 0) : CT mX11_isCalledNote d mc ms [.ref q, .int x0] w Q := CT_of (by decide +kernel) rfl (Nat.le_of_ble_eq_true rfl) h
def bX11_isCalledNote_0 (G : Nat × Nat × Nat × Option (Nat × (Nat → Int32)) × (Option Value → qW → Prop)) : qK := (s_iconst 0 (s_istore 2 1 (AW (mX11_isCalledNote, G) 2)))
theorem oX11_isCalledNote_0 (G : Nat × Nat × Nat × Option (Nat × (Nat → Int32)) × (Option Value → qW → Prop)) : qImp (bX11_isCalledNote_0 G) (AW (mX11_isCalledNote, G) 0) := (r_iconst dX11_isCalledNote_0 rfl (r_istore_n dX11_isCalledNote_1 rfl (Or.inr rfl) (Nat.le_of_ble_eq_true rfl) qImp.rf))
def bX11_isCalledNote_2 (G : Nat × Nat × Nat × Option (Nat × (Nat → Int32)) × (Option Value → qW → Prop)) : qK := (s_iload 2 (s_aload 0 (s_getfield 11 3 (s_ic_ge (AW (mX11_isCalledNote, G) 116) (s_aload 0 (s_getfield 11 23 (s_iload 2 (s_iaload (mX11_isCalledNote, G) (s_iconst 1 (s_ic_ne (AW (mX11_isCalledNote, G) 53) (s_aload 0 (s_getfield 11 7 (s_iload 1 (s_iaload (mX11_isCalledNote, G) (s_iconst 1 (s_ic_ne (AW (mX11_isCalledNote, G) 49) (s_aload 0 (s_getfield 11 11 (s_iload 1 (s_iaload (mX11_isCalledNote, G) (s_aload 0 (s_getfield 11 24 (s_iload 2 (s_iaload (mX11_isCalledNote, G) (s_ic_ne (AW (mX11_isCalledNote, G) 49) (s_iconst 1 (AW (mX11_isCalledNote, G) 93)))))))))))))))))))))))))))
theorem oX11_isCalledNote_2 (G : Nat × Nat × Nat × Option (Nat × (Nat → Int32)) × (Option Value → qW → Prop)) : qImp (bX11_isCalledNote_2 G) (AW (mX11_isCalledNote, G) 2) := (r_iload_n dX11_isCalledNote_2 rfl (r_aload_n dX11_isCalledNote_3 rfl (r_getfield dX11_isCalledNote_4 fgX11_157 (r_ic_ge (tgt := 116) dX11_isCalledNote_7 rfl qImp.rf (r_aload_n dX11_isCalledNote_10 rfl (r_getfield dX11_isCalledNote_11 fgX11_63 (r_iload_n dX11_isCalledNote_14 rfl (r_iaload dX11_isCalledNote_15 (r_iconst dX11_isCalledNote_16 rfl (r_ic_ne (tgt := 53) dX11_isCalledNote_17 rfl qImp.rf (r_aload_n dX11_isCalledNote_20 rfl (r_getfield dX11_isCalledNote_21 fgX11_13 (r_iload_n dX11_isCalledNote_24 rfl (r_iaload dX11_isCalledNote_25 (r_iconst dX11_isCalledNote_26 rfl (r_ic_ne (tgt := 49) dX11_isCalledNote_27 rfl qImp.rf (r_aload_n dX11_isCalledNote_30 rfl (r_getfield dX11_isCalledNote_31 fgX11_26 (r_iload_n dX11_isCalledNote_34 rfl (r_iaload dX11_isCalledNote_35 (r_aload_n dX11_isCalledNote_36 rfl (r_getfield dX11_isCalledNote_37 fgX11_66 (r_iload_n dX11_isCalledNote_40 rfl (r_iaload dX11_isCalledNote_41 (r_ic_ne (tgt := 49) dX11_isCalledNote_42 rfl qImp.rf (r_iconst dX11_isCalledNote_45 rfl (r_goto (tgt := 93) dX11_isCalledNote_46 rfl qImp.rf)))))))))))))))))))))))))))
def bX11_isCalledNote_49 (G : Nat × Nat × Nat × Option (Nat × (Nat → Int32)) × (Option Value → qW → Prop)) : qK := (s_iconst 0 (AW (mX11_isCalledNote, G) 93))
theorem oX11_isCalledNote_49 (G : Nat × Nat × Nat × Option (Nat × (Nat → Int32)) × (Option Value → qW → Prop)) : qImp (bX11_isCalledNote_49 G) (AW (mX11_isCalledNote, G) 49) := (r_iconst dX11_isCalledNote_49 rfl (r_goto (tgt := 93) dX11_isCalledNote_50 rfl qImp.rf))
def bX11_isCalledNote_53 (G : Nat × Nat × Nat × Option (Nat × (Nat → Int32)) × (Option Value → qW → Prop)) : qK := (s_aload 0 (s_getfield 11 23 (s_iload 2 (s_iaload (mX11_isCalledNote, G) (s_iconst 2 (s_ic_ne (AW (mX11_isCalledNote, G) 92) (s_aload 0 (s_getfield 11 7 (s_iload 1 (s_iaload (mX11_isCalledNote, G) (s_iconst 2 (s_ic_ge (AW (mX11_isCalledNote, G) 92) (s_aload 0 (s_getfield 11 9 (s_iload 1 (s_iaload (mX11_isCalledNote, G) (s_aload 0 (s_getfield 11 24 (s_iload 2 (s_iaload (mX11_isCalledNote, G) (s_ic_ne (AW (mX11_isCalledNote, G) 92) (s_iconst 1 (AW (mX11_isCalledNote, G) 93)))))))))))))))))))))))
theorem oX11_isCalledNote_53 (G : Nat × Nat × Nat × Option (Nat × (Nat → Int32)) × (Option Value → qW → Prop)) : qImp (bX11_isCalledNote_53 G) (AW (mX11_isCalledNote, G) 53) := (r_aload_n dX11_isCalledNote_53 rfl (r_getfield dX11_isCalledNote_54 fgX11_63 (r_iload_n dX11_isCalledNote_57 rfl (r_iaload dX11_isCalledNote_58 (r_iconst dX11_isCalledNote_59 rfl (r_ic_ne (tgt := 92) dX11_isCalledNote_60 rfl qImp.rf (r_aload_n dX11_isCalledNote_63 rfl (r_getfield dX11_isCalledNote_64 fgX11_13 (r_iload_n dX11_isCalledNote_67 rfl (r_iaload dX11_isCalledNote_68 (r_iconst dX11_isCalledNote_69 rfl (r_ic_ge (tgt := 92) dX11_isCalledNote_70 rfl qImp.rf (r_aload_n dX11_isCalledNote_73 rfl (r_getfield dX11_isCalledNote_74 fgX11_20 (r_iload_n dX11_isCalledNote_77 rfl (r_iaload dX11_isCalledNote_78 (r_aload_n dX11_isCalledNote_79 rfl (r_getfield dX11_isCalledNote_80 fgX11_66 (r_iload_n dX11_isCalledNote_83 rfl (r_iaload dX11_isCalledNote_84 (r_ic_ne (tgt := 92) dX11_isCalledNote_85 rfl qImp.rf (r_iconst dX11_isCalledNote_88 rfl (r_goto (tgt := 93) dX11_isCalledNote_89 rfl qImp.rf)))))))))))))))))))))))
def bX11_isCalledNote_92 (G : Nat × Nat × Nat × Option (Nat × (Nat → Int32)) × (Option Value → qW → Prop)) : qK := (s_iconst 0 (AW (mX11_isCalledNote, G) 93))
theorem oX11_isCalledNote_92 (G : Nat × Nat × Nat × Option (Nat × (Nat → Int32)) × (Option Value → qW → Prop)) : qImp (bX11_isCalledNote_92 G) (AW (mX11_isCalledNote, G) 92) := (r_iconst dX11_isCalledNote_92 rfl qImp.rf)
def bX11_isCalledNote_93 (G : Nat × Nat × Nat × Option (Nat × (Nat → Int32)) × (Option Value → qW → Prop)) : qK := (s_istore 3 2 (s_iload 3 (s_if_eq (AW (mX11_isCalledNote, G) 110) (s_iload 1 (s_aload 0 (s_getfield 11 25 (s_iload 2 (s_iaload (mX11_isCalledNote, G) (s_ic_lt (AW (mX11_isCalledNote, G) 110) (s_iconst 1 (s_zreturn (mX11_isCalledNote, G))))))))))))
theorem oX11_isCalledNote_93 (G : Nat × Nat × Nat × Option (Nat × (Nat → Int32)) × (Option Value → qW → Prop)) : qImp (bX11_isCalledNote_93 G) (AW (mX11_isCalledNote, G) 93) := (r_istore_n dX11_isCalledNote_93 rfl (Or.inr rfl) (Nat.le_of_ble_eq_true rfl) (r_iload_n dX11_isCalledNote_94 rfl (r_if_eq (tgt := 110) dX11_isCalledNote_95 rfl qImp.rf (r_iload_n dX11_isCalledNote_98 rfl (r_aload_n dX11_isCalledNote_99 rfl (r_getfield dX11_isCalledNote_100 fgX11_69 (r_iload_n dX11_isCalledNote_103 rfl (r_iaload dX11_isCalledNote_104 (r_ic_lt (tgt := 110) dX11_isCalledNote_105 rfl qImp.rf (r_iconst dX11_isCalledNote_108 rfl (r_zreturn dX11_isCalledNote_109 rfl)))))))))))
def bX11_isCalledNote_110 (G : Nat × Nat × Nat × Option (Nat × (Nat → Int32)) × (Option Value → qW → Prop)) : qK := (s_iinc 2 1 1 (AW (mX11_isCalledNote, G) 2))
theorem oX11_isCalledNote_110 (G : Nat × Nat × Nat × Option (Nat × (Nat → Int32)) × (Option Value → qW → Prop)) : qImp (bX11_isCalledNote_110 G) (AW (mX11_isCalledNote, G) 110) := (r_iinc dX11_isCalledNote_110 rfl (Or.inr rfl) (Nat.le_of_ble_eq_true rfl) (r_goto (tgt := 2) dX11_isCalledNote_113 rfl qImp.rf))
def bX11_isCalledNote_116 (G : Nat × Nat × Nat × Option (Nat × (Nat → Int32)) × (Option Value → qW → Prop)) : qK := (s_iconst 0 (s_zreturn (mX11_isCalledNote, G)))
theorem oX11_isCalledNote_116 (G : Nat × Nat × Nat × Option (Nat × (Nat → Int32)) × (Option Value → qW → Prop)) : qImp (bX11_isCalledNote_116 G) (AW (mX11_isCalledNote, G) 116) := (r_iconst dX11_isCalledNote_116 rfl (r_zreturn dX11_isCalledNote_117 rfl))
theorem dX11_isCalled_0 : decode cX11_isCalled 0 = .ok (.aload_n 0, 1) := by decide +kernel
theorem dX11_isCalled_1 : decode cX11_isCalled 1 = .ok (.iload_n 1, 1) := by decide +kernel
theorem dX11_isCalled_2 : decode cX11_isCalled 2 = .ok (.invokevirtual 144, 3) := by decide +kernel
theorem dX11_isCalled_5 : decode cX11_isCalled 5 = .ok (.iconst 0, 1) := by decide +kernel
theorem dX11_isCalled_6 : decode cX11_isCalled 6 = .ok (.istore_n 2, 1) := by decide +kernel
theorem dX11_isCalled_7 : decode cX11_isCalled 7 = .ok (.iload_n 2, 1) := by decide +kernel
theorem dX11_isCalled_8 : decode cX11_isCalled 8 = .ok (.aload_n 0, 1) := by decide +kernel
theorem dX11_isCalled_9 : decode cX11_isCalled 9 = .ok (.getfield 157, 3) := by decide +kernel
theorem dX11_isCalled_12 : decode cX11_isCalled 12 = .ok (.if_icmp .ge 34, 3) := by decide +kernel
theorem dX11_isCalled_15 : decode cX11_isCalled 15 = .ok (.aload_n 0, 1) := by decide +kernel
theorem dX11_isCalled_16 : decode cX11_isCalled 16 = .ok (.getfield 63, 3) := by decide +kernel
theorem dX11_isCalled_19 : decode cX11_isCalled 19 = .ok (.iload_n 2, 1) := by decide +kernel
theorem dX11_isCalled_20 : decode cX11_isCalled 20 = .ok (.iaload, 1) := by decide +kernel
theorem dX11_isCalled_21 : decode cX11_isCalled 21 = .ok (.ifCond .ne 19, 3) := by decide +kernel
theorem dX11_isCalled_24 : decode cX11_isCalled 24 = .ok (.aload_n 0, 1) := by decide +kernel
theorem dX11_isCalled_25 : decode cX11_isCalled 25 = .ok (.getfield 72, 3) := by decide +kernel
theorem dX11_isCalled_28 : decode cX11_isCalled 28 = .ok (.aload_n 0, 1) := by decide +kernel
theorem dX11_isCalled_29 : decode cX11_isCalled 29 = .ok (.getfield 66, 3) := by decide +kernel
theorem dX11_isCalled_32 : decode cX11_isCalled 32 = .ok (.iload_n 2, 1) := by decide +kernel
theorem dX11_isCalled_33 : decode cX11_isCalled 33 = .ok (.iaload, 1) := by decide +kernel
theorem dX11_isCalled_34 : decode cX11_isCalled 34 = .ok (.baload, 1) := by decide +kernel
theorem dX11_isCalled_35 : decode cX11_isCalled 35 = .ok (.ifCond .eq 5, 3) := by decide +kernel
theorem dX11_isCalled_38 : decode cX11_isCalled 38 = .ok (.iconst 1, 1) := by decide +kernel
theorem dX11_isCalled_39 : decode cX11_isCalled 39 = .ok (.ireturn, 1) := by decide +kernel
theorem dX11_isCalled_40 : decode cX11_isCalled 40 = .ok (.iinc 2 1, 3) := by decide +kernel
theorem dX11_isCalled_43 : decode cX11_isCalled 43 = .ok (.goto (-36), 3) := by decide +kernel
theorem dX11_isCalled_46 : decode cX11_isCalled 46 = .ok (.iconst 0, 1) := by decide +kernel
theorem dX11_isCalled_47 : decode cX11_isCalled 47 = .ok (.istore_n 2, 1) := by decide +kernel
theorem dX11_isCalled_48 : decode cX11_isCalled 48 = .ok (.iload_n 2, 1) := by decide +kernel
theorem dX11_isCalled_49 : decode cX11_isCalled 49 = .ok (.aload_n 0, 1) := by decide +kernel
theorem dX11_isCalled_50 : decode cX11_isCalled 50 = .ok (.getfield 104, 3) := by decide +kernel
theorem dX11_isCalled_53 : decode cX11_isCalled 53 = .ok (.if_icmp .ge 43, 3) := by decide +kernel
theorem dX11_isCalled_56 : decode cX11_isCalled 56 = .ok (.aload_n 0, 1) := by decide +kernel
theorem dX11_isCalled_57 : decode cX11_isCalled 57 = .ok (.getfield 13, 3) := by decide +kernel
theorem dX11_isCalled_60 : decode cX11_isCalled 60 = .ok (.iload_n 2, 1) := by decide +kernel
theorem dX11_isCalled_61 : decode cX11_isCalled 61 = .ok (.iaload, 1) := by decide +kernel
theorem dX11_isCalled_62 : decode cX11_isCalled 62 = .ok (.iconst 2, 1) := by decide +kernel
theorem dX11_isCalled_63 : decode cX11_isCalled 63 = .ok (.if_icmp .ge 27, 3) := by decide +kernel
theorem dX11_isCalled_66 : decode cX11_isCalled 66 = .ok (.aload_n 0, 1) := by decide +kernel
theorem dX11_isCalled_67 : decode cX11_isCalled 67 = .ok (.getfield 72, 3) := by decide +kernel
theorem dX11_isCalled_70 : decode cX11_isCalled 70 = .ok (.aload_n 0, 1) := by decide +kernel
theorem dX11_isCalled_71 : decode cX11_isCalled 71 = .ok (.getfield 17, 3) := by decide +kernel
theorem dX11_isCalled_74 : decode cX11_isCalled 74 = .ok (.iload_n 2, 1) := by decide +kernel
theorem dX11_isCalled_75 : decode cX11_isCalled 75 = .ok (.iaload, 1) := by decide +kernel
theorem dX11_isCalled_76 : decode cX11_isCalled 76 = .ok (.baload, 1) := by decide +kernel
theorem dX11_isCalled_77 : decode cX11_isCalled 77 = .ok (.ifCond .eq 13, 3) := by decide +kernel
theorem dX11_isCalled_80 : decode cX11_isCalled 80 = .ok (.aload_n 0, 1) := by decide +kernel
theorem dX11_isCalled_81 : decode cX11_isCalled 81 = .ok (.iload_n 2, 1) := by decide +kernel
theorem dX11_isCalled_82 : decode cX11_isCalled 82 = .ok (.invokevirtual 160, 3) := by decide +kernel
theorem dX11_isCalled_85 : decode cX11_isCalled 85 = .ok (.ifCond .eq 5, 3) := by decide +kernel
theorem dX11_isCalled_88 : decode cX11_isCalled 88 = .ok (.iconst 1, 1) := by decide +kernel
theorem dX11_isCalled_89 : decode cX11_isCalled 89 = .ok (.ireturn, 1) := by decide +kernel
theorem dX11_isCalled_90 : decode cX11_isCalled 90 = .ok (.iinc 2 1, 3) := by decide +kernel
theorem dX11_isCalled_93 : decode cX11_isCalled 93 = .ok (.goto (-45), 3) := by decide +kernel
theorem dX11_isCalled_96 : decode cX11_isCalled 96 = .ok (.iconst 0, 1) := by decide +kernel
theorem dX11_isCalled_97 : decode cX11_isCalled 97 = .ok (.ireturn, 1) := by decide +kernel
/-! SealLineModel.isCalled(I)Z -/
theorem eX11_isCalled {d mc ms : Nat} {w : qW} {Q : Option Value → qW → Prop} {q : Nat} {x0 : Int32} (h : AW (mX11_isCalled, d, mc, ms, none, Q) 0 [some (.ref q), some (.int x0), none] [] w 0 0) : CT mX11_isCalled d mc ms [.ref q, .int x0] w Q := CT_of (by decide +kernel) rfl (Nat.le_of_ble_eq_true rfl) h
def bX11_isCalled_0 (G : Nat × Nat × Nat × Option (Nat × (Nat → Int32)) × (Option Value → qW → Prop)) : qK := (s_aload 0 (s_iload 1 (AW (mX11_isCalled, G) 2)))
theorem oX11_isCalled_0 (G : Nat × Nat × Nat × Option (Nat × (Nat → Int32)) × (Option Value → qW → Prop)) : qImp (bX11_isCalled_0 G) (AW (mX11_isCalled, G) 0) := (r_aload_n dX11_isCalled_0 rfl (r_iload_n dX11_isCalled_1 rfl qImp.rf))
def bX11_isCalled_5 (G : Nat × Nat × Nat × Option (Nat × (Nat → Int32)) × (Option Value → qW → Prop)) : qK := (s_iconst 0 (s_istore 2 1 (AW (mX11_isCalled, G) 7)))
theorem oX11_isCalled_5 (G : Nat × Nat × Nat × Option (Nat × (Nat → Int32)) × (Option Value → qW → Prop)) : qImp (bX11_isCalled_5 G) (AW (mX11_isCalled, G) 5) := (r_iconst dX11_isCalled_5 rfl (r_istore_n dX11_isCalled_6 rfl (Or.inr rfl) (Nat.le_of_ble_eq_true rfl) qImp.rf))
def bX11_isCalled_7 (G : Nat × Nat × Nat × Option (Nat × (Nat → Int32)) × (Option Value → qW → Prop)) : qK := (s_iload 2 (s_aload 0 (s_getfield 11 3 (s_ic_ge (AW (mX11_isCalled, G) 46) (s_aload 0 (s_getfield 11 23 (s_iload 2 (s_iaload (mX11_isCalled, G) (s_if_ne (AW (mX11_isCalled, G) 40) (s_aload 0 (s_getfield 11 26 (s_aload 0 (s_getfield 11 24 (s_iload 2 (s_iaload (mX11_isCalled, G) (s_baload (s_if_eq (AW (mX11_isCalled, G) 40) (s_iconst 1 (s_zreturn (mX11_isCalled, G))))))))))))))))))))
theorem oX11_isCalled_7 (G : Nat × Nat × Nat × Option (Nat × (Nat → Int32)) × (Option Value → qW → Prop)) : qImp (bX11_isCalled_7 G) (AW (mX11_isCalled, G) 7) := (r_iload_n dX11_isCalled_7 rfl (r_aload_n dX11_isCalled_8 rfl (r_getfield dX11_isCalled_9 fgX11_157 (r_ic_ge (tgt := 46) dX11_isCalled_12 rfl qImp.rf (r_aload_n dX11_isCalled_15 rfl (r_getfield dX11_isCalled_16 fgX11_63 (r_iload_n dX11_isCalled_19 rfl (r_iaload dX11_isCalled_20 (r_if_ne (tgt := 40) dX11_isCalled_21 rfl qImp.rf (r_aload_n dX11_isCalled_24 rfl (r_getfield dX11_isCalled_25 fgX11_72 (r_aload_n dX11_isCalled_28 rfl (r_getfield dX11_isCalled_29 fgX11_66 (r_iload_n dX11_isCalled_32 rfl (r_iaload dX11_isCalled_33 (r_baload dX11_isCalled_34 (r_if_eq (tgt := 40) dX11_isCalled_35 rfl qImp.rf (r_iconst dX11_isCalled_38 rfl (r_zreturn dX11_isCalled_39 rfl)))))))))))))))))))
def bX11_isCalled_40 (G : Nat × Nat × Nat × Option (Nat × (Nat → Int32)) × (Option Value → qW → Prop)) : qK := (s_iinc 2 1 1 (AW (mX11_isCalled, G) 7))
theorem oX11_isCalled_40 (G : Nat × Nat × Nat × Option (Nat × (Nat → Int32)) × (Option Value → qW → Prop)) : qImp (bX11_isCalled_40 G) (AW (mX11_isCalled, G) 40) := (r_iinc dX11_isCalled_40 rfl (Or.inr rfl) (Nat.le_of_ble_eq_true rfl) (r_goto (tgt := 7) dX11_isCalled_43 rfl qImp.rf))
def bX11_isCalled_46 (G : Nat × Nat × Nat × Option (Nat × (Nat → Int32)) × (Option Value → qW → Prop)) : qK := (s_iconst 0 (s_istore 2 1 (AW (mX11_isCalled, G) 48)))
theorem oX11_isCalled_46 (G : Nat × Nat × Nat × Option (Nat × (Nat → Int32)) × (Option Value → qW → Prop)) : qImp (bX11_isCalled_46 G) (AW (mX11_isCalled, G) 46) := (r_iconst dX11_isCalled_46 rfl (r_istore_n dX11_isCalled_47 rfl (Or.inr rfl) (Nat.le_of_ble_eq_true rfl) qImp.rf))
def bX11_isCalled_48 (G : Nat × Nat × Nat × Option (Nat × (Nat → Int32)) × (Option Value → qW → Prop)) : qK := (s_iload 2 (s_aload 0 (s_getfield 11 0 (s_ic_ge (AW (mX11_isCalled, G) 96) (s_aload 0 (s_getfield 11 7 (s_iload 2 (s_iaload (mX11_isCalled, G) (s_iconst 2 (s_ic_ge (AW (mX11_isCalled, G) 90) (s_aload 0 (s_getfield 11 26 (s_aload 0 (s_getfield 11 8 (s_iload 2 (s_iaload (mX11_isCalled, G) (s_baload (s_if_eq (AW (mX11_isCalled, G) 90) (s_aload 0 (s_iload 2 (AW (mX11_isCalled, G) 82)))))))))))))))))))))
theorem oX11_isCalled_48 (G : Nat × Nat × Nat × Option (Nat × (Nat → Int32)) × (Option Value → qW → Prop)) : qImp (bX11_isCalled_48 G) (AW (mX11_isCalled, G) 48) := (r_iload_n dX11_isCalled_48 rfl (r_aload_n dX11_isCalled_49 rfl (r_getfield dX11_isCalled_50 fgX11_104 (r_ic_ge (tgt := 96) dX11_isCalled_53 rfl qImp.rf (r_aload_n dX11_isCalled_56 rfl (r_getfield dX11_isCalled_57 fgX11_13 (r_iload_n dX11_isCalled_60 rfl (r_iaload dX11_isCalled_61 (r_iconst dX11_isCalled_62 rfl (r_ic_ge (tgt := 90) dX11_isCalled_63 rfl qImp.rf (r_aload_n dX11_isCalled_66 rfl (r_getfield dX11_isCalled_67 fgX11_72 (r_aload_n dX11_isCalled_70 rfl (r_getfield dX11_isCalled_71 fgX11_17 (r_iload_n dX11_isCalled_74 rfl (r_iaload dX11_isCalled_75 (r_baload dX11_isCalled_76 (r_if_eq (tgt := 90) dX11_isCalled_77 rfl qImp.rf (r_aload_n dX11_isCalled_80 rfl (r_iload_n dX11_isCalled_81 rfl qImp.rf))))))))))))))))))))
def bX11_isCalled_85 (G : Nat × Nat × Nat × Option (Nat × (Nat → Int32)) × (Option Value → qW → Prop)) : qK := (s_if_eq (AW (mX11_isCalled, G) 90) (s_iconst 1 (s_zreturn (mX11_isCalled, G))))
theorem oX11_isCalled_85 (G : Nat × Nat × Nat × Option (Nat × (Nat → Int32)) × (Option Value → qW → Prop)) : qImp (bX11_isCalled_85 G) (AW (mX11_isCalled, G) 85) := (r_if_eq (tgt := 90) dX11_isCalled_85 rfl qImp.rf (r_iconst dX11_isCalled_88 rfl (r_zreturn dX11_isCalled_89 rfl)))
def bX11_isCalled_90 (G : Nat × Nat × Nat × Option (Nat × (Nat → Int32)) × (Option Value → qW → Prop)) : qK := (s_iinc 2 1 1 (AW (mX11_isCalled, G) 48))
theorem oX11_isCalled_90 (G : Nat × Nat × Nat × Option (Nat × (Nat → Int32)) × (Option Value → qW → Prop)) : qImp (bX11_isCalled_90 G) (AW (mX11_isCalled, G) 90) := (r_iinc dX11_isCalled_90 rfl (Or.inr rfl) (Nat.le_of_ble_eq_true rfl) (r_goto (tgt := 48) dX11_isCalled_93 rfl qImp.rf))
def bX11_isCalled_96 (G : Nat × Nat × Nat × Option (Nat × (Nat → Int32)) × (Option Value → qW → Prop)) : qK := (s_iconst 0 (s_zreturn (mX11_isCalled, G)))
theorem oX11_isCalled_96 (G : Nat × Nat × Nat × Option (Nat × (Nat → Int32)) × (Option Value → qW → Prop)) : qImp (bX11_isCalled_96 G) (AW (mX11_isCalled, G) 96) := (r_iconst dX11_isCalled_96 rfl (r_zreturn dX11_isCalled_97 rfl))
theorem kX11_isCalled_2 {G : Nat × Nat × Nat × Option (Nat × (Nat → Int32)) × (Option Value → qW → Prop)} {L : qL} {w : qW} {kc ks : Nat} {rest : List Value} {q : Nat} {x0 : Int32} {d mc ms : Nat} {Q : Option Value → qW → Prop} (hC : CT mX11_rowOf d mc ms [.ref q, .int x0] w Q) (hq : qci w q = some 11) (hst : rest.length ≤ 4) (hdp : d + 1 ≤ G.1) (hmc : kc + mc ≤ G.2.1 ∧ ks + ms ≤ G.2.2.1) (k : ∀ r w', Q r w' → AW (mX11_isCalled, G) 5 L (r.toList ++ rest) w' (kc + mc) (ks + ms)) : AW (mX11_isCalled, G) 2 L (.int x0 :: .ref q :: rest) w kc ks := a_callV [.int x0] rest dX11_isCalled_2 vX11_rowOf lk1064 hC hq rfl rfl hst hdp hmc k
theorem kX11_isCalled_82 {G : Nat × Nat × Nat × Option (Nat × (Nat → Int32)) × (Option Value → qW → Prop)} {L : qL} {w : qW} {kc ks : Nat} {rest : List Value} {q : Nat} {x0 : Int32} {d mc ms : Nat} {Q : Option Value → qW → Prop} (hC : CT mX11_isCalledNote d mc ms [.ref q, .int x0] w Q) (hq : qci w q = some 11) (hst : rest.length ≤ 4) (hdp : d + 1 ≤ G.1) (hmc : kc + mc ≤ G.2.1 ∧ ks + ms ≤ G.2.2.1) (k : ∀ r w', Q r w' → AW (mX11_isCalled, G) 85 L (r.toList ++ rest) w' (kc + mc) (ks + ms)) : AW (mX11_isCalled, G) 82 L (.int x0 :: .ref q :: rest) w kc ks := a_callV [.int x0] rest dX11_isCalled_82 vX11_isCalledNote lk1181 hC hq rfl rfl hst hdp hmc k
theorem dX11_handsWith_0 : decode cX11_handsWith 0 = .ok (.iconst 0, 1) := by decide +kernel
theorem dX11_handsWith_1 : decode cX11_handsWith 1 = .ok (.istore 4, 2) := by decide +kernel
theorem dX11_handsWith_3 : decode cX11_handsWith 3 = .ok (.iconst 0, 1) := by decide +kernel
theorem dX11_handsWith_4 : decode cX11_handsWith 4 = .ok (.istore 5, 2) := by decide +kernel
theorem dX11_handsWith_6 : decode cX11_handsWith 6 = .ok (.iload 5, 2) := by decide +kernel
theorem dX11_handsWith_8 : decode cX11_handsWith 8 = .ok (.bipush 12, 2) := by decide +kernel
theorem dX11_handsWith_10 : decode cX11_handsWith 10 = .ok (.if_icmp .ge 109, 3) := by decide +kernel
theorem dX11_handsWith_13 : decode cX11_handsWith 13 = .ok (.iconst (-1), 1) := by decide +kernel
theorem dX11_handsWith_14 : decode cX11_handsWith 14 = .ok (.istore 6, 2) := by decide +kernel
theorem dX11_handsWith_16 : decode cX11_handsWith 16 = .ok (.iconst 0, 1) := by decide +kernel
theorem dX11_handsWith_17 : decode cX11_handsWith 17 = .ok (.istore 7, 2) := by decide +kernel
theorem dX11_handsWith_19 : decode cX11_handsWith 19 = .ok (.iload 7, 2) := by decide +kernel
theorem dX11_handsWith_21 : decode cX11_handsWith 21 = .ok (.aload_n 0, 1) := by decide +kernel
theorem dX11_handsWith_22 : decode cX11_handsWith 22 = .ok (.getfield 104, 3) := by decide +kernel
theorem dX11_handsWith_25 : decode cX11_handsWith 25 = .ok (.if_icmp .ge 52, 3) := by decide +kernel
theorem dX11_handsWith_28 : decode cX11_handsWith 28 = .ok (.aload_n 0, 1) := by decide +kernel
theorem dX11_handsWith_29 : decode cX11_handsWith 29 = .ok (.getfield 13, 3) := by decide +kernel
theorem dX11_handsWith_32 : decode cX11_handsWith 32 = .ok (.iload 7, 2) := by decide +kernel
theorem dX11_handsWith_34 : decode cX11_handsWith 34 = .ok (.iaload, 1) := by decide +kernel
theorem dX11_handsWith_35 : decode cX11_handsWith 35 = .ok (.iload_n 1, 1) := by decide +kernel
theorem dX11_handsWith_36 : decode cX11_handsWith 36 = .ok (.if_icmp .ne 31, 3) := by decide +kernel
theorem dX11_handsWith_39 : decode cX11_handsWith 39 = .ok (.aload_n 0, 1) := by decide +kernel
theorem dX11_handsWith_40 : decode cX11_handsWith 40 = .ok (.getfield 17, 3) := by decide +kernel
theorem dX11_handsWith_43 : decode cX11_handsWith 43 = .ok (.iload 7, 2) := by decide +kernel
theorem dX11_handsWith_45 : decode cX11_handsWith 45 = .ok (.iaload, 1) := by decide +kernel
theorem dX11_handsWith_46 : decode cX11_handsWith 46 = .ok (.iload_n 2, 1) := by decide +kernel
theorem dX11_handsWith_47 : decode cX11_handsWith 47 = .ok (.if_icmp .ne 20, 3) := by decide +kernel
theorem dX11_handsWith_50 : decode cX11_handsWith 50 = .ok (.aload_n 0, 1) := by decide +kernel
theorem dX11_handsWith_51 : decode cX11_handsWith 51 = .ok (.getfield 20, 3) := by decide +kernel
theorem dX11_handsWith_54 : decode cX11_handsWith 54 = .ok (.iload 7, 2) := by decide +kernel
theorem dX11_handsWith_56 : decode cX11_handsWith 56 = .ok (.iaload, 1) := by decide +kernel
theorem dX11_handsWith_57 : decode cX11_handsWith 57 = .ok (.iload 5, 2) := by decide +kernel
theorem dX11_handsWith_59 : decode cX11_handsWith 59 = .ok (.if_icmp .ne 8, 3) := by decide +kernel
theorem dX11_handsWith_62 : decode cX11_handsWith 62 = .ok (.iload 7, 2) := by decide +kernel
theorem dX11_handsWith_64 : decode cX11_handsWith 64 = .ok (.goto 5, 3) := by decide +kernel
theorem dX11_handsWith_67 : decode cX11_handsWith 67 = .ok (.iload 6, 2) := by decide +kernel
theorem dX11_handsWith_69 : decode cX11_handsWith 69 = .ok (.istore 6, 2) := by decide +kernel
theorem dX11_handsWith_71 : decode cX11_handsWith 71 = .ok (.iinc 7 1, 3) := by decide +kernel
theorem dX11_handsWith_74 : decode cX11_handsWith 74 = .ok (.goto (-55), 3) := by decide +kernel
theorem dX11_handsWith_77 : decode cX11_handsWith 77 = .ok (.iload 4, 2) := by decide +kernel
theorem dX11_handsWith_79 : decode cX11_handsWith 79 = .ok (.iload 6, 2) := by decide +kernel
theorem dX11_handsWith_81 : decode cX11_handsWith 81 = .ok (.iconst (-1), 1) := by decide +kernel
theorem dX11_handsWith_82 : decode cX11_handsWith 82 = .ok (.if_icmp .eq 27, 3) := by decide +kernel
theorem dX11_handsWith_85 : decode cX11_handsWith 85 = .ok (.aload_n 0, 1) := by decide +kernel
theorem dX11_handsWith_86 : decode cX11_handsWith 86 = .ok (.getfield 38, 3) := by decide +kernel
theorem dX11_handsWith_89 : decode cX11_handsWith 89 = .ok (.iload 6, 2) := by decide +kernel
theorem dX11_handsWith_91 : decode cX11_handsWith 91 = .ok (.iaload, 1) := by decide +kernel
theorem dX11_handsWith_92 : decode cX11_handsWith 92 = .ok (.iconst 1, 1) := by decide +kernel
theorem dX11_handsWith_93 : decode cX11_handsWith 93 = .ok (.if_icmp .ne 16, 3) := by decide +kernel
theorem dX11_handsWith_96 : decode cX11_handsWith 96 = .ok (.iload_n 3, 1) := by decide +kernel
theorem dX11_handsWith_97 : decode cX11_handsWith 97 = .ok (.iload 5, 2) := by decide +kernel
theorem dX11_handsWith_99 : decode cX11_handsWith 99 = .ok (.ishr, 1) := by decide +kernel
theorem dX11_handsWith_100 : decode cX11_handsWith 100 = .ok (.iconst 1, 1) := by decide +kernel
theorem dX11_handsWith_101 : decode cX11_handsWith 101 = .ok (.iand, 1) := by decide +kernel
theorem dX11_handsWith_102 : decode cX11_handsWith 102 = .ok (.ifCond .ne 7, 3) := by decide +kernel
theorem dX11_handsWith_105 : decode cX11_handsWith 105 = .ok (.iconst 1, 1) := by decide +kernel
theorem dX11_handsWith_106 : decode cX11_handsWith 106 = .ok (.goto 4, 3) := by decide +kernel
theorem dX11_handsWith_109 : decode cX11_handsWith 109 = .ok (.iconst 0, 1) := by decide +kernel
theorem dX11_handsWith_110 : decode cX11_handsWith 110 = .ok (.iadd, 1) := by decide +kernel
theorem dX11_handsWith_111 : decode cX11_handsWith 111 = .ok (.istore 4, 2) := by decide +kernel
theorem dX11_handsWith_113 : decode cX11_handsWith 113 = .ok (.iinc 5 1, 3) := by decide +kernel
theorem dX11_handsWith_116 : decode cX11_handsWith 116 = .ok (.goto (-110), 3) := by decide +kernel
theorem dX11_handsWith_119 : decode cX11_handsWith 119 = .ok (.iload 4, 2) := by decide +kernel
theorem dX11_handsWith_121 : decode cX11_handsWith 121 = .ok (.ireturn, 1) := by decide +kernel
/-! SealLineModel.handsWith(III)I -/
theorem eX11_handsWith {d mc ms : Nat} {w : qW} {Q : Option Value → qW → Prop} {q : Nat} {x0 : Int32} {x1 : Int32} {x2 : Int32} (h : AW (mX11_handsWith, d, mc, ms, none, Q) 0 [some (.ref q), some (.int x0), some (.int x1), some (.int x2), none, none, none, none] [] w 0 0) : CT mX11_handsWith d mc ms [.ref q, .int x0, .int x1, .int x2] w Q := CT_of (by decide +kernel) rfl (Nat.le_of_ble_eq_true rfl) h
def bX11_handsWith_0 (G : Nat × Nat × Nat × Option (Nat × (Nat → Int32)) × (Option Value → qW → Prop)) : qK := (s_iconst 0 (s_istore 4 3 (s_iconst 0 (s_istore 5 4 (AW (mX11_handsWith, G) 6)))))
theorem oX11_handsWith_0 (G : Nat × Nat × Nat × Option (Nat × (Nat → Int32)) × (Option Value → qW → Prop)) : qImp (bX11_handsWith_0 G) (AW (mX11_handsWith, G) 0) := (r_iconst dX11_handsWith_0 rfl (r_istore dX11_handsWith_1 (Or.inr rfl) (Nat.le_of_ble_eq_true rfl) (r_iconst dX11_handsWith_3 rfl (r_istore dX11_handsWith_4 (Or.inr rfl) (Nat.le_of_ble_eq_true rfl) qImp.rf))))
def bX11_handsWith_6 (G : Nat × Nat × Nat × Option (Nat × (Nat → Int32)) × (Option Value → qW → Prop)) : qK := (s_iload 5 (s_iconst 12 (s_ic_ge (AW (mX11_handsWith, G) 119) (s_iconst (-1) (s_istore 6 5 (s_iconst 0 (s_istore 7 6 (AW (mX11_handsWith, G) 19))))))))
theorem oX11_handsWith_6 (G : Nat × Nat × Nat × Option (Nat × (Nat → Int32)) × (Option Value → qW → Prop)) : qImp (bX11_handsWith_6 G) (AW (mX11_handsWith, G) 6) := (r_iload dX11_handsWith_6 (r_bipush dX11_handsWith_8 rfl (r_ic_ge (tgt := 119) dX11_handsWith_10 rfl qImp.rf (r_iconst dX11_handsWith_13 rfl (r_istore dX11_handsWith_14 (Or.inr rfl) (Nat.le_of_ble_eq_true rfl) (r_iconst dX11_handsWith_16 rfl (r_istore dX11_handsWith_17 (Or.inr rfl) (Nat.le_of_ble_eq_true rfl) qImp.rf)))))))
def bX11_handsWith_19 (G : Nat × Nat × Nat × Option (Nat × (Nat → Int32)) × (Option Value → qW → Prop)) : qK := (s_iload 7 (s_aload 0 (s_getfield 11 0 (s_ic_ge (AW (mX11_handsWith, G) 77) (s_aload 0 (s_getfield 11 7 (s_iload 7 (s_iaload (mX11_handsWith, G) (s_iload 1 (s_ic_ne (AW (mX11_handsWith, G) 67) (s_aload 0 (s_getfield 11 8 (s_iload 7 (s_iaload (mX11_handsWith, G) (s_iload 2 (s_ic_ne (AW (mX11_handsWith, G) 67) (s_aload 0 (s_getfield 11 9 (s_iload 7 (s_iaload (mX11_handsWith, G) (s_iload 5 (s_ic_ne (AW (mX11_handsWith, G) 67) (s_iload 7 (AW (mX11_handsWith, G) 69))))))))))))))))))))))))
theorem oX11_handsWith_19 (G : Nat × Nat × Nat × Option (Nat × (Nat → Int32)) × (Option Value → qW → Prop)) : qImp (bX11_handsWith_19 G) (AW (mX11_handsWith, G) 19) := (r_iload dX11_handsWith_19 (r_aload_n dX11_handsWith_21 rfl (r_getfield dX11_handsWith_22 fgX11_104 (r_ic_ge (tgt := 77) dX11_handsWith_25 rfl qImp.rf (r_aload_n dX11_handsWith_28 rfl (r_getfield dX11_handsWith_29 fgX11_13 (r_iload dX11_handsWith_32 (r_iaload dX11_handsWith_34 (r_iload_n dX11_handsWith_35 rfl (r_ic_ne (tgt := 67) dX11_handsWith_36 rfl qImp.rf (r_aload_n dX11_handsWith_39 rfl (r_getfield dX11_handsWith_40 fgX11_17 (r_iload dX11_handsWith_43 (r_iaload dX11_handsWith_45 (r_iload_n dX11_handsWith_46 rfl (r_ic_ne (tgt := 67) dX11_handsWith_47 rfl qImp.rf (r_aload_n dX11_handsWith_50 rfl (r_getfield dX11_handsWith_51 fgX11_20 (r_iload dX11_handsWith_54 (r_iaload dX11_handsWith_56 (r_iload dX11_handsWith_57 (r_ic_ne (tgt := 67) dX11_handsWith_59 rfl qImp.rf (r_iload dX11_handsWith_62 (r_goto (tgt := 69) dX11_handsWith_64 rfl qImp.rf))))))))))))))))))))))))
def bX11_handsWith_67 (G : Nat × Nat × Nat × Option (Nat × (Nat → Int32)) × (Option Value → qW → Prop)) : qK := (s_iload 6 (AW (mX11_handsWith, G) 69))
theorem oX11_handsWith_67 (G : Nat × Nat × Nat × Option (Nat × (Nat → Int32)) × (Option Value → qW → Prop)) : qImp (bX11_handsWith_67 G) (AW (mX11_handsWith, G) 67) := (r_iload dX11_handsWith_67 qImp.rf)
def bX11_handsWith_69 (G : Nat × Nat × Nat × Option (Nat × (Nat → Int32)) × (Option Value → qW → Prop)) : qK := (s_istore 6 5 (s_iinc 7 6 1 (AW (mX11_handsWith, G) 19)))
theorem oX11_handsWith_69 (G : Nat × Nat × Nat × Option (Nat × (Nat → Int32)) × (Option Value → qW → Prop)) : qImp (bX11_handsWith_69 G) (AW (mX11_handsWith, G) 69) := (r_istore dX11_handsWith_69 (Or.inr rfl) (Nat.le_of_ble_eq_true rfl) (r_iinc dX11_handsWith_71 rfl (Or.inr rfl) (Nat.le_of_ble_eq_true rfl) (r_goto (tgt := 19) dX11_handsWith_74 rfl qImp.rf)))
def bX11_handsWith_77 (G : Nat × Nat × Nat × Option (Nat × (Nat → Int32)) × (Option Value → qW → Prop)) : qK := (s_iload 4 (s_iload 6 (s_iconst (-1) (s_ic_eq (AW (mX11_handsWith, G) 109) (s_aload 0 (s_getfield 11 15 (s_iload 6 (s_iaload (mX11_handsWith, G) (s_iconst 1 (s_ic_ne (AW (mX11_handsWith, G) 109) (s_iload 3 (s_iload 5 (s_ishr (s_iconst 1 (s_iand (s_if_ne (AW (mX11_handsWith, G) 109) (s_iconst 1 (AW (mX11_handsWith, G) 110))))))))))))))))))
theorem oX11_handsWith_77 (G : Nat × Nat × Nat × Option (Nat × (Nat → Int32)) × (Option Value → qW → Prop)) : qImp (bX11_handsWith_77 G) (AW (mX11_handsWith, G) 77) := (r_iload dX11_handsWith_77 (r_iload dX11_handsWith_79 (r_iconst dX11_handsWith_81 rfl (r_ic_eq (tgt := 109) dX11_handsWith_82 rfl qImp.rf (r_aload_n dX11_handsWith_85 rfl (r_getfield dX11_handsWith_86 fgX11_38 (r_iload dX11_handsWith_89 (r_iaload dX11_handsWith_91 (r_iconst dX11_handsWith_92 rfl (r_ic_ne (tgt := 109) dX11_handsWith_93 rfl qImp.rf (r_iload_n dX11_handsWith_96 rfl (r_iload dX11_handsWith_97 (r_ishr dX11_handsWith_99 (r_iconst dX11_handsWith_100 rfl (r_iand dX11_handsWith_101 (r_if_ne (tgt := 109) dX11_handsWith_102 rfl qImp.rf (r_iconst dX11_handsWith_105 rfl (r_goto (tgt := 110) dX11_handsWith_106 rfl qImp.rf))))))))))))))))))
def bX11_handsWith_109 (G : Nat × Nat × Nat × Option (Nat × (Nat → Int32)) × (Option Value → qW → Prop)) : qK := (s_iconst 0 (AW (mX11_handsWith, G) 110))
theorem oX11_handsWith_109 (G : Nat × Nat × Nat × Option (Nat × (Nat → Int32)) × (Option Value → qW → Prop)) : qImp (bX11_handsWith_109 G) (AW (mX11_handsWith, G) 109) := (r_iconst dX11_handsWith_109 rfl qImp.rf)
def bX11_handsWith_110 (G : Nat × Nat × Nat × Option (Nat × (Nat → Int32)) × (Option Value → qW → Prop)) : qK := (s_iadd (s_istore 4 3 (s_iinc 5 4 1 (AW (mX11_handsWith, G) 6))))
theorem oX11_handsWith_110 (G : Nat × Nat × Nat × Option (Nat × (Nat → Int32)) × (Option Value → qW → Prop)) : qImp (bX11_handsWith_110 G) (AW (mX11_handsWith, G) 110) := (r_iadd dX11_handsWith_110 (r_istore dX11_handsWith_111 (Or.inr rfl) (Nat.le_of_ble_eq_true rfl) (r_iinc dX11_handsWith_113 rfl (Or.inr rfl) (Nat.le_of_ble_eq_true rfl) (r_goto (tgt := 6) dX11_handsWith_116 rfl qImp.rf))))
def bX11_handsWith_119 (G : Nat × Nat × Nat × Option (Nat × (Nat → Int32)) × (Option Value → qW → Prop)) : qK := (s_iload 4 (s_ireturn (mX11_handsWith, G)))
theorem oX11_handsWith_119 (G : Nat × Nat × Nat × Option (Nat × (Nat → Int32)) × (Option Value → qW → Prop)) : qImp (bX11_handsWith_119 G) (AW (mX11_handsWith, G) 119) := (r_iload dX11_handsWith_119 (r_ireturn dX11_handsWith_121 rfl))
