theorem dX11_init_0 : decode cX11_init 0 = .ok (.aload_n 0, 1) := by decide +kernel
theorem dX11_init_1 : decode cX11_init 1 = .ok (.invokespecial 1, 3) := by decide +kernel
theorem dX11_init_4 : decode cX11_init 4 = .ok (.aload_n 0, 1) := by decide +kernel
theorem dX11_init_5 : decode cX11_init 5 = .ok (.bipush 100, 2) := by decide +kernel
theorem dX11_init_7 : decode cX11_init 7 = .ok (.newarray .long, 2) := by decide +kernel
theorem dX11_init_9 : decode cX11_init 9 = .ok (.putfield 9, 3) := by decide +kernel
theorem dX11_init_12 : decode cX11_init 12 = .ok (.aload_n 0, 1) := by decide +kernel
theorem dX11_init_13 : decode cX11_init 13 = .ok (.sipush 400, 3) := by decide +kernel
theorem dX11_init_16 : decode cX11_init 16 = .ok (.newarray .int, 2) := by decide +kernel
theorem dX11_init_18 : decode cX11_init 18 = .ok (.putfield 13, 3) := by decide +kernel
theorem dX11_init_21 : decode cX11_init 21 = .ok (.aload_n 0, 1) := by decide +kernel
theorem dX11_init_22 : decode cX11_init 22 = .ok (.sipush 400, 3) := by decide +kernel
theorem dX11_init_25 : decode cX11_init 25 = .ok (.newarray .int, 2) := by decide +kernel
theorem dX11_init_27 : decode cX11_init 27 = .ok (.putfield 17, 3) := by decide +kernel
theorem dX11_init_30 : decode cX11_init 30 = .ok (.aload_n 0, 1) := by decide +kernel
theorem dX11_init_31 : decode cX11_init 31 = .ok (.sipush 400, 3) := by decide +kernel
theorem dX11_init_34 : decode cX11_init 34 = .ok (.newarray .int, 2) := by decide +kernel
theorem dX11_init_36 : decode cX11_init 36 = .ok (.putfield 20, 3) := by decide +kernel
theorem dX11_init_39 : decode cX11_init 39 = .ok (.aload_n 0, 1) := by decide +kernel
theorem dX11_init_40 : decode cX11_init 40 = .ok (.sipush 400, 3) := by decide +kernel
theorem dX11_init_43 : decode cX11_init 43 = .ok (.newarray .int, 2) := by decide +kernel
theorem dX11_init_45 : decode cX11_init 45 = .ok (.putfield 23, 3) := by decide +kernel
theorem dX11_init_48 : decode cX11_init 48 = .ok (.aload_n 0, 1) := by decide +kernel
theorem dX11_init_49 : decode cX11_init 49 = .ok (.sipush 400, 3) := by decide +kernel
theorem dX11_init_52 : decode cX11_init 52 = .ok (.newarray .int, 2) := by decide +kernel
theorem dX11_init_54 : decode cX11_init 54 = .ok (.putfield 26, 3) := by decide +kernel
theorem dX11_init_57 : decode cX11_init 57 = .ok (.aload_n 0, 1) := by decide +kernel
theorem dX11_init_58 : decode cX11_init 58 = .ok (.sipush 400, 3) := by decide +kernel
theorem dX11_init_61 : decode cX11_init 61 = .ok (.newarray .int, 2) := by decide +kernel
theorem dX11_init_63 : decode cX11_init 63 = .ok (.putfield 29, 3) := by decide +kernel
theorem dX11_init_66 : decode cX11_init 66 = .ok (.aload_n 0, 1) := by decide +kernel
theorem dX11_init_67 : decode cX11_init 67 = .ok (.sipush 400, 3) := by decide +kernel
theorem dX11_init_70 : decode cX11_init 70 = .ok (.newarray .int, 2) := by decide +kernel
theorem dX11_init_72 : decode cX11_init 72 = .ok (.putfield 32, 3) := by decide +kernel
theorem dX11_init_75 : decode cX11_init 75 = .ok (.aload_n 0, 1) := by decide +kernel
theorem dX11_init_76 : decode cX11_init 76 = .ok (.sipush 400, 3) := by decide +kernel
theorem dX11_init_79 : decode cX11_init 79 = .ok (.newarray .int, 2) := by decide +kernel
theorem dX11_init_81 : decode cX11_init 81 = .ok (.putfield 35, 3) := by decide +kernel
theorem dX11_init_84 : decode cX11_init 84 = .ok (.aload_n 0, 1) := by decide +kernel
theorem dX11_init_85 : decode cX11_init 85 = .ok (.sipush 400, 3) := by decide +kernel
theorem dX11_init_88 : decode cX11_init 88 = .ok (.newarray .int, 2) := by decide +kernel
theorem dX11_init_90 : decode cX11_init 90 = .ok (.putfield 38, 3) := by decide +kernel
theorem dX11_init_93 : decode cX11_init 93 = .ok (.aload_n 0, 1) := by decide +kernel
theorem dX11_init_94 : decode cX11_init 94 = .ok (.sipush 400, 3) := by decide +kernel
theorem dX11_init_97 : decode cX11_init 97 = .ok (.newarray .int, 2) := by decide +kernel
theorem dX11_init_99 : decode cX11_init 99 = .ok (.putfield 41, 3) := by decide +kernel
theorem dX11_init_102 : decode cX11_init 102 = .ok (.aload_n 0, 1) := by decide +kernel
theorem dX11_init_103 : decode cX11_init 103 = .ok (.sipush 400, 3) := by decide +kernel
theorem dX11_init_106 : decode cX11_init 106 = .ok (.newarray .int, 2) := by decide +kernel
theorem dX11_init_108 : decode cX11_init 108 = .ok (.putfield 44, 3) := by decide +kernel
theorem dX11_init_111 : decode cX11_init 111 = .ok (.aload_n 0, 1) := by decide +kernel
theorem dX11_init_112 : decode cX11_init 112 = .ok (.sipush 400, 3) := by decide +kernel
theorem dX11_init_115 : decode cX11_init 115 = .ok (.newarray .int, 2) := by decide +kernel
theorem dX11_init_117 : decode cX11_init 117 = .ok (.putfield 47, 3) := by decide +kernel
theorem dX11_init_120 : decode cX11_init 120 = .ok (.aload_n 0, 1) := by decide +kernel
theorem dX11_init_121 : decode cX11_init 121 = .ok (.bipush 100, 2) := by decide +kernel
theorem dX11_init_123 : decode cX11_init 123 = .ok (.newarray .int, 2) := by decide +kernel
theorem dX11_init_125 : decode cX11_init 125 = .ok (.putfield 50, 3) := by decide +kernel
theorem dX11_init_128 : decode cX11_init 128 = .ok (.aload_n 0, 1) := by decide +kernel
theorem dX11_init_129 : decode cX11_init 129 = .ok (.iconst 4, 1) := by decide +kernel
theorem dX11_init_130 : decode cX11_init 130 = .ok (.newarray .int, 2) := by decide +kernel
theorem dX11_init_132 : decode cX11_init 132 = .ok (.putfield 53, 3) := by decide +kernel
theorem dX11_init_135 : decode cX11_init 135 = .ok (.aload_n 0, 1) := by decide +kernel
theorem dX11_init_136 : decode cX11_init 136 = .ok (.iconst 4, 1) := by decide +kernel
theorem dX11_init_137 : decode cX11_init 137 = .ok (.newarray .boolean, 2) := by decide +kernel
theorem dX11_init_139 : decode cX11_init 139 = .ok (.putfield 56, 3) := by decide +kernel
theorem dX11_init_142 : decode cX11_init 142 = .ok (.aload_n 0, 1) := by decide +kernel
theorem dX11_init_143 : decode cX11_init 143 = .ok (.iconst 4, 1) := by decide +kernel
theorem dX11_init_144 : decode cX11_init 144 = .ok (.newarray .int, 2) := by decide +kernel
theorem dX11_init_146 : decode cX11_init 146 = .ok (.putfield 60, 3) := by decide +kernel
theorem dX11_init_149 : decode cX11_init 149 = .ok (.aload_n 0, 1) := by decide +kernel
theorem dX11_init_150 : decode cX11_init 150 = .ok (.bipush 50, 2) := by decide +kernel
theorem dX11_init_152 : decode cX11_init 152 = .ok (.newarray .int, 2) := by decide +kernel
theorem dX11_init_154 : decode cX11_init 154 = .ok (.putfield 63, 3) := by decide +kernel
theorem dX11_init_157 : decode cX11_init 157 = .ok (.aload_n 0, 1) := by decide +kernel
theorem dX11_init_158 : decode cX11_init 158 = .ok (.bipush 50, 2) := by decide +kernel
theorem dX11_init_160 : decode cX11_init 160 = .ok (.newarray .int, 2) := by decide +kernel
theorem dX11_init_162 : decode cX11_init 162 = .ok (.putfield 66, 3) := by decide +kernel
theorem dX11_init_165 : decode cX11_init 165 = .ok (.aload_n 0, 1) := by decide +kernel
theorem dX11_init_166 : decode cX11_init 166 = .ok (.bipush 50, 2) := by decide +kernel
theorem dX11_init_168 : decode cX11_init 168 = .ok (.newarray .int, 2) := by decide +kernel
theorem dX11_init_170 : decode cX11_init 170 = .ok (.putfield 69, 3) := by decide +kernel
theorem dX11_init_173 : decode cX11_init 173 = .ok (.aload_n 0, 1) := by decide +kernel
theorem dX11_init_174 : decode cX11_init 174 = .ok (.bipush 100, 2) := by decide +kernel
theorem dX11_init_176 : decode cX11_init 176 = .ok (.newarray .boolean, 2) := by decide +kernel
theorem dX11_init_178 : decode cX11_init 178 = .ok (.putfield 72, 3) := by decide +kernel
theorem dX11_init_181 : decode cX11_init 181 = .ok (.aload_n 0, 1) := by decide +kernel
theorem dX11_init_182 : decode cX11_init 182 = .ok (.bipush 100, 2) := by decide +kernel
theorem dX11_init_184 : decode cX11_init 184 = .ok (.newarray .int, 2) := by decide +kernel
theorem dX11_init_186 : decode cX11_init 186 = .ok (.putfield 75, 3) := by decide +kernel
theorem dX11_init_189 : decode cX11_init 189 = .ok (.aload_n 0, 1) := by decide +kernel
theorem dX11_init_190 : decode cX11_init 190 = .ok (.bipush 100, 2) := by decide +kernel
theorem dX11_init_192 : decode cX11_init 192 = .ok (.newarray .boolean, 2) := by decide +kernel
theorem dX11_init_194 : decode cX11_init 194 = .ok (.putfield 78, 3) := by decide +kernel
theorem dX11_init_197 : decode cX11_init 197 = .ok (.aload_n 0, 1) := by decide +kernel
theorem dX11_init_198 : decode cX11_init 198 = .ok (.bipush 100, 2) := by decide +kernel
theorem dX11_init_200 : decode cX11_init 200 = .ok (.newarray .int, 2) := by decide +kernel
theorem dX11_init_202 : decode cX11_init 202 = .ok (.putfield 81, 3) := by decide +kernel
theorem dX11_init_205 : decode cX11_init 205 = .ok (.aload_n 0, 1) := by decide +kernel
theorem dX11_init_206 : decode cX11_init 206 = .ok (.sipush 4400, 3) := by decide +kernel
theorem dX11_init_209 : decode cX11_init 209 = .ok (.newarray .int, 2) := by decide +kernel
theorem dX11_init_211 : decode cX11_init 211 = .ok (.putfield 84, 3) := by decide +kernel
theorem dX11_init_214 : decode cX11_init 214 = .ok (.aload_n 0, 1) := by decide +kernel
theorem dX11_init_215 : decode cX11_init 215 = .ok (.sipush 220, 3) := by decide +kernel
theorem dX11_init_218 : decode cX11_init 218 = .ok (.newarray .int, 2) := by decide +kernel
theorem dX11_init_220 : decode cX11_init 220 = .ok (.putfield 87, 3) := by decide +kernel
theorem dX11_init_223 : decode cX11_init 223 = .ok (.aload_n 0, 1) := by decide +kernel
theorem dX11_init_224 : decode cX11_init 224 = .ok (.sipush 220, 3) := by decide +kernel
theorem dX11_init_227 : decode cX11_init 227 = .ok (.newarray .boolean, 2) := by decide +kernel
theorem dX11_init_229 : decode cX11_init 229 = .ok (.putfield 90, 3) := by decide +kernel
theorem dX11_init_232 : decode cX11_init 232 = .ok (.aload_n 0, 1) := by decide +kernel
theorem dX11_init_233 : decode cX11_init 233 = .ok (.sipush 400, 3) := by decide +kernel
theorem dX11_init_236 : decode cX11_init 236 = .ok (.newarray .boolean, 2) := by decide +kernel
theorem dX11_init_238 : decode cX11_init 238 = .ok (.putfield 93, 3) := by decide +kernel
theorem dX11_init_241 : decode cX11_init 241 = .ok (.iconst 0, 1) := by decide +kernel
theorem dX11_init_242 : decode cX11_init 242 = .ok (.istore_n 1, 1) := by decide +kernel
theorem dX11_init_243 : decode cX11_init 243 = .ok (.iload_n 1, 1) := by decide +kernel
theorem dX11_init_244 : decode cX11_init 244 = .ok (.iconst 4, 1) := by decide +kernel
theorem dX11_init_245 : decode cX11_init 245 = .ok (.if_icmp .ge 16, 3) := by decide +kernel
theorem dX11_init_248 : decode cX11_init 248 = .ok (.aload_n 0, 1) := by decide +kernel
theorem dX11_init_249 : decode cX11_init 249 = .ok (.getfield 60, 3) := by decide +kernel
theorem dX11_init_252 : decode cX11_init 252 = .ok (.iload_n 1, 1) := by decide +kernel
theorem dX11_init_253 : decode cX11_init 253 = .ok (.iconst (-1), 1) := by decide +kernel
theorem dX11_init_254 : decode cX11_init 254 = .ok (.iastore, 1) := by decide +kernel
theorem dX11_init_255 : decode cX11_init 255 = .ok (.iinc 1 1, 3) := by decide +kernel
theorem dX11_init_258 : decode cX11_init 258 = .ok (.goto (-15), 3) := by decide +kernel
theorem dX11_init_261 : decode cX11_init 261 = .ok (.return_, 1) := by decide +kernel
/-! SealLineModel.<init>()V -/
theorem eX11_init {d mc ms : Nat} {w : qW} {Q : Option Value → qW → Prop} {q : Nat} (h : AW (mX11_init, d, mc, ms, none, Q) 0 [some (.ref q), none] [] w 0 0) : CT mX11_init d mc ms [.ref q] w Q := CT_of (by decide +kernel) rfl (Nat.le_of_ble_eq_true rfl) h
def bX11_init_0 (G : Nat × Nat × Nat × Option (Nat × (Nat → Int32)) × (Option Value → qW → Prop)) : qK := (s_aload 0 (s_oinit (mX11_init, G) (s_aload 0 (s_iconst 100 (s_newL (mX11_init, G) (s_putR 11 6 (s_aload 0 (s_iconst 400 (s_newI (mX11_init, G) 0 (s_putR 11 7 (s_aload 0 (s_iconst 400 (s_newI (mX11_init, G) 0 (s_putR 11 8 (s_aload 0 (s_iconst 400 (s_newI (mX11_init, G) 0 (s_putR 11 9 (s_aload 0 (s_iconst 400 (s_newI (mX11_init, G) 0 (s_putR 11 10 (s_aload 0 (s_iconst 400 (s_newI (mX11_init, G) 0 (s_putR 11 11 (s_aload 0 (s_iconst 400 (s_newI (mX11_init, G) 0 (s_putR 11 12 (s_aload 0 (s_iconst 400 (s_newI (mX11_init, G) 0 (s_putR 11 13 (s_aload 0 (s_iconst 400 (s_newI (mX11_init, G) 0 (s_putR 11 14 (s_aload 0 (s_iconst 400 (s_newI (mX11_init, G) 0 (s_putR 11 15 (s_aload 0 (s_iconst 400 (s_newI (mX11_init, G) 0 (s_putR 11 16 (s_aload 0 (s_iconst 400 (s_newI (mX11_init, G) 0 (s_putR 11 17 (s_aload 0 (s_iconst 400 (s_newI (mX11_init, G) 0 (s_putR 11 18 (s_aload 0 (s_iconst 100 (s_newI (mX11_init, G) 0 (s_putR 11 19 (s_aload 0 (s_iconst 4 (s_newI (mX11_init, G) 0 (s_putR 11 20 (s_aload 0 (s_iconst 4 (s_newI (mX11_init, G) 1 (s_putR 11 21 (s_aload 0 (s_iconst 4 (s_newI (mX11_init, G) 0 (s_putR 11 22 (s_aload 0 (s_iconst 50 (s_newI (mX11_init, G) 0 (s_putR 11 23 (s_aload 0 (s_iconst 50 (s_newI (mX11_init, G) 0 (s_putR 11 24 (s_aload 0 (s_iconst 50 (s_newI (mX11_init, G) 0 (s_putR 11 25 (s_aload 0 (s_iconst 100 (s_newI (mX11_init, G) 1 (s_putR 11 26 (s_aload 0 (s_iconst 100 (s_newI (mX11_init, G) 0 (s_putR 11 27 (s_aload 0 (s_iconst 100 (s_newI (mX11_init, G) 1 (s_putR 11 28 (s_aload 0 (s_iconst 100 (s_newI (mX11_init, G) 0 (s_putR 11 29 (s_aload 0 (s_iconst 4400 (s_newI (mX11_init, G) 0 (s_putR 11 30 (s_aload 0 (s_iconst 220 (s_newI (mX11_init, G) 0 (s_putR 11 31 (s_aload 0 (s_iconst 220 (s_newI (mX11_init, G) 1 (s_putR 11 37 (s_aload 0 (s_iconst 400 (s_newI (mX11_init, G) 1 (s_putR 11 38 (s_iconst 0 (s_istore 1 0 (AW (mX11_init, G) 243)))))))))))))))))))))))))))))))))))))))))))))))))))))))))))))))))))))))))))))))))))))))))))))))))))))))))))))))))))))
theorem oX11_init_0 (G : Nat × Nat × Nat × Option (Nat × (Nat → Int32)) × (Option Value → qW → Prop)) : qImp (bX11_init_0 G) (AW (mX11_init, G) 0) := (r_aload_n dX11_init_0 rfl (r_oinit dX11_init_1 lk900 lk86 lk87 (r_aload_n dX11_init_4 rfl (r_bipush dX11_init_5 rfl (r_newL dX11_init_7 lk134 (r_putRF dX11_init_9 fpX11_9 (fun q hq => by cases hq; rfl) rfl (fun q hq => by cases hq; rfl) (fun _ => rfl) (fun _ => rfl) (r_aload_n dX11_init_12 rfl (r_sipush dX11_init_13 rfl (r_newI0 dX11_init_16 lk113 (r_putRF dX11_init_18 fpX11_13 (fun q hq => by cases hq; rfl) rfl (fun q hq => by cases hq; rfl) (fun _ => rfl) (fun _ => rfl) (r_aload_n dX11_init_21 rfl (r_sipush dX11_init_22 rfl (r_newI0 dX11_init_25 lk113 (r_putRF dX11_init_27 fpX11_17 (fun q hq => by cases hq; rfl) rfl (fun q hq => by cases hq; rfl) (fun _ => rfl) (fun _ => rfl) (r_aload_n dX11_init_30 rfl (r_sipush dX11_init_31 rfl (r_newI0 dX11_init_34 lk113 (r_putRF dX11_init_36 fpX11_20 (fun q hq => by cases hq; rfl) rfl (fun q hq => by cases hq; rfl) (fun _ => rfl) (fun _ => rfl) (r_aload_n dX11_init_39 rfl (r_sipush dX11_init_40 rfl (r_newI0 dX11_init_43 lk113 (r_putRF dX11_init_45 fpX11_23 (fun q hq => by cases hq; rfl) rfl (fun q hq => by cases hq; rfl) (fun _ => rfl) (fun _ => rfl) (r_aload_n dX11_init_48 rfl (r_sipush dX11_init_49 rfl (r_newI0 dX11_init_52 lk113 (r_putRF dX11_init_54 fpX11_26 (fun q hq => by cases hq; rfl) rfl (fun q hq => by cases hq; rfl) (fun _ => rfl) (fun _ => rfl) (r_aload_n dX11_init_57 rfl (r_sipush dX11_init_58 rfl (r_newI0 dX11_init_61 lk113 (r_putRF dX11_init_63 fpX11_29 (fun q hq => by cases hq; rfl) rfl (fun q hq => by cases hq; rfl) (fun _ => rfl) (fun _ => rfl) (r_aload_n dX11_init_66 rfl (r_sipush dX11_init_67 rfl (r_newI0 dX11_init_70 lk113 (r_putRF dX11_init_72 fpX11_32 (fun q hq => by cases hq; rfl) rfl (fun q hq => by cases hq; rfl) (fun _ => rfl) (fun _ => rfl) (r_aload_n dX11_init_75 rfl (r_sipush dX11_init_76 rfl (r_newI0 dX11_init_79 lk113 (r_putRF dX11_init_81 fpX11_35 (fun q hq => by cases hq; rfl) rfl (fun q hq => by cases hq; rfl) (fun _ => rfl) (fun _ => rfl) (r_aload_n dX11_init_84 rfl (r_sipush dX11_init_85 rfl (r_newI0 dX11_init_88 lk113 (r_putRF dX11_init_90 fpX11_38 (fun q hq => by cases hq; rfl) rfl (fun q hq => by cases hq; rfl) (fun _ => rfl) (fun _ => rfl) (r_aload_n dX11_init_93 rfl (r_sipush dX11_init_94 rfl (r_newI0 dX11_init_97 lk113 (r_putRF dX11_init_99 fpX11_41 (fun q hq => by cases hq; rfl) rfl (fun q hq => by cases hq; rfl) (fun _ => rfl) (fun _ => rfl) (r_aload_n dX11_init_102 rfl (r_sipush dX11_init_103 rfl (r_newI0 dX11_init_106 lk113 (r_putRF dX11_init_108 fpX11_44 (fun q hq => by cases hq; rfl) rfl (fun q hq => by cases hq; rfl) (fun _ => rfl) (fun _ => rfl) (r_aload_n dX11_init_111 rfl (r_sipush dX11_init_112 rfl (r_newI0 dX11_init_115 lk113 (r_putRF dX11_init_117 fpX11_47 (fun q hq => by cases hq; rfl) rfl (fun q hq => by cases hq; rfl) (fun _ => rfl) (fun _ => rfl) (r_aload_n dX11_init_120 rfl (r_bipush dX11_init_121 rfl (r_newI0 dX11_init_123 lk113 (r_putRF dX11_init_125 fpX11_50 (fun q hq => by cases hq; rfl) rfl (fun q hq => by cases hq; rfl) (fun _ => rfl) (fun _ => rfl) (r_aload_n dX11_init_128 rfl (r_iconst dX11_init_129 rfl (r_newI0 dX11_init_130 lk113 (r_putRF dX11_init_132 fpX11_53 (fun q hq => by cases hq; rfl) rfl (fun q hq => by cases hq; rfl) (fun _ => rfl) (fun _ => rfl) (r_aload_n dX11_init_135 rfl (r_iconst dX11_init_136 rfl (r_newI1 dX11_init_137 lk267 (r_putRF dX11_init_139 fpX11_56 (fun q hq => by cases hq; rfl) rfl (fun q hq => by cases hq; rfl) (fun _ => rfl) (fun _ => rfl) (r_aload_n dX11_init_142 rfl (r_iconst dX11_init_143 rfl (r_newI0 dX11_init_144 lk113 (r_putRF dX11_init_146 fpX11_60 (fun q hq => by cases hq; rfl) rfl (fun q hq => by cases hq; rfl) (fun _ => rfl) (fun _ => rfl) (r_aload_n dX11_init_149 rfl (r_bipush dX11_init_150 rfl (r_newI0 dX11_init_152 lk113 (r_putRF dX11_init_154 fpX11_63 (fun q hq => by cases hq; rfl) rfl (fun q hq => by cases hq; rfl) (fun _ => rfl) (fun _ => rfl) (r_aload_n dX11_init_157 rfl (r_bipush dX11_init_158 rfl (r_newI0 dX11_init_160 lk113 (r_putRF dX11_init_162 fpX11_66 (fun q hq => by cases hq; rfl) rfl (fun q hq => by cases hq; rfl) (fun _ => rfl) (fun _ => rfl) (r_aload_n dX11_init_165 rfl (r_bipush dX11_init_166 rfl (r_newI0 dX11_init_168 lk113 (r_putRF dX11_init_170 fpX11_69 (fun q hq => by cases hq; rfl) rfl (fun q hq => by cases hq; rfl) (fun _ => rfl) (fun _ => rfl) (r_aload_n dX11_init_173 rfl (r_bipush dX11_init_174 rfl (r_newI1 dX11_init_176 lk267 (r_putRF dX11_init_178 fpX11_72 (fun q hq => by cases hq; rfl) rfl (fun q hq => by cases hq; rfl) (fun _ => rfl) (fun _ => rfl) (r_aload_n dX11_init_181 rfl (r_bipush dX11_init_182 rfl (r_newI0 dX11_init_184 lk113 (r_putRF dX11_init_186 fpX11_75 (fun q hq => by cases hq; rfl) rfl (fun q hq => by cases hq; rfl) (fun _ => rfl) (fun _ => rfl) (r_aload_n dX11_init_189 rfl (r_bipush dX11_init_190 rfl (r_newI1 dX11_init_192 lk267 (r_putRF dX11_init_194 fpX11_78 (fun q hq => by cases hq; rfl) rfl (fun q hq => by cases hq; rfl) (fun _ => rfl) (fun _ => rfl) (r_aload_n dX11_init_197 rfl (r_bipush dX11_init_198 rfl (r_newI0 dX11_init_200 lk113 (r_putRF dX11_init_202 fpX11_81 (fun q hq => by cases hq; rfl) rfl (fun q hq => by cases hq; rfl) (fun _ => rfl) (fun _ => rfl) (r_aload_n dX11_init_205 rfl (r_sipush dX11_init_206 rfl (r_newI0 dX11_init_209 lk113 (r_putRF dX11_init_211 fpX11_84 (fun q hq => by cases hq; rfl) rfl (fun q hq => by cases hq; rfl) (fun _ => rfl) (fun _ => rfl) (r_aload_n dX11_init_214 rfl (r_sipush dX11_init_215 rfl (r_newI0 dX11_init_218 lk113 (r_putRF dX11_init_220 fpX11_87 (fun q hq => by cases hq; rfl) rfl (fun q hq => by cases hq; rfl) (fun _ => rfl) (fun _ => rfl) (r_aload_n dX11_init_223 rfl (r_sipush dX11_init_224 rfl (r_newI1 dX11_init_227 lk267 (r_putRF dX11_init_229 fpX11_90 (fun q hq => by cases hq; rfl) rfl (fun q hq => by cases hq; rfl) (fun _ => rfl) (fun _ => rfl) (r_aload_n dX11_init_232 rfl (r_sipush dX11_init_233 rfl (r_newI1 dX11_init_236 lk267 (r_putRF dX11_init_238 fpX11_93 (fun q hq => by cases hq; rfl) rfl (fun q hq => by cases hq; rfl) (fun _ => rfl) (fun _ => rfl) (r_iconst dX11_init_241 rfl (r_istore_n dX11_init_242 rfl (Or.inr rfl) (Nat.le_of_ble_eq_true rfl) qImp.rf))))))))))))))))))))))))))))))))))))))))))))))))))))))))))))))))))))))))))))))))))))))))))))))))))))))))))))))))))))
def bX11_init_243 (G : Nat × Nat × Nat × Option (Nat × (Nat → Int32)) × (Option Value → qW → Prop)) : qK := (s_iload 1 (s_iconst 4 (s_ic_ge (AW (mX11_init, G) 261) (s_aload 0 (s_getfield 11 22 (s_iload 1 (s_iconst (-1) (s_iastore (s_iinc 1 0 1 (AW (mX11_init, G) 243))))))))))
theorem oX11_init_243 (G : Nat × Nat × Nat × Option (Nat × (Nat → Int32)) × (Option Value → qW → Prop)) : qImp (bX11_init_243 G) (AW (mX11_init, G) 243) := (r_iload_n dX11_init_243 rfl (r_iconst dX11_init_244 rfl (r_ic_ge (tgt := 261) dX11_init_245 rfl qImp.rf (r_aload_n dX11_init_248 rfl (r_getfield dX11_init_249 fgX11_60 (r_iload_n dX11_init_252 rfl (r_iconst dX11_init_253 rfl (r_iastore dX11_init_254 (r_iinc dX11_init_255 rfl (Or.inr rfl) (Nat.le_of_ble_eq_true rfl) (r_goto (tgt := 243) dX11_init_258 rfl qImp.rf))))))))))
def bX11_init_261 (G : Nat × Nat × Nat × Option (Nat × (Nat → Int32)) × (Option Value → qW → Prop)) : qK := (s_vreturn (mX11_init, G))
theorem oX11_init_261 (G : Nat × Nat × Nat × Option (Nat × (Nat → Int32)) × (Option Value → qW → Prop)) : qImp (bX11_init_261 G) (AW (mX11_init, G) 261) := (r_vreturn dX11_init_261 rfl)
theorem dX11_in_0 : decode cX11_in 0 = .ok (.iload_n 0, 1) := by decide +kernel
theorem dX11_in_1 : decode cX11_in 1 = .ok (.iload_n 1, 1) := by decide +kernel
theorem dX11_in_2 : decode cX11_in 2 = .ok (.if_icmp .lt 12, 3) := by decide +kernel
theorem dX11_in_5 : decode cX11_in 5 = .ok (.iload_n 0, 1) := by decide +kernel
theorem dX11_in_6 : decode cX11_in 6 = .ok (.iload_n 2, 1) := by decide +kernel
theorem dX11_in_7 : decode cX11_in 7 = .ok (.if_icmp .gt 7, 3) := by decide +kernel
theorem dX11_in_10 : decode cX11_in 10 = .ok (.iconst 1, 1) := by decide +kernel
theorem dX11_in_11 : decode cX11_in 11 = .ok (.goto 4, 3) := by decide +kernel
theorem dX11_in_14 : decode cX11_in 14 = .ok (.iconst 0, 1) := by decide +kernel
theorem dX11_in_15 : decode cX11_in 15 = .ok (.ireturn, 1) := by decide +kernel
/-! SealLineModel.in(III)Z -/
theorem eX11_in {d mc ms : Nat} {w : qW} {Q : Option Value → qW → Prop} {x0 : Int32} {x1 : Int32} {x2 : Int32} (h : AW (mX11_in, d, mc, ms, none, Q) 0 [some (.int x0), some (.int x1), some (.int x2)] [] w 0 0) : CT mX11_in d mc ms [.int x0, .int x1, .int x2] w Q := CT_of (by decide +kernel) rfl (Nat.le_of_ble_eq_true rfl) h
def bX11_in_0 (G : Nat × Nat × Nat × Option (Nat × (Nat → Int32)) × (Option Value → qW → Prop)) : qK := (s_iload 0 (s_iload 1 (s_ic_lt (AW (mX11_in, G) 14) (s_iload 0 (s_iload 2 (s_ic_gt (AW (mX11_in, G) 14) (s_iconst 1 (AW (mX11_in, G) 15))))))))
theorem oX11_in_0 (G : Nat × Nat × Nat × Option (Nat × (Nat → Int32)) × (Option Value → qW → Prop)) : qImp (bX11_in_0 G) (AW (mX11_in, G) 0) := (r_iload_n dX11_in_0 rfl (r_iload_n dX11_in_1 rfl (r_ic_lt (tgt := 14) dX11_in_2 rfl qImp.rf (r_iload_n dX11_in_5 rfl (r_iload_n dX11_in_6 rfl (r_ic_gt (tgt := 14) dX11_in_7 rfl qImp.rf (r_iconst dX11_in_10 rfl (r_goto (tgt := 15) dX11_in_11 rfl qImp.rf))))))))
def bX11_in_14 (G : Nat × Nat × Nat × Option (Nat × (Nat → Int32)) × (Option Value → qW → Prop)) : qK := (s_iconst 0 (AW (mX11_in, G) 15))
theorem oX11_in_14 (G : Nat × Nat × Nat × Option (Nat × (Nat → Int32)) × (Option Value → qW → Prop)) : qImp (bX11_in_14 G) (AW (mX11_in, G) 14) := (r_iconst dX11_in_14 rfl qImp.rf)
def bX11_in_15 (G : Nat × Nat × Nat × Option (Nat × (Nat → Int32)) × (Option Value → qW → Prop)) : qK := (s_zreturn (mX11_in, G))
theorem oX11_in_15 (G : Nat × Nat × Nat × Option (Nat × (Nat → Int32)) × (Option Value → qW → Prop)) : qImp (bX11_in_15 G) (AW (mX11_in, G) 15) := (r_zreturn dX11_in_15 rfl)
theorem dX11_isFile_0 : decode cX11_isFile 0 = .ok (.iload_n 1, 1) := by decide +kernel
theorem dX11_isFile_1 : decode cX11_isFile 1 = .ok (.iconst 0, 1) := by decide +kernel
theorem dX11_isFile_2 : decode cX11_isFile 2 = .ok (.aload_n 0, 1) := by decide +kernel
theorem dX11_isFile_3 : decode cX11_isFile 3 = .ok (.getfield 96, 3) := by decide +kernel
theorem dX11_isFile_6 : decode cX11_isFile 6 = .ok (.iconst 1, 1) := by decide +kernel
theorem dX11_isFile_7 : decode cX11_isFile 7 = .ok (.isub, 1) := by decide +kernel
theorem dX11_isFile_8 : decode cX11_isFile 8 = .ok (.invokestatic 100, 3) := by decide +kernel
theorem dX11_isFile_11 : decode cX11_isFile 11 = .ok (.ireturn, 1) := by decide +kernel
/-! SealLineModel.isFile(I)Z -/
theorem eX11_isFile {d mc ms : Nat} {w : qW} {Q : Option Value → qW → Prop} {q : Nat} {x0 : Int32} (h : AW (mX11_isFile, d, mc, ms, none, Q) 0 [some (.ref q), some (.int x0)] [] w 0 0) : CT mX11_isFile d mc ms [.ref q, .int x0] w Q := CT_of (by decide +kernel) rfl (Nat.le_of_ble_eq_true rfl) h
def bX11_isFile_0 (G : Nat × Nat × Nat × Option (Nat × (Nat → Int32)) × (Option Value → qW → Prop)) : qK := (s_iload 1 (s_iconst 0 (s_aload 0 (s_getfield 11 1 (s_iconst 1 (s_isub (AW (mX11_isFile, G) 8)))))))
theorem oX11_isFile_0 (G : Nat × Nat × Nat × Option (Nat × (Nat → Int32)) × (Option Value → qW → Prop)) : qImp (bX11_isFile_0 G) (AW (mX11_isFile, G) 0) := (r_iload_n dX11_isFile_0 rfl (r_iconst dX11_isFile_1 rfl (r_aload_n dX11_isFile_2 rfl (r_getfield dX11_isFile_3 fgX11_96 (r_iconst dX11_isFile_6 rfl (r_isub dX11_isFile_7 qImp.rf))))))
def bX11_isFile_11 (G : Nat × Nat × Nat × Option (Nat × (Nat → Int32)) × (Option Value → qW → Prop)) : qK := (s_zreturn (mX11_isFile, G))
theorem oX11_isFile_11 (G : Nat × Nat × Nat × Option (Nat × (Nat → Int32)) × (Option Value → qW → Prop)) : qImp (bX11_isFile_11 G) (AW (mX11_isFile, G) 11) := (r_zreturn dX11_isFile_11 rfl)
theorem kX11_isFile_8 {G : Nat × Nat × Nat × Option (Nat × (Nat → Int32)) × (Option Value → qW → Prop)} {L : qL} {w : qW} {kc ks : Nat} {rest : List Value}  {x0 : Int32} {x1 : Int32} {x2 : Int32} {d mc ms : Nat} {Q : Option Value → qW → Prop} (hC : CT mX11_in d mc ms [.int x0, .int x1, .int x2] w Q) (hst : rest.length ≤ 4) (hdp : d + 1 ≤ G.1) (hmc : kc + mc ≤ G.2.1 ∧ ks + ms ≤ G.2.2.1) (k : ∀ r w', Q r w' → AW (mX11_isFile, G) 11 L (r.toList ++ rest) w' (kc + mc) (ks + ms)) : AW (mX11_isFile, G) 8 L (.int x2 :: .int x1 :: .int x0 :: rest) w kc ks := a_callS [.int x0, .int x1, .int x2] rest dX11_isFile_8 tX11_in lk1030 hC rfl hst hdp hmc k
theorem dX11_isHand_0 : decode cX11_isHand 0 = .ok (.iload_n 0, 1) := by decide +kernel
theorem dX11_isHand_1 : decode cX11_isHand 1 = .ok (.iconst 0, 1) := by decide +kernel
theorem dX11_isHand_2 : decode cX11_isHand 2 = .ok (.bipush 11, 2) := by decide +kernel
theorem dX11_isHand_4 : decode cX11_isHand 4 = .ok (.invokestatic 100, 3) := by decide +kernel
theorem dX11_isHand_7 : decode cX11_isHand 7 = .ok (.ireturn, 1) := by decide +kernel
/-! SealLineModel.isHand(I)Z -/
theorem eX11_isHand {d mc ms : Nat} {w : qW} {Q : Option Value → qW → Prop} {x0 : Int32} (h : AW (mX11_isHand, d, mc, ms, none, Q) 0 [some (.int x0)] [] w 0 0) : CT mX11_isHand d mc ms [.int x0] w Q := CT_of (by decide +kernel) rfl (Nat.le_of_ble_eq_true rfl) h
def bX11_isHand_0 (G : Nat × Nat × Nat × Option (Nat × (Nat → Int32)) × (Option Value → qW → Prop)) : qK := (s_iload 0 (s_iconst 0 (s_iconst 11 (AW (mX11_isHand, G) 4))))
theorem oX11_isHand_0 (G : Nat × Nat × Nat × Option (Nat × (Nat → Int32)) × (Option Value → qW → Prop)) : qImp (bX11_isHand_0 G) (AW (mX11_isHand, G) 0) := (r_iload_n dX11_isHand_0 rfl (r_iconst dX11_isHand_1 rfl (r_bipush dX11_isHand_2 rfl qImp.rf)))
def bX11_isHand_7 (G : Nat × Nat × Nat × Option (Nat × (Nat → Int32)) × (Option Value → qW → Prop)) : qK := (s_zreturn (mX11_isHand, G))
theorem oX11_isHand_7 (G : Nat × Nat × Nat × Option (Nat × (Nat → Int32)) × (Option Value → qW → Prop)) : qImp (bX11_isHand_7 G) (AW (mX11_isHand, G) 7) := (r_zreturn dX11_isHand_7 rfl)
theorem kX11_isHand_4 {G : Nat × Nat × Nat × Option (Nat × (Nat → Int32)) × (Option Value → qW → Prop)} {L : qL} {w : qW} {kc ks : Nat} {rest : List Value}  {x0 : Int32} {x1 : Int32} {x2 : Int32} {d mc ms : Nat} {Q : Option Value → qW → Prop} (hC : CT mX11_in d mc ms [.int x0, .int x1, .int x2] w Q) (hst : rest.length ≤ 4) (hdp : d + 1 ≤ G.1) (hmc : kc + mc ≤ G.2.1 ∧ ks + ms ≤ G.2.2.1) (k : ∀ r w', Q r w' → AW (mX11_isHand, G) 7 L (r.toList ++ rest) w' (kc + mc) (ks + ms)) : AW (mX11_isHand, G) 4 L (.int x2 :: .int x1 :: .int x0 :: rest) w kc ks := a_callS [.int x0, .int x1, .int x2] rest dX11_isHand_4 tX11_in lk1030 hC rfl hst hdp hmc k
theorem dX11_isKey_0 : decode cX11_isKey 0 = .ok (.iload_n 0, 1) := by decide +kernel
theorem dX11_isKey_1 : decode cX11_isKey 1 = .ok (.iconst 0, 1) := by decide +kernel
theorem dX11_isKey_2 : decode cX11_isKey 2 = .ok (.iconst 3, 1) := by decide +kernel
theorem dX11_isKey_3 : decode cX11_isKey 3 = .ok (.invokestatic 100, 3) := by decide +kernel
theorem dX11_isKey_6 : decode cX11_isKey 6 = .ok (.ireturn, 1) := by decide +kernel
/-! SealLineModel.isKey(I)Z -/
theorem eX11_isKey {d mc ms : Nat} {w : qW} {Q : Option Value → qW → Prop} {x0 : Int32} (h : AW (mX11_isKey, d, mc, ms, none, Q) 0 [some (.int x0)] [] w 0 0) : CT mX11_isKey d mc ms [.int x0] w Q := CT_of (by decide +kernel) rfl (Nat.le_of_ble_eq_true rfl) h
def bX11_isKey_0 (G : Nat × Nat × Nat × Option (Nat × (Nat → Int32)) × (Option Value → qW → Prop)) : qK := (s_iload 0 (s_iconst 0 (s_iconst 3 (AW (mX11_isKey, G) 3))))
theorem oX11_isKey_0 (G : Nat × Nat × Nat × Option (Nat × (Nat → Int32)) × (Option Value → qW → Prop)) : qImp (bX11_isKey_0 G) (AW (mX11_isKey, G) 0) := (r_iload_n dX11_isKey_0 rfl (r_iconst dX11_isKey_1 rfl (r_iconst dX11_isKey_2 rfl qImp.rf)))
def bX11_isKey_6 (G : Nat × Nat × Nat × Option (Nat × (Nat → Int32)) × (Option Value → qW → Prop)) : qK := (s_zreturn (mX11_isKey, G))
theorem oX11_isKey_6 (G : Nat × Nat × Nat × Option (Nat × (Nat → Int32)) × (Option Value → qW → Prop)) : qImp (bX11_isKey_6 G) (AW (mX11_isKey, G) 6) := (r_zreturn dX11_isKey_6 rfl)
theorem kX11_isKey_3 {G : Nat × Nat × Nat × Option (Nat × (Nat → Int32)) × (Option Value → qW → Prop)} {L : qL} {w : qW} {kc ks : Nat} {rest : List Value}  {x0 : Int32} {x1 : Int32} {x2 : Int32} {d mc ms : Nat} {Q : Option Value → qW → Prop} (hC : CT mX11_in d mc ms [.int x0, .int x1, .int x2] w Q) (hst : rest.length ≤ 4) (hdp : d + 1 ≤ G.1) (hmc : kc + mc ≤ G.2.1 ∧ ks + ms ≤ G.2.2.1) (k : ∀ r w', Q r w' → AW (mX11_isKey, G) 6 L (r.toList ++ rest) w' (kc + mc) (ks + ms)) : AW (mX11_isKey, G) 3 L (.int x2 :: .int x1 :: .int x0 :: rest) w kc ks := a_callS [.int x0, .int x1, .int x2] rest dX11_isKey_3 tX11_in lk1030 hC rfl hst hdp hmc k
theorem dX11_find_0 : decode cX11_find 0 = .ok (.iconst 0, 1) := by decide +kernel
theorem dX11_find_1 : decode cX11_find 1 = .ok (.istore_n 3, 1) := by decide +kernel
theorem dX11_find_2 : decode cX11_find 2 = .ok (.iload_n 3, 1) := by decide +kernel
theorem dX11_find_3 : decode cX11_find 3 = .ok (.aload_n 0, 1) := by decide +kernel
theorem dX11_find_4 : decode cX11_find 4 = .ok (.getfield 96, 3) := by decide +kernel
theorem dX11_find_7 : decode cX11_find 7 = .ok (.if_icmp .ge 22, 3) := by decide +kernel
theorem dX11_find_10 : decode cX11_find 10 = .ok (.aload_n 0, 1) := by decide +kernel
theorem dX11_find_11 : decode cX11_find 11 = .ok (.getfield 9, 3) := by decide +kernel
theorem dX11_find_14 : decode cX11_find 14 = .ok (.iload_n 3, 1) := by decide +kernel
theorem dX11_find_15 : decode cX11_find 15 = .ok (.laload, 1) := by decide +kernel
theorem dX11_find_16 : decode cX11_find 16 = .ok (.lload_n 1, 1) := by decide +kernel
theorem dX11_find_17 : decode cX11_find 17 = .ok (.lcmp, 1) := by decide +kernel
theorem dX11_find_18 : decode cX11_find 18 = .ok (.ifCond .ne 5, 3) := by decide +kernel
theorem dX11_find_21 : decode cX11_find 21 = .ok (.iload_n 3, 1) := by decide +kernel
theorem dX11_find_22 : decode cX11_find 22 = .ok (.ireturn, 1) := by decide +kernel
theorem dX11_find_23 : decode cX11_find 23 = .ok (.iinc 3 1, 3) := by decide +kernel
theorem dX11_find_26 : decode cX11_find 26 = .ok (.goto (-24), 3) := by decide +kernel
theorem dX11_find_29 : decode cX11_find 29 = .ok (.iconst (-1), 1) := by decide +kernel
theorem dX11_find_30 : decode cX11_find 30 = .ok (.ireturn, 1) := by decide +kernel
/-! SealLineModel.find(J)I -/
theorem eX11_find {d mc ms : Nat} {w : qW} {Q : Option Value → qW → Prop} {q : Nat} {x0 : Int64} (h : AW (mX11_find, d, mc, ms, none, Q) 0 [some (.ref q), some (.long x0), none, none] [] w 0 0) : CT mX11_find d mc ms [.ref q, .long x0] w Q := CT_of (by decide +kernel) rfl (Nat.le_of_ble_eq_true rfl) h
def bX11_find_0 (G : Nat × Nat × Nat × Option (Nat × (Nat → Int32)) × (Option Value → qW → Prop)) : qK := (s_iconst 0 (s_istore 3 2 (AW (mX11_find, G) 2)))
theorem oX11_find_0 (G : Nat × Nat × Nat × Option (Nat × (Nat → Int32)) × (Option Value → qW → Prop)) : qImp (bX11_find_0 G) (AW (mX11_find, G) 0) := (r_iconst dX11_find_0 rfl (r_istore_n dX11_find_1 rfl (Or.inr rfl) (Nat.le_of_ble_eq_true rfl) qImp.rf))
def bX11_find_2 (G : Nat × Nat × Nat × Option (Nat × (Nat → Int32)) × (Option Value → qW → Prop)) : qK := (s_iload 3 (s_aload 0 (s_getfield 11 1 (s_ic_ge (AW (mX11_find, G) 29) (s_aload 0 (s_getfield 11 6 (s_iload 3 (s_laload (s_lload 1 (s_lcmp (s_if_ne (AW (mX11_find, G) 23) (s_iload 3 (s_ireturn (mX11_find, G))))))))))))))
theorem oX11_find_2 (G : Nat × Nat × Nat × Option (Nat × (Nat → Int32)) × (Option Value → qW → Prop)) : qImp (bX11_find_2 G) (AW (mX11_find, G) 2) := (r_iload_n dX11_find_2 rfl (r_aload_n dX11_find_3 rfl (r_getfield dX11_find_4 fgX11_96 (r_ic_ge (tgt := 29) dX11_find_7 rfl qImp.rf (r_aload_n dX11_find_10 rfl (r_getfield dX11_find_11 fgX11_9 (r_iload_n dX11_find_14 rfl (r_laload dX11_find_15 (r_lload_n dX11_find_16 rfl (r_lcmp dX11_find_17 (r_if_ne (tgt := 23) dX11_find_18 rfl qImp.rf (r_iload_n dX11_find_21 rfl (r_ireturn dX11_find_22 rfl)))))))))))))
def bX11_find_23 (G : Nat × Nat × Nat × Option (Nat × (Nat → Int32)) × (Option Value → qW → Prop)) : qK := (s_iinc 3 2 1 (AW (mX11_find, G) 2))
theorem oX11_find_23 (G : Nat × Nat × Nat × Option (Nat × (Nat → Int32)) × (Option Value → qW → Prop)) : qImp (bX11_find_23 G) (AW (mX11_find, G) 23) := (r_iinc dX11_find_23 rfl (Or.inr rfl) (Nat.le_of_ble_eq_true rfl) (r_goto (tgt := 2) dX11_find_26 rfl qImp.rf))
def bX11_find_29 (G : Nat × Nat × Nat × Option (Nat × (Nat → Int32)) × (Option Value → qW → Prop)) : qK := (s_iconst (-1) (s_ireturn (mX11_find, G)))
theorem oX11_find_29 (G : Nat × Nat × Nat × Option (Nat × (Nat → Int32)) × (Option Value → qW → Prop)) : qImp (bX11_find_29 G) (AW (mX11_find, G) 29) := (r_iconst dX11_find_29 rfl (r_ireturn dX11_find_30 rfl))
theorem dX11_addNote_0 : decode cX11_addNote 0 = .ok (.aload_n 0, 1) := by decide +kernel
theorem dX11_addNote_1 : decode cX11_addNote 1 = .ok (.getfield 104, 3) := by decide +kernel
theorem dX11_addNote_4 : decode cX11_addNote 4 = .ok (.istore 4, 2) := by decide +kernel
theorem dX11_addNote_6 : decode cX11_addNote 6 = .ok (.aload_n 0, 1) := by decide +kernel
theorem dX11_addNote_7 : decode cX11_addNote 7 = .ok (.dup, 1) := by decide +kernel
theorem dX11_addNote_8 : decode cX11_addNote 8 = .ok (.getfield 104, 3) := by decide +kernel
theorem dX11_addNote_11 : decode cX11_addNote 11 = .ok (.iconst 1, 1) := by decide +kernel
theorem dX11_addNote_12 : decode cX11_addNote 12 = .ok (.iadd, 1) := by decide +kernel
theorem dX11_addNote_13 : decode cX11_addNote 13 = .ok (.putfield 104, 3) := by decide +kernel
theorem dX11_addNote_16 : decode cX11_addNote 16 = .ok (.aload_n 0, 1) := by decide +kernel
theorem dX11_addNote_17 : decode cX11_addNote 17 = .ok (.getfield 13, 3) := by decide +kernel
theorem dX11_addNote_20 : decode cX11_addNote 20 = .ok (.iload 4, 2) := by decide +kernel
theorem dX11_addNote_22 : decode cX11_addNote 22 = .ok (.iload_n 1, 1) := by decide +kernel
theorem dX11_addNote_23 : decode cX11_addNote 23 = .ok (.iastore, 1) := by decide +kernel
theorem dX11_addNote_24 : decode cX11_addNote 24 = .ok (.aload_n 0, 1) := by decide +kernel
theorem dX11_addNote_25 : decode cX11_addNote 25 = .ok (.getfield 17, 3) := by decide +kernel
theorem dX11_addNote_28 : decode cX11_addNote 28 = .ok (.iload 4, 2) := by decide +kernel
theorem dX11_addNote_30 : decode cX11_addNote 30 = .ok (.iload_n 2, 1) := by decide +kernel
theorem dX11_addNote_31 : decode cX11_addNote 31 = .ok (.iastore, 1) := by decide +kernel
theorem dX11_addNote_32 : decode cX11_addNote 32 = .ok (.aload_n 0, 1) := by decide +kernel
theorem dX11_addNote_33 : decode cX11_addNote 33 = .ok (.getfield 20, 3) := by decide +kernel
theorem dX11_addNote_36 : decode cX11_addNote 36 = .ok (.iload 4, 2) := by decide +kernel
theorem dX11_addNote_38 : decode cX11_addNote 38 = .ok (.iload_n 3, 1) := by decide +kernel
theorem dX11_addNote_39 : decode cX11_addNote 39 = .ok (.iastore, 1) := by decide +kernel
theorem dX11_addNote_40 : decode cX11_addNote 40 = .ok (.aload_n 0, 1) := by decide +kernel
theorem dX11_addNote_41 : decode cX11_addNote 41 = .ok (.getfield 23, 3) := by decide +kernel
theorem dX11_addNote_44 : decode cX11_addNote 44 = .ok (.iload 4, 2) := by decide +kernel
theorem dX11_addNote_46 : decode cX11_addNote 46 = .ok (.iconst (-1), 1) := by decide +kernel
theorem dX11_addNote_47 : decode cX11_addNote 47 = .ok (.iastore, 1) := by decide +kernel
theorem dX11_addNote_48 : decode cX11_addNote 48 = .ok (.aload_n 0, 1) := by decide +kernel
theorem dX11_addNote_49 : decode cX11_addNote 49 = .ok (.getfield 26, 3) := by decide +kernel
theorem dX11_addNote_52 : decode cX11_addNote 52 = .ok (.iload 4, 2) := by decide +kernel
theorem dX11_addNote_54 : decode cX11_addNote 54 = .ok (.iconst (-1), 1) := by decide +kernel
theorem dX11_addNote_55 : decode cX11_addNote 55 = .ok (.iastore, 1) := by decide +kernel
theorem dX11_addNote_56 : decode cX11_addNote 56 = .ok (.aload_n 0, 1) := by decide +kernel
theorem dX11_addNote_57 : decode cX11_addNote 57 = .ok (.getfield 29, 3) := by decide +kernel
theorem dX11_addNote_60 : decode cX11_addNote 60 = .ok (.iload 4, 2) := by decide +kernel
theorem dX11_addNote_62 : decode cX11_addNote 62 = .ok (.iconst (-1), 1) := by decide +kernel
theorem dX11_addNote_63 : decode cX11_addNote 63 = .ok (.iastore, 1) := by decide +kernel
theorem dX11_addNote_64 : decode cX11_addNote 64 = .ok (.aload_n 0, 1) := by decide +kernel
theorem dX11_addNote_65 : decode cX11_addNote 65 = .ok (.getfield 32, 3) := by decide +kernel
theorem dX11_addNote_68 : decode cX11_addNote 68 = .ok (.iload 4, 2) := by decide +kernel
theorem dX11_addNote_70 : decode cX11_addNote 70 = .ok (.iconst (-1), 1) := by decide +kernel
theorem dX11_addNote_71 : decode cX11_addNote 71 = .ok (.iastore, 1) := by decide +kernel
theorem dX11_addNote_72 : decode cX11_addNote 72 = .ok (.aload_n 0, 1) := by decide +kernel
theorem dX11_addNote_73 : decode cX11_addNote 73 = .ok (.getfield 35, 3) := by decide +kernel
theorem dX11_addNote_76 : decode cX11_addNote 76 = .ok (.iload 4, 2) := by decide +kernel
theorem dX11_addNote_78 : decode cX11_addNote 78 = .ok (.iconst (-1), 1) := by decide +kernel
theorem dX11_addNote_79 : decode cX11_addNote 79 = .ok (.iastore, 1) := by decide +kernel
theorem dX11_addNote_80 : decode cX11_addNote 80 = .ok (.aload_n 0, 1) := by decide +kernel
theorem dX11_addNote_81 : decode cX11_addNote 81 = .ok (.getfield 38, 3) := by decide +kernel
theorem dX11_addNote_84 : decode cX11_addNote 84 = .ok (.iload 4, 2) := by decide +kernel
theorem dX11_addNote_86 : decode cX11_addNote 86 = .ok (.iconst (-1), 1) := by decide +kernel
theorem dX11_addNote_87 : decode cX11_addNote 87 = .ok (.iastore, 1) := by decide +kernel
theorem dX11_addNote_88 : decode cX11_addNote 88 = .ok (.aload_n 0, 1) := by decide +kernel
theorem dX11_addNote_89 : decode cX11_addNote 89 = .ok (.getfield 41, 3) := by decide +kernel
theorem dX11_addNote_92 : decode cX11_addNote 92 = .ok (.iload 4, 2) := by decide +kernel
theorem dX11_addNote_94 : decode cX11_addNote 94 = .ok (.iconst (-1), 1) := by decide +kernel
theorem dX11_addNote_95 : decode cX11_addNote 95 = .ok (.iastore, 1) := by decide +kernel
theorem dX11_addNote_96 : decode cX11_addNote 96 = .ok (.aload_n 0, 1) := by decide +kernel
theorem dX11_addNote_97 : decode cX11_addNote 97 = .ok (.getfield 44, 3) := by decide +kernel
theorem dX11_addNote_100 : decode cX11_addNote 100 = .ok (.iload 4, 2) := by decide +kernel
theorem dX11_addNote_102 : decode cX11_addNote 102 = .ok (.iconst (-1), 1) := by decide +kernel
theorem dX11_addNote_103 : decode cX11_addNote 103 = .ok (.iastore, 1) := by decide +kernel
theorem dX11_addNote_104 : decode cX11_addNote 104 = .ok (.iload 4, 2) := by decide +kernel
theorem dX11_addNote_106 : decode cX11_addNote 106 = .ok (.ireturn, 1) := by decide +kernel
/-! SealLineModel.addNote(III)I -/
theorem eX11_addNote {d mc ms : Nat} {w : qW} {Q : Option Value → qW → Prop} {q : Nat} {x0 : Int32} {x1 : Int32} {x2 : Int32} (h : AW (mX11_addNote, d, mc, ms, none, Q) 0 [some (.ref q), some (.int x0), some (.int x1), some (.int x2), none] [] w 0 0) : CT mX11_addNote d mc ms [.ref q, .int x0, .int x1, .int x2] w Q := CT_of (by decide +kernel) rfl (Nat.le_of_ble_eq_true rfl) h
def bX11_addNote_0 (G : Nat × Nat × Nat × Option (Nat × (Nat → Int32)) × (Option Value → qW → Prop)) : qK := (s_aload 0 (s_getfield 11 0 (s_istore 4 3 (s_aload 0 (s_dup (s_getfield 11 0 (s_iconst 1 (s_iadd (s_putI 11 0 (s_aload 0 (s_getfield 11 7 (s_iload 4 (s_iload 1 (s_iastore (s_aload 0 (s_getfield 11 8 (s_iload 4 (s_iload 2 (s_iastore (s_aload 0 (s_getfield 11 9 (s_iload 4 (s_iload 3 (s_iastore (s_aload 0 (s_getfield 11 10 (s_iload 4 (s_iconst (-1) (s_iastore (s_aload 0 (s_getfield 11 11 (s_iload 4 (s_iconst (-1) (s_iastore (s_aload 0 (s_getfield 11 12 (s_iload 4 (s_iconst (-1) (s_iastore (s_aload 0 (s_getfield 11 13 (s_iload 4 (s_iconst (-1) (s_iastore (s_aload 0 (s_getfield 11 14 (s_iload 4 (s_iconst (-1) (s_iastore (s_aload 0 (s_getfield 11 15 (s_iload 4 (s_iconst (-1) (s_iastore (s_aload 0 (s_getfield 11 16 (s_iload 4 (s_iconst (-1) (s_iastore (s_aload 0 (s_getfield 11 17 (s_iload 4 (s_iconst (-1) (s_iastore (s_iload 4 (s_ireturn (mX11_addNote, G)))))))))))))))))))))))))))))))))))))))))))))))))))))))))))))))))))
theorem oX11_addNote_0 (G : Nat × Nat × Nat × Option (Nat × (Nat → Int32)) × (Option Value → qW → Prop)) : qImp (bX11_addNote_0 G) (AW (mX11_addNote, G) 0) := (r_aload_n dX11_addNote_0 rfl (r_getfield dX11_addNote_1 fgX11_104 (r_istore dX11_addNote_4 (Or.inr rfl) (Nat.le_of_ble_eq_true rfl) (r_aload_n dX11_addNote_6 rfl (r_dup dX11_addNote_7 (r_getfield dX11_addNote_8 fgX11_104 (r_iconst dX11_addNote_11 rfl (r_iadd dX11_addNote_12 (r_putI dX11_addNote_13 fpX11_104 (fun q hq => by cases hq; rfl) (r_aload_n dX11_addNote_16 rfl (r_getfield dX11_addNote_17 fgX11_13 (r_iload dX11_addNote_20 (r_iload_n dX11_addNote_22 rfl (r_iastore dX11_addNote_23 (r_aload_n dX11_addNote_24 rfl (r_getfield dX11_addNote_25 fgX11_17 (r_iload dX11_addNote_28 (r_iload_n dX11_addNote_30 rfl (r_iastore dX11_addNote_31 (r_aload_n dX11_addNote_32 rfl (r_getfield dX11_addNote_33 fgX11_20 (r_iload dX11_addNote_36 (r_iload_n dX11_addNote_38 rfl (r_iastore dX11_addNote_39 (r_aload_n dX11_addNote_40 rfl (r_getfield dX11_addNote_41 fgX11_23 (r_iload dX11_addNote_44 (r_iconst dX11_addNote_46 rfl (r_iastore dX11_addNote_47 (r_aload_n dX11_addNote_48 rfl (r_getfield dX11_addNote_49 fgX11_26 (r_iload dX11_addNote_52 (r_iconst dX11_addNote_54 rfl (r_iastore dX11_addNote_55 (r_aload_n dX11_addNote_56 rfl (r_getfield dX11_addNote_57 fgX11_29 (r_iload dX11_addNote_60 (r_iconst dX11_addNote_62 rfl (r_iastore dX11_addNote_63 (r_aload_n dX11_addNote_64 rfl (r_getfield dX11_addNote_65 fgX11_32 (r_iload dX11_addNote_68 (r_iconst dX11_addNote_70 rfl (r_iastore dX11_addNote_71 (r_aload_n dX11_addNote_72 rfl (r_getfield dX11_addNote_73 fgX11_35 (r_iload dX11_addNote_76 (r_iconst dX11_addNote_78 rfl (r_iastore dX11_addNote_79 (r_aload_n dX11_addNote_80 rfl (r_getfield dX11_addNote_81 fgX11_38 (r_iload dX11_addNote_84 (r_iconst dX11_addNote_86 rfl (r_iastore dX11_addNote_87 (r_aload_n dX11_addNote_88 rfl (r_getfield dX11_addNote_89 fgX11_41 (r_iload dX11_addNote_92 (r_iconst dX11_addNote_94 rfl (r_iastore dX11_addNote_95 (r_aload_n dX11_addNote_96 rfl (r_getfield dX11_addNote_97 fgX11_44 (r_iload dX11_addNote_100 (r_iconst dX11_addNote_102 rfl (r_iastore dX11_addNote_103 (r_iload dX11_addNote_104 (r_ireturn dX11_addNote_106 rfl))))))))))))))))))))))))))))))))))))))))))))))))))))))))))))))))))
theorem dX11_fileFor_0 : decode cX11_fileFor 0 = .ok (.aload_n 0, 1) := by decide +kernel
theorem dX11_fileFor_1 : decode cX11_fileFor 1 = .ok (.lload_n 1, 1) := by decide +kernel
theorem dX11_fileFor_2 : decode cX11_fileFor 2 = .ok (.invokevirtual 107, 3) := by decide +kernel
theorem dX11_fileFor_5 : decode cX11_fileFor 5 = .ok (.istore_n 3, 1) := by decide +kernel
theorem dX11_fileFor_6 : decode cX11_fileFor 6 = .ok (.iload_n 3, 1) := by decide +kernel
theorem dX11_fileFor_7 : decode cX11_fileFor 7 = .ok (.iconst (-1), 1) := by decide +kernel
theorem dX11_fileFor_8 : decode cX11_fileFor 8 = .ok (.if_icmp .ne 12, 3) := by decide +kernel
theorem dX11_fileFor_11 : decode cX11_fileFor 11 = .ok (.aload_n 0, 1) := by decide +kernel
theorem dX11_fileFor_12 : decode cX11_fileFor 12 = .ok (.getfield 96, 3) := by decide +kernel
theorem dX11_fileFor_15 : decode cX11_fileFor 15 = .ok (.bipush 100, 2) := by decide +kernel
theorem dX11_fileFor_17 : decode cX11_fileFor 17 = .ok (.if_icmp .ne 5, 3) := by decide +kernel
theorem dX11_fileFor_20 : decode cX11_fileFor 20 = .ok (.iload_n 3, 1) := by decide +kernel
theorem dX11_fileFor_21 : decode cX11_fileFor 21 = .ok (.ireturn, 1) := by decide +kernel
theorem dX11_fileFor_22 : decode cX11_fileFor 22 = .ok (.aload_n 0, 1) := by decide +kernel
theorem dX11_fileFor_23 : decode cX11_fileFor 23 = .ok (.getfield 9, 3) := by decide +kernel
theorem dX11_fileFor_26 : decode cX11_fileFor 26 = .ok (.aload_n 0, 1) := by decide +kernel
theorem dX11_fileFor_27 : decode cX11_fileFor 27 = .ok (.getfield 96, 3) := by decide +kernel
theorem dX11_fileFor_30 : decode cX11_fileFor 30 = .ok (.lload_n 1, 1) := by decide +kernel
theorem dX11_fileFor_31 : decode cX11_fileFor 31 = .ok (.lastore, 1) := by decide +kernel
theorem dX11_fileFor_32 : decode cX11_fileFor 32 = .ok (.aload_n 0, 1) := by decide +kernel
theorem dX11_fileFor_33 : decode cX11_fileFor 33 = .ok (.dup, 1) := by decide +kernel
theorem dX11_fileFor_34 : decode cX11_fileFor 34 = .ok (.getfield 96, 3) := by decide +kernel
theorem dX11_fileFor_37 : decode cX11_fileFor 37 = .ok (.iconst 1, 1) := by decide +kernel
theorem dX11_fileFor_38 : decode cX11_fileFor 38 = .ok (.iadd, 1) := by decide +kernel
theorem dX11_fileFor_39 : decode cX11_fileFor 39 = .ok (.putfield 96, 3) := by decide +kernel
theorem dX11_fileFor_42 : decode cX11_fileFor 42 = .ok (.aload_n 0, 1) := by decide +kernel
theorem dX11_fileFor_43 : decode cX11_fileFor 43 = .ok (.getfield 96, 3) := by decide +kernel
theorem dX11_fileFor_46 : decode cX11_fileFor 46 = .ok (.iconst 1, 1) := by decide +kernel
theorem dX11_fileFor_47 : decode cX11_fileFor 47 = .ok (.isub, 1) := by decide +kernel
theorem dX11_fileFor_48 : decode cX11_fileFor 48 = .ok (.ireturn, 1) := by decide +kernel
/-! SealLineModel.fileFor(J)I -/
theorem eX11_fileFor {d mc ms : Nat} {w : qW} {Q : Option Value → qW → Prop} {q : Nat} {x0 : Int64} (h : AW (mX11_fileFor, d, mc, ms, none, Q) 0 [some (.ref q), some (.long x0), none, none] [] w 0 0) : CT mX11_fileFor d mc ms [.ref q, .long x0] w Q := CT_of (by decide +kernel) rfl (Nat.le_of_ble_eq_true rfl) h
def bX11_fileFor_0 (G : Nat × Nat × Nat × Option (Nat × (Nat → Int32)) × (Option Value → qW → Prop)) : qK := (s_aload 0 (s_lload 1 (AW (mX11_fileFor, G) 2)))
theorem oX11_fileFor_0 (G : Nat × Nat × Nat × Option (Nat × (Nat → Int32)) × (Option Value → qW → Prop)) : qImp (bX11_fileFor_0 G) (AW (mX11_fileFor, G) 0) := (r_aload_n dX11_fileFor_0 rfl (r_lload_n dX11_fileFor_1 rfl qImp.rf))
def bX11_fileFor_5 (G : Nat × Nat × Nat × Option (Nat × (Nat → Int32)) × (Option Value → qW → Prop)) : qK := (s_istore 3 2 (s_iload 3 (s_iconst (-1) (s_ic_ne (AW (mX11_fileFor, G) 20) (s_aload 0 (s_getfield 11 1 (s_iconst 100 (s_ic_ne (AW (mX11_fileFor, G) 22) (AW (mX11_fileFor, G) 20)))))))))
theorem oX11_fileFor_5 (G : Nat × Nat × Nat × Option (Nat × (Nat → Int32)) × (Option Value → qW → Prop)) : qImp (bX11_fileFor_5 G) (AW (mX11_fileFor, G) 5) := (r_istore_n dX11_fileFor_5 rfl (Or.inr rfl) (Nat.le_of_ble_eq_true rfl) (r_iload_n dX11_fileFor_6 rfl (r_iconst dX11_fileFor_7 rfl (r_ic_ne (tgt := 20) dX11_fileFor_8 rfl qImp.rf (r_aload_n dX11_fileFor_11 rfl (r_getfield dX11_fileFor_12 fgX11_96 (r_bipush dX11_fileFor_15 rfl (r_ic_ne (tgt := 22) dX11_fileFor_17 rfl qImp.rf qImp.rf))))))))
def bX11_fileFor_20 (G : Nat × Nat × Nat × Option (Nat × (Nat → Int32)) × (Option Value → qW → Prop)) : qK := (s_iload 3 (s_ireturn (mX11_fileFor, G)))
theorem oX11_fileFor_20 (G : Nat × Nat × Nat × Option (Nat × (Nat → Int32)) × (Option Value → qW → Prop)) : qImp (bX11_fileFor_20 G) (AW (mX11_fileFor, G) 20) := (r_iload_n dX11_fileFor_20 rfl (r_ireturn dX11_fileFor_21 rfl))
def bX11_fileFor_22 (G : Nat × Nat × Nat × Option (Nat × (Nat → Int32)) × (Option Value → qW → Prop)) : qK := (s_aload 0 (s_getfield 11 6 (s_aload 0 (s_getfield 11 1 (s_lload 1 (s_lastore (s_aload 0 (s_dup (s_getfield 11 1 (s_iconst 1 (s_iadd (s_putI 11 1 (s_aload 0 (s_getfield 11 1 (s_iconst 1 (s_isub (s_ireturn (mX11_fileFor, G))))))))))))))))))
theorem oX11_fileFor_22 (G : Nat × Nat × Nat × Option (Nat × (Nat → Int32)) × (Option Value → qW → Prop)) : qImp (bX11_fileFor_22 G) (AW (mX11_fileFor, G) 22) := (r_aload_n dX11_fileFor_22 rfl (r_getfield dX11_fileFor_23 fgX11_9 (r_aload_n dX11_fileFor_26 rfl (r_getfield dX11_fileFor_27 fgX11_96 (r_lload_n dX11_fileFor_30 rfl (r_lastore dX11_fileFor_31 (r_aload_n dX11_fileFor_32 rfl (r_dup dX11_fileFor_33 (r_getfield dX11_fileFor_34 fgX11_96 (r_iconst dX11_fileFor_37 rfl (r_iadd dX11_fileFor_38 (r_putI dX11_fileFor_39 fpX11_96 (fun q hq => by cases hq; rfl) (r_aload_n dX11_fileFor_42 rfl (r_getfield dX11_fileFor_43 fgX11_96 (r_iconst dX11_fileFor_46 rfl (r_isub dX11_fileFor_47 (r_ireturn dX11_fileFor_48 rfl)))))))))))))))))
theorem kX11_fileFor_2 {G : Nat × Nat × Nat × Option (Nat × (Nat → Int32)) × (Option Value → qW → Prop)} {L : qL} {w : qW} {kc ks : Nat} {rest : List Value} {q : Nat} {x0 : Int64} {d mc ms : Nat} {Q : Option Value → qW → Prop} (hC : CT mX11_find d mc ms [.ref q, .long x0] w Q) (hq : qci w q = some 11) (hst : rest.length ≤ 4) (hdp : d + 1 ≤ G.1) (hmc : kc + mc ≤ G.2.1 ∧ ks + ms ≤ G.2.2.1) (k : ∀ r w', Q r w' → AW (mX11_fileFor, G) 5 L (r.toList ++ rest) w' (kc + mc) (ks + ms)) : AW (mX11_fileFor, G) 2 L (.long x0 :: .ref q :: rest) w kc ks := a_callV [.long x0] rest dX11_fileFor_2 vX11_find lk1033 hC hq rfl rfl hst hdp hmc k
theorem dX11_source_0 : decode cX11_source 0 = .ok (.iload_n 1, 1) := by decide +kernel
theorem dX11_source_1 : decode cX11_source 1 = .ok (.invokestatic 111, 3) := by decide +kernel
theorem dX11_source_4 : decode cX11_source 4 = .ok (.ifCond .eq 31, 3) := by decide +kernel
theorem dX11_source_7 : decode cX11_source 7 = .ok (.aload_n 0, 1) := by decide +kernel
theorem dX11_source_8 : decode cX11_source 8 = .ok (.getfield 104, 3) := by decide +kernel
theorem dX11_source_11 : decode cX11_source 11 = .ok (.sipush 400, 3) := by decide +kernel
theorem dX11_source_14 : decode cX11_source 14 = .ok (.if_icmp .eq 21, 3) := by decide +kernel
theorem dX11_source_17 : decode cX11_source 17 = .ok (.aload_n 0, 1) := by decide +kernel
theorem dX11_source_18 : decode cX11_source 18 = .ok (.lload_n 2, 1) := by decide +kernel
theorem dX11_source_19 : decode cX11_source 19 = .ok (.invokevirtual 107, 3) := by decide +kernel
theorem dX11_source_22 : decode cX11_source 22 = .ok (.iconst (-1), 1) := by decide +kernel
theorem dX11_source_23 : decode cX11_source 23 = .ok (.if_icmp .ne 14, 3) := by decide +kernel
theorem dX11_source_26 : decode cX11_source 26 = .ok (.aload_n 0, 1) := by decide +kernel
theorem dX11_source_27 : decode cX11_source 27 = .ok (.getfield 96, 3) := by decide +kernel
theorem dX11_source_30 : decode cX11_source 30 = .ok (.bipush 100, 2) := by decide +kernel
theorem dX11_source_32 : decode cX11_source 32 = .ok (.if_icmp .ne 5, 3) := by decide +kernel
theorem dX11_source_35 : decode cX11_source 35 = .ok (.iconst (-1), 1) := by decide +kernel
theorem dX11_source_36 : decode cX11_source 36 = .ok (.ireturn, 1) := by decide +kernel
theorem dX11_source_37 : decode cX11_source 37 = .ok (.aload_n 0, 1) := by decide +kernel
theorem dX11_source_38 : decode cX11_source 38 = .ok (.lload_n 2, 1) := by decide +kernel
theorem dX11_source_39 : decode cX11_source 39 = .ok (.invokevirtual 115, 3) := by decide +kernel
theorem dX11_source_42 : decode cX11_source 42 = .ok (.istore 4, 2) := by decide +kernel
theorem dX11_source_44 : decode cX11_source 44 = .ok (.aload_n 0, 1) := by decide +kernel
theorem dX11_source_45 : decode cX11_source 45 = .ok (.iconst 0, 1) := by decide +kernel
theorem dX11_source_46 : decode cX11_source 46 = .ok (.iload 4, 2) := by decide +kernel
theorem dX11_source_48 : decode cX11_source 48 = .ok (.iload_n 1, 1) := by decide +kernel
theorem dX11_source_49 : decode cX11_source 49 = .ok (.invokevirtual 118, 3) := by decide +kernel
theorem dX11_source_52 : decode cX11_source 52 = .ok (.pop, 1) := by decide +kernel
theorem dX11_source_53 : decode cX11_source 53 = .ok (.iload 4, 2) := by decide +kernel
theorem dX11_source_55 : decode cX11_source 55 = .ok (.ireturn, 1) := by decide +kernel
/-! SealLineModel.source(IJ)I -/
theorem eX11_source {d mc ms : Nat} {w : qW} {Q : Option Value → qW → Prop} {q : Nat} {x0 : Int32} {x1 : Int64} (h : AW (mX11_source, d, mc, ms, none, Q) 0 [some (.ref q), some (.int x0), some (.long x1), none, none] [] w 0 0) : CT mX11_source d mc ms [.ref q, .int x0, .long x1] w Q := CT_of (by decide +kernel) rfl (Nat.le_of_ble_eq_true rfl) h
def bX11_source_0 (G : Nat × Nat × Nat × Option (Nat × (Nat → Int32)) × (Option Value → qW → Prop)) : qK := (s_iload 1 (AW (mX11_source, G) 1))
theorem oX11_source_0 (G : Nat × Nat × Nat × Option (Nat × (Nat → Int32)) × (Option Value → qW → Prop)) : qImp (bX11_source_0 G) (AW (mX11_source, G) 0) := (r_iload_n dX11_source_0 rfl qImp.rf)
def bX11_source_4 (G : Nat × Nat × Nat × Option (Nat × (Nat → Int32)) × (Option Value → qW → Prop)) : qK := (s_if_eq (AW (mX11_source, G) 35) (s_aload 0 (s_getfield 11 0 (s_iconst 400 (s_ic_eq (AW (mX11_source, G) 35) (s_aload 0 (s_lload 2 (AW (mX11_source, G) 19))))))))
theorem oX11_source_4 (G : Nat × Nat × Nat × Option (Nat × (Nat → Int32)) × (Option Value → qW → Prop)) : qImp (bX11_source_4 G) (AW (mX11_source, G) 4) := (r_if_eq (tgt := 35) dX11_source_4 rfl qImp.rf (r_aload_n dX11_source_7 rfl (r_getfield dX11_source_8 fgX11_104 (r_sipush dX11_source_11 rfl (r_ic_eq (tgt := 35) dX11_source_14 rfl qImp.rf (r_aload_n dX11_source_17 rfl (r_lload_n dX11_source_18 rfl qImp.rf)))))))
def bX11_source_22 (G : Nat × Nat × Nat × Option (Nat × (Nat → Int32)) × (Option Value → qW → Prop)) : qK := (s_iconst (-1) (s_ic_ne (AW (mX11_source, G) 37) (s_aload 0 (s_getfield 11 1 (s_iconst 100 (s_ic_ne (AW (mX11_source, G) 37) (AW (mX11_source, G) 35)))))))
theorem oX11_source_22 (G : Nat × Nat × Nat × Option (Nat × (Nat → Int32)) × (Option Value → qW → Prop)) : qImp (bX11_source_22 G) (AW (mX11_source, G) 22) := (r_iconst dX11_source_22 rfl (r_ic_ne (tgt := 37) dX11_source_23 rfl qImp.rf (r_aload_n dX11_source_26 rfl (r_getfield dX11_source_27 fgX11_96 (r_bipush dX11_source_30 rfl (r_ic_ne (tgt := 37) dX11_source_32 rfl qImp.rf qImp.rf))))))
def bX11_source_35 (G : Nat × Nat × Nat × Option (Nat × (Nat → Int32)) × (Option Value → qW → Prop)) : qK := (s_iconst (-1) (s_ireturn (mX11_source, G)))
theorem oX11_source_35 (G : Nat × Nat × Nat × Option (Nat × (Nat → Int32)) × (Option Value → qW → Prop)) : qImp (bX11_source_35 G) (AW (mX11_source, G) 35) := (r_iconst dX11_source_35 rfl (r_ireturn dX11_source_36 rfl))
def bX11_source_37 (G : Nat × Nat × Nat × Option (Nat × (Nat → Int32)) × (Option Value → qW → Prop)) : qK := (s_aload 0 (s_lload 2 (AW (mX11_source, G) 39)))
theorem oX11_source_37 (G : Nat × Nat × Nat × Option (Nat × (Nat → Int32)) × (Option Value → qW → Prop)) : qImp (bX11_source_37 G) (AW (mX11_source, G) 37) := (r_aload_n dX11_source_37 rfl (r_lload_n dX11_source_38 rfl qImp.rf))
def bX11_source_42 (G : Nat × Nat × Nat × Option (Nat × (Nat → Int32)) × (Option Value → qW → Prop)) : qK := (s_istore 4 3 (s_aload 0 (s_iconst 0 (s_iload 4 (s_iload 1 (AW (mX11_source, G) 49))))))
theorem oX11_source_42 (G : Nat × Nat × Nat × Option (Nat × (Nat → Int32)) × (Option Value → qW → Prop)) : qImp (bX11_source_42 G) (AW (mX11_source, G) 42) := (r_istore dX11_source_42 (Or.inr rfl) (Nat.le_of_ble_eq_true rfl) (r_aload_n dX11_source_44 rfl (r_iconst dX11_source_45 rfl (r_iload dX11_source_46 (r_iload_n dX11_source_48 rfl qImp.rf)))))
def bX11_source_52 (G : Nat × Nat × Nat × Option (Nat × (Nat → Int32)) × (Option Value → qW → Prop)) : qK := (s_pop (s_iload 4 (s_ireturn (mX11_source, G))))
theorem oX11_source_52 (G : Nat × Nat × Nat × Option (Nat × (Nat → Int32)) × (Option Value → qW → Prop)) : qImp (bX11_source_52 G) (AW (mX11_source, G) 52) := (r_pop dX11_source_52 (r_iload dX11_source_53 (r_ireturn dX11_source_55 rfl)))
theorem kX11_source_1 {G : Nat × Nat × Nat × Option (Nat × (Nat → Int32)) × (Option Value → qW → Prop)} {L : qL} {w : qW} {kc ks : Nat} {rest : List Value}  {x0 : Int32} {d mc ms : Nat} {Q : Option Value → qW → Prop} (hC : CT mX11_isHand d mc ms [.int x0] w Q) (hst : rest.length ≤ 4) (hdp : d + 1 ≤ G.1) (hmc : kc + mc ≤ G.2.1 ∧ ks + ms ≤ G.2.2.1) (k : ∀ r w', Q r w' → AW (mX11_source, G) 4 L (r.toList ++ rest) w' (kc + mc) (ks + ms)) : AW (mX11_source, G) 1 L (.int x0 :: rest) w kc ks := a_callS [.int x0] rest dX11_source_1 tX11_isHand lk1027 hC rfl hst hdp hmc k
theorem kX11_source_19 {G : Nat × Nat × Nat × Option (Nat × (Nat → Int32)) × (Option Value → qW → Prop)} {L : qL} {w : qW} {kc ks : Nat} {rest : List Value} {q : Nat} {x0 : Int64} {d mc ms : Nat} {Q : Option Value → qW → Prop} (hC : CT mX11_find d mc ms [.ref q, .long x0] w Q) (hq : qci w q = some 11) (hst : rest.length ≤ 4) (hdp : d + 1 ≤ G.1) (hmc : kc + mc ≤ G.2.1 ∧ ks + ms ≤ G.2.2.1) (k : ∀ r w', Q r w' → AW (mX11_source, G) 22 L (r.toList ++ rest) w' (kc + mc) (ks + ms)) : AW (mX11_source, G) 19 L (.long x0 :: .ref q :: rest) w kc ks := a_callV [.long x0] rest dX11_source_19 vX11_find lk1033 hC hq rfl rfl hst hdp hmc k
theorem kX11_source_39 {G : Nat × Nat × Nat × Option (Nat × (Nat → Int32)) × (Option Value → qW → Prop)} {L : qL} {w : qW} {kc ks : Nat} {rest : List Value} {q : Nat} {x0 : Int64} {d mc ms : Nat} {Q : Option Value → qW → Prop} (hC : CT mX11_fileFor d mc ms [.ref q, .long x0] w Q) (hq : qci w q = some 11) (hst : rest.length ≤ 4) (hdp : d + 1 ≤ G.1) (hmc : kc + mc ≤ G.2.1 ∧ ks + ms ≤ G.2.2.1) (k : ∀ r w', Q r w' → AW (mX11_source, G) 42 L (r.toList ++ rest) w' (kc + mc) (ks + ms)) : AW (mX11_source, G) 39 L (.long x0 :: .ref q :: rest) w kc ks := a_callV [.long x0] rest dX11_source_39 vX11_fileFor lk1034 hC hq rfl rfl hst hdp hmc k
theorem kX11_source_49 {G : Nat × Nat × Nat × Option (Nat × (Nat → Int32)) × (Option Value → qW → Prop)} {L : qL} {w : qW} {kc ks : Nat} {rest : List Value} {q : Nat} {x0 : Int32} {x1 : Int32} {x2 : Int32} {d mc ms : Nat} {Q : Option Value → qW → Prop} (hC : CT mX11_addNote d mc ms [.ref q, .int x0, .int x1, .int x2] w Q) (hq : qci w q = some 11) (hst : rest.length ≤ 4) (hdp : d + 1 ≤ G.1) (hmc : kc + mc ≤ G.2.1 ∧ ks + ms ≤ G.2.2.1) (k : ∀ r w', Q r w' → AW (mX11_source, G) 52 L (r.toList ++ rest) w' (kc + mc) (ks + ms)) : AW (mX11_source, G) 49 L (.int x2 :: .int x1 :: .int x0 :: .ref q :: rest) w kc ks := a_callV [.int x0, .int x1, .int x2] rest dX11_source_49 vX11_addNote lk1038 hC hq rfl rfl hst hdp hmc k
theorem dX11_went_0 : decode cX11_went 0 = .ok (.iload_n 2, 1) := by decide +kernel
theorem dX11_went_1 : decode cX11_went 1 = .ok (.ifCond .ne 12, 3) := by decide +kernel
theorem dX11_went_4 : decode cX11_went 4 = .ok (.aload_n 0, 1) := by decide +kernel
theorem dX11_went_5 : decode cX11_went 5 = .ok (.getfield 29, 3) := by decide +kernel
theorem dX11_went_8 : decode cX11_went 8 = .ok (.iload_n 1, 1) := by decide +kernel
theorem dX11_went_9 : decode cX11_went 9 = .ok (.iaload, 1) := by decide +kernel
theorem dX11_went_10 : decode cX11_went 10 = .ok (.goto 23, 3) := by decide +kernel
theorem dX11_went_13 : decode cX11_went 13 = .ok (.iload_n 2, 1) := by decide +kernel
theorem dX11_went_14 : decode cX11_went 14 = .ok (.iconst 1, 1) := by decide +kernel
theorem dX11_went_15 : decode cX11_went 15 = .ok (.if_icmp .ne 12, 3) := by decide +kernel
theorem dX11_went_18 : decode cX11_went 18 = .ok (.aload_n 0, 1) := by decide +kernel
theorem dX11_went_19 : decode cX11_went 19 = .ok (.getfield 32, 3) := by decide +kernel
theorem dX11_went_22 : decode cX11_went 22 = .ok (.iload_n 1, 1) := by decide +kernel
theorem dX11_went_23 : decode cX11_went 23 = .ok (.iaload, 1) := by decide +kernel
theorem dX11_went_24 : decode cX11_went 24 = .ok (.goto 9, 3) := by decide +kernel
theorem dX11_went_27 : decode cX11_went 27 = .ok (.aload_n 0, 1) := by decide +kernel
theorem dX11_went_28 : decode cX11_went 28 = .ok (.getfield 35, 3) := by decide +kernel
theorem dX11_went_31 : decode cX11_went 31 = .ok (.iload_n 1, 1) := by decide +kernel
theorem dX11_went_32 : decode cX11_went 32 = .ok (.iaload, 1) := by decide +kernel
theorem dX11_went_33 : decode cX11_went 33 = .ok (.ireturn, 1) := by decide +kernel
/-! SealLineModel.went(II)I -/
theorem eX11_went {d mc ms : Nat} {w : qW} {Q : Option Value → qW → Prop} {q : Nat} {x0 : Int32} {x1 : Int32} (h : AW (mX11_went, d, mc, ms, none, Q) 0 [some (.ref q), some (.int x0), some (.int x1)] [] w 0 0) : CT mX11_went d mc ms [.ref q, .int x0, .int x1] w Q := CT_of (by decide +kernel) rfl (Nat.le_of_ble_eq_true rfl) h
def bX11_went_0 (G : Nat × Nat × Nat × Option (Nat × (Nat → Int32)) × (Option Value → qW → Prop)) : qK := (s_iload 2 (s_if_ne (AW (mX11_went, G) 13) (s_aload 0 (s_getfield 11 12 (s_iload 1 (s_iaload (mX11_went, G) (AW (mX11_went, G) 33)))))))
theorem oX11_went_0 (G : Nat × Nat × Nat × Option (Nat × (Nat → Int32)) × (Option Value → qW → Prop)) : qImp (bX11_went_0 G) (AW (mX11_went, G) 0) := (r_iload_n dX11_went_0 rfl (r_if_ne (tgt := 13) dX11_went_1 rfl qImp.rf (r_aload_n dX11_went_4 rfl (r_getfield dX11_went_5 fgX11_29 (r_iload_n dX11_went_8 rfl (r_iaload dX11_went_9 (r_goto (tgt := 33) dX11_went_10 rfl qImp.rf)))))))
def bX11_went_13 (G : Nat × Nat × Nat × Option (Nat × (Nat → Int32)) × (Option Value → qW → Prop)) : qK := (s_iload 2 (s_iconst 1 (s_ic_ne (AW (mX11_went, G) 27) (s_aload 0 (s_getfield 11 13 (s_iload 1 (s_iaload (mX11_went, G) (AW (mX11_went, G) 33))))))))
theorem oX11_went_13 (G : Nat × Nat × Nat × Option (Nat × (Nat → Int32)) × (Option Value → qW → Prop)) : qImp (bX11_went_13 G) (AW (mX11_went, G) 13) := (r_iload_n dX11_went_13 rfl (r_iconst dX11_went_14 rfl (r_ic_ne (tgt := 27) dX11_went_15 rfl qImp.rf (r_aload_n dX11_went_18 rfl (r_getfield dX11_went_19 fgX11_32 (r_iload_n dX11_went_22 rfl (r_iaload dX11_went_23 (r_goto (tgt := 33) dX11_went_24 rfl qImp.rf))))))))
def bX11_went_27 (G : Nat × Nat × Nat × Option (Nat × (Nat → Int32)) × (Option Value → qW → Prop)) : qK := (s_aload 0 (s_getfield 11 14 (s_iload 1 (s_iaload (mX11_went, G) (AW (mX11_went, G) 33)))))
theorem oX11_went_27 (G : Nat × Nat × Nat × Option (Nat × (Nat → Int32)) × (Option Value → qW → Prop)) : qImp (bX11_went_27 G) (AW (mX11_went, G) 27) := (r_aload_n dX11_went_27 rfl (r_getfield dX11_went_28 fgX11_35 (r_iload_n dX11_went_31 rfl (r_iaload dX11_went_32 qImp.rf))))
def bX11_went_33 (G : Nat × Nat × Nat × Option (Nat × (Nat → Int32)) × (Option Value → qW → Prop)) : qK := (s_ireturn (mX11_went, G))
theorem oX11_went_33 (G : Nat × Nat × Nat × Option (Nat × (Nat → Int32)) × (Option Value → qW → Prop)) : qImp (bX11_went_33 G) (AW (mX11_went, G) 33) := (r_ireturn dX11_went_33 rfl)
theorem dX11_addRow_0 : decode cX11_addRow 0 = .ok (.iconst 0, 1) := by decide +kernel
theorem dX11_addRow_1 : decode cX11_addRow 1 = .ok (.istore_n 2, 1) := by decide +kernel
theorem dX11_addRow_2 : decode cX11_addRow 2 = .ok (.aload_n 0, 1) := by decide +kernel
theorem dX11_addRow_3 : decode cX11_addRow 3 = .ok (.getfield 72, 3) := by decide +kernel
theorem dX11_addRow_6 : decode cX11_addRow 6 = .ok (.iload_n 1, 1) := by decide +kernel
theorem dX11_addRow_7 : decode cX11_addRow 7 = .ok (.baload, 1) := by decide +kernel
theorem dX11_addRow_8 : decode cX11_addRow 8 = .ok (.ifCond .ne 20, 3) := by decide +kernel
theorem dX11_addRow_11 : decode cX11_addRow 11 = .ok (.aload_n 0, 1) := by decide +kernel
theorem dX11_addRow_12 : decode cX11_addRow 12 = .ok (.getfield 72, 3) := by decide +kernel
theorem dX11_addRow_15 : decode cX11_addRow 15 = .ok (.iload_n 1, 1) := by decide +kernel
theorem dX11_addRow_16 : decode cX11_addRow 16 = .ok (.iconst 1, 1) := by decide +kernel
theorem dX11_addRow_17 : decode cX11_addRow 17 = .ok (.bastore, 1) := by decide +kernel
theorem dX11_addRow_18 : decode cX11_addRow 18 = .ok (.aload_n 0, 1) := by decide +kernel
theorem dX11_addRow_19 : decode cX11_addRow 19 = .ok (.getfield 75, 3) := by decide +kernel
theorem dX11_addRow_22 : decode cX11_addRow 22 = .ok (.iload_n 2, 1) := by decide +kernel
theorem dX11_addRow_23 : decode cX11_addRow 23 = .ok (.iload_n 1, 1) := by decide +kernel
theorem dX11_addRow_24 : decode cX11_addRow 24 = .ok (.iastore, 1) := by decide +kernel
theorem dX11_addRow_25 : decode cX11_addRow 25 = .ok (.iinc 2 1, 3) := by decide +kernel
theorem dX11_addRow_28 : decode cX11_addRow 28 = .ok (.iload_n 2, 1) := by decide +kernel
theorem dX11_addRow_29 : decode cX11_addRow 29 = .ok (.ifCond .le 119, 3) := by decide +kernel
theorem dX11_addRow_32 : decode cX11_addRow 32 = .ok (.iinc 2 (-1), 3) := by decide +kernel
theorem dX11_addRow_35 : decode cX11_addRow 35 = .ok (.aload_n 0, 1) := by decide +kernel
theorem dX11_addRow_36 : decode cX11_addRow 36 = .ok (.getfield 75, 3) := by decide +kernel
theorem dX11_addRow_39 : decode cX11_addRow 39 = .ok (.iload_n 2, 1) := by decide +kernel
theorem dX11_addRow_40 : decode cX11_addRow 40 = .ok (.iaload, 1) := by decide +kernel
theorem dX11_addRow_41 : decode cX11_addRow 41 = .ok (.istore_n 3, 1) := by decide +kernel
theorem dX11_addRow_42 : decode cX11_addRow 42 = .ok (.iconst 0, 1) := by decide +kernel
theorem dX11_addRow_43 : decode cX11_addRow 43 = .ok (.istore 4, 2) := by decide +kernel
theorem dX11_addRow_45 : decode cX11_addRow 45 = .ok (.iload 4, 2) := by decide +kernel
theorem dX11_addRow_47 : decode cX11_addRow 47 = .ok (.aload_n 0, 1) := by decide +kernel
theorem dX11_addRow_48 : decode cX11_addRow 48 = .ok (.getfield 104, 3) := by decide +kernel
theorem dX11_addRow_51 : decode cX11_addRow 51 = .ok (.if_icmp .ge 94, 3) := by decide +kernel
theorem dX11_addRow_54 : decode cX11_addRow 54 = .ok (.aload_n 0, 1) := by decide +kernel
theorem dX11_addRow_55 : decode cX11_addRow 55 = .ok (.getfield 13, 3) := by decide +kernel
theorem dX11_addRow_58 : decode cX11_addRow 58 = .ok (.iload 4, 2) := by decide +kernel
theorem dX11_addRow_60 : decode cX11_addRow 60 = .ok (.iaload, 1) := by decide +kernel
theorem dX11_addRow_61 : decode cX11_addRow 61 = .ok (.iconst 1, 1) := by decide +kernel
theorem dX11_addRow_62 : decode cX11_addRow 62 = .ok (.if_icmp .ne 77, 3) := by decide +kernel
theorem dX11_addRow_65 : decode cX11_addRow 65 = .ok (.aload_n 0, 1) := by decide +kernel
theorem dX11_addRow_66 : decode cX11_addRow 66 = .ok (.getfield 17, 3) := by decide +kernel
theorem dX11_addRow_69 : decode cX11_addRow 69 = .ok (.iload 4, 2) := by decide +kernel
theorem dX11_addRow_71 : decode cX11_addRow 71 = .ok (.iaload, 1) := by decide +kernel
theorem dX11_addRow_72 : decode cX11_addRow 72 = .ok (.iload_n 3, 1) := by decide +kernel
theorem dX11_addRow_73 : decode cX11_addRow 73 = .ok (.if_icmp .eq 6, 3) := by decide +kernel
theorem dX11_addRow_76 : decode cX11_addRow 76 = .ok (.goto 63, 3) := by decide +kernel
theorem dX11_addRow_79 : decode cX11_addRow 79 = .ok (.iconst 0, 1) := by decide +kernel
theorem dX11_addRow_80 : decode cX11_addRow 80 = .ok (.istore 5, 2) := by decide +kernel
theorem dX11_addRow_82 : decode cX11_addRow 82 = .ok (.iload 5, 2) := by decide +kernel
theorem dX11_addRow_84 : decode cX11_addRow 84 = .ok (.iconst 3, 1) := by decide +kernel
theorem dX11_addRow_85 : decode cX11_addRow 85 = .ok (.if_icmp .ge 54, 3) := by decide +kernel
theorem dX11_addRow_88 : decode cX11_addRow 88 = .ok (.aload_n 0, 1) := by decide +kernel
theorem dX11_addRow_89 : decode cX11_addRow 89 = .ok (.iload 4, 2) := by decide +kernel
theorem dX11_addRow_91 : decode cX11_addRow 91 = .ok (.iload 5, 2) := by decide +kernel
theorem dX11_addRow_93 : decode cX11_addRow 93 = .ok (.invokevirtual 122, 3) := by decide +kernel
theorem dX11_addRow_96 : decode cX11_addRow 96 = .ok (.istore 6, 2) := by decide +kernel
theorem dX11_addRow_98 : decode cX11_addRow 98 = .ok (.iload 6, 2) := by decide +kernel
theorem dX11_addRow_100 : decode cX11_addRow 100 = .ok (.iconst (-1), 1) := by decide +kernel
theorem dX11_addRow_101 : decode cX11_addRow 101 = .ok (.if_icmp .eq 32, 3) := by decide +kernel
theorem dX11_addRow_104 : decode cX11_addRow 104 = .ok (.aload_n 0, 1) := by decide +kernel
theorem dX11_addRow_105 : decode cX11_addRow 105 = .ok (.getfield 72, 3) := by decide +kernel
theorem dX11_addRow_108 : decode cX11_addRow 108 = .ok (.iload 6, 2) := by decide +kernel
theorem dX11_addRow_110 : decode cX11_addRow 110 = .ok (.baload, 1) := by decide +kernel
theorem dX11_addRow_111 : decode cX11_addRow 111 = .ok (.ifCond .ne 22, 3) := by decide +kernel
theorem dX11_addRow_114 : decode cX11_addRow 114 = .ok (.aload_n 0, 1) := by decide +kernel
theorem dX11_addRow_115 : decode cX11_addRow 115 = .ok (.getfield 72, 3) := by decide +kernel
theorem dX11_addRow_118 : decode cX11_addRow 118 = .ok (.iload 6, 2) := by decide +kernel
theorem dX11_addRow_120 : decode cX11_addRow 120 = .ok (.iconst 1, 1) := by decide +kernel
theorem dX11_addRow_121 : decode cX11_addRow 121 = .ok (.bastore, 1) := by decide +kernel
theorem dX11_addRow_122 : decode cX11_addRow 122 = .ok (.aload_n 0, 1) := by decide +kernel
theorem dX11_addRow_123 : decode cX11_addRow 123 = .ok (.getfield 75, 3) := by decide +kernel
theorem dX11_addRow_126 : decode cX11_addRow 126 = .ok (.iload_n 2, 1) := by decide +kernel
theorem dX11_addRow_127 : decode cX11_addRow 127 = .ok (.iload 6, 2) := by decide +kernel
theorem dX11_addRow_129 : decode cX11_addRow 129 = .ok (.iastore, 1) := by decide +kernel
theorem dX11_addRow_130 : decode cX11_addRow 130 = .ok (.iinc 2 1, 3) := by decide +kernel
theorem dX11_addRow_133 : decode cX11_addRow 133 = .ok (.iinc 5 1, 3) := by decide +kernel
theorem dX11_addRow_136 : decode cX11_addRow 136 = .ok (.goto (-54), 3) := by decide +kernel
theorem dX11_addRow_139 : decode cX11_addRow 139 = .ok (.iinc 4 1, 3) := by decide +kernel
theorem dX11_addRow_142 : decode cX11_addRow 142 = .ok (.goto (-97), 3) := by decide +kernel
theorem dX11_addRow_145 : decode cX11_addRow 145 = .ok (.goto (-117), 3) := by decide +kernel
theorem dX11_addRow_148 : decode cX11_addRow 148 = .ok (.return_, 1) := by decide +kernel
/-! SealLineModel.addRow(I)V -/
theorem eX11_addRow {d mc ms : Nat} {w : qW} {Q : Option Value → qW → Prop} {q : Nat} {x0 : Int32} (h : AW (mX11_addRow, d, mc, ms, none, Q) 0 [some (.ref q), some (.int x0), none, none, none, none, none] [] w 0 0) : CT mX11_addRow d mc ms [.ref q, .int x0] w Q := CT_of (by decide +kernel) rfl (Nat.le_of_ble_eq_true rfl) h
def bX11_addRow_0 (G : Nat × Nat × Nat × Option (Nat × (Nat → Int32)) × (Option Value → qW → Prop)) : qK := (s_iconst 0 (s_istore 2 1 (s_aload 0 (s_getfield 11 26 (s_iload 1 (s_baload (s_if_ne (AW (mX11_addRow, G) 28) (s_aload 0 (s_getfield 11 26 (s_iload 1 (s_iconst 1 (s_bastore (s_aload 0 (s_getfield 11 27 (s_iload 2 (s_iload 1 (s_iastore (s_iinc 2 1 1 (AW (mX11_addRow, G) 28)))))))))))))))))))
theorem oX11_addRow_0 (G : Nat × Nat × Nat × Option (Nat × (Nat → Int32)) × (Option Value → qW → Prop)) : qImp (bX11_addRow_0 G) (AW (mX11_addRow, G) 0) := (r_iconst dX11_addRow_0 rfl (r_istore_n dX11_addRow_1 rfl (Or.inr rfl) (Nat.le_of_ble_eq_true rfl) (r_aload_n dX11_addRow_2 rfl (r_getfield dX11_addRow_3 fgX11_72 (r_iload_n dX11_addRow_6 rfl (r_baload dX11_addRow_7 (r_if_ne (tgt := 28) dX11_addRow_8 rfl qImp.rf (r_aload_n dX11_addRow_11 rfl (r_getfield dX11_addRow_12 fgX11_72 (r_iload_n dX11_addRow_15 rfl (r_iconst dX11_addRow_16 rfl (r_bastore dX11_addRow_17 (r_aload_n dX11_addRow_18 rfl (r_getfield dX11_addRow_19 fgX11_75 (r_iload_n dX11_addRow_22 rfl (r_iload_n dX11_addRow_23 rfl (r_iastore dX11_addRow_24 (r_iinc dX11_addRow_25 rfl (Or.inr rfl) (Nat.le_of_ble_eq_true rfl) qImp.rf))))))))))))))))))
def bX11_addRow_28 (G : Nat × Nat × Nat × Option (Nat × (Nat → Int32)) × (Option Value → qW → Prop)) : qK := (s_iload 2 (s_if_le (AW (mX11_addRow, G) 148) (s_iinc 2 1 (-1) (s_aload 0 (s_getfield 11 27 (s_iload 2 (s_iaload (mX11_addRow, G) (s_istore 3 2 (s_iconst 0 (s_istore 4 3 (AW (mX11_addRow, G) 45)))))))))))
theorem oX11_addRow_28 (G : Nat × Nat × Nat × Option (Nat × (Nat → Int32)) × (Option Value → qW → Prop)) : qImp (bX11_addRow_28 G) (AW (mX11_addRow, G) 28) := (r_iload_n dX11_addRow_28 rfl (r_if_le (tgt := 148) dX11_addRow_29 rfl qImp.rf (r_iinc dX11_addRow_32 rfl (Or.inr rfl) (Nat.le_of_ble_eq_true rfl) (r_aload_n dX11_addRow_35 rfl (r_getfield dX11_addRow_36 fgX11_75 (r_iload_n dX11_addRow_39 rfl (r_iaload dX11_addRow_40 (r_istore_n dX11_addRow_41 rfl (Or.inr rfl) (Nat.le_of_ble_eq_true rfl) (r_iconst dX11_addRow_42 rfl (r_istore dX11_addRow_43 (Or.inr rfl) (Nat.le_of_ble_eq_true rfl) qImp.rf))))))))))
def bX11_addRow_45 (G : Nat × Nat × Nat × Option (Nat × (Nat → Int32)) × (Option Value → qW → Prop)) : qK := (s_iload 4 (s_aload 0 (s_getfield 11 0 (s_ic_ge (AW (mX11_addRow, G) 145) (s_aload 0 (s_getfield 11 7 (s_iload 4 (s_iaload (mX11_addRow, G) (s_iconst 1 (s_ic_ne (AW (mX11_addRow, G) 139) (s_aload 0 (s_getfield 11 8 (s_iload 4 (s_iaload (mX11_addRow, G) (s_iload 3 (s_ic_eq (AW (mX11_addRow, G) 79) (AW (mX11_addRow, G) 139)))))))))))))))))
theorem oX11_addRow_45 (G : Nat × Nat × Nat × Option (Nat × (Nat → Int32)) × (Option Value → qW → Prop)) : qImp (bX11_addRow_45 G) (AW (mX11_addRow, G) 45) := (r_iload dX11_addRow_45 (r_aload_n dX11_addRow_47 rfl (r_getfield dX11_addRow_48 fgX11_104 (r_ic_ge (tgt := 145) dX11_addRow_51 rfl qImp.rf (r_aload_n dX11_addRow_54 rfl (r_getfield dX11_addRow_55 fgX11_13 (r_iload dX11_addRow_58 (r_iaload dX11_addRow_60 (r_iconst dX11_addRow_61 rfl (r_ic_ne (tgt := 139) dX11_addRow_62 rfl qImp.rf (r_aload_n dX11_addRow_65 rfl (r_getfield dX11_addRow_66 fgX11_17 (r_iload dX11_addRow_69 (r_iaload dX11_addRow_71 (r_iload_n dX11_addRow_72 rfl (r_ic_eq (tgt := 79) dX11_addRow_73 rfl qImp.rf (r_goto (tgt := 139) dX11_addRow_76 rfl qImp.rf)))))))))))))))))
def bX11_addRow_79 (G : Nat × Nat × Nat × Option (Nat × (Nat → Int32)) × (Option Value → qW → Prop)) : qK := (s_iconst 0 (s_istore 5 4 (AW (mX11_addRow, G) 82)))
theorem oX11_addRow_79 (G : Nat × Nat × Nat × Option (Nat × (Nat → Int32)) × (Option Value → qW → Prop)) : qImp (bX11_addRow_79 G) (AW (mX11_addRow, G) 79) := (r_iconst dX11_addRow_79 rfl (r_istore dX11_addRow_80 (Or.inr rfl) (Nat.le_of_ble_eq_true rfl) qImp.rf))
def bX11_addRow_82 (G : Nat × Nat × Nat × Option (Nat × (Nat → Int32)) × (Option Value → qW → Prop)) : qK := (s_iload 5 (s_iconst 3 (s_ic_ge (AW (mX11_addRow, G) 139) (s_aload 0 (s_iload 4 (s_iload 5 (AW (mX11_addRow, G) 93)))))))
theorem oX11_addRow_82 (G : Nat × Nat × Nat × Option (Nat × (Nat → Int32)) × (Option Value → qW → Prop)) : qImp (bX11_addRow_82 G) (AW (mX11_addRow, G) 82) := (r_iload dX11_addRow_82 (r_iconst dX11_addRow_84 rfl (r_ic_ge (tgt := 139) dX11_addRow_85 rfl qImp.rf (r_aload_n dX11_addRow_88 rfl (r_iload dX11_addRow_89 (r_iload dX11_addRow_91 qImp.rf))))))
def bX11_addRow_96 (G : Nat × Nat × Nat × Option (Nat × (Nat → Int32)) × (Option Value → qW → Prop)) : qK := (s_istore 6 5 (s_iload 6 (s_iconst (-1) (s_ic_eq (AW (mX11_addRow, G) 133) (s_aload 0 (s_getfield 11 26 (s_iload 6 (s_baload (s_if_ne (AW (mX11_addRow, G) 133) (s_aload 0 (s_getfield 11 26 (s_iload 6 (s_iconst 1 (s_bastore (s_aload 0 (s_getfield 11 27 (s_iload 2 (s_iload 6 (s_iastore (s_iinc 2 1 1 (AW (mX11_addRow, G) 133)))))))))))))))))))))
theorem oX11_addRow_96 (G : Nat × Nat × Nat × Option (Nat × (Nat → Int32)) × (Option Value → qW → Prop)) : qImp (bX11_addRow_96 G) (AW (mX11_addRow, G) 96) := (r_istore dX11_addRow_96 (Or.inr rfl) (Nat.le_of_ble_eq_true rfl) (r_iload dX11_addRow_98 (r_iconst dX11_addRow_100 rfl (r_ic_eq (tgt := 133) dX11_addRow_101 rfl qImp.rf (r_aload_n dX11_addRow_104 rfl (r_getfield dX11_addRow_105 fgX11_72 (r_iload dX11_addRow_108 (r_baload dX11_addRow_110 (r_if_ne (tgt := 133) dX11_addRow_111 rfl qImp.rf (r_aload_n dX11_addRow_114 rfl (r_getfield dX11_addRow_115 fgX11_72 (r_iload dX11_addRow_118 (r_iconst dX11_addRow_120 rfl (r_bastore dX11_addRow_121 (r_aload_n dX11_addRow_122 rfl (r_getfield dX11_addRow_123 fgX11_75 (r_iload_n dX11_addRow_126 rfl (r_iload dX11_addRow_127 (r_iastore dX11_addRow_129 (r_iinc dX11_addRow_130 rfl (Or.inr rfl) (Nat.le_of_ble_eq_true rfl) qImp.rf))))))))))))))))))))
def bX11_addRow_133 (G : Nat × Nat × Nat × Option (Nat × (Nat → Int32)) × (Option Value → qW → Prop)) : qK := (s_iinc 5 4 1 (AW (mX11_addRow, G) 82))
theorem oX11_addRow_133 (G : Nat × Nat × Nat × Option (Nat × (Nat → Int32)) × (Option Value → qW → Prop)) : qImp (bX11_addRow_133 G) (AW (mX11_addRow, G) 133) := (r_iinc dX11_addRow_133 rfl (Or.inr rfl) (Nat.le_of_ble_eq_true rfl) (r_goto (tgt := 82) dX11_addRow_136 rfl qImp.rf))
def bX11_addRow_139 (G : Nat × Nat × Nat × Option (Nat × (Nat → Int32)) × (Option Value → qW → Prop)) : qK := (s_iinc 4 3 1 (AW (mX11_addRow, G) 45))
theorem oX11_addRow_139 (G : Nat × Nat × Nat × Option (Nat × (Nat → Int32)) × (Option Value → qW → Prop)) : qImp (bX11_addRow_139 G) (AW (mX11_addRow, G) 139) := (r_iinc dX11_addRow_139 rfl (Or.inr rfl) (Nat.le_of_ble_eq_true rfl) (r_goto (tgt := 45) dX11_addRow_142 rfl qImp.rf))
def bX11_addRow_145 (G : Nat × Nat × Nat × Option (Nat × (Nat → Int32)) × (Option Value → qW → Prop)) : qK := (AW (mX11_addRow, G) 28)
theorem oX11_addRow_145 (G : Nat × Nat × Nat × Option (Nat × (Nat → Int32)) × (Option Value → qW → Prop)) : qImp (bX11_addRow_145 G) (AW (mX11_addRow, G) 145) := (r_goto (tgt := 28) dX11_addRow_145 rfl qImp.rf)
def bX11_addRow_148 (G : Nat × Nat × Nat × Option (Nat × (Nat → Int32)) × (Option Value → qW → Prop)) : qK := (s_vreturn (mX11_addRow, G))
theorem oX11_addRow_148 (G : Nat × Nat × Nat × Option (Nat × (Nat → Int32)) × (Option Value → qW → Prop)) : qImp (bX11_addRow_148 G) (AW (mX11_addRow, G) 148) := (r_vreturn dX11_addRow_148 rfl)
theorem kX11_addRow_93 {G : Nat × Nat × Nat × Option (Nat × (Nat → Int32)) × (Option Value → qW → Prop)} {L : qL} {w : qW} {kc ks : Nat} {rest : List Value} {q : Nat} {x0 : Int32} {x1 : Int32} {d mc ms : Nat} {Q : Option Value → qW → Prop} (hC : CT mX11_went d mc ms [.ref q, .int x0, .int x1] w Q) (hq : qci w q = some 11) (hst : rest.length ≤ 4) (hdp : d + 1 ≤ G.1) (hmc : kc + mc ≤ G.2.1 ∧ ks + ms ≤ G.2.2.1) (k : ∀ r w', Q r w' → AW (mX11_addRow, G) 96 L (r.toList ++ rest) w' (kc + mc) (ks + ms)) : AW (mX11_addRow, G) 93 L (.int x1 :: .int x0 :: .ref q :: rest) w kc ks := a_callV [.int x0, .int x1] rest dX11_addRow_93 vX11_went lk1072 hC hq rfl rfl hst hdp hmc k
theorem dX11_rowOf_0 : decode cX11_rowOf 0 = .ok (.iconst 0, 1) := by decide +kernel
theorem dX11_rowOf_1 : decode cX11_rowOf 1 = .ok (.istore_n 2, 1) := by decide +kernel
theorem dX11_rowOf_2 : decode cX11_rowOf 2 = .ok (.iload_n 2, 1) := by decide +kernel
theorem dX11_rowOf_3 : decode cX11_rowOf 3 = .ok (.bipush 100, 2) := by decide +kernel
theorem dX11_rowOf_5 : decode cX11_rowOf 5 = .ok (.if_icmp .ge 16, 3) := by decide +kernel
theorem dX11_rowOf_8 : decode cX11_rowOf 8 = .ok (.aload_n 0, 1) := by decide +kernel
theorem dX11_rowOf_9 : decode cX11_rowOf 9 = .ok (.getfield 72, 3) := by decide +kernel
theorem dX11_rowOf_12 : decode cX11_rowOf 12 = .ok (.iload_n 2, 1) := by decide +kernel
theorem dX11_rowOf_13 : decode cX11_rowOf 13 = .ok (.iconst 0, 1) := by decide +kernel
theorem dX11_rowOf_14 : decode cX11_rowOf 14 = .ok (.bastore, 1) := by decide +kernel
theorem dX11_rowOf_15 : decode cX11_rowOf 15 = .ok (.iinc 2 1, 3) := by decide +kernel
theorem dX11_rowOf_18 : decode cX11_rowOf 18 = .ok (.goto (-16), 3) := by decide +kernel
theorem dX11_rowOf_21 : decode cX11_rowOf 21 = .ok (.aload_n 0, 1) := by decide +kernel
theorem dX11_rowOf_22 : decode cX11_rowOf 22 = .ok (.iload_n 1, 1) := by decide +kernel
theorem dX11_rowOf_23 : decode cX11_rowOf 23 = .ok (.invokevirtual 126, 3) := by decide +kernel
theorem dX11_rowOf_26 : decode cX11_rowOf 26 = .ok (.return_, 1) := by decide +kernel
/-! SealLineModel.rowOf(I)V -/
theorem eX11_rowOf {d mc ms : Nat} {w : qW} {Q : Option Value → qW → Prop} {q : Nat} {x0 : Int32} (h : AW (mX11_rowOf, d, mc, ms, none, Q) 0 [some (.ref q), some (.int x0), none] [] w 0 0) : CT mX11_rowOf d mc ms [.ref q, .int x0] w Q := CT_of (by decide +kernel) rfl (Nat.le_of_ble_eq_true rfl) h
def bX11_rowOf_0 (G : Nat × Nat × Nat × Option (Nat × (Nat → Int32)) × (Option Value → qW → Prop)) : qK := (s_iconst 0 (s_istore 2 1 (AW (mX11_rowOf, G) 2)))
theorem oX11_rowOf_0 (G : Nat × Nat × Nat × Option (Nat × (Nat → Int32)) × (Option Value → qW → Prop)) : qImp (bX11_rowOf_0 G) (AW (mX11_rowOf, G) 0) := (r_iconst dX11_rowOf_0 rfl (r_istore_n dX11_rowOf_1 rfl (Or.inr rfl) (Nat.le_of_ble_eq_true rfl) qImp.rf))
def bX11_rowOf_2 (G : Nat × Nat × Nat × Option (Nat × (Nat → Int32)) × (Option Value → qW → Prop)) : qK := (s_iload 2 (s_iconst 100 (s_ic_ge (AW (mX11_rowOf, G) 21) (s_aload 0 (s_getfield 11 26 (s_iload 2 (s_iconst 0 (s_bastore (s_iinc 2 1 1 (AW (mX11_rowOf, G) 2))))))))))
theorem oX11_rowOf_2 (G : Nat × Nat × Nat × Option (Nat × (Nat → Int32)) × (Option Value → qW → Prop)) : qImp (bX11_rowOf_2 G) (AW (mX11_rowOf, G) 2) := (r_iload_n dX11_rowOf_2 rfl (r_bipush dX11_rowOf_3 rfl (r_ic_ge (tgt := 21) dX11_rowOf_5 rfl qImp.rf (r_aload_n dX11_rowOf_8 rfl (r_getfield dX11_rowOf_9 fgX11_72 (r_iload_n dX11_rowOf_12 rfl (r_iconst dX11_rowOf_13 rfl (r_bastore dX11_rowOf_14 (r_iinc dX11_rowOf_15 rfl (Or.inr rfl) (Nat.le_of_ble_eq_true rfl) (r_goto (tgt := 2) dX11_rowOf_18 rfl qImp.rf))))))))))
def bX11_rowOf_21 (G : Nat × Nat × Nat × Option (Nat × (Nat → Int32)) × (Option Value → qW → Prop)) : qK := (s_aload 0 (s_iload 1 (AW (mX11_rowOf, G) 23)))
theorem oX11_rowOf_21 (G : Nat × Nat × Nat × Option (Nat × (Nat → Int32)) × (Option Value → qW → Prop)) : qImp (bX11_rowOf_21 G) (AW (mX11_rowOf, G) 21) := (r_aload_n dX11_rowOf_21 rfl (r_iload_n dX11_rowOf_22 rfl qImp.rf))
def bX11_rowOf_26 (G : Nat × Nat × Nat × Option (Nat × (Nat → Int32)) × (Option Value → qW → Prop)) : qK := (s_vreturn (mX11_rowOf, G))
theorem oX11_rowOf_26 (G : Nat × Nat × Nat × Option (Nat × (Nat → Int32)) × (Option Value → qW → Prop)) : qImp (bX11_rowOf_26 G) (AW (mX11_rowOf, G) 26) := (r_vreturn dX11_rowOf_26 rfl)
theorem kX11_rowOf_23 {G : Nat × Nat × Nat × Option (Nat × (Nat → Int32)) × (Option Value → qW → Prop)} {L : qL} {w : qW} {kc ks : Nat} {rest : List Value} {q : Nat} {x0 : Int32} {d mc ms : Nat} {Q : Option Value → qW → Prop} (hC : CT mX11_addRow d mc ms [.ref q, .int x0] w Q) (hq : qci w q = some 11) (hst : rest.length ≤ 4) (hdp : d + 1 ≤ G.1) (hmc : kc + mc ≤ G.2.1 ∧ ks + ms ≤ G.2.2.1) (k : ∀ r w', Q r w' → AW (mX11_rowOf, G) 26 L (r.toList ++ rest) w' (kc + mc) (ks + ms)) : AW (mX11_rowOf, G) 23 L (.int x0 :: .ref q :: rest) w kc ks := a_callV [.int x0] rest dX11_rowOf_23 vX11_addRow lk1068 hC hq rfl rfl hst hdp hmc k
theorem dX11_areFiles_0 : decode cX11_areFiles 0 = .ok (.aload_n 0, 1) := by decide +kernel
theorem dX11_areFiles_1 : decode cX11_areFiles 1 = .ok (.iload_n 1, 1) := by decide +kernel
theorem dX11_areFiles_2 : decode cX11_areFiles 2 = .ok (.invokevirtual 130, 3) := by decide +kernel
theorem dX11_areFiles_5 : decode cX11_areFiles 5 = .ok (.ifCond .eq 38, 3) := by decide +kernel
theorem dX11_areFiles_8 : decode cX11_areFiles 8 = .ok (.iload_n 2, 1) := by decide +kernel
theorem dX11_areFiles_9 : decode cX11_areFiles 9 = .ok (.iconst (-1), 1) := by decide +kernel
theorem dX11_areFiles_10 : decode cX11_areFiles 10 = .ok (.if_icmp .eq 11, 3) := by decide +kernel
theorem dX11_areFiles_13 : decode cX11_areFiles 13 = .ok (.aload_n 0, 1) := by decide +kernel
theorem dX11_areFiles_14 : decode cX11_areFiles 14 = .ok (.iload_n 2, 1) := by decide +kernel
theorem dX11_areFiles_15 : decode cX11_areFiles 15 = .ok (.invokevirtual 130, 3) := by decide +kernel
theorem dX11_areFiles_18 : decode cX11_areFiles 18 = .ok (.ifCond .eq 25, 3) := by decide +kernel
theorem dX11_areFiles_21 : decode cX11_areFiles 21 = .ok (.iload_n 3, 1) := by decide +kernel
theorem dX11_areFiles_22 : decode cX11_areFiles 22 = .ok (.iconst (-1), 1) := by decide +kernel
theorem dX11_areFiles_23 : decode cX11_areFiles 23 = .ok (.if_icmp .eq 16, 3) := by decide +kernel
theorem dX11_areFiles_26 : decode cX11_areFiles 26 = .ok (.iload_n 2, 1) := by decide +kernel
theorem dX11_areFiles_27 : decode cX11_areFiles 27 = .ok (.iconst (-1), 1) := by decide +kernel
theorem dX11_areFiles_28 : decode cX11_areFiles 28 = .ok (.if_icmp .eq 15, 3) := by decide +kernel
theorem dX11_areFiles_31 : decode cX11_areFiles 31 = .ok (.aload_n 0, 1) := by decide +kernel
theorem dX11_areFiles_32 : decode cX11_areFiles 32 = .ok (.iload_n 3, 1) := by decide +kernel
theorem dX11_areFiles_33 : decode cX11_areFiles 33 = .ok (.invokevirtual 130, 3) := by decide +kernel
theorem dX11_areFiles_36 : decode cX11_areFiles 36 = .ok (.ifCond .eq 7, 3) := by decide +kernel
theorem dX11_areFiles_39 : decode cX11_areFiles 39 = .ok (.iconst 1, 1) := by decide +kernel
theorem dX11_areFiles_40 : decode cX11_areFiles 40 = .ok (.goto 4, 3) := by decide +kernel
theorem dX11_areFiles_43 : decode cX11_areFiles 43 = .ok (.iconst 0, 1) := by decide +kernel
theorem dX11_areFiles_44 : decode cX11_areFiles 44 = .ok (.ireturn, 1) := by decide +kernel
/-! SealLineModel.areFiles(III)Z -/
theorem eX11_areFiles {d mc ms : Nat} {w : qW} {Q : Option Value → qW → Prop} {q : Nat} {x0 : Int32} {x1 : Int32} {x2 : Int32} (h : AW (mX11_areFiles, d, mc, ms, none, Q) 0 [some (.ref q), some (.int x0), some (.int x1), some (.int x2)] [] w 0 0) : CT mX11_areFiles d mc ms [.ref q, .int x0, .int x1, .int x2] w Q := CT_of (by decide +kernel) rfl (Nat.le_of_ble_eq_true rfl) h
def bX11_areFiles_0 (G : Nat × Nat × Nat × Option (Nat × (Nat → Int32)) × (Option Value → qW → Prop)) : qK := (s_aload 0 (s_iload 1 (AW (mX11_areFiles, G) 2)))
theorem oX11_areFiles_0 (G : Nat × Nat × Nat × Option (Nat × (Nat → Int32)) × (Option Value → qW → Prop)) : qImp (bX11_areFiles_0 G) (AW (mX11_areFiles, G) 0) := (r_aload_n dX11_areFiles_0 rfl (r_iload_n dX11_areFiles_1 rfl qImp.rf))
def bX11_areFiles_5 (G : Nat × Nat × Nat × Option (Nat × (Nat → Int32)) × (Option Value → qW → Prop)) : qK := (s_if_eq (AW (mX11_areFiles, G) 43) (s_iload 2 (s_iconst (-1) (s_ic_eq (AW (mX11_areFiles, G) 21) (s_aload 0 (s_iload 2 (AW (mX11_areFiles, G) 15)))))))
theorem oX11_areFiles_5 (G : Nat × Nat × Nat × Option (Nat × (Nat → Int32)) × (Option Value → qW → Prop)) : qImp (bX11_areFiles_5 G) (AW (mX11_areFiles, G) 5) := (r_if_eq (tgt := 43) dX11_areFiles_5 rfl qImp.rf (r_iload_n dX11_areFiles_8 rfl (r_iconst dX11_areFiles_9 rfl (r_ic_eq (tgt := 21) dX11_areFiles_10 rfl qImp.rf (r_aload_n dX11_areFiles_13 rfl (r_iload_n dX11_areFiles_14 rfl qImp.rf))))))
def bX11_areFiles_18 (G : Nat × Nat × Nat × Option (Nat × (Nat → Int32)) × (Option Value → qW → Prop)) : qK := (s_if_eq (AW (mX11_areFiles, G) 43) (AW (mX11_areFiles, G) 21))
theorem oX11_areFiles_18 (G : Nat × Nat × Nat × Option (Nat × (Nat → Int32)) × (Option Value → qW → Prop)) : qImp (bX11_areFiles_18 G) (AW (mX11_areFiles, G) 18) := (r_if_eq (tgt := 43) dX11_areFiles_18 rfl qImp.rf qImp.rf)
def bX11_areFiles_21 (G : Nat × Nat × Nat × Option (Nat × (Nat → Int32)) × (Option Value → qW → Prop)) : qK := (s_iload 3 (s_iconst (-1) (s_ic_eq (AW (mX11_areFiles, G) 39) (s_iload 2 (s_iconst (-1) (s_ic_eq (AW (mX11_areFiles, G) 43) (s_aload 0 (s_iload 3 (AW (mX11_areFiles, G) 33)))))))))
theorem oX11_areFiles_21 (G : Nat × Nat × Nat × Option (Nat × (Nat → Int32)) × (Option Value → qW → Prop)) : qImp (bX11_areFiles_21 G) (AW (mX11_areFiles, G) 21) := (r_iload_n dX11_areFiles_21 rfl (r_iconst dX11_areFiles_22 rfl (r_ic_eq (tgt := 39) dX11_areFiles_23 rfl qImp.rf (r_iload_n dX11_areFiles_26 rfl (r_iconst dX11_areFiles_27 rfl (r_ic_eq (tgt := 43) dX11_areFiles_28 rfl qImp.rf (r_aload_n dX11_areFiles_31 rfl (r_iload_n dX11_areFiles_32 rfl qImp.rf))))))))
def bX11_areFiles_36 (G : Nat × Nat × Nat × Option (Nat × (Nat → Int32)) × (Option Value → qW → Prop)) : qK := (s_if_eq (AW (mX11_areFiles, G) 43) (AW (mX11_areFiles, G) 39))
theorem oX11_areFiles_36 (G : Nat × Nat × Nat × Option (Nat × (Nat → Int32)) × (Option Value → qW → Prop)) : qImp (bX11_areFiles_36 G) (AW (mX11_areFiles, G) 36) := (r_if_eq (tgt := 43) dX11_areFiles_36 rfl qImp.rf qImp.rf)
def bX11_areFiles_39 (G : Nat × Nat × Nat × Option (Nat × (Nat → Int32)) × (Option Value → qW → Prop)) : qK := (s_iconst 1 (AW (mX11_areFiles, G) 44))
theorem oX11_areFiles_39 (G : Nat × Nat × Nat × Option (Nat × (Nat → Int32)) × (Option Value → qW → Prop)) : qImp (bX11_areFiles_39 G) (AW (mX11_areFiles, G) 39) := (r_iconst dX11_areFiles_39 rfl (r_goto (tgt := 44) dX11_areFiles_40 rfl qImp.rf))
def bX11_areFiles_43 (G : Nat × Nat × Nat × Option (Nat × (Nat → Int32)) × (Option Value → qW → Prop)) : qK := (s_iconst 0 (AW (mX11_areFiles, G) 44))
theorem oX11_areFiles_43 (G : Nat × Nat × Nat × Option (Nat × (Nat → Int32)) × (Option Value → qW → Prop)) : qImp (bX11_areFiles_43 G) (AW (mX11_areFiles, G) 43) := (r_iconst dX11_areFiles_43 rfl qImp.rf)
def bX11_areFiles_44 (G : Nat × Nat × Nat × Option (Nat × (Nat → Int32)) × (Option Value → qW → Prop)) : qK := (s_zreturn (mX11_areFiles, G))
theorem oX11_areFiles_44 (G : Nat × Nat × Nat × Option (Nat × (Nat → Int32)) × (Option Value → qW → Prop)) : qImp (bX11_areFiles_44 G) (AW (mX11_areFiles, G) 44) := (r_zreturn dX11_areFiles_44 rfl)
theorem kX11_areFiles_2 {G : Nat × Nat × Nat × Option (Nat × (Nat → Int32)) × (Option Value → qW → Prop)} {L : qL} {w : qW} {kc ks : Nat} {rest : List Value} {q : Nat} {x0 : Int32} {d mc ms : Nat} {Q : Option Value → qW → Prop} (hC : CT mX11_isFile d mc ms [.ref q, .int x0] w Q) (hq : qci w q = some 11) (hst : rest.length ≤ 4) (hdp : d + 1 ≤ G.1) (hmc : kc + mc ≤ G.2.1 ∧ ks + ms ≤ G.2.2.1) (k : ∀ r w', Q r w' → AW (mX11_areFiles, G) 5 L (r.toList ++ rest) w' (kc + mc) (ks + ms)) : AW (mX11_areFiles, G) 2 L (.int x0 :: .ref q :: rest) w kc ks := a_callV [.int x0] rest dX11_areFiles_2 vX11_isFile lk1050 hC hq rfl rfl hst hdp hmc k
theorem kX11_areFiles_15 {G : Nat × Nat × Nat × Option (Nat × (Nat → Int32)) × (Option Value → qW → Prop)} {L : qL} {w : qW} {kc ks : Nat} {rest : List Value} {q : Nat} {x0 : Int32} {d mc ms : Nat} {Q : Option Value → qW → Prop} (hC : CT mX11_isFile d mc ms [.ref q, .int x0] w Q) (hq : qci w q = some 11) (hst : rest.length ≤ 4) (hdp : d + 1 ≤ G.1) (hmc : kc + mc ≤ G.2.1 ∧ ks + ms ≤ G.2.2.1) (k : ∀ r w', Q r w' → AW (mX11_areFiles, G) 18 L (r.toList ++ rest) w' (kc + mc) (ks + ms)) : AW (mX11_areFiles, G) 15 L (.int x0 :: .ref q :: rest) w kc ks := a_callV [.int x0] rest dX11_areFiles_15 vX11_isFile lk1050 hC hq rfl rfl hst hdp hmc k
theorem kX11_areFiles_33 {G : Nat × Nat × Nat × Option (Nat × (Nat → Int32)) × (Option Value → qW → Prop)} {L : qL} {w : qW} {kc ks : Nat} {rest : List Value} {q : Nat} {x0 : Int32} {d mc ms : Nat} {Q : Option Value → qW → Prop} (hC : CT mX11_isFile d mc ms [.ref q, .int x0] w Q) (hq : qci w q = some 11) (hst : rest.length ≤ 4) (hdp : d + 1 ≤ G.1) (hmc : kc + mc ≤ G.2.1 ∧ ks + ms ≤ G.2.2.1) (k : ∀ r w', Q r w' → AW (mX11_areFiles, G) 36 L (r.toList ++ rest) w' (kc + mc) (ks + ms)) : AW (mX11_areFiles, G) 33 L (.int x0 :: .ref q :: rest) w kc ks := a_callV [.int x0] rest dX11_areFiles_33 vX11_isFile lk1050 hC hq rfl rfl hst hdp hmc k
theorem dX11_mixOf_0 : decode cX11_mixOf 0 = .ok (.iload_n 1, 1) := by decide +kernel
theorem dX11_mixOf_1 : decode cX11_mixOf 1 = .ok (.i2l, 1) := by decide +kernel
theorem dX11_mixOf_2 : decode cX11_mixOf 2 = .ok (.lconst 1, 1) := by decide +kernel
theorem dX11_mixOf_3 : decode cX11_mixOf 3 = .ok (.ladd, 1) := by decide +kernel
theorem dX11_mixOf_4 : decode cX11_mixOf 4 = .ok (.lstore 5, 2) := by decide +kernel
theorem dX11_mixOf_6 : decode cX11_mixOf 6 = .ok (.iconst 0, 1) := by decide +kernel
theorem dX11_mixOf_7 : decode cX11_mixOf 7 = .ok (.istore 7, 2) := by decide +kernel
theorem dX11_mixOf_9 : decode cX11_mixOf 9 = .ok (.iload 7, 2) := by decide +kernel
theorem dX11_mixOf_11 : decode cX11_mixOf 11 = .ok (.iconst 3, 1) := by decide +kernel
theorem dX11_mixOf_12 : decode cX11_mixOf 12 = .ok (.if_icmp .ge 58, 3) := by decide +kernel
theorem dX11_mixOf_15 : decode cX11_mixOf 15 = .ok (.iload 7, 2) := by decide +kernel
theorem dX11_mixOf_17 : decode cX11_mixOf 17 = .ok (.ifCond .ne 7, 3) := by decide +kernel
theorem dX11_mixOf_20 : decode cX11_mixOf 20 = .ok (.iload_n 2, 1) := by decide +kernel
theorem dX11_mixOf_21 : decode cX11_mixOf 21 = .ok (.goto 15, 3) := by decide +kernel
theorem dX11_mixOf_24 : decode cX11_mixOf 24 = .ok (.iload 7, 2) := by decide +kernel
theorem dX11_mixOf_26 : decode cX11_mixOf 26 = .ok (.iconst 1, 1) := by decide +kernel
theorem dX11_mixOf_27 : decode cX11_mixOf 27 = .ok (.if_icmp .ne 7, 3) := by decide +kernel
theorem dX11_mixOf_30 : decode cX11_mixOf 30 = .ok (.iload_n 3, 1) := by decide +kernel
theorem dX11_mixOf_31 : decode cX11_mixOf 31 = .ok (.goto 5, 3) := by decide +kernel
theorem dX11_mixOf_34 : decode cX11_mixOf 34 = .ok (.iload 4, 2) := by decide +kernel
theorem dX11_mixOf_36 : decode cX11_mixOf 36 = .ok (.istore 8, 2) := by decide +kernel
theorem dX11_mixOf_38 : decode cX11_mixOf 38 = .ok (.iload 8, 2) := by decide +kernel
theorem dX11_mixOf_40 : decode cX11_mixOf 40 = .ok (.iconst (-1), 1) := by decide +kernel
theorem dX11_mixOf_41 : decode cX11_mixOf 41 = .ok (.if_icmp .eq 23, 3) := by decide +kernel
theorem dX11_mixOf_44 : decode cX11_mixOf 44 = .ok (.lload 5, 2) := by decide +kernel
theorem dX11_mixOf_46 : decode cX11_mixOf 46 = .ok (.aload_n 0, 1) := by decide +kernel
theorem dX11_mixOf_47 : decode cX11_mixOf 47 = .ok (.getfield 9, 3) := by decide +kernel
theorem dX11_mixOf_50 : decode cX11_mixOf 50 = .ok (.iload 8, 2) := by decide +kernel
theorem dX11_mixOf_52 : decode cX11_mixOf 52 = .ok (.laload, 1) := by decide +kernel
theorem dX11_mixOf_53 : decode cX11_mixOf 53 = .ok (.lxor, 1) := by decide +kernel
theorem dX11_mixOf_54 : decode cX11_mixOf 54 = .ok (.ldc2_w 133, 3) := by decide +kernel
theorem dX11_mixOf_57 : decode cX11_mixOf 57 = .ok (.lmul, 1) := by decide +kernel
theorem dX11_mixOf_58 : decode cX11_mixOf 58 = .ok (.ldc2_w 135, 3) := by decide +kernel
theorem dX11_mixOf_61 : decode cX11_mixOf 61 = .ok (.ladd, 1) := by decide +kernel
theorem dX11_mixOf_62 : decode cX11_mixOf 62 = .ok (.lstore 5, 2) := by decide +kernel
theorem dX11_mixOf_64 : decode cX11_mixOf 64 = .ok (.iinc 7 1, 3) := by decide +kernel
theorem dX11_mixOf_67 : decode cX11_mixOf 67 = .ok (.goto (-58), 3) := by decide +kernel
theorem dX11_mixOf_70 : decode cX11_mixOf 70 = .ok (.lload 5, 2) := by decide +kernel
theorem dX11_mixOf_72 : decode cX11_mixOf 72 = .ok (.lreturn, 1) := by decide +kernel
/-! SealLineModel.mixOf(IIII)J -/
theorem eX11_mixOf {d mc ms : Nat} {w : qW} {Q : Option Value → qW → Prop} {q : Nat} {x0 : Int32} {x1 : Int32} {x2 : Int32} {x3 : Int32} (h : AW (mX11_mixOf, d, mc, ms, none, Q) 0 [some (.ref q), some (.int x0), some (.int x1), some (.int x2), some (.int x3), none, none, none, none] [] w 0 0) : CT mX11_mixOf d mc ms [.ref q, .int x0, .int x1, .int x2, .int x3] w Q := CT_of (by decide +kernel) rfl (Nat.le_of_ble_eq_true rfl) h
def bX11_mixOf_0 (G : Nat × Nat × Nat × Option (Nat × (Nat → Int32)) × (Option Value → qW → Prop)) : qK := (s_iload 1 (s_i2l (s_lconst 1 (s_ladd (s_lstore 5 4 (s_iconst 0 (s_istore 7 6 (AW (mX11_mixOf, G) 9))))))))
theorem oX11_mixOf_0 (G : Nat × Nat × Nat × Option (Nat × (Nat → Int32)) × (Option Value → qW → Prop)) : qImp (bX11_mixOf_0 G) (AW (mX11_mixOf, G) 0) := (r_iload_n dX11_mixOf_0 rfl (r_i2l dX11_mixOf_1 (r_lconst dX11_mixOf_2 rfl (r_ladd dX11_mixOf_3 (r_lstore dX11_mixOf_4 (Or.inr rfl) (Nat.le_of_ble_eq_true rfl) (r_iconst dX11_mixOf_6 rfl (r_istore dX11_mixOf_7 (Or.inr rfl) (Nat.le_of_ble_eq_true rfl) qImp.rf)))))))
def bX11_mixOf_9 (G : Nat × Nat × Nat × Option (Nat × (Nat → Int32)) × (Option Value → qW → Prop)) : qK := (s_iload 7 (s_iconst 3 (s_ic_ge (AW (mX11_mixOf, G) 70) (s_iload 7 (s_if_ne (AW (mX11_mixOf, G) 24) (s_iload 2 (AW (mX11_mixOf, G) 36)))))))
theorem oX11_mixOf_9 (G : Nat × Nat × Nat × Option (Nat × (Nat → Int32)) × (Option Value → qW → Prop)) : qImp (bX11_mixOf_9 G) (AW (mX11_mixOf, G) 9) := (r_iload dX11_mixOf_9 (r_iconst dX11_mixOf_11 rfl (r_ic_ge (tgt := 70) dX11_mixOf_12 rfl qImp.rf (r_iload dX11_mixOf_15 (r_if_ne (tgt := 24) dX11_mixOf_17 rfl qImp.rf (r_iload_n dX11_mixOf_20 rfl (r_goto (tgt := 36) dX11_mixOf_21 rfl qImp.rf)))))))
def bX11_mixOf_24 (G : Nat × Nat × Nat × Option (Nat × (Nat → Int32)) × (Option Value → qW → Prop)) : qK := (s_iload 7 (s_iconst 1 (s_ic_ne (AW (mX11_mixOf, G) 34) (s_iload 3 (AW (mX11_mixOf, G) 36)))))
theorem oX11_mixOf_24 (G : Nat × Nat × Nat × Option (Nat × (Nat → Int32)) × (Option Value → qW → Prop)) : qImp (bX11_mixOf_24 G) (AW (mX11_mixOf, G) 24) := (r_iload dX11_mixOf_24 (r_iconst dX11_mixOf_26 rfl (r_ic_ne (tgt := 34) dX11_mixOf_27 rfl qImp.rf (r_iload_n dX11_mixOf_30 rfl (r_goto (tgt := 36) dX11_mixOf_31 rfl qImp.rf)))))
def bX11_mixOf_34 (G : Nat × Nat × Nat × Option (Nat × (Nat → Int32)) × (Option Value → qW → Prop)) : qK := (s_iload 4 (AW (mX11_mixOf, G) 36))
theorem oX11_mixOf_34 (G : Nat × Nat × Nat × Option (Nat × (Nat → Int32)) × (Option Value → qW → Prop)) : qImp (bX11_mixOf_34 G) (AW (mX11_mixOf, G) 34) := (r_iload dX11_mixOf_34 qImp.rf)
def bX11_mixOf_36 (G : Nat × Nat × Nat × Option (Nat × (Nat → Int32)) × (Option Value → qW → Prop)) : qK := (s_istore 8 7 (s_iload 8 (s_iconst (-1) (s_ic_eq (AW (mX11_mixOf, G) 64) (s_lload 5 (s_aload 0 (s_getfield 11 6 (s_iload 8 (s_laload (s_lxor (s_lconst 6364136223846793005 (s_lmul (s_lconst 1442695040888963407 (s_ladd (s_lstore 5 4 (AW (mX11_mixOf, G) 64))))))))))))))))
theorem oX11_mixOf_36 (G : Nat × Nat × Nat × Option (Nat × (Nat → Int32)) × (Option Value → qW → Prop)) : qImp (bX11_mixOf_36 G) (AW (mX11_mixOf, G) 36) := (r_istore dX11_mixOf_36 (Or.inr rfl) (Nat.le_of_ble_eq_true rfl) (r_iload dX11_mixOf_38 (r_iconst dX11_mixOf_40 rfl (r_ic_eq (tgt := 64) dX11_mixOf_41 rfl qImp.rf (r_lload dX11_mixOf_44 (r_aload_n dX11_mixOf_46 rfl (r_getfield dX11_mixOf_47 fgX11_9 (r_iload dX11_mixOf_50 (r_laload dX11_mixOf_52 (r_lxor dX11_mixOf_53 (r_ldc2 dX11_mixOf_54 lk1058 (r_lmul dX11_mixOf_57 (r_ldc2 dX11_mixOf_58 lk1059 (r_ladd dX11_mixOf_61 (r_lstore dX11_mixOf_62 (Or.inr rfl) (Nat.le_of_ble_eq_true rfl) qImp.rf)))))))))))))))
def bX11_mixOf_64 (G : Nat × Nat × Nat × Option (Nat × (Nat → Int32)) × (Option Value → qW → Prop)) : qK := (s_iinc 7 6 1 (AW (mX11_mixOf, G) 9))
theorem oX11_mixOf_64 (G : Nat × Nat × Nat × Option (Nat × (Nat → Int32)) × (Option Value → qW → Prop)) : qImp (bX11_mixOf_64 G) (AW (mX11_mixOf, G) 64) := (r_iinc dX11_mixOf_64 rfl (Or.inr rfl) (Nat.le_of_ble_eq_true rfl) (r_goto (tgt := 9) dX11_mixOf_67 rfl qImp.rf))
def bX11_mixOf_70 (G : Nat × Nat × Nat × Option (Nat × (Nat → Int32)) × (Option Value → qW → Prop)) : qK := (s_lload 5 (s_lreturn (mX11_mixOf, G)))
theorem oX11_mixOf_70 (G : Nat × Nat × Nat × Option (Nat × (Nat → Int32)) × (Option Value → qW → Prop)) : qImp (bX11_mixOf_70 G) (AW (mX11_mixOf, G) 70) := (r_lload dX11_mixOf_70 (r_lreturn dX11_mixOf_72 rfl))
theorem dX11_mix_0 : decode cX11_mix 0 = .ok (.iload_n 1, 1) := by decide +kernel
theorem dX11_mix_1 : decode cX11_mix 1 = .ok (.iconst 0, 1) := by decide +kernel
theorem dX11_mix_2 : decode cX11_mix 2 = .ok (.iconst 5, 1) := by decide +kernel
theorem dX11_mix_3 : decode cX11_mix 3 = .ok (.invokestatic 100, 3) := by decide +kernel
theorem dX11_mix_6 : decode cX11_mix 6 = .ok (.ifCond .eq 26, 3) := by decide +kernel
theorem dX11_mix_9 : decode cX11_mix 9 = .ok (.aload_n 0, 1) := by decide +kernel
theorem dX11_mix_10 : decode cX11_mix 10 = .ok (.iload_n 2, 1) := by decide +kernel
theorem dX11_mix_11 : decode cX11_mix 11 = .ok (.iload_n 3, 1) := by decide +kernel
theorem dX11_mix_12 : decode cX11_mix 12 = .ok (.iload 4, 2) := by decide +kernel
theorem dX11_mix_14 : decode cX11_mix 14 = .ok (.invokevirtual 137, 3) := by decide +kernel
theorem dX11_mix_17 : decode cX11_mix 17 = .ok (.ifCond .eq 15, 3) := by decide +kernel
theorem dX11_mix_20 : decode cX11_mix 20 = .ok (.aload_n 0, 1) := by decide +kernel
theorem dX11_mix_21 : decode cX11_mix 21 = .ok (.iload_n 1, 1) := by decide +kernel
theorem dX11_mix_22 : decode cX11_mix 22 = .ok (.iload_n 2, 1) := by decide +kernel
theorem dX11_mix_23 : decode cX11_mix 23 = .ok (.iload_n 3, 1) := by decide +kernel
theorem dX11_mix_24 : decode cX11_mix 24 = .ok (.iload 4, 2) := by decide +kernel
theorem dX11_mix_26 : decode cX11_mix 26 = .ok (.invokevirtual 140, 3) := by decide +kernel
theorem dX11_mix_29 : decode cX11_mix 29 = .ok (.goto 4, 3) := by decide +kernel
theorem dX11_mix_32 : decode cX11_mix 32 = .ok (.lconst 0, 1) := by decide +kernel
theorem dX11_mix_33 : decode cX11_mix 33 = .ok (.lreturn, 1) := by decide +kernel
/-! SealLineModel.mix(IIII)J -/
theorem eX11_mix {d mc ms : Nat} {w : qW} {Q : Option Value → qW → Prop} {q : Nat} {x0 : Int32} {x1 : Int32} {x2 : Int32} {x3 : Int32} (h : AW (mX11_mix, d, mc, ms, none, Q) 0 [some (.ref q), some (.int x0), some (.int x1), some (.int x2), some (.int x3)] [] w 0 0) : CT mX11_mix d mc ms [.ref q, .int x0, .int x1, .int x2, .int x3] w Q := CT_of (by decide +kernel) rfl (Nat.le_of_ble_eq_true rfl) h
def bX11_mix_0 (G : Nat × Nat × Nat × Option (Nat × (Nat → Int32)) × (Option Value → qW → Prop)) : qK := (s_iload 1 (s_iconst 0 (s_iconst 5 (AW (mX11_mix, G) 3))))
theorem oX11_mix_0 (G : Nat × Nat × Nat × Option (Nat × (Nat → Int32)) × (Option Value → qW → Prop)) : qImp (bX11_mix_0 G) (AW (mX11_mix, G) 0) := (r_iload_n dX11_mix_0 rfl (r_iconst dX11_mix_1 rfl (r_iconst dX11_mix_2 rfl qImp.rf)))
def bX11_mix_6 (G : Nat × Nat × Nat × Option (Nat × (Nat → Int32)) × (Option Value → qW → Prop)) : qK := (s_if_eq (AW (mX11_mix, G) 32) (s_aload 0 (s_iload 2 (s_iload 3 (s_iload 4 (AW (mX11_mix, G) 14))))))
theorem oX11_mix_6 (G : Nat × Nat × Nat × Option (Nat × (Nat → Int32)) × (Option Value → qW → Prop)) : qImp (bX11_mix_6 G) (AW (mX11_mix, G) 6) := (r_if_eq (tgt := 32) dX11_mix_6 rfl qImp.rf (r_aload_n dX11_mix_9 rfl (r_iload_n dX11_mix_10 rfl (r_iload_n dX11_mix_11 rfl (r_iload dX11_mix_12 qImp.rf)))))
def bX11_mix_17 (G : Nat × Nat × Nat × Option (Nat × (Nat → Int32)) × (Option Value → qW → Prop)) : qK := (s_if_eq (AW (mX11_mix, G) 32) (s_aload 0 (s_iload 1 (s_iload 2 (s_iload 3 (s_iload 4 (AW (mX11_mix, G) 26)))))))
theorem oX11_mix_17 (G : Nat × Nat × Nat × Option (Nat × (Nat → Int32)) × (Option Value → qW → Prop)) : qImp (bX11_mix_17 G) (AW (mX11_mix, G) 17) := (r_if_eq (tgt := 32) dX11_mix_17 rfl qImp.rf (r_aload_n dX11_mix_20 rfl (r_iload_n dX11_mix_21 rfl (r_iload_n dX11_mix_22 rfl (r_iload_n dX11_mix_23 rfl (r_iload dX11_mix_24 qImp.rf))))))
def bX11_mix_29 (G : Nat × Nat × Nat × Option (Nat × (Nat → Int32)) × (Option Value → qW → Prop)) : qK := (AW (mX11_mix, G) 33)
theorem oX11_mix_29 (G : Nat × Nat × Nat × Option (Nat × (Nat → Int32)) × (Option Value → qW → Prop)) : qImp (bX11_mix_29 G) (AW (mX11_mix, G) 29) := (r_goto (tgt := 33) dX11_mix_29 rfl qImp.rf)
def bX11_mix_32 (G : Nat × Nat × Nat × Option (Nat × (Nat → Int32)) × (Option Value → qW → Prop)) : qK := (s_lconst 0 (AW (mX11_mix, G) 33))
theorem oX11_mix_32 (G : Nat × Nat × Nat × Option (Nat × (Nat → Int32)) × (Option Value → qW → Prop)) : qImp (bX11_mix_32 G) (AW (mX11_mix, G) 32) := (r_lconst dX11_mix_32 rfl qImp.rf)
def bX11_mix_33 (G : Nat × Nat × Nat × Option (Nat × (Nat → Int32)) × (Option Value → qW → Prop)) : qK := (s_lreturn (mX11_mix, G))
theorem oX11_mix_33 (G : Nat × Nat × Nat × Option (Nat × (Nat → Int32)) × (Option Value → qW → Prop)) : qImp (bX11_mix_33 G) (AW (mX11_mix, G) 33) := (r_lreturn dX11_mix_33 rfl)
theorem kX11_mix_3 {G : Nat × Nat × Nat × Option (Nat × (Nat → Int32)) × (Option Value → qW → Prop)} {L : qL} {w : qW} {kc ks : Nat} {rest : List Value}  {x0 : Int32} {x1 : Int32} {x2 : Int32} {d mc ms : Nat} {Q : Option Value → qW → Prop} (hC : CT mX11_in d mc ms [.int x0, .int x1, .int x2] w Q) (hst : rest.length ≤ 4) (hdp : d + 1 ≤ G.1) (hmc : kc + mc ≤ G.2.1 ∧ ks + ms ≤ G.2.2.1) (k : ∀ r w', Q r w' → AW (mX11_mix, G) 6 L (r.toList ++ rest) w' (kc + mc) (ks + ms)) : AW (mX11_mix, G) 3 L (.int x2 :: .int x1 :: .int x0 :: rest) w kc ks := a_callS [.int x0, .int x1, .int x2] rest dX11_mix_3 tX11_in lk1030 hC rfl hst hdp hmc k
theorem kX11_mix_14 {G : Nat × Nat × Nat × Option (Nat × (Nat → Int32)) × (Option Value → qW → Prop)} {L : qL} {w : qW} {kc ks : Nat} {rest : List Value} {q : Nat} {x0 : Int32} {x1 : Int32} {x2 : Int32} {d mc ms : Nat} {Q : Option Value → qW → Prop} (hC : CT mX11_areFiles d mc ms [.ref q, .int x0, .int x1, .int x2] w Q) (hq : qci w q = some 11) (hst : rest.length ≤ 4) (hdp : d + 1 ≤ G.1) (hmc : kc + mc ≤ G.2.1 ∧ ks + ms ≤ G.2.2.1) (k : ∀ r w', Q r w' → AW (mX11_mix, G) 17 L (r.toList ++ rest) w' (kc + mc) (ks + ms)) : AW (mX11_mix, G) 14 L (.int x2 :: .int x1 :: .int x0 :: .ref q :: rest) w kc ks := a_callV [.int x0, .int x1, .int x2] rest dX11_mix_14 vX11_areFiles lk1046 hC hq rfl rfl hst hdp hmc k
theorem kX11_mix_26 {G : Nat × Nat × Nat × Option (Nat × (Nat → Int32)) × (Option Value → qW → Prop)} {L : qL} {w : qW} {kc ks : Nat} {rest : List Value} {q : Nat} {x0 : Int32} {x1 : Int32} {x2 : Int32} {x3 : Int32} {d mc ms : Nat} {Q : Option Value → qW → Prop} (hC : CT mX11_mixOf d mc ms [.ref q, .int x0, .int x1, .int x2, .int x3] w Q) (hq : qci w q = some 11) (hst : rest.length ≤ 4) (hdp : d + 1 ≤ G.1) (hmc : kc + mc ≤ G.2.1 ∧ ks + ms ≤ G.2.2.1) (k : ∀ r w', Q r w' → AW (mX11_mix, G) 29 L (r.toList ++ rest) w' (kc + mc) (ks + ms)) : AW (mX11_mix, G) 26 L (.int x3 :: .int x2 :: .int x1 :: .int x0 :: .ref q :: rest) w kc ks := a_callV [.int x0, .int x1, .int x2, .int x3] rest dX11_mix_26 vX11_mixOf lk1054 hC hq rfl rfl hst hdp hmc k
