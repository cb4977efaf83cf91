theorem l_2i (x : Int64) : x.toInt32 &&& 127 = nI (x.toBitVec.toNat % 128) := by
  rw [pk_and x.toInt32 7 (by decide), Int64.toBitVec_toInt32, BitVec.signExtend_eq_setWidth_of_le _ (by omega), BitVec.toNat_setWidth]
  congr 1
  omega
/-- Long.bitCount, as it is written -/
def bcL (x0 : Int64) : Int32 :=
  let u (x : Int64) (s : Int32) : Int64 := (x.toUInt64 >>> (s.toInt64.toUInt64 &&& Int64.toUInt64 63)).toInt64
  let x1 := x0 - (u x0 1 &&& 6148914691236517205)
  let x2 := (x1 &&& 3689348814741910323) + (u x1 2 &&& 3689348814741910323)
  let x3 := (x2 + u x2 4) &&& 1085102592571150095
  let x4 := x3 + u x3 8
  let x5 := x4 + u x4 16
  let x6 := x5 + u x5 32
  x6.toInt32 &&& 127
theorem l_un (x : Int64) (s : Int32) (k : Nat) (hs : s = nI k) (h : k < 64) : ((x.toUInt64 >>> (s.toInt64.toUInt64 &&& Int64.toUInt64 63)).toInt64).toBitVec.toNat = x.toBitVec.toNat / 2 ^ k := by
  rw [hs, l_us x k h, BitVec.toNat_ushiftRight, Nat.shiftRight_eq_div_pow]
theorem l_an (x y : Int64) (m : Nat) (h : y.toBitVec.toNat = m) : (x &&& y).toBitVec.toNat = x.toBitVec.toNat &&& m := by
  rw [l_and, BitVec.toNat_and, h]
theorem l_ad (x y : Int64) (h : x.toBitVec.toNat + y.toBitVec.toNat < 2 ^ 64) : (x + y).toBitVec.toNat = x.toBitVec.toNat + y.toBitVec.toNat := by
  rw [Int64.toBitVec_add, BitVec.toNat_add, Nat.mod_eq_of_lt h]
theorem l_sb (x y : Int64) (h : y.toBitVec.toNat ≤ x.toBitVec.toNat) : (x - y).toBitVec.toNat = x.toBitVec.toNat - y.toBitVec.toNat := by
  rw [Int64.toBitVec_sub, BitVec.toNat_sub_of_le h]
theorem mk85 : mkM 85 8 = 6148914691236517205 := by decide
theorem mk51 : mkM 51 8 = 3689348814741910323 := by decide
theorem mk15 : mkM 15 8 = 1085102592571150095 := by decide
theorem bcL_ok (x : Int64) : bcL x = nI (fb_ct (fun i => x.toBitVec.getLsbD i) 64) := by
  have hs := bc_sum x.toBitVec.toNat
  have hx : x.toBitVec.toNat < 2 ^ 64 := x.toBitVec.isLt
  unfold bcL
  rw [l_2i]
  have hct : fb_ct (fun i => x.toBitVec.toNat.testBit i) 64 = fb_ct (fun i => x.toBitVec.getLsbD i) 64 := rfl
  rw [hct] at hs
  rw [← hs.1]
  congr 1
  generalize hN : x.toBitVec.toNat = N at *
  have e1 : (x - ((x.toUInt64 >>> ((1 : Int32).toInt64.toUInt64 &&& Int64.toUInt64 63)).toInt64 &&& 6148914691236517205)).toBitVec.toNat = F1 8 N := by
    have a : ((x.toUInt64 >>> ((1 : Int32).toInt64.toUInt64 &&& Int64.toUInt64 63)).toInt64 &&& 6148914691236517205).toBitVec.toNat = (N / 2 &&& mkM 85 8) := by
      rw [l_an _ _ (mkM 85 8) (by rw [mk85]; rfl), l_un x 1 1 rfl (by omega), hN]
    have b : (N / 2 &&& mkM 85 8) ≤ N / 2 := Nat.and_le_left
    rw [l_sb _ _ (by rw [a, hN]; omega), a, hN]
    rfl
  generalize x - ((x.toUInt64 >>> ((1 : Int32).toInt64.toUInt64 &&& Int64.toUInt64 63)).toInt64 &&& 6148914691236517205) = x1 at *
  have lF1 : F1 8 N ≤ N := Nat.sub_le _ _
  have a1 : (x1 &&& 3689348814741910323).toBitVec.toNat = (F1 8 N &&& mkM 51 8) := by rw [l_an _ _ (mkM 51 8) (by rw [mk51]; rfl), e1]
  have a2 : ((x1.toUInt64 >>> ((2 : Int32).toInt64.toUInt64 &&& Int64.toUInt64 63)).toInt64 &&& 3689348814741910323).toBitVec.toNat = (F1 8 N / 4 &&& mkM 51 8) := by rw [l_an _ _ (mkM 51 8) (by rw [mk51]; rfl), l_un x1 2 2 rfl (by omega), e1]
  have b1 : (F1 8 N &&& mkM 51 8) ≤ 3689348814741910323 := by rw [← mk51]; exact Nat.and_le_right
  have b2 : (F1 8 N / 4 &&& mkM 51 8) ≤ 3689348814741910323 := by rw [← mk51]; exact Nat.and_le_right
  have e2 : ((x1 &&& 3689348814741910323) + ((x1.toUInt64 >>> ((2 : Int32).toInt64.toUInt64 &&& Int64.toUInt64 63)).toInt64 &&& 3689348814741910323)).toBitVec.toNat = F2 8 (F1 8 N) := by
    rw [l_ad _ _ (by rw [a1, a2]; omega), a1, a2]
    rfl
  have lF2 : F2 8 (F1 8 N) ≤ 2 * 3689348814741910323 := by unfold F2; omega
  generalize (x1 &&& 3689348814741910323) + ((x1.toUInt64 >>> ((2 : Int32).toInt64.toUInt64 &&& Int64.toUInt64 63)).toInt64 &&& 3689348814741910323) = x2 at *
  have e3 : (x2 + (x2.toUInt64 >>> ((4 : Int32).toInt64.toUInt64 &&& Int64.toUInt64 63)).toInt64 &&& 1085102592571150095).toBitVec.toNat = bcG 8 N := by
    have c : (x2.toUInt64 >>> ((4 : Int32).toInt64.toUInt64 &&& Int64.toUInt64 63)).toInt64.toBitVec.toNat = F2 8 (F1 8 N) / 16 := by rw [l_un x2 4 4 rfl (by omega), e2]
    rw [l_an _ _ (mkM 15 8) (by rw [mk15]; rfl), l_ad _ _ (by rw [c, e2]; omega), c, e2]
    rfl
  generalize x2 + (x2.toUInt64 >>> ((4 : Int32).toInt64.toUInt64 &&& Int64.toUInt64 63)).toInt64 &&& 1085102592571150095 = x3 at *
  have l3 := hs.2
  generalize bcG 8 N = G at *
  have e4 : (x3 + (x3.toUInt64 >>> ((8 : Int32).toInt64.toUInt64 &&& Int64.toUInt64 63)).toInt64).toBitVec.toNat = G + G / 256 := by
    have c : (x3.toUInt64 >>> ((8 : Int32).toInt64.toUInt64 &&& Int64.toUInt64 63)).toInt64.toBitVec.toNat = G / 256 := by rw [l_un x3 8 8 rfl (by omega), e3]
    rw [l_ad _ _ (by rw [c, e3]; omega), c, e3]
  generalize x3 + (x3.toUInt64 >>> ((8 : Int32).toInt64.toUInt64 &&& Int64.toUInt64 63)).toInt64 = x4 at *
  have l4 : G + G / 256 < 2 ^ 61 := by omega
  generalize G + G / 256 = G4 at *
  have e5 : (x4 + (x4.toUInt64 >>> ((16 : Int32).toInt64.toUInt64 &&& Int64.toUInt64 63)).toInt64).toBitVec.toNat = G4 + G4 / 65536 := by
    have c : (x4.toUInt64 >>> ((16 : Int32).toInt64.toUInt64 &&& Int64.toUInt64 63)).toInt64.toBitVec.toNat = G4 / 65536 := by rw [l_un x4 16 16 rfl (by omega), e4]
    rw [l_ad _ _ (by rw [c, e4]; omega), c, e4]
  generalize x4 + (x4.toUInt64 >>> ((16 : Int32).toInt64.toUInt64 &&& Int64.toUInt64 63)).toInt64 = x5 at *
  have l5 : G4 + G4 / 65536 < 2 ^ 62 := by omega
  generalize G4 + G4 / 65536 = G5 at *
  have c : (x5.toUInt64 >>> ((32 : Int32).toInt64.toUInt64 &&& Int64.toUInt64 63)).toInt64.toBitVec.toNat = G5 / 4294967296 := by rw [l_un x5 32 32 rfl (by omega), e5]
  rw [l_ad _ _ (by rw [c, e5]; omega), c, e5]
def bJ13x (G : Nat × Nat × Nat × Option (Nat × (Nat → Int32)) × (Option Value → qW → Prop)) : qK := (s_lload 0 (s_lload 0 (s_iconst 1 (s_lushr (s_lconst 6148914691236517205 (s_land (s_lsub (s_lstore 0 1 (s_lload 0 (s_lconst 3689348814741910323 (s_land (s_lload 0 (s_iconst 2 (s_lushr (s_lconst 3689348814741910323 (s_land (s_ladd (s_lstore 0 1 (s_lload 0 (s_lload 0 (s_iconst 4 (s_lushr (s_ladd (s_lconst 1085102592571150095 (s_land (s_lstore 0 1 (s_lload 0 (s_lload 0 (s_iconst 8 (s_lushr (s_ladd (s_lstore 0 1 (s_lload 0 (s_lload 0 (s_iconst 16 (s_lushr (s_ladd (s_lstore 0 1 (s_lload 0 (s_lload 0 (s_iconst 32 (s_lushr (s_ladd (s_lstore 0 1 (s_lload 0 (s_l2i (s_iconst 127 (s_iand (s_ireturn (mJ13_bitCount_95d88, G))))))))))))))))))))))))))))))))))))))))))))))))))
theorem oJ13x (G : Nat × Nat × Nat × Option (Nat × (Nat → Int32)) × (Option Value → qW → Prop)) : qImp (bJ13x G) (AW (mJ13_bitCount_95d88, G) 0) := (r_lload_n dJ13_bitCount_95d88_0 rfl (r_lload_n dJ13_bitCount_95d88_1 rfl (r_iconst dJ13_bitCount_95d88_2 rfl (r_lushr dJ13_bitCount_95d88_3 (r_ldc2 dJ13_bitCount_95d88_4 lk773 (r_land dJ13_bitCount_95d88_7 (r_lsub dJ13_bitCount_95d88_8 (r_lstore_n dJ13_bitCount_95d88_9 rfl (Or.inl rfl) (Nat.le_of_ble_eq_true rfl) (r_lload_n dJ13_bitCount_95d88_10 rfl (r_ldc2 dJ13_bitCount_95d88_11 lk774 (r_land dJ13_bitCount_95d88_14 (r_lload_n dJ13_bitCount_95d88_15 rfl (r_iconst dJ13_bitCount_95d88_16 rfl (r_lushr dJ13_bitCount_95d88_17 (r_ldc2 dJ13_bitCount_95d88_18 lk774 (r_land dJ13_bitCount_95d88_21 (r_ladd dJ13_bitCount_95d88_22 (r_lstore_n dJ13_bitCount_95d88_23 rfl (Or.inl rfl) (Nat.le_of_ble_eq_true rfl) (r_lload_n dJ13_bitCount_95d88_24 rfl (r_lload_n dJ13_bitCount_95d88_25 rfl (r_iconst dJ13_bitCount_95d88_26 rfl (r_lushr dJ13_bitCount_95d88_27 (r_ladd dJ13_bitCount_95d88_28 (r_ldc2 dJ13_bitCount_95d88_29 lk775 (r_land dJ13_bitCount_95d88_32 (r_lstore_n dJ13_bitCount_95d88_33 rfl (Or.inl rfl) (Nat.le_of_ble_eq_true rfl) (r_lload_n dJ13_bitCount_95d88_34 rfl (r_lload_n dJ13_bitCount_95d88_35 rfl (r_bipush dJ13_bitCount_95d88_36 rfl (r_lushr dJ13_bitCount_95d88_38 (r_ladd dJ13_bitCount_95d88_39 (r_lstore_n dJ13_bitCount_95d88_40 rfl (Or.inl rfl) (Nat.le_of_ble_eq_true rfl) (r_lload_n dJ13_bitCount_95d88_41 rfl (r_lload_n dJ13_bitCount_95d88_42 rfl (r_bipush dJ13_bitCount_95d88_43 rfl (r_lushr dJ13_bitCount_95d88_45 (r_ladd dJ13_bitCount_95d88_46 (r_lstore_n dJ13_bitCount_95d88_47 rfl (Or.inl rfl) (Nat.le_of_ble_eq_true rfl) (r_lload_n dJ13_bitCount_95d88_48 rfl (r_lload_n dJ13_bitCount_95d88_49 rfl (r_bipush dJ13_bitCount_95d88_50 rfl (r_lushr dJ13_bitCount_95d88_52 (r_ladd dJ13_bitCount_95d88_53 (r_lstore_n dJ13_bitCount_95d88_54 rfl (Or.inl rfl) (Nat.le_of_ble_eq_true rfl) (r_lload_n dJ13_bitCount_95d88_55 rfl (r_l2i dJ13_bitCount_95d88_56 (r_bipush dJ13_bitCount_95d88_57 rfl (r_iand dJ13_bitCount_95d88_59 (r_ireturn dJ13_bitCount_95d88_60 rfl)))))))))))))))))))))))))))))))))))))))))))))))))
set_option maxRecDepth 100000 in
set_option maxHeartbeats 4000000 in
theorem zJ13_bitCount_95d88 {w : qW} {x : Int64} : CT mJ13_bitCount_95d88 0 0 0 [.long x] w (fun r w' => w' = w ∧ r = some (.int (nI (fb_ct (fun i => x.toBitVec.getLsbD i) 64)))) := by
  rw [← bcL_ok]
  refine eJ13_bitCount_95d88 (AW_gen (fun Q hQ => ?_))
  refine oJ13x _ _ _ _ _ _ ?_
  simp only [bJ13x, qsem, qopt_s, qopt2_s, qev, qxs, Nat.reduceEqDiff, reduceIte, and_true, true_and, and_false, false_and, and_self, or_true, true_or, qb_or, reduceCtorEq, qbr_True, qbr_False, q10, q01, show q_nb (some (none : Option Value)) = true from rfl]
  exact hQ _ _ ⟨rfl, rfl⟩
theorem fs_ct (C : qC) (p : Nat) : fb_ct (fun i => (xL C p 0).toBitVec.getLsbD i) 64 + fb_ct (fun i => (xL C p 1).toBitVec.getLsbD i) 64 = fb_ct (fB C p) 128 := by
  rw [show (128 : Nat) = 64 + 64 from rfl, fb_ct_split (fB C p) 64 64]
  have e1 : fb_ct (fun i => (xL C p 0).toBitVec.getLsbD i) 64 = fb_ct (fB C p) 64 := fb_ct_cong (fun k hk => (fB_lo hk).symm)
  have e2 : fb_ct (fun i => (xL C p 1).toBitVec.getLsbD i) 64 = fb_ct (fun k => fB C p (64 + k)) 64 := fb_ct_cong (fun k hk => by rw [fB_hi (by omega), show 64 + k - 64 = k by omega])
  rw [e1, e2]
set_option maxRecDepth 100000 in
set_option maxHeartbeats 4000000 in
theorem zX0_size {C M : qC} {r : Nat × Nat × Nat} {p : Nat} (hp : fsP p) : CT mX0_size 1 0 0 [.ref p] (wd C M r) (fun r' w' => w' = wd C M r ∧ r' = some (.int (nI (fb_ct (fB C p) 128)))) := by
  rw [← fs_ct]
  refine eX0_size (AW_gen (fun Q hQ => ?_))
  refine oX0_size_0 _ _ _ _ _ _ ?_
  simp only [bX0_size_0, qsem, qopt_s, qopt2_s, qev, qxs, Nat.reduceEqDiff, reduceIte, and_true, true_and, and_false, false_and, and_self, or_true, true_or, qb_or, reduceCtorEq, qbr_True, qbr_False, q10, q01, qwC, fs_g0 hp, fs_g1 hp, nadd]
  refine kX0_size_4 (zJ13_bitCount_95d88) (Nat.le_of_ble_eq_true rfl) (Nat.le_of_ble_eq_true rfl) ⟨Nat.le_of_ble_eq_true rfl, Nat.le_of_ble_eq_true rfl⟩ ?_
  rintro _ _ ⟨rfl, rfl⟩
  refine oX0_size_7 _ _ _ _ _ _ ?_
  simp only [bX0_size_7, qsem, qopt_s, qopt2_s, qev, qxs, Nat.reduceEqDiff, reduceIte, and_true, true_and, and_false, false_and, and_self, or_true, true_or, qb_or, reduceCtorEq, qbr_True, qbr_False, q10, q01, qwC, fs_g0 hp, fs_g1 hp, nadd]
  refine kX0_size_11 (zJ13_bitCount_95d88) (Nat.le_of_ble_eq_true rfl) (Nat.le_of_ble_eq_true rfl) ⟨Nat.le_of_ble_eq_true rfl, Nat.le_of_ble_eq_true rfl⟩ ?_
  rintro _ _ ⟨rfl, rfl⟩
  refine oX0_size_14 _ _ _ _ _ _ ?_
  simp only [bX0_size_14, qsem, qopt_s, qopt2_s, qev, qxs, Nat.reduceEqDiff, reduceIte, and_true, true_and, and_false, false_and, and_self, or_true, true_or, qb_or, reduceCtorEq, qbr_True, qbr_False, q10, q01, qwC, fs_g0 hp, fs_g1 hp, nadd]
  exact hQ _ _ ⟨rfl, rfl⟩

