/-! sets of files: two words of bits -/
def fB (C : qC) (p i : Nat) : Bool := if i < 64 then (xL C p 0).toBitVec.getLsbD i else (xL C p 1).toBitVec.getLsbD (i - 64)
def fsP (p : Nat) : Prop := p = 12 ∨ (13 ≤ p ∧ p < 113) ∨ p = 116 ∨ p = 120
theorem fsP_r {i : Nat} (h : i < 100) : fsP (13 + i) := Or.inr (Or.inl (by omega))
theorem fs_sh {p : Nat} (h : fsP p) (r : Nat × Nat × Nat) : shp r p = some (.inr (.inl (0, [(1, 0), (1, 0)]))) := by
  rcases h with rfl | ⟨a, b⟩ | rfl | rfl
  · rfl
  · unfold shp
    rw [if_neg (by omega), if_pos b]
  · rfl
  · rfl
theorem fs_no {p : Nat} (h : fsP p) : ¬ (136 ≤ p ∧ p < 165) := by
  rcases h with rfl | ⟨a, b⟩ | rfl | rfl <;> omega
theorem fs_c {p : Nat} (h : fsP p) : ∀ (C M : qC) (r : Nat × Nat × Nat), qci (wd C M r) p = some 0 := fun _ _ r => gc_at (fs_sh h r)
theorem fs_g0 {p : Nat} (h : fsP p) : ∀ (C M : qC) (r : Nat × Nat × Nat), qgF (wd C M r) p 0 0 = some (.long (xL C p 0)) := fun C M r => by rw [gF_at (fs_sh h r), if_neg (fs_no h)]; rfl
theorem fs_g1 {p : Nat} (h : fsP p) : ∀ (C M : qC) (r : Nat × Nat × Nat), qgF (wd C M r) p 0 1 = some (.long (xL C p 1)) := fun C M r => by rw [gF_at (fs_sh h r), if_neg (fs_no h)]; rfl
theorem fs_s0 {p : Nat} (h : fsP p) : ∀ (C M : qC) (r : Nat × Nat × Nat) (v : Int64), qsF (wd C M r) p 0 (.long v) = wd (yL C p 0 v) M r := fun _ _ r _ => sG_C (fs_sh h r) rfl (fs_no h)
theorem fs_s1 {p : Nat} (h : fsP p) : ∀ (C M : qC) (r : Nat × Nat × Nat) (v : Int64), qsF (wd C M r) p 1 (.long v) = wd (yL C p 1 v) M r := fun _ _ r _ => sG_C (fs_sh h r) rfl (fs_no h)
/-- only the set at p has changed: it is f -/
def fsU (C : qC) (p : Nat) (f : Nat → Bool) (C' : qC) : Prop := xI C' = xI C ∧ xA C' = xA C ∧ xM C' = xM C ∧ (∀ q, q ≠ p → xL C' q = xL C q) ∧ ∀ j, j < 128 → fB C' p j = f j
theorem fsU_B {C C' : qC} {p q : Nat} {f : Nat → Bool} (h : fsU C p f C') (hq : q ≠ p) (j : Nat) : fB C' q j = fB C q j := by unfold fB; rw [h.2.2.2.1 q hq]
theorem tw_e : ∀ i, i < 64 → ((1 : Int64) <<< ((nI i).toInt64 &&& 63)).toBitVec = BitVec.twoPow 64 i := by decide
theorem us_e : ∀ i, i < 64 → (nI i).toInt64.toUInt64 &&& Int64.toUInt64 63 = UInt64.ofNat i := by decide
theorem l_or (x y : Int64) : (x ||| y).toBitVec = x.toBitVec ||| y.toBitVec := rfl
theorem l_and (x y : Int64) : (x &&& y).toBitVec = x.toBitVec &&& y.toBitVec := rfl
theorem l_us (x : Int64) (i : Nat) (h : i < 64) : ((x.toUInt64 >>> ((nI i).toInt64.toUInt64 &&& Int64.toUInt64 63)).toInt64).toBitVec = x.toBitVec >>> i := by
  rw [us_e i h]
  show (x.toUInt64 >>> UInt64.ofNat i).toBitVec = _
  rw [UInt64.toBitVec_shiftRight]
  show x.toBitVec >>> (BitVec.ofNat 64 i % 64#64) = _
  rw [BitVec.ushiftRight_eq']
  congr 1
  rw [BitVec.toNat_umod, BitVec.toNat_ofNat]
  show i % 2 ^ 64 % 64 = i
  omega
theorem l_0 (x : Int64) : (x = 0) = (x.toBitVec = 0#64) := propext ⟨fun h => by rw [h]; rfl, fun h => Int64.toBitVec_inj.mp h⟩
theorem l_bit (x : Int64) (i : Nat) (h : i < 64) : ((x.toUInt64 >>> ((nI i).toInt64.toUInt64 &&& Int64.toUInt64 63)).toInt64 &&& 1 = 0) = (x.toBitVec.getLsbD i = false) := by
  rw [l_0, l_and, l_us x i h]
  refine propext ⟨fun e => ?_, fun e => ?_⟩
  · have := congrArg (fun b => b.getLsbD 0) e
    simp at this
    exact this
  · apply BitVec.eq_of_getLsbD_eq
    intro j hj
    by_cases h0 : j = 0
    · subst h0
      simp
      exact e
    · simp [h0, BitVec.getLsbD_one]
theorem fB_lo {C : qC} {p i : Nat} (h : i < 64) : fB C p i = (xL C p 0).toBitVec.getLsbD i := if_pos h
theorem fB_hi {C : qC} {p i : Nat} (h : ¬ i < 64) : fB C p i = (xL C p 1).toBitVec.getLsbD (i - 64) := if_neg h
theorem n64 {i : Nat} (h : 64 ≤ i) : nI i - 64 = nI (i - 64) := pk_sub (b := 64) h
set_option maxRecDepth 100000 in
set_option maxHeartbeats 4000000 in
theorem zX0_has {C M : qC} {r : Nat × Nat × Nat} {p : Nat} {a : Int32} (hp : fsP p) : CT mX0_has 0 0 0 [.ref p, .int a] (wd C M r) (fun r' w' => w' = wd C M r ∧ r' = some (.int (qb (inN a 100 && fB C p a.toNatClampNeg)))) := by
  refine eX0_has (AW_gen (fun Q hQ => ?_))
  by_cases ha : inN a 100 = true
  · obtain ⟨i, hi, rfl⟩ := inN_of (by omega) ha
    rw [ha, nIcl (show i < 1000 by omega), Bool.true_and] at hQ
    by_cases h64 : i < 64
    · rw [fB_lo h64] at hQ
      refine oX0_has_0 _ _ _ _ _ _ ?_
      simp only [bX0_has_0, qsem, qopt_s, qopt2_s, qev, qxs, Nat.reduceEqDiff, reduceIte, and_true, true_and, and_false, false_and, and_self, or_true, true_or, qb_or, reduceCtorEq, qbr_True, qbr_False, q10, q01, qwC, fs_g0 hp, lg0, l_bit _ i h64]
      refine qbr_f (Int32.not_lt.mpr (nI_pos' (by omega))) ?_
      refine qbr_t (nI_lt (b := 100) (by omega) (by omega)) ?_
      refine oX0_has_12 _ _ _ _ _ _ ?_
      simp only [bX0_has_12, qsem, qopt_s, qopt2_s, qev, qxs, Nat.reduceEqDiff, reduceIte, and_true, true_and, and_false, false_and, and_self, or_true, true_or, qb_or, reduceCtorEq, qbr_True, qbr_False, q10, q01, qwC, fs_g0 hp, lg0, l_bit _ i h64]
      refine qbr_f (nI_ge (b := 64) (by omega) (by omega)) ?_
      refine qbr_i (fun c1 => ?_) (fun c1 => ?_)
      · refine oX0_has_35 _ _ _ _ _ _ ?_
        simp only [bX0_has_35, qsem, qopt_s, qopt2_s, qev, qxs, Nat.reduceEqDiff, reduceIte, and_true, true_and, and_false, false_and, and_self, or_true, true_or, qb_or, reduceCtorEq, qbr_True, qbr_False, q10, q01, qwC, fs_g0 hp, lg0, l_bit _ i h64]
        refine oX0_has_60 _ _ _ _ _ _ ?_
        simp only [bX0_has_60, qsem, qopt_s, qopt2_s, qev, qxs, Nat.reduceEqDiff, reduceIte, and_true, true_and, and_false, false_and, and_self, or_true, true_or, qb_or, reduceCtorEq, qbr_True, qbr_False, q10, q01, qwC, fs_g0 hp, lg0, l_bit _ i h64]
        first | exact hQ _ _ ⟨rfl, ri (qb_0of c1)⟩ | exact hQ _ _ ⟨rfl, ri (qb_1of ((Bool.not_eq_false _).mp c1))⟩
      · refine oX0_has_60 _ _ _ _ _ _ ?_
        simp only [bX0_has_60, qsem, qopt_s, qopt2_s, qev, qxs, Nat.reduceEqDiff, reduceIte, and_true, true_and, and_false, false_and, and_self, or_true, true_or, qb_or, reduceCtorEq, qbr_True, qbr_False, q10, q01, qwC, fs_g0 hp, lg0, l_bit _ i h64]
        first | exact hQ _ _ ⟨rfl, ri (qb_0of c1)⟩ | exact hQ _ _ ⟨rfl, ri (qb_1of ((Bool.not_eq_false _).mp c1))⟩
    · rw [fB_hi h64] at hQ
      refine oX0_has_0 _ _ _ _ _ _ ?_
      simp only [bX0_has_0, qsem, qopt_s, qopt2_s, qev, qxs, Nat.reduceEqDiff, reduceIte, and_true, true_and, and_false, false_and, and_self, or_true, true_or, qb_or, reduceCtorEq, qbr_True, qbr_False, q10, q01, qwC, fs_g1 hp, lg0, n64 (show 64 ≤ i by omega), l_bit _ (i - 64) (by omega)]
      refine qbr_f (Int32.not_lt.mpr (nI_pos' (by omega))) ?_
      refine qbr_t (nI_lt (b := 100) (by omega) (by omega)) ?_
      refine oX0_has_12 _ _ _ _ _ _ ?_
      simp only [bX0_has_12, qsem, qopt_s, qopt2_s, qev, qxs, Nat.reduceEqDiff, reduceIte, and_true, true_and, and_false, false_and, and_self, or_true, true_or, qb_or, reduceCtorEq, qbr_True, qbr_False, q10, q01, qwC, fs_g1 hp, lg0, n64 (show 64 ≤ i by omega), l_bit _ (i - 64) (by omega)]
      refine qbr_t (nI_le (a := 64) (by omega) (by omega)) ?_
      refine oX0_has_39 _ _ _ _ _ _ ?_
      simp only [bX0_has_39, qsem, qopt_s, qopt2_s, qev, qxs, Nat.reduceEqDiff, reduceIte, and_true, true_and, and_false, false_and, and_self, or_true, true_or, qb_or, reduceCtorEq, qbr_True, qbr_False, q10, q01, qwC, fs_g1 hp, lg0, n64 (show 64 ≤ i by omega), l_bit _ (i - 64) (by omega)]
      refine qbr_i (fun c1 => ?_) (fun c1 => ?_)
      · refine oX0_has_59 _ _ _ _ _ _ ?_
        simp only [bX0_has_59, qsem, qopt_s, qopt2_s, qev, qxs, Nat.reduceEqDiff, reduceIte, and_true, true_and, and_false, false_and, and_self, or_true, true_or, qb_or, reduceCtorEq, qbr_True, qbr_False, q10, q01, qwC, fs_g1 hp, lg0, n64 (show 64 ≤ i by omega), l_bit _ (i - 64) (by omega)]
        refine oX0_has_60 _ _ _ _ _ _ ?_
        simp only [bX0_has_60, qsem, qopt_s, qopt2_s, qev, qxs, Nat.reduceEqDiff, reduceIte, and_true, true_and, and_false, false_and, and_self, or_true, true_or, qb_or, reduceCtorEq, qbr_True, qbr_False, q10, q01, qwC, fs_g1 hp, lg0, n64 (show 64 ≤ i by omega), l_bit _ (i - 64) (by omega)]
        first | exact hQ _ _ ⟨rfl, ri (qb_0of c1)⟩ | exact hQ _ _ ⟨rfl, ri (qb_1of ((Bool.not_eq_false _).mp c1))⟩
      · refine oX0_has_60 _ _ _ _ _ _ ?_
        simp only [bX0_has_60, qsem, qopt_s, qopt2_s, qev, qxs, Nat.reduceEqDiff, reduceIte, and_true, true_and, and_false, false_and, and_self, or_true, true_or, qb_or, reduceCtorEq, qbr_True, qbr_False, q10, q01, qwC, fs_g1 hp, lg0, n64 (show 64 ≤ i by omega), l_bit _ (i - 64) (by omega)]
        first | exact hQ _ _ ⟨rfl, ri (qb_0of c1)⟩ | exact hQ _ _ ⟨rfl, ri (qb_1of ((Bool.not_eq_false _).mp c1))⟩
  · have ha : inN a 100 = false := (Bool.not_eq_true _).mp ha
    rw [ha, Bool.false_and] at hQ
    have hn := of_decide_eq_false ha
    refine oX0_has_0 _ _ _ _ _ _ ?_
    simp only [bX0_has_0, qsem, qopt_s, qopt2_s, qev, qxs, Nat.reduceEqDiff, reduceIte, and_true, true_and, and_false, false_and, and_self, or_true, true_or, qb_or, reduceCtorEq, qbr_True, qbr_False, q10, q01, qwC]
    refine qbr_i (fun c1 => ?_) (fun c1 => ?_)
    · refine oX0_has_10 _ _ _ _ _ _ ?_
      simp only [bX0_has_10, qsem, qopt_s, qopt2_s, qev, qxs, Nat.reduceEqDiff, reduceIte, and_true, true_and, and_false, false_and, and_self, or_true, true_or, qb_or, reduceCtorEq, qbr_True, qbr_False, q10, q01, qwC]
      exact hQ _ _ ⟨rfl, rfl⟩
    · refine qbr_i (fun c2 => ?_) (fun c2 => ?_)
      · exact absurd ⟨Int32.not_lt.mp c1, c2⟩ hn
      · refine oX0_has_10 _ _ _ _ _ _ ?_
        simp only [bX0_has_10, qsem, qopt_s, qopt2_s, qev, qxs, Nat.reduceEqDiff, reduceIte, and_true, true_and, and_false, false_and, and_self, or_true, true_or, qb_or, reduceCtorEq, qbr_True, qbr_False, q10, q01, qwC]
        exact hQ _ _ ⟨rfl, rfl⟩
theorem fsU_lo {C : qC} {p i : Nat} (h : i < 64) : fsU C p (fun j => fB C p j || decide (j = i)) (yL C p 0 (xL C p 0 ||| ((1 : Int64) <<< ((nI i).toInt64 &&& 63)))) := by
  refine ⟨by simp only [qxs], by simp only [qxs], by simp only [qxs], fun q hq => ?_, fun j hj => ?_⟩
  · funext k
    simp only [qxs, hq, false_and, if_false]
  · by_cases h64 : j < 64
    · simp only [fB_lo h64, qxs, and_self, if_true]
      rw [l_or, tw_e i h, BitVec.getLsbD_or, BitVec.getLsbD_twoPow]
      congr 1
      by_cases e : j = i
      · subst e; simp [h64]
      · simp [e, Ne.symm e]
    · simp only [fB_hi h64, qxs, Nat.reduceEqDiff, and_false, if_false]
      rw [decide_eq_false (by omega), Bool.or_false]
theorem fsU_hi {C : qC} {p i : Nat} (h : 64 ≤ i) (h2 : i < 128) : fsU C p (fun j => fB C p j || decide (j = i)) (yL C p 1 (xL C p 1 ||| ((1 : Int64) <<< ((nI (i - 64)).toInt64 &&& 63)))) := by
  refine ⟨by simp only [qxs], by simp only [qxs], by simp only [qxs], fun q hq => ?_, fun j hj => ?_⟩
  · funext k
    simp only [qxs, hq, false_and, if_false]
  · by_cases h64 : j < 64
    · simp only [fB_lo h64, qxs, Nat.reduceEqDiff, and_false, if_false]
      rw [decide_eq_false (by omega), Bool.or_false]
    · simp only [fB_hi h64, qxs, and_self, if_true]
      rw [l_or, tw_e (i - 64) (by omega), BitVec.getLsbD_or, BitVec.getLsbD_twoPow]
      congr 1
      by_cases e : j = i
      · subst e; simp; omega
      · have : ¬ i - 64 = j - 64 := by omega
        simp [e, this]
set_option maxRecDepth 100000 in
set_option maxHeartbeats 4000000 in
theorem zX0_add {C M : qC} {r : Nat × Nat × Nat} {p i : Nat} (hp : fsP p) (hi : i < 100) : CT mX0_add 0 0 0 [.ref p, .int (nI i)] (wd C M r) (fun r' w' => ∃ C', r' = none ∧ w' = wd C' M r ∧ fsU C p (fun j => fB C p j || decide (j = i)) C') := by
  refine eX0_add (AW_gen (fun Q hQ => ?_))
  by_cases h64 : i < 64
  · refine oX0_add_0 _ _ _ _ _ _ ?_
    simp only [bX0_add_0, qsem, qopt_s, qopt2_s, qev, qxs, Nat.reduceEqDiff, reduceIte, and_true, true_and, and_false, false_and, and_self, or_true, true_or, qb_or, reduceCtorEq, qbr_True, qbr_False, q10, q01, qwC, fs_g0 hp, fs_s0 hp]
    refine qbr_f (Int32.not_lt.mpr (nI_pos' (by omega))) ?_
    refine qbr_f (nI_ge (b := 64) (by omega) (by omega)) ?_
    refine oX0_add_52 _ _ _ _ _ _ ?_
    simp only [bX0_add_52, qsem, qopt_s, qopt2_s, qev, qxs, Nat.reduceEqDiff, reduceIte, and_true, true_and, and_false, false_and, and_self, or_true, true_or, qb_or, reduceCtorEq, qbr_True, qbr_False, q10, q01, qwC, fs_g0 hp, fs_s0 hp]
    exact hQ _ _ ⟨_, rfl, rfl, fsU_lo h64⟩
  · refine oX0_add_0 _ _ _ _ _ _ ?_
    simp only [bX0_add_0, qsem, qopt_s, qopt2_s, qev, qxs, Nat.reduceEqDiff, reduceIte, and_true, true_and, and_false, false_and, and_self, or_true, true_or, qb_or, reduceCtorEq, qbr_True, qbr_False, q10, q01, qwC, fs_g1 hp, fs_s1 hp, n64 (show 64 ≤ i by omega)]
    refine qbr_f (Int32.not_lt.mpr (nI_pos' (by omega))) ?_
    refine qbr_t (nI_le (a := 64) (by omega) (by omega)) ?_
    refine oX0_add_25 _ _ _ _ _ _ ?_
    simp only [bX0_add_25, qsem, qopt_s, qopt2_s, qev, qxs, Nat.reduceEqDiff, reduceIte, and_true, true_and, and_false, false_and, and_self, or_true, true_or, qb_or, reduceCtorEq, qbr_True, qbr_False, q10, q01, qwC, fs_g1 hp, fs_s1 hp, n64 (show 64 ≤ i by omega)]
    refine qbr_f (nI_nlt (b := 64) (by omega) (by omega)) ?_
    refine qbr_f (nI_ge (b := 100) (by omega) (by omega)) ?_
    refine oX0_add_52 _ _ _ _ _ _ ?_
    simp only [bX0_add_52, qsem, qopt_s, qopt2_s, qev, qxs, Nat.reduceEqDiff, reduceIte, and_true, true_and, and_false, false_and, and_self, or_true, true_or, qb_or, reduceCtorEq, qbr_True, qbr_False, q10, q01, qwC, fs_g1 hp, fs_s1 hp, n64 (show 64 ≤ i by omega)]
    exact hQ _ _ ⟨_, rfl, rfl, fsU_hi (by omega) (by omega)⟩
set_option maxRecDepth 100000 in
set_option maxHeartbeats 4000000 in
theorem zX0_addAll {C M : qC} {r : Nat × Nat × Nat} {p q : Nat} (hp : fsP p) (hq : fsP q) : CT mX0_addAll 0 0 0 [.ref p, .ref q] (wd C M r) (fun r' w' => ∃ C', r' = none ∧ w' = wd C' M r ∧ fsU C p (fun j => fB C p j || fB C q j) C') := by
  refine eX0_addAll (AW_gen (fun Q hQ => ?_))
  refine oX0_addAll_0 _ _ _ _ _ _ ?_
  simp only [bX0_addAll_0, qsem, qopt_s, qopt2_s, qev, qxs, Nat.reduceEqDiff, reduceIte, and_true, true_and, and_false, false_and, and_self, or_true, true_or, qb_or, reduceCtorEq, qbr_True, qbr_False, q10, q01, qwC, fs_g0 hp, fs_g1 hp, fs_g0 hq, fs_g1 hq, fs_s0 hp, fs_s1 hp]
  refine hQ _ _ ⟨_, rfl, rfl, by simp only [qxs], by simp only [qxs], by simp only [qxs], fun u hu => ?_, fun j hj => ?_⟩
  · funext k; simp only [qxs, hu, false_and, if_false]
  · by_cases h64 : j < 64; (simp only [fB_lo h64, qxs, and_self, if_true, Nat.reduceEqDiff, and_false, if_false]; rw [l_or, BitVec.getLsbD_or]); (simp only [fB_hi h64, qxs, and_self, if_true, Nat.reduceEqDiff, and_false, if_false]; rw [l_or, BitVec.getLsbD_or])
set_option maxRecDepth 100000 in
set_option maxHeartbeats 4000000 in
theorem zX0_empty {C M : qC} {r : Nat × Nat × Nat} {p : Nat} (hp : fsP p) : CT mX0_empty 0 0 0 [.ref p] (wd C M r) (fun r' w' => ∃ C', r' = none ∧ w' = wd C' M r ∧ fsU C p (fun _ => false) C') := by
  refine eX0_empty (AW_gen (fun Q hQ => ?_))
  refine oX0_empty_0 _ _ _ _ _ _ ?_
  simp only [bX0_empty_0, qsem, qopt_s, qopt2_s, qev, qxs, Nat.reduceEqDiff, reduceIte, and_true, true_and, and_false, false_and, and_self, or_true, true_or, qb_or, reduceCtorEq, qbr_True, qbr_False, q10, q01, qwC, fs_g0 hp, fs_g1 hp, fs_s0 hp, fs_s1 hp]
  refine hQ _ _ ⟨_, rfl, rfl, rfl, rfl, rfl, fun u hu => ?_, fun j hj => ?_⟩
  · funext k; simp only [qxs, hu, false_and, if_false]
  · by_cases h64 : j < 64; (rw [fB_lo h64]; simp only [qxs, and_self, if_true, Nat.reduceEqDiff, and_false, if_false]; exact BitVec.getLsbD_zero); (rw [fB_hi h64]; simp only [qxs, and_self, if_true, Nat.reduceEqDiff, and_false, if_false]; exact BitVec.getLsbD_zero)
theorem l_meet (x y : Int64) : (x &&& y = 0) ↔ ∀ j, j < 64 → (x.toBitVec.getLsbD j && y.toBitVec.getLsbD j) = false := by
  rw [l_0, l_and]
  constructor
  · intro e j hj
    have := congrArg (fun b => b.getLsbD j) e
    simpa using this
  · intro h
    apply BitVec.eq_of_getLsbD_eq
    intro j hj
    rw [BitVec.getLsbD_and, h j hj, BitVec.getLsbD_zero]
theorem fs_meet {C : qC} {p q : Nat} : (xL C p 0 &&& xL C q 0 = 0 ∧ xL C p 1 &&& xL C q 1 = 0) ↔ ¬ ∃ j, j < 128 ∧ fB C p j = true ∧ fB C q j = true := by
  rw [l_meet, l_meet]
  constructor
  · rintro ⟨h1, h2⟩ ⟨j, hj, a, b⟩
    by_cases h64 : j < 64
    · rw [fB_lo h64] at a b
      have := h1 j h64
      rw [a, b] at this
      exact Bool.noConfusion this
    · rw [fB_hi h64] at a b
      have := h2 (j - 64) (by omega)
      rw [a, b] at this
      exact Bool.noConfusion this
  · intro h
    refine ⟨fun j hj => ?_, fun j hj => ?_⟩
    · apply Bool.eq_false_iff.mpr
      intro e
      rw [Bool.and_eq_true] at e
      exact h ⟨j, by omega, by rw [fB_lo hj]; exact e.1, by rw [fB_lo hj]; exact e.2⟩
    · apply Bool.eq_false_iff.mpr
      intro e
      rw [Bool.and_eq_true] at e
      have n : ¬ j + 64 < 64 := by omega
      exact h ⟨j + 64, by omega, by rw [fB_hi n, Nat.add_sub_cancel]; exact e.1, by rw [fB_hi n, Nat.add_sub_cancel]; exact e.2⟩
set_option maxRecDepth 100000 in
set_option maxHeartbeats 4000000 in
theorem zX0_meets {C M : qC} {r : Nat × Nat × Nat} {p q : Nat} (hp : fsP p) (hq : fsP q) : CT mX0_meets 0 0 0 [.ref p, .ref q] (wd C M r) (fun r' w' => w' = wd C M r ∧ ∃ b : Bool, r' = some (.int (qb b)) ∧ (b = true ↔ ∃ j, j < 128 ∧ fB C p j = true ∧ fB C q j = true)) := by
  have hm := fs_meet (C := C) (p := p) (q := q)
  refine eX0_meets (AW_gen (fun Q hQ => ?_))
  have no : (xL C p 0 &&& xL C q 0 = 0 ∧ xL C p 1 &&& xL C q 1 = 0) → Q (some (.int 0)) (wd C M r) := fun h => hQ _ _ ⟨rfl, false, rfl, ⟨fun e => Bool.noConfusion e, fun e => absurd e (hm.mp h)⟩⟩
  have yes : ¬ (xL C p 0 &&& xL C q 0 = 0 ∧ xL C p 1 &&& xL C q 1 = 0) → Q (some (.int 1)) (wd C M r) := fun h => hQ _ _ ⟨rfl, true, rfl, ⟨fun _ => Classical.byContradiction (fun e => h (hm.mpr e)), fun _ => rfl⟩⟩
  refine oX0_meets_0 _ _ _ _ _ _ ?_
  simp only [bX0_meets_0, qsem, qopt_s, qopt2_s, qev, qxs, Nat.reduceEqDiff, reduceIte, and_true, true_and, and_false, false_and, and_self, or_true, true_or, qb_or, reduceCtorEq, qbr_True, qbr_False, q10, q01, qwC, fs_g0 hp, fs_g1 hp, fs_g0 hq, fs_g1 hq, lg0]
  refine qbr_i (fun c1 => ?_) (fun c1 => ?_)
  · refine qbr_i (fun c2 => ?_) (fun c2 => ?_)
    · refine oX0_meets_32 _ _ _ _ _ _ ?_
      simp only [bX0_meets_32, qsem, qopt_s, qopt2_s, qev, qxs, Nat.reduceEqDiff, reduceIte, and_true, true_and, and_false, false_and, and_self, or_true, true_or, qb_or, reduceCtorEq, qbr_True, qbr_False, q10, q01, qwC, fs_g0 hp, fs_g1 hp, fs_g0 hq, fs_g1 hq, lg0]
      refine oX0_meets_33 _ _ _ _ _ _ ?_
      simp only [bX0_meets_33, qsem, qopt_s, qopt2_s, qev, qxs, Nat.reduceEqDiff, reduceIte, and_true, true_and, and_false, false_and, and_self, or_true, true_or, qb_or, reduceCtorEq, qbr_True, qbr_False, q10, q01, qwC, fs_g0 hp, fs_g1 hp, fs_g0 hq, fs_g1 hq, lg0]
      first | exact no ⟨c1, c2⟩ | exact yes (fun e => c2 e.2) | exact yes (fun e => c1 e.1)
    · refine oX0_meets_28 _ _ _ _ _ _ ?_
      simp only [bX0_meets_28, qsem, qopt_s, qopt2_s, qev, qxs, Nat.reduceEqDiff, reduceIte, and_true, true_and, and_false, false_and, and_self, or_true, true_or, qb_or, reduceCtorEq, qbr_True, qbr_False, q10, q01, qwC, fs_g0 hp, fs_g1 hp, fs_g0 hq, fs_g1 hq, lg0]
      refine oX0_meets_33 _ _ _ _ _ _ ?_
      simp only [bX0_meets_33, qsem, qopt_s, qopt2_s, qev, qxs, Nat.reduceEqDiff, reduceIte, and_true, true_and, and_false, false_and, and_self, or_true, true_or, qb_or, reduceCtorEq, qbr_True, qbr_False, q10, q01, qwC, fs_g0 hp, fs_g1 hp, fs_g0 hq, fs_g1 hq, lg0]
      first | exact no ⟨c1, c2⟩ | exact yes (fun e => c2 e.2) | exact yes (fun e => c1 e.1)
  · refine oX0_meets_28 _ _ _ _ _ _ ?_
    simp only [bX0_meets_28, qsem, qopt_s, qopt2_s, qev, qxs, Nat.reduceEqDiff, reduceIte, and_true, true_and, and_false, false_and, and_self, or_true, true_or, qb_or, reduceCtorEq, qbr_True, qbr_False, q10, q01, qwC, fs_g0 hp, fs_g1 hp, fs_g0 hq, fs_g1 hq, lg0]
    refine oX0_meets_33 _ _ _ _ _ _ ?_
    simp only [bX0_meets_33, qsem, qopt_s, qopt2_s, qev, qxs, Nat.reduceEqDiff, reduceIte, and_true, true_and, and_false, false_and, and_self, or_true, true_or, qb_or, reduceCtorEq, qbr_True, qbr_False, q10, q01, qwC, fs_g0 hp, fs_g1 hp, fs_g0 hq, fs_g1 hq, lg0]
    first | exact no ⟨c1, c2⟩ | exact yes (fun e => c2 e.2) | exact yes (fun e => c1 e.1)
/-! hands as bits -/
theorem bT_or1 (g : Nat → Bool) {h : Nat} (hh : h < 12) : bT g 12 ||| 2 ^ h = bT (fun j => g j || decide (j = h)) 12 := by
  apply Nat.eq_of_testBit_eq
  intro i
  rw [Nat.testBit_or, bT_tb, bT_tb, Nat.testBit_two_pow]
  by_cases e : h = i
  · subst e; simp [hh]
  · simp [e, Ne.symm e]
theorem bT_12 (g : Nat → Bool) : bT g 12 < 4096 := bT_lt g 12
theorem bT_cg {g h : Nat → Bool} {n : Nat} (e : ∀ i, i < n → g i = h i) : bT g n = bT h n := by
  apply Nat.eq_of_testBit_eq
  intro i
  rw [bT_tb, bT_tb]
  by_cases hi : i < n
  · rw [e i hi]
  · rw [decide_eq_false hi, Bool.false_and, Bool.false_and]
theorem bT_of {m : Nat} (h : m < 4096) : m = bT (fun i => m.testBit i) 12 := by
  apply Nat.eq_of_testBit_eq
  intro i
  rw [bT_tb]
  by_cases hi : i < 12
  · rw [decide_eq_true hi, Bool.true_and]
  · have : 2 ^ 12 ≤ 2 ^ i := Nat.pow_le_pow_right (by omega) (by omega)
    rw [Nat.testBit_lt_two_pow (by omega), Bool.and_false]
theorem i_and (x y : Int32) : (x &&& y).toBitVec = x.toBitVec &&& y.toBitVec := rfl
theorem and_not {a b : Nat} (ha : a < 4096) : nI a &&& (nI b ^^^ -1) = nI (bT (fun i => a.testBit i && !b.testBit i) 12) := by
  apply Int32.toBitVec_inj.1
  show BitVec.ofNat 32 a &&& (BitVec.ofNat 32 b ^^^ BitVec.allOnes 32) = BitVec.ofNat 32 _
  apply BitVec.eq_of_getLsbD_eq
  intro i hi
  rw [BitVec.getLsbD_and, BitVec.getLsbD_xor, BitVec.getLsbD_ofNat, BitVec.getLsbD_ofNat, BitVec.getLsbD_ofNat, BitVec.getLsbD_allOnes, bT_tb]
  by_cases h12 : i < 12
  · simp [hi, h12]
  · have : 2 ^ 12 ≤ 2 ^ i := Nat.pow_le_pow_right (by omega) (by omega)
    have e : a.testBit i = false := Nat.testBit_lt_two_pow (by omega)
    simp [e]
theorem and_nI (a b : Nat) : nI a &&& nI b = nI (a &&& b) := by
  apply Int32.toBitVec_inj.1
  show BitVec.ofNat 32 a &&& BitVec.ofNat 32 b = BitVec.ofNat 32 (a &&& b)
  apply BitVec.eq_of_getLsbD_eq
  intro i hi
  simp [hi]
theorem pc12_b (g : Nat → Bool) : pc12 (bT g 12) = fb_ct g 12 := by
  unfold pc12
  exact fb_ct_cong (fun k hk => by rw [bT_tb, decide_eq_true hk, Bool.true_and])

