/-! Integer.numberOfTrailingZeros, as it is written -/
def u32 (x : Int32) (s : Int32) : Int32 := (x.toUInt32 >>> (s.toUInt32 &&& Int32.toUInt32 31)).toInt32
def nz74 (i n : Int32) : Int32 := n + u32 i 1
def nz62 (i n : Int32) : Int32 := if i ≤ 4 then nz74 i n else nz74 (u32 i 2) (n + 2)
def nz49 (i n : Int32) : Int32 := if i ≤ 16 then nz62 i n else nz62 (u32 i 4) (n + 4)
def nz34 (i n : Int32) : Int32 := if i ≤ 256 then nz49 i n else nz49 (u32 i 8) (n + 8)
def nz17 (i : Int32) : Int32 := if i ≤ 65536 then nz34 i 1 else nz34 (u32 i 16) (1 + 16)
def nzI (x : Int32) : Int32 := if 0 < ((x ^^^ -1) &&& (x - 1)) then nz17 ((x ^^^ -1) &&& (x - 1)) else ((x ^^^ -1) &&& (x - 1)) &&& 32
set_option maxRecDepth 100000 in
theorem nz_t : ∀ t : Fin 13, (if 0 < nI (2 ^ t.val - 1) then nz17 (nI (2 ^ t.val - 1)) else nI (2 ^ t.val - 1) &&& 32) = nI t.val := by decide +kernel
theorem nz_ok {m t : Nat} (hm : m < 8192) (ht : t < 13) (hb : m.testBit t = true) (hl : ∀ i, i < t → m.testBit i = false) : nzI (nI m) = nI t := by
  have hp : 0 < m := by
    rcases Nat.eq_zero_or_pos m with h | h
    · rw [h] at hb; simp at hb
    · exact h
  have hr : m % 2 ^ (t + 1) = 2 ^ t := by
    apply Nat.eq_of_testBit_eq
    intro i
    rw [Nat.testBit_mod_two_pow, Nat.testBit_two_pow]
    rcases Nat.lt_trichotomy i t with h | h | h
    · rw [hl i h, Bool.and_false, decide_eq_false (by omega)]
    · rw [h, hb, decide_eq_true (by omega), decide_eq_true rfl]; rfl
    · rw [decide_eq_false (by omega), Bool.false_and, decide_eq_false (by omega)]
  have hd : m = 2 ^ (t + 1) * (m / 2 ^ (t + 1)) + 2 ^ t := by
    have := Nat.div_add_mod m (2 ^ (t + 1))
    rw [hr] at this
    exact this.symm
  have h2 : 0 < 2 ^ t := Nat.two_pow_pos t
  have hlt : 2 ^ t < 2 ^ (t + 1) := Nat.pow_lt_pow_right (by omega) (by omega)
  generalize m / 2 ^ (t + 1) = k at hd
  have hd1 : m - 1 = 2 ^ (t + 1) * k + (2 ^ t - 1) := by omega
  have e : (nI m ^^^ -1) &&& (nI m - 1) = nI (2 ^ t - 1) := by
    rw [show (1 : Int32) = nI 1 from rfl, pk_sub (by omega)]
    apply Int32.toBitVec_inj.1
    show (BitVec.ofNat 32 m ^^^ BitVec.allOnes 32) &&& BitVec.ofNat 32 (m - 1) = BitVec.ofNat 32 (2 ^ t - 1)
    apply BitVec.eq_of_getLsbD_eq
    intro i hi
    rw [BitVec.getLsbD_and, BitVec.getLsbD_xor, BitVec.getLsbD_ofNat, BitVec.getLsbD_ofNat, BitVec.getLsbD_ofNat, BitVec.getLsbD_allOnes, decide_eq_true hi, Bool.true_and, Bool.true_and, Bool.true_and, hd1, hd, Nat.testBit_two_pow_mul_add k hlt, Nat.testBit_two_pow_mul_add k (show 2 ^ t - 1 < 2 ^ (t + 1) by omega), Nat.testBit_two_pow_sub_one]
    by_cases h : i < t + 1
    · rw [if_pos h, if_pos h, Nat.testBit_two_pow]
      by_cases h3 : i = t
      · subst h3; simp
      · have : ¬ t = i := fun q => h3 q.symm
        simp [this]
    · rw [if_neg h, if_neg h]
      have : ¬ i < t := by omega
      simp [this]
  unfold nzI
  rw [e]
  exact nz_t ⟨t, ht⟩
set_option maxRecDepth 100000 in
set_option maxHeartbeats 4000000 in
theorem zJ6_numberOfTrailingZeros_0f7a4 {w : qW} {x : Int32} : CT mJ6_numberOfTrailingZeros_0f7a4 0 0 0 [.int x] w (fun r w' => w' = w ∧ r = some (.int (nzI x))) := by
  refine eJ6_numberOfTrailingZeros_0f7a4 (AW_gen (fun Q hQ => ?_))
  have at74 : ∀ i n : Int32, nz74 i n = nzI x → AW (mJ6_numberOfTrailingZeros_0f7a4, 0, 0, 0, none, Q) 74 [some (.int i), some (.int n)] [] w 0 0 := by
    intro i n h
    refine oJ6_numberOfTrailingZeros_0f7a4_74 _ _ _ _ _ _ ?_
    simp only [bJ6_numberOfTrailingZeros_0f7a4_74, qsem, qopt_s, qopt2_s, qev, qxs, Nat.reduceEqDiff, reduceIte, and_true, true_and, and_false, false_and, and_self, or_true, true_or, qb_or, reduceCtorEq, qbr_True, qbr_False, q10, q01, qwC]
    exact hQ _ _ ⟨rfl, ri h⟩
  have at62 : ∀ i n : Int32, nz62 i n = nzI x → AW (mJ6_numberOfTrailingZeros_0f7a4, 0, 0, 0, none, Q) 62 [some (.int i), some (.int n)] [] w 0 0 := by
    intro i n h
    unfold nz62 at h
    refine oJ6_numberOfTrailingZeros_0f7a4_62 _ _ _ _ _ _ ?_
    simp only [bJ6_numberOfTrailingZeros_0f7a4_62, qsem, qopt_s, qopt2_s, qev, qxs, Nat.reduceEqDiff, reduceIte, and_true, true_and, and_false, false_and, and_self, or_true, true_or, qb_or, reduceCtorEq, qbr_True, qbr_False, q10, q01, qwC]
    refine qbr_i (fun c1 => ?_) (fun c1 => ?_)
    · first | exact at74 _ _ (by rw [if_pos c1] at h; exact h) | exact at74 _ _ (by rw [if_neg c1] at h; exact h)
    · first | exact at74 _ _ (by rw [if_pos c1] at h; exact h) | exact at74 _ _ (by rw [if_neg c1] at h; exact h)
  have at49 : ∀ i n : Int32, nz49 i n = nzI x → AW (mJ6_numberOfTrailingZeros_0f7a4, 0, 0, 0, none, Q) 49 [some (.int i), some (.int n)] [] w 0 0 := by
    intro i n h
    unfold nz49 at h
    refine oJ6_numberOfTrailingZeros_0f7a4_49 _ _ _ _ _ _ ?_
    simp only [bJ6_numberOfTrailingZeros_0f7a4_49, qsem, qopt_s, qopt2_s, qev, qxs, Nat.reduceEqDiff, reduceIte, and_true, true_and, and_false, false_and, and_self, or_true, true_or, qb_or, reduceCtorEq, qbr_True, qbr_False, q10, q01, qwC]
    refine qbr_i (fun c1 => ?_) (fun c1 => ?_)
    · first | exact at62 _ _ (by rw [if_pos c1] at h; exact h) | exact at62 _ _ (by rw [if_neg c1] at h; exact h)
    · first | exact at62 _ _ (by rw [if_pos c1] at h; exact h) | exact at62 _ _ (by rw [if_neg c1] at h; exact h)
  have at34 : ∀ i n : Int32, nz34 i n = nzI x → AW (mJ6_numberOfTrailingZeros_0f7a4, 0, 0, 0, none, Q) 34 [some (.int i), some (.int n)] [] w 0 0 := by
    intro i n h
    unfold nz34 at h
    refine oJ6_numberOfTrailingZeros_0f7a4_34 _ _ _ _ _ _ ?_
    simp only [bJ6_numberOfTrailingZeros_0f7a4_34, qsem, qopt_s, qopt2_s, qev, qxs, Nat.reduceEqDiff, reduceIte, and_true, true_and, and_false, false_and, and_self, or_true, true_or, qb_or, reduceCtorEq, qbr_True, qbr_False, q10, q01, qwC]
    refine qbr_i (fun c1 => ?_) (fun c1 => ?_)
    · first | exact at49 _ _ (by rw [if_pos c1] at h; exact h) | exact at49 _ _ (by rw [if_neg c1] at h; exact h)
    · first | exact at49 _ _ (by rw [if_pos c1] at h; exact h) | exact at49 _ _ (by rw [if_neg c1] at h; exact h)
  have at17 : ∀ i : Int32, nz17 i = nzI x → AW (mJ6_numberOfTrailingZeros_0f7a4, 0, 0, 0, none, Q) 17 [some (.int i), none] [] w 0 0 := by
    intro i h
    unfold nz17 at h
    refine oJ6_numberOfTrailingZeros_0f7a4_17 _ _ _ _ _ _ ?_
    simp only [bJ6_numberOfTrailingZeros_0f7a4_17, qsem, qopt_s, qopt2_s, qev, qxs, Nat.reduceEqDiff, reduceIte, and_true, true_and, and_false, false_and, and_self, or_true, true_or, qb_or, reduceCtorEq, qbr_True, qbr_False, q10, q01, qwC]
    refine qbr_i (fun c1 => ?_) (fun c1 => ?_)
    · first | exact at34 _ _ (by rw [if_pos c1] at h; exact h) | exact at34 _ _ (by rw [if_neg c1] at h; exact h)
    · first | exact at34 _ _ (by rw [if_pos c1] at h; exact h) | exact at34 _ _ (by rw [if_neg c1] at h; exact h)
  refine oJ6_numberOfTrailingZeros_0f7a4_0 _ _ _ _ _ _ ?_
  simp only [bJ6_numberOfTrailingZeros_0f7a4_0, qsem, qopt_s, qopt2_s, qev, qxs, Nat.reduceEqDiff, reduceIte, and_true, true_and, and_false, false_and, and_self, or_true, true_or, qb_or, reduceCtorEq, qbr_True, qbr_False, q10, q01, qwC]
  refine qbr_i (fun c1 => ?_) (fun c1 => ?_)
  · exact at17 _ (by unfold nzI; rw [if_pos c1])
  · exact hQ _ _ ⟨rfl, ri (by unfold nzI; rw [if_neg c1])⟩
/-! judging -/
def cand (H : Nat → Nat → Nat → Bool) (u b n x : Nat) : Prop := x = Nat.max 1 b ∧ x + Nat.max 2 u ≤ 12 ∧ ∃ t, t ≤ 12 ∧ H t u b = true ∧ (∀ t', t' < t → H t' u b = false) ∧ n = Nat.max (x + Nat.max 2 u) t
theorem cand_ok {H : Nat → Nat → Nat → Bool} {u b n x : Nat} (h : cand H u b n x) : 3 ≤ n ∧ n ≤ 12 ∧ 1 ≤ x ∧ x ≤ n - 2 ∧ cH H n x := by
  obtain ⟨hx, h12, t, ht, hH, -, hn⟩ := h
  have a1 : 1 ≤ Nat.max 1 b := Nat.le_max_left _ _
  have a2 : b ≤ Nat.max 1 b := Nat.le_max_right _ _
  have a3 : 2 ≤ Nat.max 2 u := Nat.le_max_left _ _
  have a4 : u ≤ Nat.max 2 u := Nat.le_max_right _ _
  have a5 : x + Nat.max 2 u ≤ n := by rw [hn]; exact Nat.le_max_left _ _
  have a6 : t ≤ n := by rw [hn]; exact Nat.le_max_right _ _
  have a7 : n ≤ 12 := by rw [hn]; exact Nat.max_le.mpr ⟨h12, ht⟩
  exact ⟨by omega, a7, by omega, by omega, t, u, b, a6, by omega, by omega, hH⟩
theorem least_t {p : Nat → Bool} : ∀ n, p n = true → ∃ t, t ≤ n ∧ p t = true ∧ ∀ t', t' < t → p t' = false
  | 0, h => ⟨0, Nat.le_refl _, h, fun t' h => by omega⟩
  | n + 1, h => by
    by_cases hx : ∃ t, t ≤ n ∧ p t = true
    · obtain ⟨t, ht, hp⟩ := hx
      obtain ⟨s, a, b, c⟩ := least_t t hp
      exact ⟨s, by omega, b, c⟩
    · exact ⟨n + 1, Nat.le_refl _, h, fun t' ht => (Bool.not_eq_true _).mp (fun q => hx ⟨t', by omega, q⟩)⟩
theorem cH_cand {H : Nat → Nat → Nat → Bool} {n x : Nat} (hn : n ≤ 12) (hx1 : 1 ≤ x) (hx2 : x ≤ n - 2) (h3 : 3 ≤ n) (h : cH H n x) : ∃ u b n' x', u ≤ 12 ∧ b ≤ 12 ∧ cand H u b n' x' ∧ (n' < n ∨ (n' = n ∧ x' ≤ x)) := by
  obtain ⟨t, u, b, a1, a2, a3, hH⟩ := h
  obtain ⟨s, hs, hp, hl⟩ := least_t (p := fun t => H t u b) t hH
  have b1 : Nat.max 1 b ≤ x := Nat.max_le.mpr ⟨hx1, a3⟩
  have b2 : Nat.max 2 u ≤ n - x := Nat.max_le.mpr ⟨by omega, a2⟩
  have b3 : Nat.max (Nat.max 1 b + Nat.max 2 u) s ≤ n := Nat.max_le.mpr ⟨by omega, by omega⟩
  refine ⟨u, b, Nat.max (Nat.max 1 b + Nat.max 2 u) s, Nat.max 1 b, by omega, by omega, ⟨rfl, by omega, s, by omega, hp, hl, rfl⟩, ?_⟩
  omega
def jIn (H : Nat → Nat → Nat → Bool) (P : Nat → Nat → Prop) (y z : Int32) : Prop := (y = -1 ∧ z = -1 ∧ ∀ u b n x, P u b → ¬ cand H u b n x) ∨ ∃ n x, y = nI n ∧ z = nI x ∧ n ≤ 12 ∧ x ≤ 12 ∧ (∃ u b, cand H u b n x) ∧ ∀ u b n' x', P u b → cand H u b n' x' → n < n' ∨ (n = n' ∧ x ≤ x')
theorem jIn_end {H : Nat → Nat → Nat → Bool} {P : Nat → Nat → Prop} {y z : Int32} (hP : ∀ u b, u ≤ 12 → b ≤ 12 → P u b) (h : jIn H P y z) : jdN H true y ∧ jdN H false z := by
  rcases h with ⟨hy, hz, hno⟩ | ⟨n, x, hy, hz, hn, hx, ⟨u, b, hc⟩, hm⟩
  · have no : ∀ n x, 3 ≤ n → n ≤ 12 → 1 ≤ x → x ≤ n - 2 → ¬ cH H n x := fun n x a b c d e => by
      obtain ⟨u, v, n', x', hu, hv, hc, -⟩ := cH_cand b c d a e
      exact hno u v n' x' (hP u v hu hv) hc
    exact ⟨Or.inl ⟨hy, no⟩, Or.inl ⟨hz, no⟩⟩
  · obtain ⟨a1, a2, a3, a4, a5⟩ := cand_ok hc
    have m1 : ∀ n' x', 3 ≤ n' → n' < n → 1 ≤ x' → x' ≤ n' - 2 → ¬ cH H n' x' := fun n' x' b1 b2 b3 b4 e => by
      obtain ⟨u, v, n2, x2, hu, hv, hc2, hl⟩ := cH_cand (by omega) b3 b4 b1 e
      have := hm u v n2 x2 (hP u v hu hv) hc2
      omega
    have m2 : ∀ x', 1 ≤ x' → x' < x → ¬ cH H n x' := fun x' b1 b2 e => by
      obtain ⟨u, v, n2, x2, hu, hv, hc2, hl⟩ := cH_cand a2 b1 (by omega) a1 e
      have := hm u v n2 x2 (hP u v hu hv) hc2
      omega
    exact ⟨Or.inr ⟨n, x, a1, a2, a3, a4, a5, m1, m2, hy⟩, Or.inr ⟨n, x, a1, a2, a3, a4, a5, m1, m2, hz⟩⟩
def p131 (C C' : qC) (r : Nat × Nat × Nat) : Prop := (∀ q j, q ≠ 131 → xI C' q j = xI C q j) ∧ xL C' = xL C ∧ xM C' = xM C ∧ ∀ q, q ≠ r.1 + 2 → q ≠ r.1 + 3 → xA C' q = xA C q
theorem p131_tr {C C1 C2 : qC} {r : Nat × Nat × Nat} (h : p131 C C1 r) (h2 : p131 C1 C2 r) : p131 C C2 r := ⟨fun q j a => (h2.1 q j a).trans (h.1 q j a), h2.2.1.trans h.2.1, h2.2.2.1.trans h.2.2.1, fun q a b => (h2.2.2.2 q a b).trans (h.2.2.2 q a b)⟩
theorem p131_rh {C C' : qC} {r : Nat × Nat × Nat} {sp eu : Nat → Nat} (h : rhC C C' r sp eu) : p131 C C' r := ⟨fun q j _ => by rw [h.1], h.2.1, h.2.2.1, h.2.2.2.1⟩
theorem iUs_cg {C C' : qC} {r : Nat × Nat × Nat} {H : Nat → Nat → Nat → Bool} (e : xA C' (r.1 + 1) = xA C (r.1 + 1)) (h : iUs C r H) : iUs C' r H := by unfold iUs; rw [e]; exact h
theorem mxI {a b : Nat} (ha : a < 1000) (hb : b < 1000) : (if nI a < nI b then nI b else nI a) = nI (Nat.max a b) := by
  by_cases h : a < b
  · rw [if_pos (by rw [nIlt ha hb]; exact h), show Nat.max a b = b from Nat.max_eq_right (by omega)]
  · rw [if_neg (by rw [nIlt ha hb]; exact h), show Nat.max a b = a from Nat.max_eq_left (by omega)]
set_option maxRecDepth 100000 in
set_option maxHeartbeats 4000000 in
theorem zX1_weigh {C M : qC} {r : Nat × Nat × Nat} {H : Nat → Nat → Nat → Bool} {P : Nat → Nat → Prop} {u b : Nat} (hr : wR r) (hU : iUs C r H) (hu : u ≤ 12) (hb : b ≤ 12) (hj : jIn H P (xI C 131 0) (xI C 131 1)) : CT mX1_weigh 3 0 0 [.ref 131, .ref r.1, .int (nI u), .int (nI b)] (wd C M r) (fun r' w' => ∃ C', r' = none ∧ w' = wd C' M r ∧ p131 C C' r ∧ xI C' 131 2 = xI C 131 2 ∧ jIn H (fun u' b' => P u' b' ∨ (u' = u ∧ b' = b)) (xI C' 131 0) (xI C' 131 1)) := by
  have e1 : (if (1 : Int32) < nI b then nI b else 1) = nI (Nat.max 1 b) := mxI (a := 1) (by omega) (by omega)
  have e2 : (if (2 : Int32) < nI u then nI u else 2) = nI (Nat.max 2 u) := mxI (a := 2) (by omega) (by omega)
  have b1 : Nat.max 1 b ≤ 12 := Nat.max_le.mpr ⟨by omega, hb⟩
  have b2 : Nat.max 2 u ≤ 12 := Nat.max_le.mpr ⟨by omega, hu⟩
  have e12 : (nI (Nat.max 1 b + Nat.max 2 u) ≤ (12 : Int32)) = (Nat.max 1 b + Nat.max 2 u ≤ 12) := nIle (b := 12) (by omega) (by omega)
  refine eX1_weigh (AW_gen (fun Q hQ => ?_))
  have none' : (∀ n x, ¬ cand H u b n x) → ∀ C1 : qC, p131 C C1 r → xI C1 131 = xI C 131 → Q none (wd C1 M r) := by
    intro hno C1 hp he
    refine hQ _ _ ⟨C1, rfl, rfl, hp, by rw [he], ?_⟩
    rw [he]
    rcases hj with ⟨hy, hz, h⟩ | ⟨n, x, hy, hz, hn, hx, hc, h⟩
    · exact Or.inl ⟨hy, hz, fun u' b' n x hP => hP.elim (h u' b' n x) (fun q => by rw [q.1, q.2]; exact hno n x)⟩
    · exact Or.inr ⟨n, x, hy, hz, hn, hx, hc, fun u' b' n' x' hP hc' => hP.elim (fun q => h u' b' n' x' q hc') (fun q => by rw [q.1, q.2] at hc'; exact absurd hc' (hno n' x'))⟩
  by_cases h12 : Nat.max 1 b + Nat.max 2 u ≤ 12
  · have hbt := bT_lt (fun t => H t u b) 13
    by_cases hz : bT (fun t => H t u b) 13 = 0
    · have hno : ∀ n x, ¬ cand H u b n x := fun n x ⟨_, _, t, ht, hH, _⟩ => by
        have := bT_tb (fun t => H t u b) 13 t
        rw [hz, decide_eq_true (by omega), Bool.true_and, hH] at this
        simp at this
      refine oX1_weigh_0 _ _ _ _ _ _ ?_
      simp only [bX1_weigh_0, qsem, qopt_s, qopt2_s, qev, qxs, Nat.reduceEqDiff, reduceIte, and_true, true_and, and_false, false_and, and_self, or_true, true_or, qb_or, reduceCtorEq, qbr_True, qbr_False, q10, q01, qwC, e1, e2, nadd, e12]
      refine kX1_weigh_2 (Nat.le_of_ble_eq_true rfl) (Nat.le_of_ble_eq_true rfl) (Nat.le_of_ble_eq_true rfl) (Nat.le_of_ble_eq_true rfl) ?_
      refine oX1_weigh_5 _ _ _ _ _ _ ?_
      simp only [bX1_weigh_5, qsem, qopt_s, qopt2_s, qev, qxs, Nat.reduceEqDiff, reduceIte, and_true, true_and, and_false, false_and, and_self, or_true, true_or, qb_or, reduceCtorEq, qbr_True, qbr_False, q10, q01, qwC, e1, e2, nadd, e12]
      refine kX1_weigh_9 (Nat.le_of_ble_eq_true rfl) (Nat.le_of_ble_eq_true rfl) (Nat.le_of_ble_eq_true rfl) (Nat.le_of_ble_eq_true rfl) ?_
      refine oX1_weigh_12 _ _ _ _ _ _ ?_
      simp only [bX1_weigh_12, qsem, qopt_s, qopt2_s, qev, qxs, Nat.reduceEqDiff, reduceIte, and_true, true_and, and_false, false_and, and_self, or_true, true_or, qb_or, reduceCtorEq, qbr_True, qbr_False, q10, q01, qwC, e1, e2, nadd, e12]
      refine qbr_t (h12) ?_
      refine oX1_weigh_25 _ _ _ _ _ _ ?_
      simp only [bX1_weigh_25, qsem, qopt_s, qopt2_s, qev, qxs, Nat.reduceEqDiff, reduceIte, and_true, true_and, and_false, false_and, and_self, or_true, true_or, qb_or, reduceCtorEq, qbr_True, qbr_False, q10, q01, qwC, e1, e2, nadd, e12]
      refine kX1_weigh_28 (zX6_holdingTries hr hU hu hb) (ru_c hr _ _) (Nat.le_of_ble_eq_true rfl) (Nat.le_of_ble_eq_true rfl) ⟨Nat.le_of_ble_eq_true rfl, Nat.le_of_ble_eq_true rfl⟩ ?_
      rintro _ _ ⟨C1, rfl, ⟨sp, eu, hC1⟩, rfl⟩
      rw [hz]
      refine oX1_weigh_31 _ _ _ _ _ _ ?_
      simp only [bX1_weigh_31, qsem, qopt_s, qopt2_s, qev, qxs, Nat.reduceEqDiff, reduceIte, and_true, true_and, and_false, false_and, and_self, or_true, true_or, qb_or, reduceCtorEq, qbr_True, qbr_False, q10, q01, qwC, e1, e2, nadd, e12]
      refine qbr_t (rfl) ?_
      exact none' hno C1 (p131_rh hC1) (by rw [hC1.1])
    · obtain ⟨t, ht, hH, hl⟩ : ∃ t, t ≤ 12 ∧ H t u b = true ∧ ∀ t', t' < t → H t' u b = false := by
        have : ∃ t, t ≤ 12 ∧ H t u b = true := Classical.byContradiction (fun hn => hz (by
          apply Nat.eq_of_testBit_eq
          intro i
          rw [bT_tb, Nat.zero_testBit]
          by_cases hi : i < 13
          · rw [decide_eq_true hi, Bool.true_and]
            exact (Bool.not_eq_true _).mp (fun q => hn ⟨i, by omega, q⟩)
          · rw [decide_eq_false hi, Bool.false_and]))
        obtain ⟨t, ht, hp⟩ := this
        obtain ⟨s, a, b', c⟩ := least_t (p := fun t => H t u b) t hp
        exact ⟨s, by omega, b', c⟩
      have hnz : nzI (nI (bT (fun t => H t u b) 13)) = nI t := nz_ok (by omega) (by omega) (by rw [bT_tb, decide_eq_true (by omega), Bool.true_and]; exact hH) (fun i hi => by rw [bT_tb, decide_eq_true (by omega), Bool.true_and]; exact hl i hi)
      have hcd : cand H u b (Nat.max (Nat.max 1 b + Nat.max 2 u) t) (Nat.max 1 b) := ⟨rfl, h12, t, ht, hH, hl, rfl⟩
      have hun : ∀ n x, cand H u b n x → n = Nat.max (Nat.max 1 b + Nat.max 2 u) t ∧ x = Nat.max 1 b := fun n x ⟨hx, _, t2, ht2, hH2, hl2, hn⟩ => by
        have : t2 = t := by
          rcases Nat.lt_trichotomy t2 t with h | h | h
          · rw [hl t2 h] at hH2; exact Bool.noConfusion hH2
          · exact h
          · rw [hl2 t h] at hH; exact Bool.noConfusion hH
        rw [this, hx] at hn
        exact ⟨hn, hx⟩
      have b3 : Nat.max (Nat.max 1 b + Nat.max 2 u) t ≤ 12 := Nat.max_le.mpr ⟨h12, ht⟩
      have e3 : (if nI (Nat.max 1 b + Nat.max 2 u) < nI t then nI t else nI (Nat.max 1 b + Nat.max 2 u)) = nI (Nat.max (Nat.max 1 b + Nat.max 2 u) t) := mxI (by omega) (by omega)
      generalize Nat.max (Nat.max 1 b + Nat.max 2 u) t = n0 at *
      generalize Nat.max 1 b = x0 at *
      have take : ∀ C1 : qC, p131 C C1 r → xI C1 131 = xI C 131 → (∀ n x, xI C 131 0 = nI n → xI C 131 1 = nI x → n ≤ 12 → x ≤ 12 → n0 < n ∨ (n0 = n ∧ x0 ≤ x)) → Q none (wd (yI (yI C1 131 0 (nI n0)) 131 1 (nI x0)) M r) := by
        intro C1 hp he hbet
        refine hQ _ _ ⟨_, rfl, rfl, ⟨fun q j hq => by simp only [qxs]; rw [if_neg (fun z => hq z.1), if_neg (fun z => hq z.1)]; exact hp.1 q j hq, hp.2.1, hp.2.2.1, hp.2.2.2⟩, by show xI C1 131 2 = _; rw [he], Or.inr ⟨n0, x0, rfl, rfl, b3, b1, ⟨u, b, hcd⟩, fun u' b' n' x' hP hc' => ?_⟩⟩
        rcases hP with hP | ⟨rfl, rfl⟩
        · rcases hj with ⟨hy, hz', h⟩ | ⟨n, x, hy, hz', hn, hx, hc, h⟩
          · exact absurd hc' (h u' b' n' x' hP)
          · have h1' := h u' b' n' x' hP hc'
            have h2' := hbet n x hy hz' hn hx
            omega
        · have := hun n' x' hc'
          omega
      have keep : ∀ C1 : qC, p131 C C1 r → xI C1 131 = xI C 131 → (∃ n x, xI C 131 0 = nI n ∧ xI C 131 1 = nI x ∧ n ≤ 12 ∧ x ≤ 12 ∧ (n < n0 ∨ (n = n0 ∧ x ≤ x0))) → Q none (wd C1 M r) := by
        intro C1 hp he hbet
        refine hQ _ _ ⟨C1, rfl, rfl, hp, by rw [he], ?_⟩
        rw [he]
        obtain ⟨n1, x1, f1, f2, f3, f4, f5⟩ := hbet
        rcases hj with ⟨hy, hz', h⟩ | ⟨n, x, hy, hz', hn, hx, hc, h⟩
        · exact absurd (f1.symm.trans hy) (i_nm1 (by omega))
        · have g1 := i_ninj (by omega) (by omega) (f1.symm.trans hy)
          have g2 := i_ninj (by omega) (by omega) (f2.symm.trans hz')
          refine Or.inr ⟨n, x, hy, hz', hn, hx, hc, fun u' b' n' x' hP hc' => ?_⟩
          rcases hP with hP | ⟨rfl, rfl⟩
          · exact h u' b' n' x' hP hc'
          · have := hun n' x' hc'
            omega
      have at52 : ∀ C1 : qC, p131 C C1 r → xI C1 131 = xI C 131 → ∀ o5 o6 : Option Value, q_nb (some o6) = true → AW (mX1_weigh, 3, 0, 0, none, Q) 52 [some (.ref 131), some (.ref r.1), some (.int (nI u)), some (.int (nI b)), some (.int (nI x0)), o5, o6, none] [.int (nI n0)] (wd C1 M r) 0 0 := by
        intro C1 hp he o5 o6 q6
        rcases hj with ⟨hy, hz', -⟩ | ⟨n, x, hy, hz', hn, hx, -, -⟩
        · refine oX1_weigh_52 _ _ _ _ _ _ ?_
          simp only [bX1_weigh_52, qsem, qopt_s, qopt2_s, qev, qxs, Nat.reduceEqDiff, reduceIte, and_true, true_and, and_false, false_and, and_self, or_true, true_or, qb_or, reduceCtorEq, qbr_True, qbr_False, q10, q01, qwC, q6, he, hy]
          refine oX1_weigh_89 _ _ _ _ _ _ ?_
          simp only [bX1_weigh_89, qsem, qopt_s, qopt2_s, qev, qxs, Nat.reduceEqDiff, reduceIte, and_true, true_and, and_false, false_and, and_self, or_true, true_or, qb_or, reduceCtorEq, qbr_True, qbr_False, q10, q01, qwC, q6, he, hy]
          refine oX1_weigh_101 _ _ _ _ _ _ ?_
          simp only [bX1_weigh_101, qsem, qopt_s, qopt2_s, qev, qxs, Nat.reduceEqDiff, reduceIte, and_true, true_and, and_false, false_and, and_self, or_true, true_or, qb_or, reduceCtorEq, qbr_True, qbr_False, q10, q01, qwC, q6, he, hy]
          exact take C1 hp he (fun n x f f2 f3 f4 => absurd (f.symm.trans hy) (i_nm1 (by omega)))
        · refine oX1_weigh_52 _ _ _ _ _ _ ?_
          simp only [bX1_weigh_52, qsem, qopt_s, qopt2_s, qev, qxs, Nat.reduceEqDiff, reduceIte, and_true, true_and, and_false, false_and, and_self, or_true, true_or, qb_or, reduceCtorEq, qbr_True, qbr_False, q10, q01, qwC, q6, he, hy, hz', nIlt (show n0 < 1000 by omega) (show n < 1000 by omega), nIeq (show n0 < 1000 by omega) (show n < 1000 by omega), nIle (show x < 1000 by omega) (show x0 < 1000 by omega)]
          refine qbr_f (i_nm1 (by omega)) ?_
          refine qbr_i (fun c1 => ?_) (fun c1 => ?_)
          · refine oX1_weigh_89 _ _ _ _ _ _ ?_
            simp only [bX1_weigh_89, qsem, qopt_s, qopt2_s, qev, qxs, Nat.reduceEqDiff, reduceIte, and_true, true_and, and_false, false_and, and_self, or_true, true_or, qb_or, reduceCtorEq, qbr_True, qbr_False, q10, q01, qwC, q6, he, hy, hz', nIlt (show n0 < 1000 by omega) (show n < 1000 by omega), nIeq (show n0 < 1000 by omega) (show n < 1000 by omega), nIle (show x < 1000 by omega) (show x0 < 1000 by omega)]
            refine oX1_weigh_101 _ _ _ _ _ _ ?_
            simp only [bX1_weigh_101, qsem, qopt_s, qopt2_s, qev, qxs, Nat.reduceEqDiff, reduceIte, and_true, true_and, and_false, false_and, and_self, or_true, true_or, qb_or, reduceCtorEq, qbr_True, qbr_False, q10, q01, qwC, q6, he, hy, hz', nIlt (show n0 < 1000 by omega) (show n < 1000 by omega), nIeq (show n0 < 1000 by omega) (show n < 1000 by omega), nIle (show x < 1000 by omega) (show x0 < 1000 by omega)]
            first | exact keep C1 hp he ⟨n, x, hy, hz', hn, hx, by omega⟩ | exact take C1 hp he (fun n' x' f1 f2 f3 f4 => by rw [i_ninj (by omega) (by omega) (f1.symm.trans hy), i_ninj (by omega) (by omega) (f2.symm.trans hz')]; omega)
          · refine qbr_i (fun c2 => ?_) (fun c2 => ?_)
            · refine qbr_i (fun c3 => ?_) (fun c3 => ?_)
              · refine oX1_weigh_101 _ _ _ _ _ _ ?_
                simp only [bX1_weigh_101, qsem, qopt_s, qopt2_s, qev, qxs, Nat.reduceEqDiff, reduceIte, and_true, true_and, and_false, false_and, and_self, or_true, true_or, qb_or, reduceCtorEq, qbr_True, qbr_False, q10, q01, qwC, q6, he, hy, hz', nIlt (show n0 < 1000 by omega) (show n < 1000 by omega), nIeq (show n0 < 1000 by omega) (show n < 1000 by omega), nIle (show x < 1000 by omega) (show x0 < 1000 by omega)]
                first | exact keep C1 hp he ⟨n, x, hy, hz', hn, hx, by omega⟩ | exact take C1 hp he (fun n' x' f1 f2 f3 f4 => by rw [i_ninj (by omega) (by omega) (f1.symm.trans hy), i_ninj (by omega) (by omega) (f2.symm.trans hz')]; omega)
              · refine oX1_weigh_89 _ _ _ _ _ _ ?_
                simp only [bX1_weigh_89, qsem, qopt_s, qopt2_s, qev, qxs, Nat.reduceEqDiff, reduceIte, and_true, true_and, and_false, false_and, and_self, or_true, true_or, qb_or, reduceCtorEq, qbr_True, qbr_False, q10, q01, qwC, q6, he, hy, hz', nIlt (show n0 < 1000 by omega) (show n < 1000 by omega), nIeq (show n0 < 1000 by omega) (show n < 1000 by omega), nIle (show x < 1000 by omega) (show x0 < 1000 by omega)]
                refine oX1_weigh_101 _ _ _ _ _ _ ?_
                simp only [bX1_weigh_101, qsem, qopt_s, qopt2_s, qev, qxs, Nat.reduceEqDiff, reduceIte, and_true, true_and, and_false, false_and, and_self, or_true, true_or, qb_or, reduceCtorEq, qbr_True, qbr_False, q10, q01, qwC, q6, he, hy, hz', nIlt (show n0 < 1000 by omega) (show n < 1000 by omega), nIeq (show n0 < 1000 by omega) (show n < 1000 by omega), nIle (show x < 1000 by omega) (show x0 < 1000 by omega)]
                first | exact keep C1 hp he ⟨n, x, hy, hz', hn, hx, by omega⟩ | exact take C1 hp he (fun n' x' f1 f2 f3 f4 => by rw [i_ninj (by omega) (by omega) (f1.symm.trans hy), i_ninj (by omega) (by omega) (f2.symm.trans hz')]; omega)
            · refine oX1_weigh_101 _ _ _ _ _ _ ?_
              simp only [bX1_weigh_101, qsem, qopt_s, qopt2_s, qev, qxs, Nat.reduceEqDiff, reduceIte, and_true, true_and, and_false, false_and, and_self, or_true, true_or, qb_or, reduceCtorEq, qbr_True, qbr_False, q10, q01, qwC, q6, he, hy, hz', nIlt (show n0 < 1000 by omega) (show n < 1000 by omega), nIeq (show n0 < 1000 by omega) (show n < 1000 by omega), nIle (show x < 1000 by omega) (show x0 < 1000 by omega)]
              first | exact keep C1 hp he ⟨n, x, hy, hz', hn, hx, by omega⟩ | exact take C1 hp he (fun n' x' f1 f2 f3 f4 => by rw [i_ninj (by omega) (by omega) (f1.symm.trans hy), i_ninj (by omega) (by omega) (f2.symm.trans hz')]; omega)
      refine oX1_weigh_0 _ _ _ _ _ _ ?_
      simp only [bX1_weigh_0, qsem, qopt_s, qopt2_s, qev, qxs, Nat.reduceEqDiff, reduceIte, and_true, true_and, and_false, false_and, and_self, or_true, true_or, qb_or, reduceCtorEq, qbr_True, qbr_False, q10, q01, qwC, e1, e2, nadd, e12]
      refine kX1_weigh_2 (Nat.le_of_ble_eq_true rfl) (Nat.le_of_ble_eq_true rfl) (Nat.le_of_ble_eq_true rfl) (Nat.le_of_ble_eq_true rfl) ?_
      refine oX1_weigh_5 _ _ _ _ _ _ ?_
      simp only [bX1_weigh_5, qsem, qopt_s, qopt2_s, qev, qxs, Nat.reduceEqDiff, reduceIte, and_true, true_and, and_false, false_and, and_self, or_true, true_or, qb_or, reduceCtorEq, qbr_True, qbr_False, q10, q01, qwC, e1, e2, nadd, e12]
      refine kX1_weigh_9 (Nat.le_of_ble_eq_true rfl) (Nat.le_of_ble_eq_true rfl) (Nat.le_of_ble_eq_true rfl) (Nat.le_of_ble_eq_true rfl) ?_
      refine oX1_weigh_12 _ _ _ _ _ _ ?_
      simp only [bX1_weigh_12, qsem, qopt_s, qopt2_s, qev, qxs, Nat.reduceEqDiff, reduceIte, and_true, true_and, and_false, false_and, and_self, or_true, true_or, qb_or, reduceCtorEq, qbr_True, qbr_False, q10, q01, qwC, e1, e2, nadd, e12]
      refine qbr_t (h12) ?_
      refine oX1_weigh_25 _ _ _ _ _ _ ?_
      simp only [bX1_weigh_25, qsem, qopt_s, qopt2_s, qev, qxs, Nat.reduceEqDiff, reduceIte, and_true, true_and, and_false, false_and, and_self, or_true, true_or, qb_or, reduceCtorEq, qbr_True, qbr_False, q10, q01, qwC, e1, e2, nadd, e12]
      refine kX1_weigh_28 (zX6_holdingTries hr hU hu hb) (ru_c hr _ _) (Nat.le_of_ble_eq_true rfl) (Nat.le_of_ble_eq_true rfl) ⟨Nat.le_of_ble_eq_true rfl, Nat.le_of_ble_eq_true rfl⟩ ?_
      rintro _ _ ⟨C1, rfl, ⟨sp, eu, hC1⟩, rfl⟩
      refine oX1_weigh_31 _ _ _ _ _ _ ?_
      simp only [bX1_weigh_31, qsem, qopt_s, qopt2_s, qev, qxs, Nat.reduceEqDiff, reduceIte, and_true, true_and, and_false, false_and, and_self, or_true, true_or, qb_or, reduceCtorEq, qbr_True, qbr_False, q10, q01, qwC, e1, e2, nadd, e12]
      refine qbr_f (nI_ne0 (by omega) (by omega)) ?_
      refine oX1_weigh_39 _ _ _ _ _ _ ?_
      simp only [bX1_weigh_39, qsem, qopt_s, qopt2_s, qev, qxs, Nat.reduceEqDiff, reduceIte, and_true, true_and, and_false, false_and, and_self, or_true, true_or, qb_or, reduceCtorEq, qbr_True, qbr_False, q10, q01, qwC, e1, e2, nadd, e12]
      refine kX1_weigh_46 (zJ6_numberOfTrailingZeros_0f7a4) (Nat.le_of_ble_eq_true rfl) (Nat.le_of_ble_eq_true rfl) ⟨Nat.le_of_ble_eq_true rfl, Nat.le_of_ble_eq_true rfl⟩ ?_
      rintro _ _ ⟨rfl, rfl⟩
      rw [hnz]
      refine kX1_weigh_49 (Nat.le_of_ble_eq_true rfl) (Nat.le_of_ble_eq_true rfl) (Nat.le_of_ble_eq_true rfl) (Nat.le_of_ble_eq_true rfl) ?_
      rw [e3]
      exact at52 C1 (p131_rh hC1) (by rw [hC1.1]) _ _ rfl
  · have hno : ∀ n x, ¬ cand H u b n x := fun n x ⟨hx, h, _⟩ => by rw [hx] at h; exact h12 h
    refine oX1_weigh_0 _ _ _ _ _ _ ?_
    simp only [bX1_weigh_0, qsem, qopt_s, qopt2_s, qev, qxs, Nat.reduceEqDiff, reduceIte, and_true, true_and, and_false, false_and, and_self, or_true, true_or, qb_or, reduceCtorEq, qbr_True, qbr_False, q10, q01, qwC, e1, e2, nadd, e12]
    refine kX1_weigh_2 (Nat.le_of_ble_eq_true rfl) (Nat.le_of_ble_eq_true rfl) (Nat.le_of_ble_eq_true rfl) (Nat.le_of_ble_eq_true rfl) ?_
    refine oX1_weigh_5 _ _ _ _ _ _ ?_
    simp only [bX1_weigh_5, qsem, qopt_s, qopt2_s, qev, qxs, Nat.reduceEqDiff, reduceIte, and_true, true_and, and_false, false_and, and_self, or_true, true_or, qb_or, reduceCtorEq, qbr_True, qbr_False, q10, q01, qwC, e1, e2, nadd, e12]
    refine kX1_weigh_9 (Nat.le_of_ble_eq_true rfl) (Nat.le_of_ble_eq_true rfl) (Nat.le_of_ble_eq_true rfl) (Nat.le_of_ble_eq_true rfl) ?_
    refine oX1_weigh_12 _ _ _ _ _ _ ?_
    simp only [bX1_weigh_12, qsem, qopt_s, qopt2_s, qev, qxs, Nat.reduceEqDiff, reduceIte, and_true, true_and, and_false, false_and, and_self, or_true, true_or, qb_or, reduceCtorEq, qbr_True, qbr_False, q10, q01, qwC, e1, e2, nadd, e12]
    refine qbr_f (h12) ?_
    exact none' hno C ⟨fun _ _ _ => rfl, rfl, rfl, fun _ _ _ => rfl⟩ rfl

