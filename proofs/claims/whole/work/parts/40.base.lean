def qb (b : Bool) : Int32 := if b then 1 else 0
theorem qb_t : qb true = 1 := rfl
theorem qb_f : qb false = 0 := rfl
theorem qb_0 {b : Bool} : (qb b = 0) = (b = false) := by cases b <;> simp [qb]
theorem qb_1 {b : Bool} : (qb b = 1) = (b = true) := by cases b <;> simp [qb]
theorem qb_01 (b : Bool) : qb b = 0 ∨ qb b = 1 := by cases b <;> simp [qb]
theorem qb_dt {p : Prop} [Decidable p] (h : p) : qb (decide p) = 1 := by simp [qb, h]
theorem qb_df {p : Prop} [Decidable p] (h : ¬ p) : qb (decide p) = 0 := by simp [qb, h]
theorem lg0 (x y : Int64) : (lg_cmp x y = 0) = (x = y) := by
  unfold lg_cmp
  by_cases h1 : x > y
  · have h2 : x ≠ y := fun e => by rw [e] at h1; exact absurd h1 (Int64.lt_irrefl)
    simp [h1, h2]
  · by_cases h2 : x = y
    · simp [h2]
    · simp [h1, h2]
theorem i_le {x y : Int32} : x ≤ y ↔ x.toInt ≤ y.toInt := Int32.le_iff_toInt_le
theorem i_lt {x y : Int32} : x < y ↔ x.toInt < y.toInt := Int32.lt_iff_toInt_lt
theorem i_eq {x y : Int32} : x = y ↔ x.toInt = y.toInt := ⟨fun h => by rw [h], fun h => Int32.toInt_inj.mp h⟩
theorem i_n {n : Nat} (h : n < 2 ^ 31) : (nI n).toInt = n := nI_toInt h
theorem i_rng (x : Int32) : -2147483648 ≤ x.toInt ∧ x.toInt < 2147483648 := ⟨Int32.le_toInt x, Int32.toInt_lt x⟩
theorem i_lit (n : Nat) : (OfNat.ofNat n : Int32) = nI n := rfl
theorem i_m1 : (-1 : Int32).toInt = -1 := by decide
theorem i_0 : (0 : Int32).toInt = 0 := by decide
theorem i_of {x : Int32} (h0 : 0 ≤ x) : ∃ n : Nat, n < 2 ^ 31 ∧ x = nI n := nI_of (by rw [i_lt]; rw [i_le] at h0; simp at h0 ⊢; omega)
theorem i_bd {x : Int32} {n : Nat} (h0 : 0 ≤ x) (h : x < nI n) (hn : n < 2 ^ 31) : ∃ j : Nat, j < n ∧ x = nI j := by
  obtain ⟨j, hj, rfl⟩ := i_of h0
  exact ⟨j, (nI_ltI hj hn).mp h, rfl⟩
theorem i_ninj {a b : Nat} (ha : a < 2 ^ 31) (hb : b < 2 ^ 31) (h : nI a = nI b) : a = b := (nI_eq ha hb).mp h
theorem i_nm1 {a : Nat} (h : a < 2 ^ 31) : ¬ nI a = -1 := by rw [i_eq, i_n h, i_m1]; omega
theorem nI_vp {i n : Nat} (h : i < n) (hn : n < 2 ^ 31) : vp_in (nI i) n := vp_in_nI h hn
theorem cl0 : Int32.toNatClampNeg 0 = 0 := rfl
theorem qb_or {b : Bool} : (qb b = 0 ∨ qb b = 1) = True := eq_true (qb_01 b)
theorem ri {a b : Int32} (h : a = b) : (some (Value.int a) : Option Value) = some (Value.int b) := by rw [h]
theorem rl {a b : Int64} (h : a = b) : (some (Value.long a) : Option Value) = some (Value.long b) := by rw [h]
theorem qb_c {a b : Bool} (h : a = b) : qb a = qb b := by rw [h]
theorem qb_1of {b : Bool} (h : b = true) : 1 = qb b := by rw [h]; rfl
theorem qb_0of {b : Bool} (h : b = false) : 0 = qb b := by rw [h]; rfl
theorem i_sub1 {n : Nat} (h : n < 2 ^ 30) : (nI n - 1).toInt = (n : Int) - 1 := pk_sub_toInt (b := 1) h (by decide)
theorem qbr_True {A B : Prop} : qbr True A B = A := propext ⟨fun h => h.1 trivial, fun a => ⟨fun _ => a, fun n => absurd trivial n⟩⟩
theorem qbr_False {A B : Prop} : qbr False A B = B := propext ⟨fun h => h.2 id, fun b => ⟨fun n => n.elim, fun _ => b⟩⟩
theorem q10 : ((1 : Int32) = 0) = False := by decide
theorem q01 : ((0 : Int32) = 1) = False := by decide

