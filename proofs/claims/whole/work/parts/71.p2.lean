/-! the tape read byte by byte: state (what is looked for, depth, letter, sign, steps, the last first) -/
abbrev qAt : Type := Nat × Nat × Nat × Nat × List Nat
def isDg (x : Int32) : Bool := decide ((48 : Int32) ≤ x ∧ x ≤ 57)
def dgN (x : Int32) : Nat := (x - 48).toNatClampNeg
def lng (x : Int32) (ss : List Nat) : List Nat := match ss with
  | [] => []
  | y :: t => (y + 9 * (y % 100) + dgN x) :: t
def tk (A : qAt) (x : Int32) : Option qAt :=
  if A.1 = 3 ∧ isDg x = true then some (4, A.2.1, A.2.2.1, A.2.2.2.1, lng x A.2.2.2.2)
  else if x = 32 then some (if A.1 = 3 then 4 else A.1, A.2)
  else if A.1 = 0 then (if x = 40 ∧ A.2.1 < 8 then some (0, A.2.1 + 1, A.2.2.1, A.2.2.2.1, 40 :: A.2.2.2.2) else if x = 116 then some (1, A.2.1, 0, A.2.2.2.1, A.2.2.2.2) else if x = 114 then some (1, A.2.1, 1, A.2.2.2.1, A.2.2.2.2) else if x = 98 then some (1, A.2.1, 2, A.2.2.2.1, A.2.2.2.2) else none)
  else if A.1 = 1 then (if x = 61 then some (2, A.2.1, A.2.2.1, 0, A.2.2.2.2) else if x = 60 then some (2, A.2.1, A.2.2.1, 1, A.2.2.2.2) else if x = 62 then some (2, A.2.1, A.2.2.1, 2, A.2.2.2.2) else none)
  else if A.1 = 2 then (if isDg x = true then some (3, A.2.1, A.2.2.1, A.2.2.2.1, (1000 + 300 * A.2.2.1 + 100 * A.2.2.2.1 + dgN x) :: A.2.2.2.2) else none)
  else (if x = 41 ∧ 0 < A.2.1 then some (4, A.2.1 - 1, A.2.2.1, A.2.2.2.1, 41 :: A.2.2.2.2) else if x = 38 then some (0, A.2.1, A.2.2.1, A.2.2.2.1, 38 :: A.2.2.2.2) else if x = 124 then some (0, A.2.1, A.2.2.1, A.2.2.2.1, 124 :: A.2.2.2.2) else none)
def rn (T : Nat → Int32) : Nat → Nat → qAt → Option qAt
  | 0, _, A => some A
  | k + 1, p, A => match tk A (T p) with
    | none => none
    | some B => rn T k (p + 1) B
def RN (T : Nat → Int32) (A : qAt) (p : Nat) (B : qAt) (q : Nat) : Prop := ∃ k, q = p + k ∧ rn T k p A = some B
theorem rn_add (T : Nat → Int32) : ∀ (k j p : Nat) (A B C : qAt), rn T k p A = some B → rn T j (p + k) B = some C → rn T (k + j) p A = some C
  | 0, j, p, A, B, C, h1, h2 => by
    simp only [rn, Option.some.injEq] at h1
    rw [h1, Nat.zero_add]; exact h2
  | k + 1, j, p, A, B, C, h1, h2 => by
    rw [show k + 1 + j = (k + j) + 1 by omega]
    unfold rn at h1 ⊢
    cases ht : tk A (T p) with
    | none => rw [ht] at h1; cases h1
    | some A1 =>
      rw [ht] at h1
      exact rn_add T k j (p + 1) A1 B C h1 (by rw [show p + 1 + k = p + (k + 1) by omega]; exact h2)
theorem RN_rf (T : Nat → Int32) (A : qAt) (p : Nat) : RN T A p A p := ⟨0, rfl, rfl⟩
theorem RN_tr {T : Nat → Int32} {A B C : qAt} {p q u : Nat} (h1 : RN T A p B q) (h2 : RN T B q C u) : RN T A p C u := by
  obtain ⟨k, e1, r1⟩ := h1
  obtain ⟨j, e2, r2⟩ := h2
  exact ⟨k + j, by omega, rn_add T k j p A B C r1 (by rw [← e1]; exact r2)⟩
theorem RN_1 {T : Nat → Int32} {A B : qAt} {p : Nat} (h : tk A (T p) = some B) : RN T A p B (p + 1) := ⟨1, rfl, by unfold rn; rw [h]; rfl⟩
theorem RN_le {T : Nat → Int32} {A B : qAt} {p q : Nat} (h : RN T A p B q) : p ≤ q := by obtain ⟨k, e, -⟩ := h; omega
def endd (B : qAt) : Prop := B.2.1 = 0 ∧ (B.1 = 3 ∨ B.1 = 4)
/-- the fault: from A at p the bytes go on to e, and no further -/
def flt (S : qS) (A : qAt) (p e : Nat) : Prop := ∃ B, RN (S.2.1 160) A p B e ∧ (e < cT S ∧ tk B (S.2.1 160 e) = none ∨ e = cT S ∧ ¬ endd B)
theorem flt_tr {S : qS} {A B : qAt} {p q e : Nat} (h1 : RN (S.2.1 160) A p B q) (h2 : flt S B q e) : flt S A p e := by
  obtain ⟨C, hr, hc⟩ := h2
  exact ⟨C, RN_tr h1 hr, hc⟩
theorem flt_le {S : qS} {A : qAt} {p e : Nat} (h : flt S A p e) : e ≤ cT S := by
  obtain ⟨C, hr, hc⟩ := h
  rcases hc with q | q <;> omega
/-! blanks -/
theorem skb_le (S : qS) : ∀ k p, p ≤ skb S k p
  | 0, p => Nat.le_refl _
  | k + 1, p => by
    unfold skb
    split
    · have := skb_le S k (p + 1); omega
    · exact Nat.le_refl _
theorem skb_top (S : qS) : ∀ k p, p ≤ cT S → skb S k p ≤ cT S
  | 0, p, h => h
  | k + 1, p, h => by
    unfold skb
    split
    · exact skb_top S k (p + 1) (by omega)
    · exact h
theorem skb_no (S : qS) : ∀ k p, cT S - p = k → ¬ (skb S k p < cT S ∧ S.2.1 160 (skb S k p) = 32)
  | 0, p, h => by unfold skb; intro q; omega
  | k + 1, p, h => by
    unfold skb
    split
    · exact skb_no S k (p + 1) (by omega)
    · assumption
theorem skn_le (S : qS) (p : Nat) : p ≤ skn S p := skb_le S _ p
theorem skn_top {S : qS} {p : Nat} (h : p ≤ cT S) : skn S p ≤ cT S := skb_top S _ p h
theorem byA_in {S : qS} {p : Nat} (h : p < cT S) : byA S p = S.2.1 160 p := if_pos h
theorem byA_out {S : qS} {p : Nat} (h : ¬ p < cT S) : byA S p = -1 := if_neg h
theorem skn_no (S : qS) (p : Nat) : ¬ byA S (skn S p) = 32 := by
  intro h
  by_cases hq : skn S p < cT S
  · rw [byA_in hq] at h
    exact skb_no S _ p rfl ⟨hq, h⟩
  · rw [byA_out hq] at h
    exact absurd h (by decide)
theorem byA_lt {S : qS} {p : Nat} {x : Int32} (h : byA S p = x) (hx : ¬ x = -1) : p < cT S := by
  by_cases hq : p < cT S
  · exact hq
  · rw [byA_out hq] at h; exact absurd h.symm hx
theorem skn_id {S : qS} {p : Nat} (h : ¬ byA S p = 32) : skn S p = p := by
  unfold skn
  cases hk : cT S - p with
  | zero => rfl
  | succ k =>
    unfold skb
    rw [if_neg]
    intro q
    exact h (by rw [byA_in q.1]; exact q.2)
theorem dg32 : isDg 32 = false := by decide
theorem dgm1 : isDg (-1) = false := by decide
theorem tk_bl {A : qAt} (h : ¬ A.1 = 3) : tk A 32 = some A := by
  unfold tk
  rw [if_neg (fun q => h q.1), if_pos rfl, if_neg h]
theorem tk_bl3 {d lt sg : Nat} {ss : List Nat} : tk (3, d, lt, sg, ss) 32 = some (4, d, lt, sg, ss) := by
  unfold tk
  rw [if_neg (fun q => by rw [dg32] at q; exact Bool.false_ne_true q.2), if_pos rfl, if_pos rfl]
theorem skb_run {S : qS} {A : qAt} (hA : ¬ A.1 = 3) : ∀ k p, RN (S.2.1 160) A p A (skb S k p)
  | 0, p => RN_rf _ _ _
  | k + 1, p => by
    unfold skb
    split
    · rename_i h
      exact RN_tr (RN_1 (by rw [h.2]; exact tk_bl hA)) (skb_run hA k (p + 1))
    · exact RN_rf _ _ _
theorem skn_run {S : qS} {A : qAt} (hA : ¬ A.1 = 3) (p : Nat) : RN (S.2.1 160) A p A (skn S p) := skb_run hA _ p
/-- a unit has ended here -/
def aft (S : qS) (p st : Nat) : Prop := st = 4 ∨ (st = 3 ∧ isDg (byA S p) = false)
theorem aft_skip {S : qS} {p st d lt sg : Nat} {ss : List Nat} (h : aft S p st) : ∃ st', aft S (skn S p) st' ∧ RN (S.2.1 160) (st, d, lt, sg, ss) p (st', d, lt, sg, ss) (skn S p) := by
  rcases h with rfl | ⟨rfl, hd⟩
  · exact ⟨4, Or.inl rfl, skn_run (A := (4, d, lt, sg, ss)) (by simp) p⟩
  · by_cases hb : byA S p = 32
    · have hp := byA_lt hb (by decide)
      rw [byA_in hp] at hb
      have e : skn S p = skn S (p + 1) := by
        unfold skn
        obtain ⟨k, hk⟩ : ∃ k, cT S - p = k + 1 := ⟨cT S - p - 1, by omega⟩
        rw [hk, show cT S - (p + 1) = k by omega]
        show (if p < cT S ∧ S.2.1 160 p = 32 then skb S k (p + 1) else p) = _
        rw [if_pos ⟨hp, hb⟩]
      rw [e]
      exact ⟨4, Or.inl rfl, RN_tr (RN_1 (by rw [hb]; exact tk_bl3)) (skn_run (A := (4, d, lt, sg, ss)) (by simp) (p + 1))⟩
    · rw [skn_id hb]
      exact ⟨3, Or.inr ⟨rfl, hd⟩, RN_rf _ _ _⟩
theorem aft_tk {S : qS} {p st d lt sg : Nat} {ss : List Nat} {x : Int32} (h : aft S p st) (hx : byA S p = x) (h32 : ¬ x = 32) : tk (st, d, lt, sg, ss) x = if x = 41 ∧ 0 < d then some (4, d - 1, lt, sg, 41 :: ss) else if x = 38 then some (0, d, lt, sg, 38 :: ss) else if x = 124 then some (0, d, lt, sg, 124 :: ss) else none := by
  rcases h with rfl | ⟨rfl, hd⟩
  · unfold tk
    simp [h32]
  · rw [hx] at hd
    unfold tk
    simp [h32, hd]
theorem aft_flt {S : qS} {p st d lt sg : Nat} {ss : List Nat} (hp : p ≤ cT S) (h : aft S p st) (h32 : ¬ byA S p = 32) (h1 : ¬ (byA S p = 41 ∧ 0 < d)) (h2 : ¬ byA S p = 38) (h3 : ¬ byA S p = 124) (h4 : p = cT S → 0 < d) : flt S (st, d, lt, sg, ss) p p := by
  refine ⟨_, RN_rf _ _ _, ?_⟩
  by_cases hq : p < cT S
  · refine Or.inl ⟨hq, ?_⟩
    rw [aft_tk h (byA_in hq) (by rw [← byA_in hq]; exact h32), ← byA_in hq, if_neg h1, if_neg h2, if_neg h3]
  · have e : p = cT S := by omega
    exact Or.inr ⟨e, fun q => by have := h4 e; have := q.1; simp only at this; omega⟩
/-! what the codes mean -/
def tsP (lt sg n t r b : Nat) : Bool :=
  let v := if lt = 0 then t else if lt = 1 then r else b
  if sg = 0 then decide (v = n) else if sg = 1 then decide (v < n) else decide (n < v)
def CD (cs : Nat → Int32) (s s' : Nat) (φ : Nat → Nat → Nat → Bool) : Prop := s + 4 ≤ s' ∧
  ∀ (f : Nat → Int32) (k0 lim t r b : Nat) (ps : Nat → Bool) (n : Nat), t ≤ 12 → r ≤ 12 → b ≤ 12 → (∀ i, s ≤ i → i < s' → f (k0 + i) = cs i) → k0 + s' + 4 ≤ lim → n + (s' - s) ≤ 200 →
    ∃ ps' : Nat → Bool, (∀ j, j < n → ps' j = ps j) ∧ ps' n = φ t r b ∧ ∀ fu v, evc f (nI t) (nI r) (nI b) lim fu (k0 + s') ps' (n + 1) = some v → ∃ fu', evc f (nI t) (nI r) (nI b) lim fu' (k0 + s) ps n = some v
theorem CD_cg {cs cs' : Nat → Int32} {s s' : Nat} {φ : Nat → Nat → Nat → Bool} (h : CD cs s s' φ) (he : ∀ i, s ≤ i → i < s' → cs' i = cs i) : CD cs' s s' φ :=
  ⟨h.1, fun f k0 lim t r b ps n ht hr hb hf hl hn => h.2 f k0 lim t r b ps n ht hr hb (fun i h1 h2 => (hf i h1 h2).trans (he i h1 h2)) hl hn⟩
theorem CD_test {cs : Nat → Int32} {s lt sg n : Nat} (h0 : cs s = 0) (h1 : cs (s + 1) = (if lt = 0 then 116 else if lt = 1 then 114 else 98)) (h2 : cs (s + 2) = (if sg = 0 then 61 else if sg = 1 then 60 else 62)) (h3 : cs (s + 3) = nI n) (hn : n < 100) : CD cs s (s + 4) (tsP lt sg n) := by
  refine ⟨Nat.le_refl _, fun f k0 lim t r b ps m ht hr hb hf hl hm => ⟨bst ps m (tst f (nI t) (nI r) (nI b) (k0 + s)), fun j hj => if_neg (by omega), ?_, fun fu v hv => ⟨fu + 1, ?_⟩⟩⟩
  · unfold bst
    rw [if_pos rfl]
    unfold tst tsP
    rw [show k0 + s + 1 = k0 + (s + 1) by omega, show k0 + s + 2 = k0 + (s + 2) by omega, show k0 + s + 3 = k0 + (s + 3) by omega, hf (s + 1) (by omega) (by omega), hf (s + 2) (by omega) (by omega), hf (s + 3) (by omega) (by omega), h1, h2, h3]
    have hv : (if (if lt = 0 then (116 : Int32) else if lt = 1 then 114 else 98) = 116 then nI t else if (if lt = 0 then (116 : Int32) else if lt = 1 then 114 else 98) = 114 then nI r else nI b) = nI (if lt = 0 then t else if lt = 1 then r else b) := by
      by_cases e0 : lt = 0
      · rw [if_pos e0, if_pos e0, if_pos rfl]
      · by_cases e1 : lt = 1
        · rw [if_neg e0, if_pos e1, if_neg e0, if_pos e1, if_neg (by decide), if_pos rfl]
        · rw [if_neg e0, if_neg e1, if_neg e0, if_neg e1, if_neg (by decide), if_neg (by decide)]
    simp only [hv]
    have hlt : (if lt = 0 then t else if lt = 1 then r else b) < 1000 := by
      by_cases e0 : lt = 0
      · rw [if_pos e0]; omega
      · by_cases e1 : lt = 1
        · rw [if_neg e0, if_pos e1]; omega
        · rw [if_neg e0, if_neg e1]; omega
    generalize (if lt = 0 then t else if lt = 1 then r else b) = y at hlt ⊢
    simp only [nIeq hlt (show n < 1000 by omega), nIlt hlt (show n < 1000 by omega), nIlt (show n < 1000 by omega) hlt]
    by_cases e0 : sg = 0
    · rw [if_pos e0, if_pos e0, if_pos rfl]
    · by_cases e1 : sg = 1
      · rw [if_neg e0, if_pos e1, if_neg e0, if_pos e1, if_neg (by decide), if_pos rfl]
      · rw [if_neg e0, if_neg e1, if_neg e0, if_neg e1, if_neg (by decide), if_neg (by decide)]
  · have e0 : f (k0 + s) = 0 := (hf s (by omega) (by omega)).trans h0
    unfold evc
    rw [if_neg (by omega), e0, if_neg (by decide), if_pos rfl, show k0 + s + 4 = k0 + (s + 4) by omega]
    exact hv
theorem CD_join {cs : Nat → Int32} {s s1 s2 : Nat} {φ ψ : Nat → Nat → Nat → Bool} {c : Bool} (ha : CD cs s s1 φ) (hb : CD cs s1 s2 ψ) (hc : cs s2 = if c then 1 else 2) : CD cs s (s2 + 1) (fun t r b => if c then φ t r b && ψ t r b else φ t r b || ψ t r b) := by
  have q1 := ha.1
  have q2 := hb.1
  refine ⟨by omega, fun f k0 lim t r b ps n ht hr hb' hf hl hn => ?_⟩
  obtain ⟨ps1, a1, a2, a3⟩ := ha.2 f k0 lim t r b ps n ht hr hb' (fun i h1 h2 => hf i h1 (by omega)) (by omega) (by omega)
  obtain ⟨ps2, b1, b2, b3⟩ := hb.2 f k0 lim t r b ps1 (n + 1) ht hr hb' (fun i h1 h2 => hf i (by omega) (by omega)) (by omega) (by omega)
  refine ⟨bst ps2 n (if c then ps2 n && ps2 (n + 1) else ps2 n || ps2 (n + 1)), fun j hj => ?_, ?_, fun fu v hv => ?_⟩
  · unfold bst
    rw [if_neg (by omega), b1 j (by omega), a1 j hj]
  · unfold bst
    rw [if_pos rfl, b1 n (by omega), b2, a2]
  · have e2 : f (k0 + s2) = if c then 1 else 2 := (hf s2 (by omega) (by omega)).trans hc
    have : evc f (nI t) (nI r) (nI b) lim (fu + 1) (k0 + s2) ps2 (n + 1 + 1) = some v := by
      unfold evc
      rw [if_neg (by omega), if_neg (by rw [e2]; cases c <;> decide), if_neg (by rw [e2]; cases c <;> decide), if_neg (by omega), show n + 1 + 1 - 2 = n by omega, show n + 1 + 1 - 1 = n + 1 by omega, show k0 + s2 + 1 = k0 + (s2 + 1) by omega]
      have e3 : (if f (k0 + s2) = 1 then ps2 n && ps2 (n + 1) else ps2 n || ps2 (n + 1)) = (if c then ps2 n && ps2 (n + 1) else ps2 n || ps2 (n + 1)) := by
        rw [e2]; cases c <;> rfl
      rw [e3]
      exact hv
    obtain ⟨fu1, h1⟩ := b3 _ _ this
    exact a3 _ _ h1
/-! what the steps mean: the t, as bits, at each depth -/
def bT (g : Nat → Bool) : Nat → Nat
  | 0 => 0
  | n + 1 => if g n then bT g n ||| 2 ^ n else bT g n
theorem bT_tb (g : Nat → Bool) : ∀ n i, (bT g n).testBit i = (decide (i < n) && g i)
  | 0, i => by simp [bT]
  | n + 1, i => by
    unfold bT
    have ih := bT_tb g n i
    by_cases hg : g n = true
    · rw [if_pos hg, Nat.testBit_or, ih, Nat.testBit_two_pow]
      by_cases e : n = i
      · subst e; simp [hg]
      · have : decide (i < n + 1) = decide (i < n) := decide_eq_decide.mpr (by omega)
        simp [e, this]
    · rw [if_neg hg, ih]
      by_cases e : i = n
      · subst e; simp [hg]
      · have : decide (i < n + 1) = decide (i < n) := decide_eq_decide.mpr (by omega)
        rw [this]
theorem bT_lt (g : Nat → Bool) (n : Nat) : bT g n < 2 ^ n := by
  apply Nat.lt_pow_two_of_testBit
  intro i hi
  rw [bT_tb, decide_eq_false (by omega), Bool.false_and]
theorem bT_and (g h : Nat → Bool) (n : Nat) : bT g n &&& bT h n = bT (fun i => g i && h i) n := by
  apply Nat.eq_of_testBit_eq
  intro i
  rw [Nat.testBit_and, bT_tb, bT_tb, bT_tb]
  cases decide (i < n) <;> cases g i <;> cases h i <;> rfl
theorem bT_or (g h : Nat → Bool) (n : Nat) : bT g n ||| bT h n = bT (fun i => g i || h i) n := by
  apply Nat.eq_of_testBit_eq
  intro i
  rw [Nat.testBit_or, bT_tb, bT_tb, bT_tb]
  cases decide (i < n) <;> cases g i <;> cases h i <;> rfl
theorem bT_all (g : Nat → Bool) : 8191 &&& bT g 13 = bT g 13 := by
  have : 8191 = bT (fun _ => true) 13 := by decide
  rw [this, bT_and]
  congr 1
def nup (f : Nat → Nat) (i v : Nat) : Nat → Nat := fun j => if j = i then v else f j
def toT (x r b : Nat) : Nat := bT (fun t => tsP (x / 300) (x / 100 % 3) (x % 100) t r b) 13
abbrev qHs : Type := Nat × (Nat → Nat) × (Nat → Nat)
def hst (r b x : Nat) (σ : qHs) : qHs :=
  if 1000 ≤ x then (σ.1, σ.2.1, nup σ.2.2 σ.1 (σ.2.2 σ.1 &&& toT (x - 1000) r b))
  else if x = 40 ∧ σ.1 < 8 then (σ.1 + 1, nup σ.2.1 (σ.1 + 1) 0, nup σ.2.2 (σ.1 + 1) 8191)
  else if x = 41 ∧ 0 < σ.1 then (σ.1 - 1, σ.2.1, nup σ.2.2 (σ.1 - 1) (σ.2.2 (σ.1 - 1) &&& (σ.2.1 σ.1 ||| σ.2.2 σ.1)))
  else if x = 124 then (σ.1, nup σ.2.1 σ.1 (σ.2.1 σ.1 ||| σ.2.2 σ.1), nup σ.2.2 σ.1 8191)
  else σ
def hru (r b : Nat) (ss : List Nat) (σ : qHs) : qHs := ss.foldr (hst r b) σ
theorem hru_app (r b : Nat) (s1 s2 : List Nat) (σ : qHs) : hru r b (s1 ++ s2) σ = hru r b s1 (hru r b s2 σ) := List.foldr_append
def SU (d : Nat) (ss : List Nat) (φ : Nat → Nat → Nat → Bool) : Prop := ∀ (r b : Nat) (sp eu : Nat → Nat), ∃ sp' eu', hru r b ss (d, sp, eu) = (d, sp', eu') ∧ (∀ j, j ≤ d → sp' j = sp j) ∧ (∀ j, j < d → eu' j = eu j) ∧ eu' d = eu d &&& bT (fun t => φ t r b) 13
def ST (d : Nat) (ss : List Nat) (φ : Nat → Nat → Nat → Bool) : Prop := ∀ (r b : Nat) (sp eu : Nat → Nat), eu d = 8191 → ∃ sp' eu', hru r b ss (d, sp, eu) = (d, sp', eu') ∧ (∀ j, j < d → sp' j = sp j) ∧ (∀ j, j < d → eu' j = eu j) ∧ sp' d ||| eu' d = sp d ||| bT (fun t => φ t r b) 13
theorem SU_test {d lt sg n : Nat} (h1 : lt < 3) (h2 : sg < 3) (h3 : n < 100) : SU d [1000 + 300 * lt + 100 * sg + n] (tsP lt sg n) := by
  intro r b sp eu
  refine ⟨sp, nup eu d (eu d &&& bT (fun t => tsP lt sg n t r b) 13), ?_, fun j _ => rfl, fun j hj => if_neg (by omega), if_pos rfl⟩
  show hst r b _ (d, sp, eu) = _
  unfold hst
  rw [if_pos (by omega)]
  have e : 1000 + 300 * lt + 100 * sg + n - 1000 = 300 * lt + 100 * sg + n := by omega
  unfold toT
  rw [e, show (300 * lt + 100 * sg + n) / 300 = lt by omega, show (300 * lt + 100 * sg + n) / 100 % 3 = sg by omega, show (300 * lt + 100 * sg + n) % 100 = n by omega]
theorem SU_and {d : Nat} {s1 s2 : List Nat} {φ ψ : Nat → Nat → Nat → Bool} (h1 : SU d s1 φ) (h2 : SU d s2 ψ) : SU d (s2 ++ 38 :: s1) (fun t r b => φ t r b && ψ t r b) := by
  intro r b sp eu
  obtain ⟨sp1, eu1, e1, a1, b1, c1⟩ := h1 r b sp eu
  obtain ⟨sp2, eu2, e2, a2, b2, c2⟩ := h2 r b sp1 eu1
  refine ⟨sp2, eu2, ?_, fun j hj => (a2 j hj).trans (a1 j hj), fun j hj => (b2 j hj).trans (b1 j hj), ?_⟩
  · rw [hru_app]
    show hru r b s2 (hst r b 38 (hru r b s1 (d, sp, eu))) = _
    rw [e1]
    have : hst r b 38 (d, sp1, eu1) = (d, sp1, eu1) := by
      unfold hst
      rw [if_neg (by omega), if_neg (by omega), if_neg (by omega), if_neg (by omega)]
    rw [this, e2]
  · rw [c2, c1, Nat.and_assoc, bT_and]
theorem ST_of {d : Nat} {ss : List Nat} {φ : Nat → Nat → Nat → Bool} (h : SU d ss φ) : ST d ss φ := by
  intro r b sp eu he
  obtain ⟨sp1, eu1, e1, a1, b1, c1⟩ := h r b sp eu
  refine ⟨sp1, eu1, e1, fun j hj => a1 j (by omega), b1, ?_⟩
  rw [a1 d (Nat.le_refl _), c1, he, bT_all]
theorem ST_or {d : Nat} {s1 s2 : List Nat} {φ ψ : Nat → Nat → Nat → Bool} (h1 : ST d s1 φ) (h2 : SU d s2 ψ) : ST d (s2 ++ 124 :: s1) (fun t r b => φ t r b || ψ t r b) := by
  intro r b sp eu he
  obtain ⟨sp1, eu1, e1, a1, b1, c1⟩ := h1 r b sp eu he
  obtain ⟨sp2, eu2, e2, a2, b2, c2⟩ := h2 r b (nup sp1 d (sp1 d ||| eu1 d)) (nup eu1 d 8191)
  refine ⟨sp2, eu2, ?_, fun j hj => ?_, fun j hj => ?_, ?_⟩
  · rw [hru_app]
    show hru r b s2 (hst r b 124 (hru r b s1 (d, sp, eu))) = _
    rw [e1]
    have : hst r b 124 (d, sp1, eu1) = (d, nup sp1 d (sp1 d ||| eu1 d), nup eu1 d 8191) := by
      unfold hst
      rw [if_neg (by omega), if_neg (by omega), if_neg (by omega), if_pos rfl]
    rw [this, e2]
  · rw [a2 j (by omega)]
    show (if j = d then _ else sp1 j) = _
    rw [if_neg (by omega), a1 j hj]
  · rw [b2 j hj]
    show (if j = d then _ else eu1 j) = _
    rw [if_neg (by omega), b1 j hj]
  · rw [a2 d (Nat.le_refl _), c2]
    show (if d = d then (sp1 d ||| eu1 d) else sp1 d) ||| ((if d = d then 8191 else eu1 d) &&& _) = _
    rw [if_pos rfl, if_pos rfl, bT_all, c1, Nat.or_assoc, bT_or]
theorem SU_par {d : Nat} {ss : List Nat} {φ : Nat → Nat → Nat → Bool} (hd : d < 8) (h : ST (d + 1) ss φ) : SU d (41 :: ss ++ [40]) φ := by
  intro r b sp eu
  obtain ⟨sp1, eu1, e1, a1, b1, c1⟩ := h r b (nup sp (d + 1) 0) (nup eu (d + 1) 8191) (if_pos rfl)
  refine ⟨sp1, nup eu1 d (eu1 d &&& (sp1 (d + 1) ||| eu1 (d + 1))), ?_, fun j hj => ?_, fun j hj => ?_, ?_⟩
  · have e0 : hst r b 40 (d, sp, eu) = (d + 1, nup sp (d + 1) 0, nup eu (d + 1) 8191) := by
      unfold hst
      rw [if_neg (by omega), if_pos ⟨rfl, hd⟩]
    show hst r b 41 (hru r b (ss ++ [40]) (d, sp, eu)) = _
    rw [hru_app]
    show hst r b 41 (hru r b ss (hst r b 40 (d, sp, eu))) = _
    rw [e0, e1]
    unfold hst
    rw [if_neg (by omega), if_neg (by omega), if_pos ⟨rfl, by omega⟩]
    rfl
  · rw [a1 j (by omega)]
    show (if j = d + 1 then 0 else sp j) = _
    rw [if_neg (by omega)]
  · show (if j = d then _ else eu1 j) = _
    rw [if_neg (by omega), b1 j (by omega)]
    show (if j = d + 1 then _ else eu j) = _
    rw [if_neg (by omega)]
  · show (if d = d then _ else _) = _
    rw [if_pos rfl, c1, b1 d (by omega)]
    show (if d = d + 1 then _ else eu d) &&& ((if d + 1 = d + 1 then 0 else sp (d + 1)) ||| _) = _
    rw [if_neg (by omega), if_pos rfl, Nat.zero_or]
/-! what a reader of the model leaves: good, or a fault -/
def rdP (S : qS) (X : List Nat → (Nat → Nat → Nat → Bool) → Prop) (Y : Nat → Prop) (d lt sg : Nat) (ss : List Nat) (p s : Nat) (cs : Nat → Int32) (M' : qC) : Prop :=
  ∃ (p' : Nat) (w' : Int32) (s' : Nat) (cs' : Nat → Int32), pS M' p' w' d s' cs' ∧ p' ≤ cT S + (8 - d) ∧ s' + 2 * p ≤ 2 * p' + s ∧ (∀ i, i < s → cs' i = cs i) ∧
    ((w' = -1 ∧ p' ≤ cT S ∧ Y p' ∧ ∃ st' lt' sg' ss' φ, RN (S.2.1 160) (0, d, lt, sg, ss) p (st', d, lt', sg', ss' ++ ss) p' ∧ aft S p' st' ∧ CD cs' s s' φ ∧ X ss' φ) ∨ (s ≤ s' ∧ ∃ e, w' = nI e ∧ flt S (0, d, lt, sg, ss) p e))

