/-! what of the model's content lasts: all but its scratch fields (33 .. 36) and scratch rows (157, 158, 159, 162, 163, 164) -/
abbrev qS : Type := (Nat → Int32) × (Nat → Nat → Int32) × (Nat → Int64)
def scI (k : Nat) : Bool := k == 33 || k == 34 || k == 35 || k == 36
def scA (p : Nat) : Bool := p == 157 || p == 158 || p == 159 || p == 162 || p == 163 || p == 164
def pj (M : qC) : qS := (fun k => if scI k then 0 else xI M 136 k, fun p => if scA p then fun _ => 0 else xA M p, xM M 137)
theorem pjx {M : qC} {S : qS} (h : pj M = S) : xI M 136 0 = S.1 0 ∧ xI M 136 1 = S.1 1 ∧ xI M 136 2 = S.1 2 ∧ xI M 136 3 = S.1 3 ∧ xI M 136 4 = S.1 4 ∧ xI M 136 5 = S.1 5 ∧ xI M 136 32 = S.1 32 ∧ xM M 137 = S.2.2 ∧
    xA M 138 = S.2.1 138 ∧ xA M 139 = S.2.1 139 ∧ xA M 140 = S.2.1 140 ∧ xA M 141 = S.2.1 141 ∧ xA M 142 = S.2.1 142 ∧ xA M 143 = S.2.1 143 ∧ xA M 144 = S.2.1 144 ∧ xA M 145 = S.2.1 145 ∧ xA M 146 = S.2.1 146 ∧ xA M 147 = S.2.1 147 ∧ xA M 148 = S.2.1 148 ∧ xA M 149 = S.2.1 149 ∧ xA M 150 = S.2.1 150 ∧ xA M 151 = S.2.1 151 ∧ xA M 152 = S.2.1 152 ∧ xA M 153 = S.2.1 153 ∧ xA M 154 = S.2.1 154 ∧ xA M 155 = S.2.1 155 ∧ xA M 156 = S.2.1 156 ∧ xA M 160 = S.2.1 160 ∧ xA M 161 = S.2.1 161 := by
  subst h
  refine ⟨?_, ?_, ?_, ?_, ?_, ?_, ?_, ?_, ?_, ?_, ?_, ?_, ?_, ?_, ?_, ?_, ?_, ?_, ?_, ?_, ?_, ?_, ?_, ?_, ?_, ?_, ?_, ?_, ?_⟩ <;> rfl
theorem pj_yA {M : qC} {p : Nat} {f : Nat → Int32} (h : scA p = true) : pj (yA M p f) = pj M := by
  refine Prod.ext rfl (Prod.ext ?_ rfl)
  funext q
  show (if scA q then _ else xA (yA M p f) q) = if scA q then _ else xA M q
  by_cases e : q = p
  · subst e; rw [h]; rfl
  · simp only [qxs, if_neg e]
theorem pj_yI {M : qC} {k : Nat} {v : Int32} (h : scI k = true) : pj (yI M 136 k v) = pj M := by
  refine Prod.ext ?_ rfl
  funext q
  show (if scI q then _ else xI (yI M 136 k v) 136 q) = if scI q then _ else xI M 136 q
  by_cases e : q = k
  · subst e; rw [h]; rfl
  · simp only [qxs, e, and_false, if_false]
theorem pjs : (∀ M f, pj (yA M 157 f) = pj M) ∧ (∀ M f, pj (yA M 158 f) = pj M) ∧ (∀ M f, pj (yA M 159 f) = pj M) ∧ (∀ M f, pj (yA M 162 f) = pj M) ∧ (∀ M f, pj (yA M 163 f) = pj M) ∧ (∀ M f, pj (yA M 164 f) = pj M) ∧ (∀ M v, pj (yI M 136 33 v) = pj M) ∧ (∀ M v, pj (yI M 136 34 v) = pj M) ∧ (∀ M v, pj (yI M 136 35 v) = pj M) ∧ (∀ M v, pj (yI M 136 36 v) = pj M) :=
  ⟨fun _ _ => pj_yA rfl, fun _ _ => pj_yA rfl, fun _ _ => pj_yA rfl, fun _ _ => pj_yA rfl, fun _ _ => pj_yA rfl, fun _ _ => pj_yA rfl, fun _ _ => pj_yI rfl, fun _ _ => pj_yI rfl, fun _ _ => pj_yI rfl, fun _ _ => pj_yI rfl⟩
/-! numbers -/
def cN (S : qS) : Nat := (S.1 0).toNatClampNeg
def cF (S : qS) : Nat := (S.1 1).toNatClampNeg
def cR (S : qS) : Nat := (S.1 2).toNatClampNeg
def cK (S : qS) : Nat := (S.1 3).toNatClampNeg
def cQ (S : qS) : Nat := (S.1 4).toNatClampNeg
def cS (S : qS) : Nat := (S.1 5).toNatClampNeg
def cT (S : qS) : Nat := (S.1 32).toNatClampNeg
def srt (S : qS) (n : Nat) : Nat := (S.2.1 138 n).toNatClampNeg
def ofN (S : qS) (n : Nat) : Nat := (S.2.1 139 n).toNatClampNeg
def hnd (S : qS) (n : Nat) : Nat := (S.2.1 140 n).toNatClampNeg
def wnt (S : qS) (n k : Nat) : Int32 := if k = 0 then S.2.1 143 n else if k = 1 then S.2.1 144 n else S.2.1 145 n
def sln (S : qS) (n : Nat) : Nat := (S.2.1 149 n).toNatClampNeg
def qat (S : qS) (n : Nat) : Nat := (S.2.1 150 n).toNatClampNeg
/-- the counts -/
def W1 (S : qS) : Prop := (S.1 0 = nI (cN S) ∧ S.1 1 = nI (cF S) ∧ S.1 2 = nI (cR S) ∧ S.1 3 = nI (cK S) ∧ S.1 4 = nI (cQ S) ∧ S.1 5 = nI (cS S) ∧ S.1 32 = nI (cT S)) ∧ cN S ≤ 400 ∧ cF S ≤ 100 ∧ cR S ≤ 20 ∧ cK S ≤ 50 ∧ cQ S ≤ 100 ∧ cS S ≤ cN S ∧ cT S ≤ 100
/-- the notes -/
def W2 (S : qS) : Prop := ∀ n, n < cN S → (S.2.1 138 n = nI (srt S n) ∧ srt S n ≤ 4) ∧ (S.2.1 139 n = nI (ofN S n) ∧ ofN S n < cF S) ∧ (S.2.1 140 n = nI (hnd S n) ∧ hnd S n < 12) ∧ ∀ k, k < 3 → wnt S n k = -1 ∨ ∃ j, j < cF S ∧ wnt S n k = nI j
def isF (S : qS) (f : Int32) : Bool := decide (0 ≤ f ∧ f < S.1 1)
def isH (h : Int32) : Bool := decide (0 ≤ h ∧ h < 12)
def isT (h : Int32) : Bool := decide (0 ≤ h ∧ h < 6)
def isKy (h : Int32) : Bool := decide (0 ≤ h ∧ h < 4)
theorem isF_of {S : qS} (h : W1 S) {f : Int32} (hf : isF S f = true) : ∃ j, j < cF S ∧ f = nI j := by
  have h2 := of_decide_eq_true hf
  rw [h.1.2.1] at h2
  exact i_bd h2.1 h2.2 (by have := h.2.2.1; omega)
theorem isF_nI {S : qS} (h : W1 S) {j : Nat} (hj : j < cF S) : isF S (nI j) = true := by
  have := h.2.2.1
  refine decide_eq_true ⟨nI_pos' (by omega), ?_⟩
  rw [h.1.2.1]
  exact nI_lt hj (by omega)
theorem isH_of {f : Int32} (hf : isH f = true) : ∃ j, j < 12 ∧ f = nI j := by
  have h2 := of_decide_eq_true hf
  exact i_bd (n := 12) h2.1 h2.2 (by omega)
theorem isT_of {f : Int32} (hf : isT f = true) : ∃ j, j < 6 ∧ f = nI j := by
  have h2 := of_decide_eq_true hf
  exact i_bd (n := 6) h2.1 h2.2 (by omega)
theorem isKy_of {f : Int32} (hf : isKy f = true) : ∃ j, j < 4 ∧ f = nI j := by
  have h2 := of_decide_eq_true hf
  exact i_bd (n := 4) h2.1 h2.2 (by omega)

