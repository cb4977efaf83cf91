/-! the world that the two constructors leave -/
def I0 : qC := (fun p k => if p = 131 ∧ k < 2 then -1 else 0, fun _ _ => 0, fun p => if p = 2 then flF (fun _ => 0) 3200 (-1) else if p = 4 then flF (fun _ => 0) 2400 (-1) else if p = 118 then flF (fun _ => 0) 6 401 else if p = 119 then flF (fun _ => 0) 12 401 else if p = 129 then flF (fun _ => 0) 4 (-1) else fun _ => 0, fun _ _ => 0)
def M0 (g : Nat → Int32) : qC := (fun _ _ => 0, fun _ _ => 0, fun p => if p = 153 then g else fun _ => 0, fun _ _ => 0)
def r0 : Nat × Nat × Nat := (132, 165, 0)
theorem fB_0 {p j : Nat} : fB I0 p j = false := by
  unfold fB
  show (if j < 64 then (0 : Int64).toBitVec.getLsbD j else (0 : Int64).toBitVec.getLsbD (j - 64)) = false
  rw [show (0 : Int64).toBitVec = 0#64 from rfl, BitVec.getLsbD_zero, BitVec.getLsbD_zero, ite_self]
theorem bT_f : ∀ n, bT (fun _ => false) n = 0
  | 0 => rfl
  | n + 1 => by unfold bT; rw [if_neg Bool.false_ne_true]; exact bT_f n
theorem st_0 : ST 0 [] (fun _ _ _ => true) := by
  intro r b sp eu he
  refine ⟨sp, eu, rfl, fun j hj => rfl, fun j hj => rfl, ?_⟩
  have e : bT (fun _ => true) 13 = 8191 := by decide
  show sp 0 ||| eu 0 = sp 0 ||| bT (fun _ => true) 13
  rw [he, e]
theorem inv_0 {g : Nat → Int32} (hg : ∀ j, j < 4 → g j = -1) : lwI I0 (M0 g) (pj (M0 g)) r0 (fun _ _ _ => true) := by
  have c1 : cN (pj (M0 g)) = 0 := rfl
  have c2 : cF (pj (M0 g)) = 0 := rfl
  have c3 : cS (pj (M0 g)) = 0 := rfl
  have c4 : cK (pj (M0 g)) = 0 := rfl
  have c5 : cQ (pj (M0 g)) = 0 := rfl
  have c6 : cT (pj (M0 g)) = 0 := rfl
  have c7 : cR (pj (M0 g)) = 0 := rfl
  have big : ∀ n, n ≤ 400 → ¬ (401 : Int32) ≤ nI n := fun n hn => nI_ge (a := n) (b := 401) (by omega) (by omega)
  refine ⟨⟨⟨rfl, fun n hn => by rw [c1] at hn; omega, fun j _ hj => if_pos hj⟩, ⟨rfl, fun n hn => by rw [c3] at hn; omega⟩, ⟨rfl, fun n hn => by rw [c2] at hn; omega⟩, ⟨fun n hn => by rw [c2] at hn; omega, fun _ _ _ _ _ => fB_0⟩, fun i _ => ?_, fun i _ => rfl, fun i _ => ⟨?_, ?_⟩, fun j _ => ⟨fun q => (by rw [fB_0] at q; exact Bool.noConfusion q), fun q => (q (fun _ => False) (fun n hn _ => by rw [c1] at hn; omega)).elim⟩, ⟨rfl, fun t ht n hn => ?_, fun t ht n hn => ?_, fun j _ => ⟨fun q => (by rw [fB_0] at q; exact Bool.noConfusion q), fun q => ?_⟩⟩, ⟨rfl, fun n hn => by rw [c6] at hn; omega⟩, ⟨rfl, fun n hn => by rw [c5] at hn; omega⟩, fun k hk => ⟨rfl, rfl, ?_, rfl⟩, ⟨rfl, ⟨[], rfl, by decide, fun i hi => absurd hi (Nat.not_lt_zero _), fun x hx => absurd hx List.not_mem_nil, st_0⟩, Or.inl rfl⟩⟩, ⟨⟨⟨rfl, rfl, rfl, rfl, rfl, rfl, rfl⟩, by omega, by omega, by omega, by omega, by omega, by omega, by omega⟩, fun n hn => by rw [c1] at hn; omega, ⟨fun n hn => by rw [c5] at hn; omega, fun i n _ hn => by rw [c5] at hn; omega⟩, fun n hn => by rw [c3] at hn; omega, fun n hn => by rw [c4] at hn; omega, fun k hk => Or.inl rfl, fun t u b _ _ _ => Or.inl ⟨rfl, rfl⟩, fun n hn => by rw [c1] at hn; omega, fun n hn => by rw [c6] at hn; omega, fun k hk => ⟨0, by omega, rfl⟩, fun n hn => by rw [c1] at hn; omega⟩, rfl, ⟨Or.inl rfl, by decide, by decide⟩⟩
  · rw [show (fun h => dc (mkr (pj (M0 g)) i h)) = fun _ => false from funext fun h => dcf (fun q => by obtain ⟨n, hn, -⟩ := q; rw [c1] at hn; omega), bT_f]
    rfl
  · rw [show (fun h => glt (pj (M0 g)) 2 i h) = fun _ => false from funext fun h => rfl, bT_f]
    rfl
  · rw [show (fun h => glt (pj (M0 g)) 3 i h) = fun _ => false from funext fun h => rfl, bT_f]
    rfl
  · rw [show xA I0 118 t = 401 from if_pos ht]
    exact ⟨fun q => absurd q (big n hn), fun ⟨c, hc, _⟩ => by rw [c4] at hc; omega⟩
  · rw [show xA I0 119 t = 401 from if_pos ht]
    exact ⟨fun q => absurd q (big n hn), fun ⟨c, hc, _⟩ => by rw [c4] at hc; omega⟩
  · rcases q with ⟨c, hc, -⟩ | ⟨n, hn, -⟩
    · rw [c4] at hc; omega
    · rw [c1] at hn; omega
  · rw [show xA I0 129 k = -1 from if_pos hk]
    exact (hg k hk).symm
def ceq (c c' : va_E) : Prop := c = c' ∨ ∃ (n : Nat) (f f' : Nat → Option Nat), c = .inl (3, n, .inr (.inr (.inr (.inr f)))) ∧ c' = .inl (3, n, .inr (.inr (.inr (.inr f')))) ∧ ∀ i, i < n → f i = f' i
theorem seg {f : Nat → Option va_E} {l : List va_E} {b n : Nat} (h : (List.range n).map (fun k => f (b + k)) = l.map some) {k : Nat} (hk : k < n) : f (b + k) = l[k]? := by
  have h1 : ((List.range n).map (fun k => f (b + k)))[k]? = (l.map some)[k]? := by rw [h]
  rw [List.getElem?_map, List.getElem?_map, List.getElem?_range hk] at h1
  cases hl : l[k]? with
  | none => rw [hl] at h1; cases h1
  | some c => rw [hl] at h1; exact Option.some.inj h1
def wiA (f : Nat → Option Nat) : List va_E := [cX10, .inr (8, [.int 400, .int 8, .ref 2, .int 0]), am 0 3200 (-1), .inr (8, [.int 400, .int 6, .ref 4, .int 0]), am 0 2400 (-1), sh7 5, .inl (2, 100, .inr (.inl (fun _ => 0))), .inl (3, 100, .inr (.inr (.inr (.inr f)))), ai 100, ai 100, ai 100, ai 100, fs0]
def wiC (g : Nat → Int32) : List va_E := [.inr (3, [.ref 114, .ref 115, .ref 116, .int 0]), ai 100, ai 100, fs0, .inr (5, [.ref 118, .ref 119, .ref 120, .int 0]), am 0 6 401, am 0 12 401, fs0, .inr (9, [.ref 122, .int 0, .ref 123, .int 0, .int 0, .int 0, .int 0, .int 0]), ai 100, ai 100, .inr (4, [.ref 125, .int 0]), ai 100, .inr (2, [.ref 127, .ref 128, .ref 129, .ref 130]), ai 4, .inl (1, 4, .inl (fun _ => 0)), am 0 4 (-1), ai 4, .inr (1, [.int (-1), .int (-1), .int 0]), .inr (6, [.ref 133, .ref 134, .ref 135]), ai 0, ai 9, ai 9, cX11 136] ++ tX11 g
set_option maxRecDepth 100000 in
set_option maxHeartbeats 4000000 in
theorem wi_l {g : Nat → Int32} : (cX10 :: tX10) ++ cX11 136 :: tX11 g = wiA (rfA 13 100) ++ (List.replicate 100 fs0 ++ wiC g) := rfl
set_option maxRecDepth 100000 in
set_option maxHeartbeats 4000000 in
theorem wi_a {g : Nat → Int32} : (List.range 13).map (fun k => (wd I0 (M0 g) r0).2 (0 + k)) = (wiA (fun i => some (13 + i))).map some := rfl
set_option maxRecDepth 100000 in
set_option maxHeartbeats 4000000 in
theorem wi_c {g : Nat → Int32} : (List.range 52).map (fun k => (wd I0 (M0 g) r0).2 (113 + k)) = (wiC g).map some := rfl
theorem wi_f {f f' : Nat → Option Nat} (hf : ∀ i, i < 100 → f i = f' i) : ∀ (p : Nat) (c : va_E), (wiA f)[p]? = some c → ∃ c', (wiA f')[p]? = some c' ∧ ceq c c'
  | 0, _, h => by cases h; exact ⟨_, rfl, Or.inl rfl⟩
  | 1, _, h => by cases h; exact ⟨_, rfl, Or.inl rfl⟩
  | 2, _, h => by cases h; exact ⟨_, rfl, Or.inl rfl⟩
  | 3, _, h => by cases h; exact ⟨_, rfl, Or.inl rfl⟩
  | 4, _, h => by cases h; exact ⟨_, rfl, Or.inl rfl⟩
  | 5, _, h => by cases h; exact ⟨_, rfl, Or.inl rfl⟩
  | 6, _, h => by cases h; exact ⟨_, rfl, Or.inl rfl⟩
  | 7, _, h => by cases h; exact ⟨_, rfl, Or.inr ⟨100, _, _, rfl, rfl, hf⟩⟩
  | 8, _, h => by cases h; exact ⟨_, rfl, Or.inl rfl⟩
  | 9, _, h => by cases h; exact ⟨_, rfl, Or.inl rfl⟩
  | 10, _, h => by cases h; exact ⟨_, rfl, Or.inl rfl⟩
  | 11, _, h => by cases h; exact ⟨_, rfl, Or.inl rfl⟩
  | 12, _, h => by cases h; exact ⟨_, rfl, Or.inl rfl⟩
  | p + 13, _, h => by cases h
theorem wi_at {g : Nat → Int32} {p : Nat} {c : va_E} (h : (wd I0 (M0 g) r0).2 p = some c) : ∃ c', (wq (cX10 :: tX10) (cX11 136) (tX11 g)).2 p = some c' ∧ ceq c c' := by
  show ∃ c', ((cX10 :: tX10) ++ cX11 136 :: tX11 g)[p]? = some c' ∧ ceq c c'
  rw [wi_l]
  have hlA : (wiA (rfA 13 100)).length = 13 := rfl
  by_cases h1 : p < 13
  · have e := seg (wi_a (g := g)) h1
    rw [Nat.zero_add, h] at e
    rw [List.getElem?_append_left (by rw [hlA]; exact h1)]
    exact wi_f (fun i hi => (if_pos hi).symm) p c e.symm
  · rw [List.getElem?_append_right (by rw [hlA]; omega), hlA]
    by_cases h2 : p < 113
    · rw [List.getElem?_append_left (by rw [List.length_replicate]; omega), List.getElem?_replicate, if_pos (by omega)]
      refine ⟨fs0, rfl, Or.inl ?_⟩
      have e := wd_at (C := I0) (M := M0 g) (fs_sh (p := p) (Or.inr (Or.inl ⟨by omega, h2⟩)) r0)
      rw [h, if_neg (by omega)] at e
      exact Option.some.inj e
    · rw [List.getElem?_append_right (by rw [List.length_replicate]; omega), List.length_replicate]
      by_cases h3 : p < 165
      · have e := seg (wi_c (g := g)) (show p - 113 < 52 by omega)
        rw [show 113 + (p - 113) = p by omega, h] at e
        rw [show p - 13 - 100 = p - 113 by omega]
        exact ⟨c, e.symm, Or.inl rfl⟩
      · exfalso
        have e : shp r0 p = none := by
          unfold shp
          rw [if_neg h1, if_neg h2, if_neg (by omega), if_neg (by omega), if_neg (by show ¬ p = 132; omega), if_neg (by show ¬ p = 133; omega), if_neg (by show ¬ p = 134; omega), if_neg (by show ¬ p = 135; omega)]
        have e2 : (wd I0 (M0 g) r0).2 p = none := by
          show (shp r0 p).map _ = none
          rw [e]; rfl
        rw [e2] at h; cases h
theorem arrV_cg {a : ClassId} {n : Nat} {F F' : Nat → Value} (h : ∀ i, i < n → F i = F' i) : arrV a n F = arrV a n F' := by
  unfold arrV
  congr 2
  funext j
  exact h j.val j.isLt
/-- cells that are alike: the walk goes on -/
theorem AW_sub2 {g : qG} {pc : Nat} {L : qL} {st : List Value} {w w' : qW} {kc ks : Nat} (h : AW g pc L st w' kc ks) (h1 : w'.1 = w.1) (h2 : ∀ p c, w'.2 p = some c → ∃ c', w.2 p = some c' ∧ ceq c c') : AW g pc L st w kc ks := by
  intro p l e R s m args below meth c D cA z H locs ls hX hH hS hR
  refine h p l e R s m args below meth c D cA z H locs ls hX ⟨by rw [h1]; exact hH.1, fun q c hc => ?_⟩ hS hR
  obtain ⟨c', hc', rfl | ⟨n, f, f', rfl, rfl, hf⟩⟩ := h2 q c hc
  · exact hH.2 q _ hc'
  · have a := hH.2 q _ hc'
    show H[z.1 + q]? = some (vp_cell (cA 3) (n, .inr (.inr (.inr (.inr (fun j => (f j).map (z.1 + ·)))))))
    rw [show H[z.1 + q]? = some (vp_cell (cA 3) (n, .inr (.inr (.inr (.inr (fun j => (f' j).map (z.1 + ·))))))) from a, vp_cell_q, vp_cell_q]
    exact congrArg some (arrV_cg (fun i hi => by rw [hf i hi]))
def w00 : qW := (0, fun _ => none)
theorem w00_n : w00.1 = 0 := rfl
theorem w00_pu {c : va_E} : qpu w00 c = wq [] c [] := by
  refine Prod.ext rfl (funext fun p => ?_)
  show (if p = 0 then some c else none) = [c][p]?
  cases p with
  | zero => rfl
  | succ p => rfl
set_option maxRecDepth 100000 in
set_option maxHeartbeats 4000000 in
theorem lw_entry {Len : Nat} {xs : Nat → Int32} (hL : Len ≤ 4096) : AW (mL_law, 40, 600000, 7302250, some (Len, xs), fun r _ => r = some (.int 1)) 0 [some (.retAddr 0), none, none, none] [] w00 0 0 := by
  have hl : ∀ {c : va_E} {t : List va_E} {q : Nat}, t.length + 1 = q → (c :: t).length = q := fun h => h
  have lT : tX10.length = 135 := rfl
  refine oL_law_0 _ _ _ _ _ _ ?_
  simp only [bL_law_0, qsem, qopt_s, qopt2_s, qev, qxs, Nat.reduceEqDiff, reduceIte, and_true, true_and, and_false, false_and, and_self, or_true, true_or, qb_or, reduceCtorEq, qbr_True, qbr_False, q10, q01, w00_n, w00_pu, wz_pu, wz_n, lT, Nat.reduceAdd]
  refine ⟨by decide, ?_⟩
  refine kL_law_4 (zX10_init) (Nat.le_of_ble_eq_true rfl) (Nat.le_of_ble_eq_true rfl) (⟨by exact Nat.le_of_ble_eq_true rfl, by exact Nat.le_of_ble_eq_true rfl⟩) ?_
  rintro _ _ ⟨rfl, rfl⟩
  refine oL_law_7 _ _ _ _ _ _ ?_
  simp only [bL_law_7, qsem, qopt_s, qopt2_s, qev, qxs, Nat.reduceEqDiff, reduceIte, and_true, true_and, and_false, false_and, and_self, or_true, true_or, qb_or, reduceCtorEq, qbr_True, qbr_False, q10, q01, w00_n, w00_pu, wz_pu, wz_n, lT, Nat.reduceAdd]
  refine ⟨by decide, ?_⟩
  refine kL_law_12 (zX11_init (q := 136) (hl (by rw [lT]))) (Nat.le_of_ble_eq_true rfl) (Nat.le_of_ble_eq_true rfl) (⟨by exact Nat.le_of_ble_eq_true rfl, by exact Nat.le_of_ble_eq_true rfl⟩) ?_
  rintro _ _ ⟨rfl, g, rfl, hg⟩
  refine oL_law_15 _ _ _ _ _ _ ?_
  simp only [bL_law_15, qsem, qopt_s, qopt2_s, qev, qxs, Nat.reduceEqDiff, reduceIte, and_true, true_and, and_false, false_and, and_self, or_true, true_or, qb_or, reduceCtorEq, qbr_True, qbr_False, q10, q01, w00_n, w00_pu, wz_pu, wz_n, lT, Nat.reduceAdd]
  refine AW_sub2 (w' := wd I0 (M0 g) r0) ?_ rfl (fun p c h => wi_at h)
  exact (lw_loop hL 4200 0 I0 (M0 g) (pj (M0 g)) r0 (fun _ _ _ => true) _ _ (by omega) (by omega) (inv_0 hg) (by decide) (by decide))

