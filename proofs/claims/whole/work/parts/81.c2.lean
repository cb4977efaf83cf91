/-! Long.bitCount: byte by byte -/
def mkM (c : Nat) : Nat → Nat
  | 0 => 0
  | n + 1 => 256 * mkM c n + c
theorem and_256 {a b c d : Nat} (hb : b < 256) (hd : d < 256) : (256 * a + b) &&& (256 * c + d) = 256 * (a &&& c) + (b &&& d) := by
  have hbd : b &&& d < 2 ^ 8 := Nat.lt_of_le_of_lt Nat.and_le_left hb
  apply Nat.eq_of_testBit_eq
  intro i
  rw [Nat.testBit_and, show 256 * a + b = 2 ^ 8 * a + b by omega, show 256 * c + d = 2 ^ 8 * c + d by omega, show 256 * (a &&& c) + (b &&& d) = 2 ^ 8 * (a &&& c) + (b &&& d) by omega]
  rw [Nat.testBit_two_pow_mul_add a (show b < 2 ^ 8 from hb), Nat.testBit_two_pow_mul_add c (show d < 2 ^ 8 from hd), Nat.testBit_two_pow_mul_add (a &&& c) hbd]
  split
  · rw [Nat.testBit_and]
  · rw [Nat.testBit_and]
def sw1 (l : Nat) : Nat := l - (l / 2 &&& 85)
def sw2 (l : Nat) : Nat := (l &&& 51) + (l / 4 &&& 51)
def sw3 (l : Nat) : Nat := (l + l / 16) % 16
def F1 (n x : Nat) : Nat := x - (x / 2 &&& mkM 85 n)
def F2 (n x : Nat) : Nat := (x &&& mkM 51 n) + (x / 4 &&& mkM 51 n)
def F3 (n x : Nat) : Nat := (x + x / 16) &&& mkM 15 n
set_option maxRecDepth 100000 in
theorem sw_a : ∀ (e : Fin 2) (l : Fin 256), (128 * e.val + l.val / 2) &&& 85 = (l.val / 2 &&& 85) := by decide +kernel
set_option maxRecDepth 100000 in
theorem sw_b : ∀ (e : Fin 4) (l : Fin 256), (64 * e.val + l.val / 4) &&& 51 = (l.val / 4 &&& 51) := by decide +kernel
set_option maxRecDepth 100000 in
theorem sw_c : ∀ (l : Fin 256), sw2 (sw1 l.val) ≤ 68 ∧ sw2 (sw1 l.val) % 16 ≤ 4 ∧ sw1 l.val < 256 ∧ sw3 (sw2 (sw1 l.val)) = fb_ct (fun i => l.val.testBit i) 8 := by decide +kernel
theorem F1_s (n h l : Nat) (hl : l < 256) : F1 (n + 1) (256 * h + l) = 256 * F1 n h + sw1 l := by
  unfold F1 sw1
  have e : (256 * h + l) / 2 = 256 * (h / 2) + (128 * (h % 2) + l / 2) := by omega
  show 256 * h + l - ((256 * h + l) / 2 &&& (256 * mkM 85 n + 85)) = _
  rw [e, and_256 (by omega) (by omega), sw_a ⟨h % 2, by omega⟩ ⟨l, hl⟩]
  have a : (h / 2 &&& mkM 85 n) ≤ h / 2 := Nat.and_le_left
  have b : (l / 2 &&& 85) ≤ l / 2 := Nat.and_le_left
  show 256 * h + l - (256 * (h / 2 &&& mkM 85 n) + (l / 2 &&& 85)) = _
  omega
theorem F2_s (n h l : Nat) (hl : l < 256) : F2 (n + 1) (256 * h + l) = 256 * F2 n h + sw2 l := by
  unfold F2 sw2
  have e : (256 * h + l) / 4 = 256 * (h / 4) + (64 * (h % 4) + l / 4) := by omega
  show ((256 * h + l) &&& (256 * mkM 51 n + 51)) + ((256 * h + l) / 4 &&& (256 * mkM 51 n + 51)) = _
  rw [e, and_256 hl (by omega), and_256 (by omega) (by omega), sw_b ⟨h % 4, by omega⟩ ⟨l, hl⟩]
  show 256 * (h &&& mkM 51 n) + (l &&& 51) + (256 * (h / 4 &&& mkM 51 n) + (l / 4 &&& 51)) = _
  omega
theorem and_15 (r : Nat) : r &&& 15 = r % 16 := Nat.and_two_pow_sub_one_eq_mod r 4
theorem F3_s (n a b : Nat) (ha : a % 16 ≤ 4) (hb : b ≤ 68) : F3 (n + 1) (256 * a + b) = 256 * F3 n a + sw3 b := by
  unfold F3 sw3
  have e : 256 * a + b + (256 * a + b) / 16 = 256 * (a + a / 16) + (16 * (a % 16) + b + b / 16) := by omega
  show (256 * a + b + (256 * a + b) / 16) &&& (256 * mkM 15 n + 15) = _
  rw [e, and_256 (by omega) (by omega), and_15]
  omega
theorem F2_low : ∀ n h, F2 n (F1 n h) % 16 ≤ 4
  | 0, h => by unfold F2 mkM; simp
  | n + 1, h => by
    have e : h = 256 * (h / 256) + h % 256 := by omega
    have c := sw_c ⟨h % 256, by omega⟩
    rw [e, F1_s n _ _ (by omega), F2_s n _ _ c.2.2.1]
    have := c.2.1
    simp only at this
    omega
def bcG (n x : Nat) : Nat := F3 n (F2 n (F1 n x))
theorem bcG_s (n h l : Nat) (hl : l < 256) : bcG (n + 1) (256 * h + l) = 256 * bcG n h + fb_ct (fun i => l.testBit i) 8 := by
  have c := sw_c ⟨l, hl⟩
  unfold bcG
  rw [F1_s n h l hl, F2_s n _ _ c.2.2.1, F3_s n _ _ (F2_low n h) c.1]
  rw [c.2.2.2]
def byc (x i : Nat) : Nat := fb_ct (fun j => x.testBit (8 * i + j)) 8
theorem byc_le (x i : Nat) : byc x i ≤ 8 := fb_ct_le _ _
theorem byc_0 (x : Nat) : fb_ct (fun i => (x % 256).testBit i) 8 = byc x 0 := by
  unfold byc
  refine fb_ct_cong (fun k hk => ?_)
  rw [show 256 = 2 ^ 8 from rfl, Nat.testBit_mod_two_pow, decide_eq_true (show k < 8 from hk), Bool.true_and, Nat.mul_zero, Nat.zero_add]
theorem byc_s (x i : Nat) : byc (x / 256) i = byc x (i + 1) := by
  unfold byc
  refine fb_ct_cong (fun k hk => ?_)
  rw [show 256 = 2 ^ 8 from rfl, Nat.testBit_div_two_pow]
  congr 1
  omega
theorem bcG_1 (n x : Nat) : bcG (n + 1) x = 256 * bcG n (x / 256) + byc x 0 := by
  have e : x = 256 * (x / 256) + x % 256 := by omega
  have := bcG_s n (x / 256) (x % 256) (by omega)
  rw [← e, byc_0] at this
  exact this
theorem bcG_0 (x : Nat) : bcG 0 x = 0 := by
  unfold bcG F3 mkM
  simp
theorem bcG_8 (x : Nat) : bcG 8 x = byc x 0 + 256 * (byc x 1 + 256 * (byc x 2 + 256 * (byc x 3 + 256 * (byc x 4 + 256 * (byc x 5 + 256 * (byc x 6 + 256 * byc x 7)))))) := by
  rw [bcG_1, bcG_1, bcG_1, bcG_1, bcG_1, bcG_1, bcG_1, bcG_1, bcG_0]
  simp only [byc_s, Nat.zero_add, Nat.reduceAdd]
  omega
theorem ct_64 (x : Nat) : fb_ct (fun i => x.testBit i) 64 = byc x 0 + byc x 1 + byc x 2 + byc x 3 + byc x 4 + byc x 5 + byc x 6 + byc x 7 := by
  have h := fun (m : Nat) => fb_ct_split (fun i => x.testBit i) m 8
  unfold byc
  rw [show (64 : Nat) = 56 + 8 from rfl, h 56, show (56 : Nat) = 48 + 8 from rfl, h 48, show (48 : Nat) = 40 + 8 from rfl, h 40, show (40 : Nat) = 32 + 8 from rfl, h 32, show (32 : Nat) = 24 + 8 from rfl, h 24, show (24 : Nat) = 16 + 8 from rfl, h 16, show (16 : Nat) = 8 + 8 from rfl, h 8]
  have e0 : fb_ct (fun i => x.testBit i) 8 = fb_ct (fun j => x.testBit (8 * 0 + j)) 8 := fb_ct_cong (fun k _ => by rw [Nat.mul_zero, Nat.zero_add])
  rw [e0]
theorem bc_sum (x : Nat) : ((bcG 8 x + bcG 8 x / 256) + (bcG 8 x + bcG 8 x / 256) / 65536 + ((bcG 8 x + bcG 8 x / 256) + (bcG 8 x + bcG 8 x / 256) / 65536) / 4294967296) % 128 = fb_ct (fun i => x.testBit i) 64 ∧ bcG 8 x < 2 ^ 60 := by
  rw [ct_64, bcG_8]
  have h0 := byc_le x 0
  have h1 := byc_le x 1
  have h2 := byc_le x 2
  have h3 := byc_le x 3
  have h4 := byc_le x 4
  have h5 := byc_le x 5
  have h6 := byc_le x 6
  have h7 := byc_le x 7
  generalize byc x 0 = c0 at *
  generalize byc x 1 = c1 at *
  generalize byc x 2 = c2 at *
  generalize byc x 3 = c3 at *
  generalize byc x 4 = c4 at *
  generalize byc x 5 = c5 at *
  generalize byc x 6 = c6 at *
  generalize byc x 7 = c7 at *
  generalize hx3 : c0 + 256 * (c1 + 256 * (c2 + 256 * (c3 + 256 * (c4 + 256 * (c5 + 256 * (c6 + 256 * c7)))))) = x3
  have e4 : x3 + x3 / 256 = (c0 + c1) + 256 * ((c1 + c2) + 256 * ((c2 + c3) + 256 * ((c3 + c4) + 256 * ((c4 + c5) + 256 * ((c5 + c6) + 256 * ((c6 + c7) + 256 * c7)))))) := by omega
  have h60 : x3 < 2 ^ 60 := by omega
  refine ⟨?_, h60⟩
  clear hx3 h60
  generalize x3 + x3 / 256 = x4 at *
  have e5 : x4 / 65536 = (c2 + c3) + 256 * ((c3 + c4) + 256 * ((c4 + c5) + 256 * ((c5 + c6) + 256 * ((c6 + c7) + 256 * c7)))) := by omega
  generalize x4 / 65536 = u at *
  have f5 : x4 + u = (c0 + c1 + c2 + c3) + 256 * ((c1 + c2 + c3 + c4) + 256 * ((c2 + c3 + c4 + c5) + 256 * ((c3 + c4 + c5 + c6) + 256 * ((c4 + c5 + c6 + c7) + 256 * ((c5 + c6 + c7) + 256 * ((c6 + c7) + 256 * c7)))))) := by omega
  clear e4 e5
  generalize x4 + u = x5 at *
  have e6 : x5 / 4294967296 = (c4 + c5 + c6 + c7) + 256 * ((c5 + c6 + c7) + 256 * ((c6 + c7) + 256 * c7)) := by omega
  generalize x5 / 4294967296 = v at *
  generalize (c5 + c6 + c7) + 256 * ((c6 + c7) + 256 * c7) = D at *
  generalize (c1 + c2 + c3 + c4) + 256 * ((c2 + c3 + c4 + c5) + 256 * ((c3 + c4 + c5 + c6) + 256 * ((c4 + c5 + c6 + c7) + 256 * D))) = E at *
  omega

