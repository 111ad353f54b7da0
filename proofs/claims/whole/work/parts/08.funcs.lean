/-! the functions that the methods compute -/
def restI (n w : Int) : Int := if w < 1 then 0 else n % w
def toldI (a b w : Int) : Int := if w = 0 then a / (Int.gcd a b : Int) else b / (Int.gcd a b : Int)
def atI (cn : Int) (f : Nat → Int) (h : Int) : Int := if 0 ≤ h ∧ h < cn then f h.toNat else 0
def spdI (cn : Int) (so tu : Nat → Int) (h : Int) : Int := if atI cn so h = 4 then -(atI cn tu h) else if atI cn so h = 5 then 2 * atI cn tu h else atI cn tu h
/-! products and their bounds -/
theorem mul_bd {x y A B : Int} (hx : -A ≤ x ∧ x ≤ A) (hy : 0 ≤ y ∧ y ≤ B) : -(A * B) ≤ x * y ∧ x * y ≤ A * B := by
  have hA : 0 ≤ A := by omega
  constructor
  · have h1 : -A * y ≤ x * y := Int.mul_le_mul_of_nonneg_right hx.1 hy.1
    have h2 : A * y ≤ A * B := Int.mul_le_mul_of_nonneg_left hy.2 hA
    have h3 : -A * y = -(A * y) := Int.neg_mul A y
    omega
  · have h1 : x * y ≤ A * y := Int.mul_le_mul_of_nonneg_right hx.2 hy.1
    have h2 : A * y ≤ A * B := Int.mul_le_mul_of_nonneg_left hy.2 hA
    omega
theorem mul_nn {x y A B : Int} (hx : 0 ≤ x ∧ x ≤ A) (hy : 0 ≤ y ∧ y ≤ B) : 0 ≤ x * y ∧ x * y ≤ A * B :=
  ⟨Int.mul_nonneg hx.1 hy.1, (mul_bd (A := A) (B := B) ⟨by omega, hx.2⟩ hy).2⟩
theorem atI_bd {cn : Int} {f : Nat → Int} {h lo hi : Int} (hf : Bd lo hi f) (h0 : lo ≤ 0) (h1 : 0 ≤ hi) : lo ≤ atI cn f h ∧ atI cn f h ≤ hi := by
  unfold atI
  split
  · exact hf _
  · exact ⟨h0, h1⟩
theorem spdI_bd {cn : Int} {so tu : Nat → Int} {h : Int} (hf : Bd 0 12 tu) : -24 ≤ spdI cn so tu h ∧ spdI cn so tu h ≤ 24 := by
  have := atI_bd (cn := cn) (h := h) hf (by omega) (by omega)
  unfold spdI
  split
  · omega
  · split <;> omega
theorem restI_bd {n w : Int} : 0 ≤ restI n w ∧ (0 < w → restI n w < w) := by
  unfold restI
  split
  · exact ⟨Int.le_refl _, fun h => by omega⟩
  · exact ⟨Int.emod_nonneg _ (by omega), fun _ => Int.emod_lt_of_pos _ (by omega)⟩
theorem xor_neg {x y : Int} (hx : R32 x) (hy : R32 y) (h : 0 < y) : (iI x ^^^ iI y).toInt < 0 ↔ x < 0 := by
  have e : ∀ z : Int, R32 z → ((iI z).toBitVec.msb = true ↔ z < 0) := fun z hz => by
    rw [BitVec.msb_eq_toInt]
    show decide ((iI z).toInt < 0) = true ↔ z < 0
    rw [iI_toInt hz]
    exact decide_eq_true_iff
  have e2 : (iI x ^^^ iI y).toInt < 0 ↔ (iI x ^^^ iI y).toBitVec.msb = true := by
    rw [BitVec.msb_eq_toInt]
    show (iI x ^^^ iI y).toInt < 0 ↔ decide ((iI x ^^^ iI y).toInt < 0) = true
    exact decide_eq_true_iff.symm
  rw [e2, ← e x hx]
  have ey : (iI y).toBitVec.msb = false := by
    cases hq : (iI y).toBitVec.msb with
    | false => rfl
    | true => have := (e y hy).mp hq; omega
  rw [Int32.toBitVec_xor, BitVec.msb_xor, ey, Bool.xor_false]
def iXor (a b : Int) : Int := (iI a ^^^ iI b).toInt
theorem iXor_r (a b : Int) : R32 (iXor a b) := iI_r _
theorem tmod_emod {x y : Int} (h : 0 < y) : x % y = if x.tmod y < 0 then x.tmod y + y else x.tmod y := by
  have h1 := Int.tmod_add_mul_tdiv x y
  split
  next hn =>
    have h2 : -y < x.tmod y := by have := Int.lt_tmod_of_pos x h; omega
    have : x = (x.tmod y + y) + y * (x.tdiv y - 1) := by rw [Int.mul_sub]; omega
    rw [this, Int.add_mul_emod_self_left, Int.emod_eq_of_lt (by omega) (by omega)]
    rw [← this]
  next hn =>
    have h2 : x.tmod y < y := Int.tmod_lt_of_pos x h
    have : x = x.tmod y + y * x.tdiv y := by omega
    rw [this, Int.add_mul_emod_self_left, Int.emod_eq_of_lt (by omega) (by omega)]
    rw [← this]
theorem tmod_neg {x y : Int} (h : 0 < y) : (x.tmod y < 0 → x < 0) ∧ (0 < x.tmod y → 0 ≤ x) := by
  constructor
  · intro h1
    rcases Int.lt_or_le x 0 with q | q
    · exact q
    · have := Int.tmod_nonneg y q; omega
  · intro h1
    rcases Int.lt_or_le x 0 with q | q
    · have h2 : 0 ≤ (-x).tmod y := Int.tmod_nonneg y (by omega)
      rw [Int.neg_tmod] at h2
      omega
    · exact q
theorem iXor_neg {x y : Int} (hx : R32 x) (hy : R32 y) (h : 0 < y) : iXor x y < 0 ↔ x < 0 := xor_neg hx hy h
theorem v_ixor {g : Gx} {x : Xt} {Ts : List Cond} {own : String} {cc : ByteArray} {nL : Nat} {rm : Room} {cs sl : Nat} {ws : va_W} {lo : List (Option Value)} {pc : Nat} {st : List Value} (X : Xo g x Ts own cc nL rm) {a b : Int} (hdg : decode cc pc = .ok (.ixor, 1)) (k : V g x cs sl ws lo (pc + 1) (.int (iI (iXor a b)) :: st)) : V g x cs sl ws lo pc (.int (iI b) :: .int (iI a) :: st) := by
  obtain ⟨⟨p, e, s, m, args⟩, ⟨below, meth, c, A, nL0, R, Q⟩⟩ := x
  obtain ⟨hx, hb, hml, hown, hts, hK, hA, hE, hlk, rfl, rfl⟩ := X
  intro H locs ls hP hD hS hl
  have k2 := k H locs ls hP hD hS hl
  unfold iXor at k2
  rw [iI_of] at k2
  exact lv_ixor hx hb hdg k2
theorem gcd_step {g l : Int} (hg : 0 ≤ g) (hl : 0 ≤ l) : Int.gcd l (g.tmod l) = Int.gcd g l := by
  obtain ⟨m, rfl⟩ := Int.eq_ofNat_of_zero_le hg
  obtain ⟨n, rfl⟩ := Int.eq_ofNat_of_zero_le hl
  rw [← Int.ofNat_tmod]
  show Nat.gcd n (m % n) = Nat.gcd m n
  rw [Nat.gcd_comm n, ← Nat.gcd_rec n m, Nat.gcd_comm]
def PG (g l s : Int) : Prop := s = 0 ∨ (l ≤ g ∧ g.toNat * l.toNat * 2 ^ (s.toNat - 1) ≤ 2 ^ 62)
theorem PG_0 (g l : Int) : PG g l 0 := Or.inl rfl
theorem PG_step {g l s : Int} (hg : 0 ≤ g) (hg2 : g ≤ 2147483647) (hl : 0 < l) (hl2 : l ≤ 2147483647) (hs : 0 ≤ s) (h : PG g l s) : PG l (g.tmod l) (s + 1) := by
  obtain ⟨m, rfl⟩ := Int.eq_ofNat_of_zero_le hg
  obtain ⟨n, rfl⟩ := Int.eq_ofNat_of_zero_le (Int.le_of_lt hl)
  obtain ⟨k, rfl⟩ := Int.eq_ofNat_of_zero_le hs
  rw [← Int.ofNat_tmod]
  have hn : 0 < n := by omega
  have hr := Nat.mod_lt m hn
  refine Or.inr ⟨by omega, ?_⟩
  have e1 : ((k : Int) + 1).toNat - 1 = k := by omega
  rw [e1]
  show n * (m % n) * 2 ^ k ≤ 2 ^ 62
  cases k with
  | zero =>
    have h1 : n * (m % n) ≤ 2147483648 * 2147483648 := Nat.mul_le_mul (by omega) (by omega)
    simpa using h1
  | succ k =>
    rcases h with h | ⟨h1, h2⟩
    · exfalso; omega
    · have e2 : (((k + 1 : Nat) : Int)).toNat - 1 = k := by omega
      rw [e2] at h2
      have h2 : m * n * 2 ^ k ≤ 2 ^ 62 := h2
      have h3 := Nat.div_add_mod m n
      have h4 : 1 ≤ m / n := Nat.div_pos (by omega) hn
      have h5 : n * 1 ≤ n * (m / n) := Nat.mul_le_mul_left n h4
      have h6 : m % n * 2 ≤ m := by omega
      calc n * (m % n) * 2 ^ (k + 1) = n * (m % n * 2) * 2 ^ k := by rw [Nat.pow_succ, Nat.mul_comm (2 ^ k) 2, ← Nat.mul_assoc, Nat.mul_assoc n]
        _ ≤ n * m * 2 ^ k := Nat.mul_le_mul_right _ (Nat.mul_le_mul_left n h6)
        _ = m * n * 2 ^ k := by rw [Nat.mul_comm n m]
        _ ≤ 2 ^ 62 := h2
theorem PG_end {g l : Int} (hl : 0 ≤ l) (h : PG g l 64) : l = 0 := by
  rcases h with h | ⟨h1, h2⟩
  · exfalso; omega
  · obtain ⟨n, rfl⟩ := Int.eq_ofNat_of_zero_le hl
    obtain ⟨m, rfl⟩ := Int.eq_ofNat_of_zero_le (Int.le_trans hl h1)
    have h3 : m * n * 2 ^ 63 ≤ 2 ^ 62 := h2
    rcases Nat.eq_zero_or_pos n with q | q
    · rw [q]; rfl
    · exfalso
      have h4 : 1 ≤ m * n := Nat.mul_pos (by omega) q
      have h5 : 1 * 2 ^ 63 ≤ m * n * 2 ^ 63 := Nat.mul_le_mul_right _ h4
      omega
theorem gcd_0 {g : Int} (h : 0 ≤ g) : ((Int.gcd g 0 : Nat) : Int) = g := by
  rw [Int.gcd_zero_right]
  omega
theorem gcd_le {a b M : Int} (ha : 0 ≤ a) (hb : 0 ≤ b) (hm : 0 ≤ M) (h1 : a ≤ M) (h2 : b ≤ M) : ((Int.gcd a b : Nat) : Int) ≤ M := by
  obtain ⟨m, rfl⟩ := Int.eq_ofNat_of_zero_le ha
  obtain ⟨n, rfl⟩ := Int.eq_ofNat_of_zero_le hb
  show ((Nat.gcd m n : Nat) : Int) ≤ M
  rcases Nat.eq_zero_or_pos m with q | q
  · subst q; rw [Nat.gcd_zero_left]; exact h2
  · have := Nat.gcd_le_left n q; omega
/-! worlds of the objects -/
abbrev wClk (g : Gx) (a a1 a2 a3 : Nat) (mk cn : Int) (so tu sp : Nat → Int) : va_W := [(a, .inr (2, [.ref a1, .ref a2, .ref a3, .int (iI mk), .int (iI cn)])), (a1, aI g 4 so), (a2, aI g 4 tu), (a3, aI g 4 sp)]
abbrev wRow (g : Gx) (a a1 a2 a3 : Nat) (it la le : Nat → Int) : va_W := [(a, .inr (5, [.ref a1, .ref a2, .ref a3])), (a1, aI g 320 it), (a2, aI g 8 la), (a3, aI g 8 le)]
abbrev wTap (g : Gx) (a a1 : Nat) (bt : Nat → Int) (ln tk fm tt ft : Int) : va_W := [(a, .inr (6, [.ref a1, .int (iI ln), .int (iI tk), .int (iI fm), .int (iI tt), .int (iI ft)])), (a1, aI g 200 bt)]
abbrev wAct (g : Gx) (a a1 a2 : Nat) (hs ss : Nat → Int) (ln : Int) : va_W := [(a, .inr (0, [.ref a1, .ref a2, .int (iI ln)])), (a1, aI g 24 hs), (a2, aI g 24 ss)]
abbrev wAsk (g : Gx) (a a1 : Nat) (bo : Nat → Int) (ln : Int) : va_W := [(a, .inr (1, [.ref a1, .int (iI ln)])), (a1, aI g 16 bo)]
abbrev wDou (g : Gx) (a : Nat) (wh sh mo fo : Int) : va_W := [(a, .inr (3, [.int (iI wh), .int (iI sh), .int (iI mo), .int (iI fo)]))]
abbrev wRea (g : Gx) (a a1 a2 : Nat) (ar sp : Nat → Int) (cn pa : Int) : va_W := [(a, .inr (4, [.ref a1, .ref a2, .int (iI cn), .int (iI pa)])), (a1, aI g 4 ar), (a2, aI g 4 sp)]
theorem tdiv_of_nn {a b : Int} (h : 0 ≤ a) : a.tdiv b = a / b := Int.tdiv_eq_ediv_of_nonneg h
/-! rows, counts -/
def cntN (f : Nat → Bool) : Nat → Int
  | 0 => 0
  | n + 1 => cntN f n + (if f n = true then 1 else 0)
theorem cntN_s {f : Nat → Bool} {i : Int} (h : 0 ≤ i) : cntN f (i + 1).toNat = cntN f i.toNat + (if f i.toNat = true then 1 else 0) := by
  rw [show (i + 1).toNat = i.toNat + 1 by omega]
  rfl
theorem cntN_bd (f : Nat → Bool) : ∀ n : Nat, 0 ≤ cntN f n ∧ cntN f n ≤ n := by
  intro n
  induction n with
  | zero => exact ⟨Int.le_refl _, Int.le_refl _⟩
  | succ n ih =>
    simp only [cntN]
    split <;> omega
def lanI (la : Nat → Int) (r : Int) : Int := if 0 ≤ r ∧ r < 8 then la r.toNat else -1
theorem lanI_bd {la : Nat → Int} {r : Int} (h : Bd (-1) 2 la) : -1 ≤ lanI la r ∧ lanI la r ≤ 2 := by
  unfold lanI
  split
  · exact h _
  · omega
def rchI (le : Nat → Int) (r i n : Int) : Int := if 0 ≤ i ∧ 0 ≤ n ∧ i ≤ atI 8 le r - n then 1 else 0
def wrgI (la le : Nat → Int) (r i n : Int) : Int := if lanI la r = -1 then 1 else if rchI le r i n = 1 then 0 else 2
def itmI (it le : Nat → Int) (r i : Int) : Int := if 0 ≤ r ∧ r < 8 ∧ rchI le r i 1 = 1 then it (r * 40 + i).toNat else 0
def cutI (l v : Int) : Int := if l = 0 then iByte v else if l = 1 then iShort v else v
theorem iByte_bd (a : Int) : -128 ≤ iByte a ∧ iByte a ≤ 127 := by
  unfold iByte
  have h1 := (iI a).toInt8.le_toInt
  have h2 := (iI a).toInt8.toInt_lt
  omega
theorem iShort_bd (a : Int) : -32768 ≤ iShort a ∧ iShort a ≤ 32767 := by
  unfold iShort
  have h1 := (iI a).toInt16.le_toInt
  have h2 := (iI a).toInt16.toInt_lt
  omega
theorem cutI_bd {l v : Int} (h : R32 v) : R32 (cutI l v) := by
  have := iByte_bd v
  have := iShort_bd v
  unfold cutI
  split
  · omega
  · split <;> omega
theorem rchI_bd (le : Nat → Int) (r i n : Int) : rchI le r i n = 0 ∨ rchI le r i n = 1 := by
  unfold rchI
  split <;> omega
theorem itmI_bd {it le : Nat → Int} {r i : Int} (h : Bd (-2147483648) 2147483647 it) : R32 (itmI it le r i) := by
  unfold itmI
  split
  · exact h _
  · omega
theorem updI_e {f : Nat → Int} {k j : Nat} {x : Int} : updI f k x j = if j = k then x else f j := rfl
