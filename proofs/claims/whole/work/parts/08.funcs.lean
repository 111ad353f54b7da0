/-! the functions that the methods compute -/
def restI (n w : Int) : Int := if w < 1 then 0 else n % w
def toldI (a b w : Int) : Int := if w = 0 then a / (Int.gcd a b : Int) else b / (Int.gcd a b : Int)
def atI (cn : Int) (f : Nat → Int) (h : Int) : Int := if 0 ≤ h ∧ h < cn then f h.toNat else 0
def spdI (cn : Int) (so tu : Nat → Int) (h : Int) : Int := if atI cn so h = 4 then -(atI cn tu h) else if atI cn so h = 5 then 2 * atI cn tu h else atI cn tu h
/-! products and their bounds -/
theorem mul_bd {x y A B : Int} (hx : -A ≤ x ∧ x ≤ A) (hy : 0 ≤ y ∧ y ≤ B) : -(A * B) ≤ x * y ∧ x * y ≤ A * B := by
  have hA : 0 ≤ A := by omega
  constructor
  · have h1 : -A * y ≤ x * y := Int.mul_le_mul_of_nonneg_right hx.1 hy.1
    have h2 : A * y ≤ A * B := Int.mul_le_mul_of_nonneg_left hy.2 hA
    have h3 : -A * y = -(A * y) := Int.neg_mul A y
    omega
  · have h1 : x * y ≤ A * y := Int.mul_le_mul_of_nonneg_right hx.2 hy.1
    have h2 : A * y ≤ A * B := Int.mul_le_mul_of_nonneg_left hy.2 hA
    omega
theorem mul_nn {x y A B : Int} (hx : 0 ≤ x ∧ x ≤ A) (hy : 0 ≤ y ∧ y ≤ B) : 0 ≤ x * y ∧ x * y ≤ A * B :=
  ⟨Int.mul_nonneg hx.1 hy.1, (mul_bd (A := A) (B := B) ⟨by omega, hx.2⟩ hy).2⟩
theorem atI_bd {cn : Int} {f : Nat → Int} {h lo hi : Int} (hf : Bd lo hi f) (h0 : lo ≤ 0) (h1 : 0 ≤ hi) : lo ≤ atI cn f h ∧ atI cn f h ≤ hi := by
  unfold atI
  split
  · exact hf _
  · exact ⟨h0, h1⟩
theorem spdI_bd {cn : Int} {so tu : Nat → Int} {h : Int} (hf : Bd 0 12 tu) : -24 ≤ spdI cn so tu h ∧ spdI cn so tu h ≤ 24 := by
  have := atI_bd (cn := cn) (h := h) hf (by omega) (by omega)
  unfold spdI
  split
  · omega
  · split <;> omega
theorem restI_bd {n w : Int} : 0 ≤ restI n w ∧ (0 < w → restI n w < w) := by
  unfold restI
  split
  · exact ⟨Int.le_refl _, fun h => by omega⟩
  · exact ⟨Int.emod_nonneg _ (by omega), fun _ => Int.emod_lt_of_pos _ (by omega)⟩
theorem xor_neg {x y : Int} (hx : R32 x) (hy : R32 y) (h : 0 < y) : (iI x ^^^ iI y).toInt < 0 ↔ x < 0 := by
  have e : ∀ z : Int, R32 z → ((iI z).toBitVec.msb = true ↔ z < 0) := fun z hz => by
    rw [BitVec.msb_eq_toInt]
    show decide ((iI z).toInt < 0) = true ↔ z < 0
    rw [iI_toInt hz]
    exact decide_eq_true_iff
  have e2 : (iI x ^^^ iI y).toInt < 0 ↔ (iI x ^^^ iI y).toBitVec.msb = true := by
    rw [BitVec.msb_eq_toInt]
    show (iI x ^^^ iI y).toInt < 0 ↔ decide ((iI x ^^^ iI y).toInt < 0) = true
    exact decide_eq_true_iff.symm
  rw [e2, ← e x hx]
  have ey : (iI y).toBitVec.msb = false := by
    cases hq : (iI y).toBitVec.msb with
    | false => rfl
    | true => have := (e y hy).mp hq; omega
  rw [Int32.toBitVec_xor, BitVec.msb_xor, ey, Bool.xor_false]
def iXor (a b : Int) : Int := (iI a ^^^ iI b).toInt
theorem iXor_r (a b : Int) : R32 (iXor a b) := iI_r _
theorem tmod_emod {x y : Int} (h : 0 < y) : x % y = if x.tmod y < 0 then x.tmod y + y else x.tmod y := by
  have h1 := Int.tmod_add_mul_tdiv x y
  split
  next hn =>
    have h2 : -y < x.tmod y := by have := Int.lt_tmod_of_pos x h; omega
    have : x = (x.tmod y + y) + y * (x.tdiv y - 1) := by rw [Int.mul_sub]; omega
    rw [this, Int.add_mul_emod_self_left, Int.emod_eq_of_lt (by omega) (by omega)]
    rw [← this]
  next hn =>
    have h2 : x.tmod y < y := Int.tmod_lt_of_pos x h
    have : x = x.tmod y + y * x.tdiv y := by omega
    rw [this, Int.add_mul_emod_self_left, Int.emod_eq_of_lt (by omega) (by omega)]
    rw [← this]
theorem tmod_neg {x y : Int} (h : 0 < y) : (x.tmod y < 0 → x < 0) ∧ (0 < x.tmod y → 0 ≤ x) := by
  constructor
  · intro h1
    rcases Int.lt_or_le x 0 with q | q
    · exact q
    · have := Int.tmod_nonneg y q; omega
  · intro h1
    rcases Int.lt_or_le x 0 with q | q
    · have h2 : 0 ≤ (-x).tmod y := Int.tmod_nonneg y (by omega)
      rw [Int.neg_tmod] at h2
      omega
    · exact q
theorem iXor_neg {x y : Int} (hx : R32 x) (hy : R32 y) (h : 0 < y) : iXor x y < 0 ↔ x < 0 := xor_neg hx hy h
theorem v_ixor {g : Gx} {x : Xt} {Ts : List Cond} {own : String} {cc : ByteArray} {nL : Nat} {rm : Room} {cs sl : Nat} {ws : va_W} {lo : List (Option Value)} {pc : Nat} {st : List Value} (X : Xo g x Ts own cc nL rm) {a b : Int} (hdg : decode cc pc = .ok (.ixor, 1)) (k : V g x cs sl ws lo (pc + 1) (.int (iI (iXor a b)) :: st)) : V g x cs sl ws lo pc (.int (iI b) :: .int (iI a) :: st) := by
  obtain ⟨⟨p, e, s, m, args⟩, ⟨below, meth, c, A, nL0, R, Q⟩⟩ := x
  obtain ⟨hx, hb, hml, hown, hts, hK, hA, hE, hlk, rfl, rfl⟩ := X
  intro H locs ls hP hD hS hl
  have k2 := k H locs ls hP hD hS hl
  unfold iXor at k2
  rw [iI_of] at k2
  exact lv_ixor hx hb hdg k2
theorem gcd_step {g l : Int} (hg : 0 ≤ g) (hl : 0 ≤ l) : Int.gcd l (g.tmod l) = Int.gcd g l := by
  obtain ⟨m, rfl⟩ := Int.eq_ofNat_of_zero_le hg
  obtain ⟨n, rfl⟩ := Int.eq_ofNat_of_zero_le hl
  rw [← Int.ofNat_tmod]
  show Nat.gcd n (m % n) = Nat.gcd m n
  rw [Nat.gcd_comm n, ← Nat.gcd_rec n m, Nat.gcd_comm]
def PG (g l s : Int) : Prop := s = 0 ∨ (l ≤ g ∧ g.toNat * l.toNat * 2 ^ (s.toNat - 1) ≤ 2 ^ 62)
theorem PG_0 (g l : Int) : PG g l 0 := Or.inl rfl
theorem PG_step {g l s : Int} (hg : 0 ≤ g) (hg2 : g ≤ 2147483647) (hl : 0 < l) (hl2 : l ≤ 2147483647) (hs : 0 ≤ s) (h : PG g l s) : PG l (g.tmod l) (s + 1) := by
  obtain ⟨m, rfl⟩ := Int.eq_ofNat_of_zero_le hg
  obtain ⟨n, rfl⟩ := Int.eq_ofNat_of_zero_le (Int.le_of_lt hl)
  obtain ⟨k, rfl⟩ := Int.eq_ofNat_of_zero_le hs
  rw [← Int.ofNat_tmod]
  have hn : 0 < n := by omega
  have hr := Nat.mod_lt m hn
  refine Or.inr ⟨by omega, ?_⟩
  have e1 : ((k : Int) + 1).toNat - 1 = k := by omega
  rw [e1]
  show n * (m % n) * 2 ^ k ≤ 2 ^ 62
  cases k with
  | zero =>
    have h1 : n * (m % n) ≤ 2147483648 * 2147483648 := Nat.mul_le_mul (by omega) (by omega)
    simpa using h1
  | succ k =>
    rcases h with h | ⟨h1, h2⟩
    · exfalso; omega
    · have e2 : (((k + 1 : Nat) : Int)).toNat - 1 = k := by omega
      rw [e2] at h2
      have h2 : m * n * 2 ^ k ≤ 2 ^ 62 := h2
      have h3 := Nat.div_add_mod m n
      have h4 : 1 ≤ m / n := Nat.div_pos (by omega) hn
      have h5 : n * 1 ≤ n * (m / n) := Nat.mul_le_mul_left n h4
      have h6 : m % n * 2 ≤ m := by omega
      calc n * (m % n) * 2 ^ (k + 1) = n * (m % n * 2) * 2 ^ k := by rw [Nat.pow_succ, Nat.mul_comm (2 ^ k) 2, ← Nat.mul_assoc, Nat.mul_assoc n]
        _ ≤ n * m * 2 ^ k := Nat.mul_le_mul_right _ (Nat.mul_le_mul_left n h6)
        _ = m * n * 2 ^ k := by rw [Nat.mul_comm n m]
        _ ≤ 2 ^ 62 := h2
theorem PG_end {g l : Int} (hl : 0 ≤ l) (h : PG g l 64) : l = 0 := by
  rcases h with h | ⟨h1, h2⟩
  · exfalso; omega
  · obtain ⟨n, rfl⟩ := Int.eq_ofNat_of_zero_le hl
    obtain ⟨m, rfl⟩ := Int.eq_ofNat_of_zero_le (Int.le_trans hl h1)
    have h3 : m * n * 2 ^ 63 ≤ 2 ^ 62 := h2
    rcases Nat.eq_zero_or_pos n with q | q
    · rw [q]; rfl
    · exfalso
      have h4 : 1 ≤ m * n := Nat.mul_pos (by omega) q
      have h5 : 1 * 2 ^ 63 ≤ m * n * 2 ^ 63 := Nat.mul_le_mul_right _ h4
      omega
theorem gcd_0 {g : Int} (h : 0 ≤ g) : ((Int.gcd g 0 : Nat) : Int) = g := by
  rw [Int.gcd_zero_right]
  omega
theorem gcd_le {a b M : Int} (ha : 0 ≤ a) (hb : 0 ≤ b) (hm : 0 ≤ M) (h1 : a ≤ M) (h2 : b ≤ M) : ((Int.gcd a b : Nat) : Int) ≤ M := by
  obtain ⟨m, rfl⟩ := Int.eq_ofNat_of_zero_le ha
  obtain ⟨n, rfl⟩ := Int.eq_ofNat_of_zero_le hb
  show ((Nat.gcd m n : Nat) : Int) ≤ M
  rcases Nat.eq_zero_or_pos m with q | q
  · subst q; rw [Nat.gcd_zero_left]; exact h2
  · have := Nat.gcd_le_left n q; omega
/-! worlds of the objects -/
abbrev wClk (g : Gx) (a a1 a2 a3 : Nat) (mk cn : Int) (so tu sp : Nat → Int) : va_W := [(a, .inr (2, [.ref a1, .ref a2, .ref a3, .int (iI mk), .int (iI cn)])), (a1, aI g 4 so), (a2, aI g 4 tu), (a3, aI g 4 sp)]
abbrev wRow (g : Gx) (a a1 a2 a3 : Nat) (it la le : Nat → Int) : va_W := [(a, .inr (5, [.ref a1, .ref a2, .ref a3])), (a1, aI g 320 it), (a2, aI g 8 la), (a3, aI g 8 le)]
abbrev wTap (g : Gx) (a a1 : Nat) (bt : Nat → Int) (ln tk fm tt ft : Int) : va_W := [(a, .inr (6, [.ref a1, .int (iI ln), .int (iI tk), .int (iI fm), .int (iI tt), .int (iI ft)])), (a1, aI g 200 bt)]
abbrev wAct (g : Gx) (a a1 a2 : Nat) (hs ss : Nat → Int) (ln : Int) : va_W := [(a, .inr (0, [.ref a1, .ref a2, .int (iI ln)])), (a1, aI g 24 hs), (a2, aI g 24 ss)]
abbrev wAsk (g : Gx) (a a1 : Nat) (bo : Nat → Int) (ln : Int) : va_W := [(a, .inr (1, [.ref a1, .int (iI ln)])), (a1, aI g 16 bo)]
abbrev wDou (g : Gx) (a : Nat) (wh sh mo fo : Int) : va_W := [(a, .inr (3, [.int (iI wh), .int (iI sh), .int (iI mo), .int (iI fo)]))]
abbrev wRea (g : Gx) (a a1 a2 : Nat) (ar sp : Nat → Int) (cn pa : Int) : va_W := [(a, .inr (4, [.ref a1, .ref a2, .int (iI cn), .int (iI pa)])), (a1, aI g 4 ar), (a2, aI g 4 sp)]
theorem tdiv_of_nn {a b : Int} (h : 0 ≤ a) : a.tdiv b = a / b := Int.tdiv_eq_ediv_of_nonneg h
/-! rows, counts -/
def cntN (f : Nat → Bool) : Nat → Int
  | 0 => 0
  | n + 1 => cntN f n + (if f n = true then 1 else 0)
theorem cntN_s {f : Nat → Bool} {i : Int} (h : 0 ≤ i) : cntN f (i + 1).toNat = cntN f i.toNat + (if f i.toNat = true then 1 else 0) := by
  rw [show (i + 1).toNat = i.toNat + 1 by omega]
  rfl
theorem cntN_bd (f : Nat → Bool) : ∀ n : Nat, 0 ≤ cntN f n ∧ cntN f n ≤ n := by
  intro n
  induction n with
  | zero => exact ⟨Int.le_refl _, Int.le_refl _⟩
  | succ n ih =>
    simp only [cntN]
    split <;> omega
def lanI (la : Nat → Int) (r : Int) : Int := if 0 ≤ r ∧ r < 8 then la r.toNat else -1
theorem lanI_bd {la : Nat → Int} {r : Int} (h : Bd (-1) 2 la) : -1 ≤ lanI la r ∧ lanI la r ≤ 2 := by
  unfold lanI
  split
  · exact h _
  · omega
def rchI (le : Nat → Int) (r i n : Int) : Int := if 0 ≤ i ∧ 0 ≤ n ∧ i ≤ atI 8 le r - n then 1 else 0
def wrgI (la le : Nat → Int) (r i n : Int) : Int := if lanI la r = -1 then 1 else if rchI le r i n = 1 then 0 else 2
def itmI (it le : Nat → Int) (r i : Int) : Int := if 0 ≤ r ∧ r < 8 ∧ rchI le r i 1 = 1 then it (r * 40 + i).toNat else 0
def cutI (l v : Int) : Int := if l = 0 then iByte v else if l = 1 then iShort v else v
theorem iByte_bd (a : Int) : -128 ≤ iByte a ∧ iByte a ≤ 127 := by
  unfold iByte
  have h1 := (iI a).toInt8.le_toInt
  have h2 := (iI a).toInt8.toInt_lt
  omega
theorem iShort_bd (a : Int) : -32768 ≤ iShort a ∧ iShort a ≤ 32767 := by
  unfold iShort
  have h1 := (iI a).toInt16.le_toInt
  have h2 := (iI a).toInt16.toInt_lt
  omega
theorem cutI_bd {l v : Int} (h : R32 v) : R32 (cutI l v) := by
  have := iByte_bd v
  have := iShort_bd v
  unfold cutI
  split
  · omega
  · split <;> omega
theorem rchI_bd (le : Nat → Int) (r i n : Int) : rchI le r i n = 0 ∨ rchI le r i n = 1 := by
  unfold rchI
  split <;> omega
theorem itmI_bd {it le : Nat → Int} {r i : Int} (h : Bd (-2147483648) 2147483647 it) : R32 (itmI it le r i) := by
  unfold itmI
  split
  · exact h _
  · omega
theorem updI_e {f : Nat → Int} {k j : Nat} {x : Int} : updI f k x j = if j = k then x else f j := rfl
/-! a statement as a truth value -/
noncomputable def pB (P : Prop) : Bool := @decide P (Classical.propDecidable P)
theorem pB_iff {P : Prop} : pB P = true ↔ P := @decide_eq_true_iff P (Classical.propDecidable P)
noncomputable def pI (P : Prop) : Int := if pB P = true then 1 else 0
theorem pI_1 {P : Prop} (h : P) : pI P = 1 := if_pos (pB_iff.mpr h)
theorem pI_0 {P : Prop} (h : ¬ P) : pI P = 0 := if_neg (fun q => h (pB_iff.mp q))
theorem pI_or (P : Prop) : (P ∧ pI P = 1) ∨ (¬ P ∧ pI P = 0) := by
  by_cases h : P
  · exact Or.inl ⟨h, pI_1 h⟩
  · exact Or.inr ⟨h, pI_0 h⟩
/-! the trace -/
abbrev TS : Type := (Nat → Int) × Int
def lvT (t : TS) (b : Int) : TS := if t.2 < 16 then (updI t.1 t.2.toNat b, t.2 + 1) else t
theorem lvT_bd {t : TS} {b : Int} (h : 0 ≤ t.2 ∧ t.2 ≤ 16) : 0 ≤ (lvT t b).2 ∧ (lvT t b).2 ≤ 16 := by
  unfold lvT
  split
  · show 0 ≤ t.2 + 1 ∧ t.2 + 1 ≤ 16
    omega
  · exact h
def hMk (cn : Int) (so sp : Nat → Int) (h : Int) : Int := if atI cn so h = 3 then h + atI cn sp h - 1000 else if atI cn so h = 2 then 2 * (h + atI cn sp h) else h + atI cn sp h
def hMkT (cn : Int) (so : Nat → Int) (h : Int) (t : TS) : TS := if atI cn so h = 3 then lvT (lvT (lvT t 22) 21) 20 else if atI cn so h = 2 then lvT (lvT (lvT t 24) 21) 20 else lvT (lvT t 21) 20
def hSz (cn : Int) (so tu sp : Nat → Int) (h : Int) : Int := if atI cn so h = 2 then -(atI cn tu h + hMk cn so sp h) else atI cn tu h + hMk cn so sp h
def hSzT (cn : Int) (so : Nat → Int) (h : Int) (t : TS) : TS := if atI cn so h = 2 then hMkT cn so h (lvT (lvT (lvT t 12) 11) 10) else hMkT cn so h (lvT (lvT t 11) 10)
def bSz (cn : Int) (so tu : Nat → Int) (h : Int) : Int := if atI cn so h = 5 then 2 * (atI cn tu h - 100) else atI cn tu h - 100
def bSzT (cn : Int) (so : Nat → Int) (h : Int) (t : TS) : TS := if atI cn so h = 5 then lvT (lvT (lvT t 14) 13) 10 else lvT (lvT t 13) 10
/-! doubts -/
theorem sq_bd {a M : Int} (h : -M ≤ a ∧ a ≤ M) : 0 ≤ a * a ∧ a * a ≤ M * M := by
  have hM : 0 ≤ M := by omega
  constructor
  · rcases Int.le_total 0 a with q | q
    · exact Int.mul_nonneg q q
    · have := Int.mul_nonneg (show 0 ≤ -a by omega) (show 0 ≤ -a by omega)
      rwa [Int.neg_mul_neg] at this
  · rcases Int.le_total 0 a with q | q
    · exact (mul_nn ⟨q, h.2⟩ ⟨q, h.2⟩).2
    · have := (mul_nn (x := -a) (y := -a) (A := M) (B := M) ⟨by omega, by omega⟩ ⟨by omega, by omega⟩).2
      rwa [Int.neg_mul_neg] at this
def absI (a : Int) : Int := if 0 ≤ a then a else -a
def whoI (a b : Int) : Int := absI (a * a - b * b)
def shaI (a b : Int) : Int := (Int.gcd (absI a) (absI b) : Int)
def momI (a b : Int) : Int := whoI a b / shaI a b
def lsQ (wh sh a b j : Int) : Prop := restI (b * j - a * sh) wh = 0 ∧ restI (a * j - b * sh) wh = 0
/-- r is the least such j below mo; 0 where there is none -/
def LsO (wh sh mo a b r : Int) : Prop := (0 ≤ r ∧ r < mo ∧ lsQ wh sh a b r ∧ ∀ i : Int, 0 ≤ i → i < r → ¬ lsQ wh sh a b i) ∨ (r = 0 ∧ ∀ i : Int, 0 ≤ i → i < mo → ¬ lsQ wh sh a b i)
def othI (mo sh fo k : Int) : Int := if restI (k * fo) mo ≠ k * sh then restI (k * fo) mo else if 1 < sh then restI (k * fo) mo + mo else -1
theorem absI_bd {a M : Int} (h : -M ≤ a ∧ a ≤ M) : 0 ≤ absI a ∧ absI a ≤ M := by
  unfold absI
  split <;> omega
/-! readings -/
def gapI (ar sp : Nat → Int) (pa base turn h : Int) : Int :=
  if absI (atI 4 sp base) * pa - restI (atI 4 sp h * (atI 4 ar base + turn * pa) - atI 4 ar h * atI 4 sp base) (absI (atI 4 sp base) * pa) < restI (atI 4 sp h * (atI 4 ar base + turn * pa) - atI 4 ar h * atI 4 sp base) (absI (atI 4 sp base) * pa) then absI (atI 4 sp base) * pa - restI (atI 4 sp h * (atI 4 ar base + turn * pa) - atI 4 ar h * atI 4 sp base) (absI (atI 4 sp base) * pa) else restI (atI 4 sp h * (atI 4 ar base + turn * pa) - atI 4 ar h * atI 4 sp base) (absI (atI 4 sp base) * pa)
def FitA (ar sp : Nat → Int) (cn pa base turn wo : Int) : Prop := ∀ h : Int, 0 ≤ h → h < cn → h ≠ wo → gapI ar sp pa base turn h = 0
def basI (wo : Int) : Int := if wo = 0 then 1 else 0
def FitW (ar sp : Nat → Int) (cn pa wo : Int) : Prop := cn ≤ basI wo ∨ ∃ turn : Int, 0 ≤ turn ∧ turn < absI (atI 4 sp (basI wo)) ∧ FitA ar sp cn pa (basI wo) turn wo
def bitsN (b : Nat → Bool) : Nat → Int
  | 0 => 0
  | n + 1 => if b n = true then iOr (bitsN b n) (iShl 1 n) else bitsN b n
theorem iOr_r (a b : Int) : R32 (iOr a b) := iI_r _
theorem iShl_r (a b : Int) : R32 (iShl a b) := iI_r _
theorem bitsN_r (b : Nat → Bool) : ∀ n : Nat, R32 (bitsN b n) := by
  intro n
  induction n with
  | zero => exact (show R32 0 by omega)
  | succ n ih =>
    simp only [bitsN]
    split
    · exact iOr_r _ _
    · exact ih
theorem bitsN_s {b : Nat → Bool} {i : Int} (h : 0 ≤ i) : bitsN b (i + 1).toNat = if b i.toNat = true then iOr (bitsN b i.toNat) (iShl 1 i) else bitsN b i.toNat := by
  rw [show (i + 1).toNat = i.toNat + 1 by omega]
  simp only [bitsN]
  rw [show ((i.toNat : Nat) : Int) = i by omega]
def lmN (b : Nat → Bool) (f : Nat → Int) : Nat → Int
  | 0 => -1
  | n + 1 => if b n = true then (if lmN b f n < 0 then f n else if f n < lmN b f n then f n else lmN b f n) else lmN b f n
theorem lmN_s {b : Nat → Bool} {f : Nat → Int} {i : Int} (h : 0 ≤ i) : lmN b f (i + 1).toNat = if b i.toNat = true then (if lmN b f i.toNat < 0 then f i.toNat else if f i.toNat < lmN b f i.toNat then f i.toNat else lmN b f i.toNat) else lmN b f i.toNat := by
  rw [show (i + 1).toNat = i.toNat + 1 by omega]
  rfl
theorem restI_le {n w M : Int} (h1 : w ≤ M) (h2 : 0 ≤ M) : restI n w ≤ M := by
  have := restI_bd (n := n) (w := w)
  unfold restI at this ⊢
  split
  · exact h2
  next h => rw [if_neg h] at this; have := this.2 (by omega); omega
theorem restI_r {n w : Int} (h : w ≤ 2147483647) : R32 (restI n w) := ⟨Int.le_trans (by decide) restI_bd.1, restI_le h (by decide)⟩
theorem momI_bd {a b : Int} (h1 : 0 ≤ whoI a b ∧ whoI a b ≤ 576) (h2 : 0 ≤ shaI a b ∧ shaI a b ≤ 24) : 0 ≤ momI a b ∧ momI a b ≤ 576 := by
  unfold momI
  refine ⟨Int.ediv_nonneg h1.1 h2.1, ?_⟩
  have := Int.ediv_le_self (shaI a b) h1.1
  omega
theorem othI_bd {mo sh fo k : Int} (h : 0 ≤ mo ∧ mo ≤ 576) : -1 ≤ othI mo sh fo k ∧ othI mo sh fo k ≤ 1152 := by
  have h1 := restI_bd (n := k * fo) (w := mo)
  have h2 : restI (k * fo) mo ≤ 576 := restI_le h.2 (by decide)
  unfold othI
  split
  · omega
  · split <;> omega
theorem gapI_bds {ar sp : Nat → Int} {pa b t h : Int} (hsp : Bd (-24) 24 sp) (hpa : 1 ≤ pa ∧ pa ≤ 720) : 0 ≤ gapI ar sp pa b t h ∧ gapI ar sp pa b t h ≤ 17280 := by
  have m1 := atI_bd (cn := 4) (h := b) hsp (by omega) (by omega)
  have m2 := absI_bd m1
  have m3 := mul_nn m2 (show 0 ≤ pa ∧ pa ≤ 720 by omega)
  have m4 := restI_bd (n := atI 4 sp h * (atI 4 ar b + t * pa) - atI 4 ar h * atI 4 sp b) (w := absI (atI 4 sp b) * pa)
  have m5 : restI (atI 4 sp h * (atI 4 ar b + t * pa) - atI 4 ar h * atI 4 sp b) (absI (atI 4 sp b) * pa) ≤ absI (atI 4 sp b) * pa := restI_le (Int.le_refl _) m3.1
  unfold gapI
  split <;> omega
theorem gapI_r {ar sp : Nat → Int} {pa b t h : Int} (hsp : Bd (-24) 24 sp) (_ : Bd 0 719 ar) (hpa : 1 ≤ pa ∧ pa ≤ 720) : R32 (gapI ar sp pa b t h) := by
  have := gapI_bds (ar := ar) (b := b) (t := t) (h := h) hsp hpa
  omega
theorem gapI_nn {ar sp : Nat → Int} {pa b t h : Int} (hsp : Bd (-24) 24 sp) (_ : Bd 0 719 ar) (hpa : 1 ≤ pa ∧ pa ≤ 720) : 0 ≤ gapI ar sp pa b t h := (gapI_bds hsp hpa).1
noncomputable def lmI (ar sp : Nat → Int) (cn pa : Int) : Int := if cn - 1 < 1 then 0 else lmN (fun t => pB (FitA ar sp cn pa 0 t (cn - 1))) (fun t => gapI ar sp pa 0 t (cn - 1)) (absI (atI 4 sp 0)).toNat
section VB
variable {g : Gx} {x : Xt} {Ts : List Cond} {own : String} {cc : ByteArray} {nL : Nat} {rm : Room} {cs sl : Nat} {ws : va_W} {lo : List (Option Value)} {pc : Nat} {st : List Value}
theorem v_ifb_eq (X : Xo g x Ts own cc nL rm) {P : Prop} [Decidable P] {off : Int} {tgt : Nat} (hdg : decode cc pc = .ok (.ifCond .eq off, 3)) (ht : (pc : Int) + off = (tgt : Int)) (kt : ¬ P → V g x cs sl ws lo tgt st) (kf : P → V g x cs sl ws lo (pc + 3) st) : V g x cs sl ws lo pc (.int (iI (if P then 1 else 0)) :: st) := by
  by_cases h : P
  · rw [if_pos h]
    exact v_if_eq X hdg ht (by decide) (fun q => by omega) (fun _ => kf h)
  · rw [if_neg h]
    exact v_if_eq X hdg ht (by decide) (fun _ => kt h) (fun q => by omega)
theorem v_ifb_ne (X : Xo g x Ts own cc nL rm) {P : Prop} [Decidable P] {off : Int} {tgt : Nat} (hdg : decode cc pc = .ok (.ifCond .ne off, 3)) (ht : (pc : Int) + off = (tgt : Int)) (kt : P → V g x cs sl ws lo tgt st) (kf : ¬ P → V g x cs sl ws lo (pc + 3) st) : V g x cs sl ws lo pc (.int (iI (if P then 1 else 0)) :: st) := by
  by_cases h : P
  · rw [if_pos h]
    exact v_if_ne X hdg ht (by decide) (fun _ => kt h) (fun q => by omega)
  · rw [if_neg h]
    exact v_if_ne X hdg ht (by decide) (fun q => by omega) (fun _ => kf h)
end VB
section VP
variable {g : Gx} {x : Xt} {Ts : List Cond} {own : String} {cc : ByteArray} {nL : Nat} {rm : Room} {cs sl : Nat} {ws : va_W} {lo : List (Option Value)} {pc : Nat} {st : List Value}
theorem v_ifp_eq (X : Xo g x Ts own cc nL rm) {P : Prop} {off : Int} {tgt : Nat} (hdg : decode cc pc = .ok (.ifCond .eq off, 3)) (ht : (pc : Int) + off = (tgt : Int)) (kt : ¬ P → V g x cs sl ws lo tgt st) (kf : P → V g x cs sl ws lo (pc + 3) st) : V g x cs sl ws lo pc (.int (iI (pI P)) :: st) := by
  rcases pI_or P with ⟨h, e⟩ | ⟨h, e⟩
  · rw [e]
    exact v_if_eq X hdg ht (by decide) (fun q => by omega) (fun _ => kf h)
  · rw [e]
    exact v_if_eq X hdg ht (by decide) (fun _ => kt h) (fun q => by omega)
theorem v_ifp_ne (X : Xo g x Ts own cc nL rm) {P : Prop} {off : Int} {tgt : Nat} (hdg : decode cc pc = .ok (.ifCond .ne off, 3)) (ht : (pc : Int) + off = (tgt : Int)) (kt : P → V g x cs sl ws lo tgt st) (kf : ¬ P → V g x cs sl ws lo (pc + 3) st) : V g x cs sl ws lo pc (.int (iI (pI P)) :: st) := by
  rcases pI_or P with ⟨h, e⟩ | ⟨h, e⟩
  · rw [e]
    exact v_if_ne X hdg ht (by decide) (fun _ => kt h) (fun q => by omega)
  · rw [e]
    exact v_if_ne X hdg ht (by decide) (fun q => by omega) (fun _ => kf h)
end VP
theorem gcd_pos {a b : Int} (h : 0 < b) : 0 < ((Int.gcd a b : Nat) : Int) := by
  have h1 : 0 < Int.gcd a b := Nat.pos_of_ne_zero (fun e => by have := (Int.gcd_eq_zero_iff.mp e).2; omega)
  omega
def kndI (w : Int) : Int := if w = 1752135026 then 1 else if w = 1836019566 then 2 else if w = 495924372848 then 3 else if w = 1650549611 then 4 else if w = 1953064037 then 5 else -1000000
def kM (fc : Nat → Int) : Nat → Int := fun j => fc (2 + 3 * j)
def tM (fc : Nat → Int) : Nat → Int := fun j => fc (3 + 3 * j)
def sM (fc : Nat → Int) : Nat → Int := fun j => fc (4 + 3 * j)
def spdM (fc : Nat → Int) (h : Int) : Int := spdI 4 (kM fc) (tM fc) h
theorem kM_at {fc : Nat → Int} {h : Int} (hh : 0 ≤ h ∧ h ≤ 3) : fc (2 + 3 * h + 0).toNat = atI 4 (kM fc) h := by
  unfold atI kM
  rw [if_pos (by omega), show (2 + 3 * h + 0).toNat = 2 + 3 * h.toNat by omega]
theorem tM_at {fc : Nat → Int} {h : Int} (hh : 0 ≤ h ∧ h ≤ 3) : fc (2 + 3 * h + 1).toNat = atI 4 (tM fc) h := by
  unfold atI tM
  rw [if_pos (by omega), show (2 + 3 * h + 1).toNat = 3 + 3 * h.toNat by omega]
theorem sM_at {fc : Nat → Int} {h : Int} (hh : 0 ≤ h ∧ h ≤ 3) : fc (2 + 3 * h + 2).toNat = atI 4 (sM fc) h := by
  unfold atI sM
  rw [if_pos (by omega), show (2 + 3 * h + 2).toNat = 4 + 3 * h.toNat by omega]
abbrev wMod (g : Gx) (A : Nat → Nat) (th sq ac td lt ln cu tk sa ti ft fp le lf tr : Int) (fl fm fi fc ff fw ftp fk fe fr : Nat → Int) : va_W := [(A 0, .inr (8, [.int (iI th), .int (iI sq), .ref (A 1), .ref (A 2), .ref (A 3), .ref (A 4), .ref (A 5), .ref (A 6), .int (iI ac), .ref (A 7), .int (iI td), .int (iI lt), .int (iI ln), .int (iI cu), .int (iI tk), .int (iI sa), .int (iI ti), .int (iI ft), .int (iI fp), .int (iI le), .int (iI lf), .ref (A 8), .ref (A 9), .ref (A 10), .int (iI tr)])), (A 1, aI g 8 fl), (A 2, aI g 8 fm), (A 3, aI g 320 fi), (A 4, aI g 14 fc), (A 5, aI g 14 ff), (A 6, aI g 336 fw), (A 7, aI g 200 ftp), (A 8, aZ g 2 fk), (A 9, aI g 28 fe), (A 10, aI g 16 fr)]
/-! the model's searches -/
def othS (P : Int → Bool) : Nat → Int → Int
  | 0, _ => -1000000
  | k + 1, y => if P y = true then y else othS P k (y + 1)
theorem othS_s {P : Int → Bool} {n y : Int} (h : y < n) : othS P (n - y).toNat y = if P y = true then y else othS P (n - (y + 1)).toNat (y + 1) := by
  rw [show (n - y).toNat = (n - (y + 1)).toNat + 1 by omega]
  rfl
theorem othS_bd {P : Int → Bool} : ∀ (k : Nat) (y : Int), othS P k y = -1000000 ∨ (y ≤ othS P k y ∧ othS P k y < y + k ∧ P (othS P k y) = true) := by
  intro k
  induction k with
  | zero => intro y; exact Or.inl rfl
  | succ k ih =>
    intro y
    simp only [othS]
    split
    next h => exact Or.inr ⟨Int.le_refl _, by omega, h⟩
    next h =>
      rcases ih (y + 1) with q | q
      · exact Or.inl q
      · exact Or.inr ⟨by omega, by omega, q.2.2⟩
def othQ (sa sb n x y : Int) : Bool := decide (y ≠ x ∧ (sa * x - sb * y).tmod n = 0 ∧ (sb * x - sa * y).tmod n = 0)
def othM (sa sb x : Int) : Int := othS (othQ sa sb (whoI sa sb) x) (whoI sa sb).toNat 0
theorem othM_bd {sa sb x : Int} (h : 0 ≤ whoI sa sb ∧ whoI sa sb ≤ 576) : othM sa sb x = -1000000 ∨ (0 ≤ othM sa sb x ∧ othM sa sb x < whoI sa sb) := by
  unfold othM
  rcases othS_bd (P := othQ sa sb (whoI sa sb) x) (whoI sa sb).toNat 0 with q | q
  · exact Or.inl q
  · exact Or.inr ⟨q.1, by omega⟩
theorem spdM_bd {fc : Nat → Int} {h : Int} (ht : Bd 0 12 (tM fc)) : -24 ≤ spdM fc h ∧ spdM fc h ≤ 24 := spdI_bd ht
theorem tmod_r {a n : Int} (hn : 0 < n ∧ n ≤ 2147483647) : R32 (a.tmod n) := by
  have h1 := Int.tmod_lt_of_pos a hn.1
  have h2 := Int.lt_tmod_of_pos a hn.1
  omega
theorem whoI_bd {a b : Int} (ha : -24 ≤ a ∧ a ≤ 24) (hb : -24 ≤ b ∧ b ≤ 24) : 0 ≤ whoI a b ∧ whoI a b ≤ 576 := by
  have m1 := sq_bd ha
  have m2 := sq_bd hb
  exact absI_bd (M := 576) (by omega)
/-- the model's next: the first part from 'from' on, wrapped, that is so -/
def nxS (P : Int → Bool) (n : Int) : Nat → Int → Int
  | 0, _ => -1
  | k + 1, p => if P (p.tmod n) = true then p.tmod n else nxS P n k (p + 1)
def isS (h p : Int) : Bool := decide ((h = 0 ∧ p % 4 = 0) ∨ (h = 1 ∧ p % 4 = 2) ∨ (h = 2 ∧ p % 2 = 1))
theorem nxS_s {P : Int → Bool} {n k f : Int} (h : k < n) : nxS P n (n - k).toNat (f + k) = if P ((f + k).tmod n) = true then (f + k).tmod n else nxS P n (n - (k + 1)).toNat (f + (k + 1)) := by
  rw [show (n - k).toNat = (n - (k + 1)).toNat + 1 by omega]
  simp only [nxS]
  rw [show f + k + 1 = f + (k + 1) by omega]
def gcdN (f : Nat → Int) : Nat → Int
  | 0 => 0
  | n + 1 => ((Int.gcd (gcdN f n) (f n) : Nat) : Int)
theorem gcdN_bd {f : Nat → Int} {M : Int} (hf : ∀ j, 0 ≤ f j ∧ f j ≤ M) : ∀ n, 0 ≤ gcdN f n ∧ gcdN f n ≤ M := by
  intro n
  have hM : 0 ≤ M := by have := hf 0; omega
  induction n with
  | zero => exact ⟨Int.le_refl _, hM⟩
  | succ n ih => exact ⟨by simp only [gcdN]; omega, gcd_le ih.1 (hf n).1 hM ih.2 (hf n).2⟩
def arcM (fc : Nat → Int) (h p q : Int) : Int := restI (spdM fc h * p * fc 0 + atI 4 (sM fc) h * q) (q * fc 0)
theorem arcM_bd {fc : Nat → Int} {h p q M : Int} (hM : q * fc 0 ≤ M) (h0 : 0 ≤ M := by decide) : 0 ≤ arcM fc h p q ∧ arcM fc h p q ≤ M := ⟨restI_bd.1, restI_le hM h0⟩
def nxM (d h p q : Int) : Int := nxS (isS h) (4 * d) (4 * d).toNat ((p * (4 * d) + q - 1) / q)
def allM (fc : Nat → Int) : Int := gcdN (fun j => absI (spdM fc ((j : Int) + 1) - spdM fc 0)) (fc 1 - 1).toNat
abbrev oAH (g : Gx) (B : Nat → Nat) (lf fi : Int) : Nat × va_E := (B 0, .inr (7, [.ref (B 1), .ref (B 2), .ref (B 3), .ref (B 4), .ref (B 5), .ref (B 6), .ref (B 7), .ref (B 8), .ref (B 9), .ref (B 10), .int (iI lf), .int (iI fi)]))
def fmI (b h p q : Int) : Int := if h ≠ 0 ∧ (b * p + q - 1) / q % 2 = 0 then (if (b * p + q - 1) / q + 1 < b then (b * p + q - 1) / q + 1 else if h = 0 then 0 else 1) else (if (b * p + q - 1) / q < b then (b * p + q - 1) / q else if h = 0 then 0 else 1)
def okK (s t : Int) : Prop := t = 0 ∨ s = t ∨ (t = 1 ∧ (s = 2 ∨ s = 3)) ∨ (t = 4 ∧ s = 5)
def allI (cn : Int) (so tu : Nat → Int) : Int := gcdN (fun j => absI (spdI cn so tu 0 - spdI cn so tu ((j : Int) + 1))) (cn - 1).toNat
theorem rchI_1 {le : Nat → Int} {r i : Int} (h : 0 ≤ r ∧ r < 8) : rchI le r i 1 = if 0 ≤ i ∧ i < le r.toNat then 1 else 0 := by
  have e : atI 8 le r = le r.toNat := if_pos h
  unfold rchI
  rw [e]
  split <;> split <;> omega
theorem itmI_s {it le : Nat → Int} {r i z : Int} (h : 0 ≤ r ∧ r < 8) (h1 : 0 ≤ i) (h2 : i < le r.toNat) : itmI (updI it (r * 40 + i).toNat z) le r i = z := by
  unfold itmI
  rw [if_pos ⟨h.1, h.2, by rw [rchI_1 h, if_pos ⟨h1, h2⟩]⟩, updI_s]
def okM (s t : Int) : Prop := t = 0 ∨ s = t ∨ (t = 1 ∧ s < 4) ∨ (t = 4 ∧ s = 5)
theorem rchI_n {le : Nat → Int} {r i n : Int} (h : 0 ≤ r ∧ r < 8) : rchI le r i n = if 0 ≤ i ∧ 0 ≤ n ∧ i ≤ le r.toNat - n then 1 else 0 := by
  have e : atI 8 le r = le r.toNat := if_pos h
  unfold rchI
  rw [e]
def cpyV (f fi : Nat → Int) (S T n k u : Int) : Prop := ∀ x : Nat, f x = if T + (if u = 1 then 0 else n - k) ≤ (x : Int) ∧ (x : Int) < T + (if u = 1 then k else n) then fi (S.toNat + (x - T.toNat)) else fi x
theorem cpy_up {f fi fm : Nat → Int} {a i b j n k u zz : Int} (hu : (u = 1 ∧ j ≤ i) ∨ (u = 0 ∧ i < j)) (h1 : 0 ≤ k ∧ k ≤ n) (h2 : ∀ x : Nat, f x = if b * 40 + j + (if u = 1 then 0 else n - k) ≤ (x : Int) ∧ (x : Int) < b * 40 + j + (if u = 1 then k else n) then fi ((a * 40 + i).toNat + (x - (b * 40 + j).toNat)) else fi x) (g1 : 0 ≤ fm a.toNat ∧ fm a.toNat ≤ 40) (g2 : 0 ≤ fm b.toNat ∧ fm b.toNat ≤ 40) (hh : u = 1 ∧ k < n ∧ (0 ≤ a ∧ a < 8) ∧ (0 ≤ b ∧ b < 8) ∧ 0 ≤ i ∧ 0 ≤ n ∧ i + n ≤ fm a.toNat ∧ 0 ≤ j ∧ j + n ≤ fm b.toNat) (ez : zz = f (40 * a + i + k).toNat) : ∀ x : Nat, updI f (40 * b + j + k).toNat zz x = if b * 40 + j + (if u = 1 then 0 else n - (k + 1)) ≤ (x : Int) ∧ (x : Int) < b * 40 + j + (if u = 1 then k + 1 else n) then fi ((a * 40 + i).toNat + (x - (b * 40 + j).toNat)) else fi x := by
  intro x
  have q0 := h2 x
  have q1 := h2 (40 * a + i + k).toNat
  obtain ⟨rfl, hh⟩ := hh
  simp only [if_true, Int.add_zero] at q0 q1 ⊢
  rw [if_neg (by omega)] at q1
  rw [updI_e]
  by_cases e : x = (40 * b + j + k).toNat
  · rw [if_pos e, if_pos (by omega), ez, q1]
    congr 1
    omega
  · rw [if_neg e, q0]
    by_cases e2 : b * 40 + j ≤ (x : Int) ∧ (x : Int) < b * 40 + j + k
    · rw [if_pos e2, if_pos (by omega)]
    · rw [if_neg e2, if_neg (by omega)]
theorem cpy_dn {f fi fm : Nat → Int} {a i b j n k u zz : Int} (hu : (u = 1 ∧ j ≤ i) ∨ (u = 0 ∧ i < j)) (h1 : 0 ≤ k ∧ k ≤ n) (h2 : ∀ x : Nat, f x = if b * 40 + j + (if u = 1 then 0 else n - k) ≤ (x : Int) ∧ (x : Int) < b * 40 + j + (if u = 1 then k else n) then fi ((a * 40 + i).toNat + (x - (b * 40 + j).toNat)) else fi x) (g1 : 0 ≤ fm a.toNat ∧ fm a.toNat ≤ 40) (g2 : 0 ≤ fm b.toNat ∧ fm b.toNat ≤ 40) (hh : u = 0 ∧ k < n ∧ (0 ≤ a ∧ a < 8) ∧ (0 ≤ b ∧ b < 8) ∧ 0 ≤ i ∧ 0 ≤ n ∧ i + n ≤ fm a.toNat ∧ 0 ≤ j ∧ j + n ≤ fm b.toNat) (ez : zz = f (40 * a + i + (n - 1 - k)).toNat) : ∀ x : Nat, updI f (40 * b + j + (n - 1 - k)).toNat zz x = if b * 40 + j + (if u = 1 then 0 else n - (k + 1)) ≤ (x : Int) ∧ (x : Int) < b * 40 + j + (if u = 1 then k + 1 else n) then fi ((a * 40 + i).toNat + (x - (b * 40 + j).toNat)) else fi x := by
  intro x
  have q0 := h2 x
  have q1 := h2 (40 * a + i + (n - 1 - k)).toNat
  obtain ⟨rfl, hh⟩ := hh
  simp only [show ¬ (0 : Int) = 1 by omega, if_false] at q0 q1 ⊢
  rw [if_neg (by omega)] at q1
  rw [updI_e]
  by_cases e : x = (40 * b + j + (n - 1 - k)).toNat
  · rw [if_pos e, if_pos (by omega), ez, q1]
    congr 1
    omega
  · rw [if_neg e, q0]
    by_cases e2 : b * 40 + j + (n - k) ≤ (x : Int) ∧ (x : Int) < b * 40 + j + n
    · rw [if_pos e2, if_pos (by omega)]
    · rw [if_neg e2, if_neg (by omega)]
/-! one function laid over another -/
def mixI (a b : Nat → Int) : Nat → Int := fun j => if j < 4 then a j else b j
def overI (n : Int) (a b : Nat → Int) : Nat → Int := fun j => if (j : Int) < n then a j else b j
theorem Bd_mix {a b : Nat → Int} {lo hi : Int} (ha : Bd lo hi a) (hb : Bd lo hi b) : Bd lo hi (mixI a b) := by
  intro j
  unfold mixI
  split
  · exact ha j
  · exact hb j
def rdA (it le : Nat → Int) (r i : Int) : Nat → Int := fun j => itmI it le r (i + j)
def rdS (cn : Int) (so tu : Nat → Int) : Nat → Int := fun j => spdI cn so tu j
theorem over_at {n : Int} {a b : Nat → Int} {h : Int} (h0 : 0 ≤ h) (h1 : h < n) : atI 4 (overI n a b) h = atI 4 a h := by
  unfold atI overI
  split
  · rw [if_pos (by omega)]
  · rfl
theorem gap_congr {ar sp ar2 sp2 : Nat → Int} {pa b t h : Int} (h1 : atI 4 ar b = atI 4 ar2 b) (h2 : atI 4 sp b = atI 4 sp2 b) (h3 : atI 4 ar h = atI 4 ar2 h) (h4 : atI 4 sp h = atI 4 sp2 h) : gapI ar sp pa b t h = gapI ar2 sp2 pa b t h := by
  unfold gapI
  rw [h1, h2, h3, h4]
theorem FitA_congr {ar sp ar2 sp2 : Nat → Int} {cn pa b t wo : Int} (ha : ∀ h : Int, 0 ≤ h → h < cn → atI 4 ar h = atI 4 ar2 h ∧ atI 4 sp h = atI 4 sp2 h) (hb : 0 ≤ b ∧ b < cn) : FitA ar sp cn pa b t wo ↔ FitA ar2 sp2 cn pa b t wo := by
  constructor
  · intro q h h0 h1 h2
    rw [← gap_congr (ha b hb.1 hb.2).1 (ha b hb.1 hb.2).2 (ha h h0 h1).1 (ha h h0 h1).2]
    exact q h h0 h1 h2
  · intro q h h0 h1 h2
    rw [gap_congr (ha b hb.1 hb.2).1 (ha b hb.1 hb.2).2 (ha h h0 h1).1 (ha h h0 h1).2]
    exact q h h0 h1 h2
theorem basI_bd (wo : Int) : 0 ≤ basI wo ∧ basI wo ≤ 1 := by
  unfold basI
  split <;> omega
theorem FitW_congr {ar sp ar2 sp2 : Nat → Int} {cn pa wo : Int} (ha : ∀ h : Int, 0 ≤ h → h < cn → atI 4 ar h = atI 4 ar2 h ∧ atI 4 sp h = atI 4 sp2 h) : FitW ar sp cn pa wo ↔ FitW ar2 sp2 cn pa wo := by
  have hb := basI_bd wo
  unfold FitW
  by_cases e : cn ≤ basI wo
  · exact ⟨fun _ => Or.inl e, fun _ => Or.inl e⟩
  · have hq := ha (basI wo) hb.1 (by omega)
    rw [hq.2]
    constructor
    · rintro (q | ⟨t, q1, q2, q3⟩)
      · exact Or.inl q
      · exact Or.inr ⟨t, q1, q2, (FitA_congr ha ⟨hb.1, by omega⟩).mp q3⟩
    · rintro (q | ⟨t, q1, q2, q3⟩)
      · exact Or.inl q
      · exact Or.inr ⟨t, q1, q2, (FitA_congr ha ⟨hb.1, by omega⟩).mpr q3⟩
theorem lmN_bd {b : Nat → Bool} {f : Nat → Int} {M : Int} (hf : ∀ j, 0 ≤ f j ∧ f j ≤ M) : ∀ n, -1 ≤ lmN b f n ∧ (lmN b f n ≤ M ∨ lmN b f n = -1) := by
  intro n
  induction n with
  | zero => exact ⟨Int.le_refl _, Or.inr rfl⟩
  | succ n ih =>
    simp only [lmN]
    have := hf n
    split
    · split
      · omega
      · split <;> omega
    · exact ih
theorem lmI_bd {ar sp : Nat → Int} {cn pa : Int} (hsp : Bd (-24) 24 sp) (hpa : 1 ≤ pa ∧ pa ≤ 720) : -1 ≤ lmI ar sp cn pa ∧ lmI ar sp cn pa ≤ 17280 := by
  unfold lmI
  split
  · omega
  · have := lmN_bd (b := fun t => pB (FitA ar sp cn pa 0 (t : Int) (cn - 1))) (f := fun t => gapI ar sp pa 0 (t : Int) (cn - 1)) (M := 17280) (fun j => gapI_bds hsp hpa) (absI (atI 4 sp 0)).toNat
    omega
def whlI (sp : Nat → Int) (pa : Int) : Int := if 1 < absI (atI 4 sp 0) * pa then absI (atI 4 sp 0) * pa else 1
noncomputable def lieV (ar sp : Nat → Int) (cn pa w : Int) : Int := if w = 0 then pI (FitW ar sp cn pa (-1)) else if w = 1 then bitsN (fun h => pB (FitW ar sp cn pa h)) cn.toNat else if lmI ar sp cn pa < 0 then -1000000 else toldI (lmI ar sp cn pa) (whlI sp pa) (w - 2)
theorem LsO_bd {wh sh mo a b r : Int} (hm : 0 ≤ mo ∧ mo ≤ 576) (h : LsO wh sh mo a b r) : 0 ≤ r ∧ r ≤ 576 := by
  rcases h with ⟨h1, h2, -⟩ | ⟨h1, -⟩ <;> omega
def belI (d h : Int) : Int := if h = 0 then d else if h = 1 then 2 * d else 4 * d
theorem iShl_bel {d h : Int} (hd : 0 ≤ d ∧ d ≤ 48) (hh : 0 ≤ h ∧ h ≤ 2) : iShl d h = belI d h := by
  obtain ⟨n, rfl⟩ := Int.eq_ofNat_of_zero_le hd.1
  have e : iI ((n : Nat) : Int) = nI n := rfl
  unfold iShl belI
  rw [e]
  rcases (show h = 0 ∨ h = 1 ∨ h = 2 by omega) with rfl | rfl | rfl
  · rw [pk_shlN (iI 0 &&& 31) 0 (by decide) (by omega), if_pos rfl, nI_toInt (by omega)]
    omega
  · rw [pk_shlN (iI 1 &&& 31) 1 (by decide) (by omega), if_neg (by decide), if_pos rfl, nI_toInt (by omega)]
    omega
  · rw [pk_shlN (iI 2 &&& 31) 2 (by decide) (by omega), if_neg (by decide), if_neg (by decide), nI_toInt (by omega)]
    omega
theorem fmI_bd {b h p q : Int} (hb : 0 < b ∧ b ≤ 192) (hp : 0 ≤ p ∧ p < q) (hq : 1 ≤ q ∧ q ≤ 9999) : 0 ≤ fmI b h p q ∧ fmI b h p q ≤ 192 := by
  have m1 := mul_nn (show 0 ≤ b ∧ b ≤ 192 by omega) (show 0 ≤ p ∧ p ≤ 9998 by omega)
  have m3 : 0 ≤ (b * p + q - 1) / q := Int.ediv_nonneg (by omega) (by omega)
  unfold fmI
  (repeat split) <;> omega
def trueI (cn mk : Int) (so tu sp : Nat → Int) (p q : Int) : Int := bitsN (fun h => decide (restI (2 * restI (spdI cn so tu h * p * mk + atI cn sp h * q) (q * mk)) (q * mk) = 0)) cn.toNat
def isBk (s : Int) : Prop := s = 4 ∨ s = 5
def askF (cn : Int) (so tu sp : Nat → Int) (h w : Int) : Int := if atI cn so h = 4 ∨ atI cn so h = 5 then (if w = 0 then bSz cn so tu h else h - bSz cn so tu h) else (if w = 0 then hSz cn so tu sp h else hMk cn so sp h)
def askT (cn : Int) (so : Nat → Int) (h w : Int) (t : TS) : TS := if atI cn so h = 4 ∨ atI cn so h = 5 then (if w = 0 then bSzT cn so h (t.1, 0) else bSzT cn so h (lvT (lvT (t.1, 0) 23) 20)) else (if w = 0 then hSzT cn so h (t.1, 0) else hMkT cn so h (t.1, 0))
/-! bytes of a long -/
def fbC (w : Int64) (k : Int) : Int := iAnd (iLow ((w.toUInt64 >>> ((iI (8 * k)).toInt64.toUInt64 &&& Int64.toUInt64 63)).toInt64)) 255
theorem iAnd_255 (a : Int) : 0 ≤ iAnd a 255 ∧ iAnd a 255 ≤ 255 := by
  unfold iAnd
  rw [show iI 255 = (255 : Int32) from rfl, pk_and (iI a) (m := 255) 8 (by decide), nI_toInt (by omega)]
  omega
theorem mix_of {f a b : Nat → Int} {j : Nat} (h : f j = if (j : Int) < 4 then a j else b j) : f j = mixI a b j := by
  rw [h]
  unfold mixI
  by_cases e : j < 4
  · rw [if_pos e, if_pos (by omega)]
  · rw [if_neg e, if_neg (by omega)]
/-! readings in the model -/
def mAr (fi : Nat → Int) (fr h : Int) : Int := fi (fr + h).toNat
def mTu (fc : Nat → Int) (bu : Int) : Int := absI (spdM fc (basI bu))
def mWh (fc : Nat → Int) (pa bu : Int) : Int := pa * mTu fc bu
def mAt (fi : Nat → Int) (fr pa bu t : Int) : Int := mAr fi fr (basI bu) + t * pa
def mX (fc fi : Nat → Int) (fr pa bu t : Int) : Int := if spdM fc (basI bu) < 0 then restI (-(mAt fi fr pa bu t)) (mWh fc pa bu) else mAt fi fr pa bu t
def mTm (fc fi : Nat → Int) (fr pa bu h x : Int) : Int := restI (spdM fc h * x - mAr fi fr h * mTu fc bu) (mWh fc pa bu)
def mFit (fc fi : Nat → Int) (fr pa bu t : Int) : Prop := ∀ h : Int, 0 ≤ h → h < fc 1 → h = bu ∨ mTm fc fi fr pa bu h (mX fc fi fr pa bu t) = 0
def mBy (fc fi : Nat → Int) (fr pa bu t : Int) : Int := if mWh fc pa bu - mTm fc fi fr pa bu (fc 1 - 1) (mX fc fi fr pa bu t) < mTm fc fi fr pa bu (fc 1 - 1) (mX fc fi fr pa bu t) then mWh fc pa bu - mTm fc fi fr pa bu (fc 1 - 1) (mX fc fi fr pa bu t) else mTm fc fi fr pa bu (fc 1 - 1) (mX fc fi fr pa bu t)
def mFitW (fc fi : Nat → Int) (fr pa bu : Int) : Prop := fc 1 = basI bu ∨ (∃ t : Int, 0 ≤ t ∧ t < mTu fc bu ∧ mFit fc fi fr pa bu t)
def lnN (b : Nat → Bool) (f : Nat → Int) : Nat → Int
  | 0 => -1000000
  | n + 1 => if b n = true then (if lnN b f n = -1000000 ∨ f n < lnN b f n then f n else lnN b f n) else lnN b f n
theorem lnN_s {b : Nat → Bool} {f : Nat → Int} {i : Int} (h : 0 ≤ i) : lnN b f (i + 1).toNat = if b i.toNat = true then (if lnN b f i.toNat = -1000000 ∨ f i.toNat < lnN b f i.toNat then f i.toNat else lnN b f i.toNat) else lnN b f i.toNat := by
  rw [show (i + 1).toNat = i.toNat + 1 by omega]
  rfl
theorem lnN_bd {b : Nat → Bool} {f : Nat → Int} {M : Int} (hf : ∀ j, 0 ≤ f j ∧ f j ≤ M) : ∀ n, lnN b f n = -1000000 ∨ (0 ≤ lnN b f n ∧ lnN b f n ≤ M) := by
  intro n
  induction n with
  | zero => exact Or.inl rfl
  | succ n ih =>
    simp only [lnN]
    have := hf n
    split
    · split <;> omega
    · exact ih
noncomputable def mLs (fc fi : Nat → Int) (fr pa bu : Int) : Int := if fc 1 = basI bu then 0 else lnN (fun t => pB (mFit fc fi fr pa bu t)) (fun t => mBy fc fi fr pa bu t) (mTu fc bu).toNat
def mLo (fc : Nat → Int) (pa bu : Int) : Int := if fc 1 = basI bu then 1 else mWh fc pa bu
theorem mTm_bd {fc fi : Nat → Int} {fr pa bu h x : Int} (hw : 0 ≤ mWh fc pa bu ∧ mWh fc pa bu ≤ 17280) : 0 ≤ mTm fc fi fr pa bu h x ∧ mTm fc fi fr pa bu h x ≤ mWh fc pa bu := ⟨restI_bd.1, restI_le (Int.le_refl _) hw.1⟩
theorem mBy_bd {fc fi : Nat → Int} {fr pa bu t : Int} (hw : 0 ≤ mWh fc pa bu ∧ mWh fc pa bu ≤ 17280) : 0 ≤ mBy fc fi fr pa bu t ∧ mBy fc fi fr pa bu t ≤ 17280 := by
  have := mTm_bd (fi := fi) (fr := fr) (h := fc 1 - 1) (x := mX fc fi fr pa bu t) hw
  unfold mBy
  split <;> omega
/-! slips of the model -/
def shW (fw : Nat → Int) (ac : Int) : Nat → Int := fun j => if ac < 24 then fw j else if j < 322 then fw (j + 14) else fw j
def acN (ac : Int) : Int := if ac < 24 then ac else 23
def kpW (fc fw : Nat → Int) (ac : Int) : Nat → Int := fun j => if 14 * acN ac ≤ (j : Int) ∧ (j : Int) < 14 * acN ac + 14 then fc (j - (14 * acN ac).toNat) else shW fw ac j
def unC (fc fw : Nat → Int) (ac : Int) : Nat → Int := fun j => if j < 14 then fw ((14 * (ac - 1)).toNat + j) else fc j

/-- bits of the model: a nought is put in where it is not so -/
def bitsM (b : Nat → Bool) : Nat → Int
  | 0 => 0
  | n + 1 => iOr (bitsM b n) (if b n = true then iShl 1 n else 0)
theorem bitsM_s {b : Nat → Bool} {i : Int} (h : 0 ≤ i) : bitsM b (i + 1).toNat = iOr (bitsM b i.toNat) (if b i.toNat = true then iShl 1 i else 0) := by
  rw [show (i + 1).toNat = i.toNat + 1 by omega]
  simp only [bitsM]
  rw [show ((i.toNat : Nat) : Int) = i by omega]
theorem iOr_0 {a : Int} (h : R32 a) : iOr a 0 = a := by
  unfold iOr
  rw [show iI 0 = (0 : Int32) from rfl, Int32.or_zero, iI_toInt h]
theorem bitsM_eq (b : Nat → Bool) : ∀ n : Nat, bitsM b n = bitsN b n := by
  intro n
  induction n with
  | zero => rfl
  | succ n ih =>
    simp only [bitsM, bitsN]
    rw [ih]
    split
    · rfl
    · exact iOr_0 (bitsN_r b n)
def trueM (fc : Nat → Int) (p q : Int) : Int := bitsN (fun h => decide ((2 * arcM fc h p q) % (q * fc 0) = 0)) (fc 1).toNat
def bakT (s : Int) (t : TS) : TS := if s = 5 then lvT (lvT (lvT t 14) 13) 10 else lvT (lvT t 13) 10
theorem shW_of {f fw : Nat → Int} {k ac : Int} (hk : k = 322) (ha : ¬ ac < 24) (h : ∀ j : Nat, f j = if (j : Int) < k then fw (j + 14) else fw j) (j : Nat) : f j = shW fw ac j := by
  subst hk
  unfold shW
  rw [if_neg ha, h j]
  by_cases e : j < 322
  · rw [if_pos e, if_pos (by omega)]
  · rw [if_neg e, if_neg (by omega)]
theorem unC_of {f fc fw : Nat → Int} {ac : Int} {j : Nat} (h : f j = if (j : Int) < 14 then fw ((14 * (ac - 1)).toNat + j) else fc j) : f j = unC fc fw ac j := by
  rw [h]
  unfold unC
  by_cases e : j < 14
  · rw [if_pos e, if_pos (by omega)]
  · rw [if_neg e, if_neg (by omega)]
theorem mX_bd {fc fi : Nat → Int} {fr pa bu t : Int} (hw : 0 ≤ mWh fc pa bu ∧ mWh fc pa bu ≤ 17280) (ha : 0 ≤ mAt fi fr pa bu t ∧ mAt fi fr pa bu t ≤ 17999) : 0 ≤ mX fc fi fr pa bu t ∧ mX fc fi fr pa bu t ≤ 17999 := by
  unfold mX
  split
  · have h1 := restI_bd (n := -(mAt fi fr pa bu t)) (w := mWh fc pa bu)
    have h2 : restI (-(mAt fi fr pa bu t)) (mWh fc pa bu) ≤ mWh fc pa bu := restI_le (Int.le_refl _) hw.1
    omega
  · exact ha
def mIU (fc fi : Nat → Int) (fr pa bu t h u : Int) : Prop := (u = 1 ∧ ∀ i : Int, 0 ≤ i → i < h → i = bu ∨ mTm fc fi fr pa bu i (mX fc fi fr pa bu t) = 0) ∨ (u = 0 ∧ ∃ i : Int, 0 ≤ i ∧ i < fc 1 ∧ ¬ (i = bu ∨ mTm fc fi fr pa bu i (mX fc fi fr pa bu t) = 0))
theorem mIU_0 {fc fi : Nat → Int} {fr pa bu t : Int} : mIU fc fi fr pa bu t 0 1 := Or.inl ⟨rfl, fun i g1 g2 => by exfalso; omega⟩
theorem mIU_b {fc fi : Nat → Int} {fr pa bu t h u : Int} (k : mIU fc fi fr pa bu t h u) : u = 0 ∨ u = 1 := by
  rcases k with k | k
  · exact Or.inr k.1
  · exact Or.inl k.1
theorem mIU_no {fc fi : Nat → Int} {fr pa bu t h u : Int} (k : mIU fc fi fr pa bu t h u) (hu : u = 0) : mIU fc fi fr pa bu t (h + 1) 0 := by
  rcases k with k | k
  · rw [hu] at k; exact absurd k.1 (by decide)
  · exact Or.inr ⟨rfl, k.2⟩
theorem mIU_y {fc fi : Nat → Int} {fr pa bu t h u : Int} (k : mIU fc fi fr pa bu t h u) (hu : u ≠ 0) (hq : h = bu ∨ mTm fc fi fr pa bu h (mX fc fi fr pa bu t) = 0) : mIU fc fi fr pa bu t (h + 1) 1 := by
  rcases k with k | k
  · refine Or.inl ⟨rfl, fun i g1 g2 => ?_⟩
    by_cases e : i = h
    · rw [e]; exact hq
    · exact k.2 i g1 (by omega)
  · exact absurd k.1 hu
theorem mIU_n {fc fi : Nat → Int} {fr pa bu t h : Int} (h0 : 0 ≤ h) (h1 : h < fc 1) (hb : h ≠ bu) (hz : mTm fc fi fr pa bu h (mX fc fi fr pa bu t) ≠ 0) : mIU fc fi fr pa bu t (h + 1) 0 :=
  Or.inr ⟨rfl, h, h0, h1, fun q => q.elim hb hz⟩
theorem mIU_end {fc fi : Nat → Int} {fr pa bu t h u : Int} (k : mIU fc fi fr pa bu t h u) (h1 : fc 1 ≤ h) : (u = 1 ∧ mFit fc fi fr pa bu t) ∨ (u = 0 ∧ ¬ mFit fc fi fr pa bu t) := by
  rcases k with k | ⟨e0, i, g1, g2, g3⟩
  · exact Or.inl ⟨k.1, fun i g1 g2 => k.2 i g1 (by omega)⟩
  · exact Or.inr ⟨e0, fun z => g3 (z i g1 g2)⟩
def mIV (fc fi : Nat → Int) (fr pa bu t v ls lo : Int) : Prop := (v = 0 ∧ (∀ i : Int, 0 ≤ i → i < t → ¬ mFit fc fi fr pa bu i) ∧ ls = -1000000) ∨ (v = 1 ∧ (∃ i : Int, 0 ≤ i ∧ i < t ∧ mFit fc fi fr pa bu i) ∧ lo = mWh fc pa bu ∧ 0 ≤ ls ∧ ls ≤ 17280)
theorem mIV_0 {fc fi : Nat → Int} {fr pa bu lo : Int} : mIV fc fi fr pa bu 0 0 (-1000000) lo := Or.inl ⟨rfl, fun i g1 g2 => by exfalso; omega, rfl⟩
theorem mIV_b {fc fi : Nat → Int} {fr pa bu t v ls lo : Int} (k : mIV fc fi fr pa bu t v ls lo) : (v = 0 ∧ ls = -1000000) ∨ (v = 1 ∧ 0 ≤ ls ∧ ls ≤ 17280) := by
  rcases k with k | k
  · exact Or.inl ⟨k.1, k.2.2⟩
  · exact Or.inr ⟨k.1, k.2.2.2⟩
theorem mIV_n {fc fi : Nat → Int} {fr pa bu t v ls lo : Int} (k : mIV fc fi fr pa bu t v ls lo) (hn : ¬ mFit fc fi fr pa bu t) : mIV fc fi fr pa bu (t + 1) v ls lo := by
  rcases k with k | ⟨e, ⟨i, g1, g2, g3⟩, q⟩
  · refine Or.inl ⟨k.1, fun i g1 g2 => ?_, k.2.2⟩
    by_cases e : i = t
    · rw [e]; exact hn
    · exact k.2.1 i g1 (by omega)
  · exact Or.inr ⟨e, ⟨i, g1, by omega, g3⟩, q⟩
theorem mIV_y {fc fi : Nat → Int} {fr pa bu t ls : Int} (h0 : 0 ≤ t) (hf : mFit fc fi fr pa bu t) (h1 : 0 ≤ ls ∧ ls ≤ 17280) : mIV fc fi fr pa bu (t + 1) 1 ls (mWh fc pa bu) :=
  Or.inr ⟨rfl, ⟨t, h0, by omega, hf⟩, rfl, h1⟩
theorem mIV_end {fc fi : Nat → Int} {fr pa bu t v ls lo : Int} (k : mIV fc fi fr pa bu t v ls lo) (ht : t = mTu fc bu) (hb : fc 1 ≠ basI bu) (h2 : ls = lnN (fun t => pB (mFit fc fi fr pa bu t)) (fun t => mBy fc fi fr pa bu t) t.toNat) : v = pI (mFitW fc fi fr pa bu) ∧ ls = mLs fc fi fr pa bu ∧ (v = 1 → lo = mLo fc pa bu) := by
  refine ⟨?_, ?_, ?_⟩
  · rcases k with k | ⟨e1, ⟨i, g1, g2, g3⟩, -⟩
    · rw [k.1]
      refine (pI_0 ?_).symm
      rintro (q | ⟨i, g1, g2, g3⟩)
      · exact hb q
      · exact k.2.1 i g1 (by omega) g3
    · rw [e1]
      exact (pI_1 (Or.inr ⟨i, g1, by omega, g3⟩)).symm
  · unfold mLs
    rw [if_neg hb, h2, ht]
  · intro hv
    unfold mLo
    rw [if_neg hb]
    rcases k with k | k
    · rw [hv] at k; exact absurd k.1 (by decide)
    · exact k.2.2.1
theorem lnN_nn {b : Nat → Bool} {f : Nat → Int} (hf : ∀ j, 0 ≤ f j) : ∀ n, lnN b f n = -1000000 ∨ 0 ≤ lnN b f n := by
  intro n
  induction n with
  | zero => exact Or.inl rfl
  | succ n ih =>
    simp only [lnN]
    have := hf n
    split
    · split <;> omega
    · exact ih
theorem lnN_pos {b : Nat → Bool} {f : Nat → Int} (hf : ∀ j, 0 ≤ f j) : ∀ (n i : Nat), i < n → b i = true → 0 ≤ lnN b f n := by
  intro n
  induction n with
  | zero => intro i h; omega
  | succ n ih =>
    intro i hi hb
    simp only [lnN]
    have h1 := hf n
    by_cases e : i = n
    · subst e
      rw [if_pos hb]
      have h3 := lnN_nn (b := b) hf i
      split <;> omega
    · have h2 := ih i (by omega) hb
      split
      · split <;> omega
      · exact h2
theorem mLs_bd {fc fi : Nat → Int} {fr pa bu : Int} (hw : 0 ≤ mWh fc pa bu ∧ mWh fc pa bu ≤ 17280) (hp : 1 ≤ pa) (h : mFitW fc fi fr pa bu) : (0 ≤ mLs fc fi fr pa bu ∧ mLs fc fi fr pa bu ≤ 17280) ∧ 0 < mLo fc pa bu ∧ mLo fc pa bu ≤ 17280 := by
  unfold mLs mLo
  by_cases e : fc 1 = basI bu
  · rw [if_pos e, if_pos e]
    omega
  · rw [if_neg e, if_neg e]
    rcases h with h | ⟨t, h1, h2, h3⟩
    · exact absurd h e
    · have h4 : 0 < mWh fc pa bu := Int.mul_pos (by omega) (by omega)
      have h5 := lnN_pos (b := fun t => pB (mFit fc fi fr pa bu t)) (f := fun t => mBy fc fi fr pa bu t) (fun j => (mBy_bd hw).1) (mTu fc bu).toNat t.toNat (by omega) (pB_iff.mpr (by rw [show ((t.toNat : Nat) : Int) = t by omega]; exact h3))
      have h6 := lnN_bd (b := fun t => pB (mFit fc fi fr pa bu t)) (f := fun t => mBy fc fi fr pa bu t) (M := 17280) (fun j => mBy_bd hw) (mTu fc bu).toNat
      omega
theorem mWh_bd {fc : Nat → Int} {pa bu : Int} (ht3 : Bd 0 12 (tM fc)) (hp : 1 ≤ pa ∧ pa ≤ 720) : 0 ≤ mWh fc pa bu ∧ mWh fc pa bu ≤ 17280 :=
  mul_nn (show 0 ≤ pa ∧ pa ≤ 720 by omega) (absI_bd (spdM_bd (fc := fc) (h := basI bu) ht3))
noncomputable def lieM (fc fi : Nat → Int) (fr pa w : Int) : Int := if w = 0 then pI (mFitW fc fi fr pa (-1000000)) else if w = 1 then bitsN (fun h => pB (mFitW fc fi fr pa h)) (fc 1).toNat else if pI (mFitW fc fi fr pa (fc 1 - 1)) = 1 then toldI (mLs fc fi fr pa (fc 1 - 1)) (mLo fc pa (fc 1 - 1)) (w - 2) else -1000000
theorem bits_step {b : Nat → Bool} {i acc z : Int} (h : 0 ≤ i) (ha : acc = bitsN b i.toNat) (hz : z = if b i.toNat = true then iShl 1 i else 0) : iOr acc z = bitsN b (i + 1).toNat := by
  rw [← bitsM_eq, bitsM_s h, bitsM_eq, ← ha, ← hz]
theorem mul_step {k n c : Int} (hc : 0 ≤ c) (h0 : 0 ≤ k) (h : k < n) : 0 ≤ k * c ∧ k * c + c ≤ n * c := by
  refine ⟨Int.mul_nonneg h0 hc, ?_⟩
  have h1 : (k + 1) * c ≤ n * c := Int.mul_le_mul_of_nonneg_right (by omega) hc
  rw [Int.add_mul, Int.one_mul] at h1
  exact h1
def keM (fc fe : Nat → Int) (k : Int) : Nat → Int := fun j => if 14 * k ≤ (j : Int) ∧ (j : Int) < 14 * k + 14 then fc (j - (14 * k).toNat) else fe j
def reM (fc fe : Nat → Int) (k : Int) : Nat → Int := fun j => if j < 14 then fe ((14 * k).toNat + j) else fc j
noncomputable def firM (fc fi : Nat → Int) (r n pa : Int) : Int := othS (fun k => !(pB (mFitW fc fi (40 * r + k * fc 1) pa (-1000000)))) n.toNat 0
noncomputable def firC (it le : Nat → Int) (cn : Int) (so tu : Nat → Int) (r n pa : Int) : Int := othS (fun k => !(pB (FitW (rdA it le r (k * cn)) (rdS cn so tu) cn pa (-1)))) n.toNat 0
theorem notB {P : Prop} : (!(pB P)) = true ↔ ¬ P := by
  rw [Bool.not_eq_true', ← Bool.not_eq_true]
  exact not_congr pB_iff
theorem Bd_over {lo hi n : Int} {a b : Nat → Int} (ha : ∀ j : Nat, (j : Int) < n → lo ≤ a j ∧ a j ≤ hi) (hb : Bd lo hi b) : Bd lo hi (overI n a b) := by
  intro j
  unfold overI
  split
  next h => exact ha j h
  next h => exact hb j
theorem reM_of {f fc fe : Nat → Int} {k i : Int} (hi : i = 14) (h : ∀ j : Nat, f j = if (j : Int) < i then fe ((14 * k).toNat + j) else fc j) (j : Nat) : f j = reM fc fe k j := by
  subst hi
  rw [h j]
  unfold reM
  by_cases e : j < 14
  · rw [if_pos e, if_pos (by omega)]
  · rw [if_neg e, if_neg (by omega)]
theorem ref_or {k : Int} {r a b : Nat} (h : r = if k = 0 then a else b) : (k = 0 ∧ r = a) ∨ (k ≠ 0 ∧ r = b) := by
  by_cases e : k = 0
  · exact Or.inl ⟨e, by rw [h, if_pos e]⟩
  · exact Or.inr ⟨e, by rw [h, if_neg e]⟩
