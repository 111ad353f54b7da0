/-! text constants: ldc, fields, bytes; statics; small instructions the texts need -/
section SR
variable {g : Gx} {x : Xt} {Ts : List Cond} {own : String} {cc : ByteArray} {nL : Nat} {rm : Room} {cs sl : Nat} {ws : va_W} {lo : List (Option Value)} {pc : Nat} {st : List Value}
theorem v_ldcS (X : Xo g x Ts RX6 cc nL rm) {index : Nat} {tx : String} (i : Nat) (hi : strQ[i]? = some (index, tx)) (hdg : decode cc pc = .ok (.ldc index, 2)) (k : V g x cs sl ws lo (pc + 2) (.ref (g.2.2.2.2.1 i) :: st)) : V g x cs sl ws lo pc st := by
  obtain ⟨⟨p, e, s, m, args⟩, ⟨below, meth, c, A, nL0, R, Q⟩⟩ := x
  obtain ⟨hx, hb, hml, hown, hts, hK, hA, hE, hlk, rfl, rfl⟩ := X
  intro H locs ls hP hD hS hl
  exact va_ldcS hx hb hown (hE.2.1 i _ hi) hdg (k H locs ls hP hD hS hl)
theorem v_getSv (X : Xo g x Ts own cc nL rm) {index : Nat} (i : Nat) (hi : i < 7) (hw : Cond.fieldLink own index "java/lang/String" "value" "[B" ∈ Ts) (hdg : decode cc pc = .ok (.getfield index, 3)) (k : V g x cs sl ws lo (pc + 3) (.ref (g.2.2.2.2.2 i) :: st)) : V g x cs sl ws lo pc (.ref (g.2.2.2.2.1 i) :: st) := by
  obtain ⟨⟨p, e, s, m, args⟩, ⟨below, meth, c, A, nL0, R, Q⟩⟩ := x
  obtain ⟨hx, hb, hml, hown, hts, hK, hA, hE, hlk, rfl, rfl⟩ := X
  intro H locs ls hP hD hS hl
  exact vk_getf hx hb (hE.2.2.1.1 i hi).2.2.1 hS hown (hts _ hw) (fun _ h9 => h9) hdg (k H locs ls hP hD hS hl)
theorem v_getSc (X : Xo g x Ts own cc nL rm) {index : Nat} (i : Nat) (hi : i < 7) (hw : Cond.fieldLink own index "java/lang/String" "coder" "B" ∈ Ts) (hdg : decode cc pc = .ok (.getfield index, 3)) (k : V g x cs sl ws lo (pc + 3) (.int (iI 0) :: st)) : V g x cs sl ws lo pc (.ref (g.2.2.2.2.1 i) :: st) := by
  obtain ⟨⟨p, e, s, m, args⟩, ⟨below, meth, c, A, nL0, R, Q⟩⟩ := x
  obtain ⟨hx, hb, hml, hown, hts, hK, hA, hE, hlk, rfl, rfl⟩ := X
  intro H locs ls hP hD hS hl
  have k2 := k H locs ls hP hD hS hl
  rw [show iI 0 = 0 by decide] at k2
  exact vk_getf hx hb (hE.2.2.1.1 i hi).2.1 hS hown (hts _ hw) (fun _ h9 => h9) hdg k2
theorem v_getsC (X : Xo g x Ts own cc nL rm) {index : Nat} (hw : Cond.fieldLink own index "java/lang/String" "COMPACT_STRINGS" "Z" ∈ Ts) (hdg : decode cc pc = .ok (.getstatic index, 3)) (k : V g x cs sl ws lo (pc + 3) (.int (iI 1) :: st)) : V g x cs sl ws lo pc st := by
  obtain ⟨⟨p, e, s, m, args⟩, ⟨below, meth, c, A, nL0, R, Q⟩⟩ := x
  obtain ⟨hx, hb, hml, hown, hts, hK, hA, hE, hlk, rfl, rfl⟩ := X
  intro H locs ls hP hD hS hl
  have k2 := k H locs ls hP hD hS hl
  rw [show iI 1 = 1 by decide] at k2
  exact va_gets hx hb hE.2.2.2.1 hS hown (hts _ hw) (fun _ h9 => h9) hdg k2
theorem v_getsF (X : Xo g x Ts own cc nL rm) {index : Nat} (hw : Cond.fieldLink own index "jdk/internal/util/Preconditions" "SIOOBE_FORMATTER" "Ljava/util/function/BiFunction;" ∈ Ts) (hdg : decode cc pc = .ok (.getstatic index, 3)) (k : ∀ v : Value, (v = .null ∨ ∃ t : Nat, v = .ref t) → V g x cs sl ws lo (pc + 3) (v :: st)) : V g x cs sl ws lo pc st := by
  obtain ⟨⟨p, e, s, m, args⟩, ⟨below, meth, c, A, nL0, R, Q⟩⟩ := x
  obtain ⟨hx, hb, hml, hown, hts, hK, hA, hE, hlk, rfl, rfl⟩ := X
  intro H locs ls hP hD hS hl
  rcases hE.2.2.2.2 with h | ⟨t, h⟩
  · exact va_gets hx hb h hS hown (hts _ hw) (fun _ h9 => h9) hdg (k _ (Or.inl rfl) H locs ls hP hD hS hl)
  · exact va_gets hx hb h hS hown (hts _ hw) (fun _ h9 => h9) hdg (k _ (Or.inr ⟨t, rfl⟩) H locs ls hP hD hS hl)
theorem v_alenS (X : Xo g x Ts own cc nL rm) (i : Nat) (hi : i < 7) (hdg : decode cc pc = .ok (.arraylength, 1)) (k : V g x cs sl ws lo (pc + 1) (.int (iI ((lenQ.getD i 0 : Nat) : Int)) :: st)) : V g x cs sl ws lo pc (.ref (g.2.2.2.2.2 i) :: st) := by
  obtain ⟨⟨p, e, s, m, args⟩, ⟨below, meth, c, A, nL0, R, Q⟩⟩ := x
  obtain ⟨hx, hb, hml, hown, hts, hK, hA, hE, hlk, rfl, rfl⟩ := X
  intro H locs ls hP hD hS hl
  exact va_tlen hx hb (hE.2.2.1.1 i hi).2.2.2 hS (show Int32.ofNat (lenQ.getD i 0) = iI ((lenQ.getD i 0 : Nat) : Int) from rfl) hdg (k H locs ls hP hD hS hl)
def chQ (i : Nat) (j : Int) : Int := ((bytQ.getD i []).getD j.toNat 0).toInt
theorem v_baldS (X : Xo g x Ts own cc nL rm) (i : Nat) (hi : i < 7) {j : Int} (h0 : 0 ≤ j) (h1 : j < (lenQ.getD i 0 : Nat)) (h2 : j ≤ 2147483647) (hdg : decode cc pc = .ok (.baload, 1)) (k : V g x cs sl ws lo (pc + 1) (.int (iI (chQ i j)) :: st)) : V g x cs sl ws lo pc (.int (iI j) :: .ref (g.2.2.2.2.2 i) :: st) := by
  obtain ⟨⟨p, e, s, m, args⟩, ⟨below, meth, c, A, nL0, R, Q⟩⟩ := x
  obtain ⟨hx, hb, hml, hown, hts, hK, hA, hE, hlk, rfl, rfl⟩ := X
  intro H locs ls hP hD hS hl
  refine va_tb hx hb (hE.2.2.1.1 i hi).2.2.2 hS (iI_in h0 h1 h2) (v := .int (iI (chQ i j))) ?_ hdg (k H locs ls hP hD hS hl)
  unfold chQ
  rw [iI_clamp ⟨by omega, h2⟩, iI_of]
theorem v_ishr (X : Xo g x Ts own cc nL rm) {a b : Int32} (hdg : decode cc pc = .ok (.ishr, 1)) (k : V g x cs sl ws lo (pc + 1) (.int (a >>> (b &&& 31)) :: st)) : V g x cs sl ws lo pc (.int b :: .int a :: st) := by
  obtain ⟨⟨p, e, s, m, args⟩, ⟨below, meth, c, A, nL0, R, Q⟩⟩ := x
  obtain ⟨hx, hb, hml, hown, hts, hK, hA, hE, hlk, rfl, rfl⟩ := X
  intro H locs ls hP hD hS hl
  exact lv_ishr hx hb hdg (k H locs ls hP hD hS hl)
theorem v_i2c (X : Xo g x Ts own cc nL rm) {a : Int32} (hdg : decode cc pc = .ok (.i2c, 1)) (k : V g x cs sl ws lo (pc + 1) (.int ((a.toUInt32 % 65536).toInt32) :: st)) : V g x cs sl ws lo pc (.int a :: st) := by
  obtain ⟨⟨p, e, s, m, args⟩, ⟨below, meth, c, A, nL0, R, Q⟩⟩ := x
  obtain ⟨hx, hb, hml, hown, hts, hK, hA, hE, hlk, rfl, rfl⟩ := X
  intro H locs ls hP hD hS hl
  exact lv_i2c hx hb hdg rfl (k H locs ls hP hD hS hl)
theorem v_pop (X : Xo g x Ts own cc nL rm) {a : Value} (hdg : decode cc pc = .ok (.pop, 1)) (hv : a.category = 1) (k : V g x cs sl ws lo (pc + 1) st) : V g x cs sl ws lo pc (a :: st) := by
  obtain ⟨⟨p, e, s, m, args⟩, ⟨below, meth, c, A, nL0, R, Q⟩⟩ := x
  obtain ⟨hx, hb, hml, hown, hts, hK, hA, hE, hlk, rfl, rfl⟩ := X
  intro H locs ls hP hD hS hl
  exact lv_pop hx hb hdg hv (k H locs ls hP hD hS hl)
end SR
