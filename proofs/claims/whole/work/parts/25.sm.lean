/-! calls upon a text constant -/
section ST
variable {g : Gx} {x : Xt} {Ts : List Cond} {own : String} {cc : ByteArray} {nL : Nat} {rm : Room} {cs sl : Nat} {ws : va_W} {lo : List (Option Value)} {pc : Nat} {st : List Value}
variable {y : MethodName} {wl wl2 : List Cond} {fr mc ms lo0 maxL index n : Nat} {w0 : va_W} {Qc : Nat → Array Value → State → Outcome → State → Prop} {ret : Option FieldType} {bytes : ByteArray} {As : List Value} {st0 : List Value}
theorem run_VT (X : Xo g x Ts own cc nL rm) (i : Nat) (hi : i < 7) (hM : Ct g y wl fr mc ms lo0 (.ref (g.2.2.2.2.1 i) :: As) w0 Qc) (hG : GoodIn Ts (wsV own index "java/lang/String" y wl)) (hw : wl = Cond.code y bytes maxL ret :: wl2) (hd : y.cls = "java/lang/String" ∧ y.cls ≠ "java/lang/invoke/MethodHandle" ∧ y.cls ≠ "java/lang/invoke/VarHandle" ∧ (parseMethodDescriptor y.desc).map (fun d => d.parameters.length) = some n) (hR : fr + 1 ≤ rm.frames ∧ 8 + (maxL + 11) + lo0 ≤ rm.locals) (hcs : cs + mc ≤ rm.cells ∧ sl + ms ≤ rm.slots)
    (isC : List Nat) (hC : isC.map (fun i => ws[i]?) = w0.map some) (hnd : va_nd isC = true) (hn : As.length = n) (hst : st0 = As.reverse ++ .ref (g.2.2.2.2.1 i) :: st) (hroom : (st.map fun v => v.category).sum ≤ 8) (hdg : decode cc pc = .ok (.invokevirtual index, 3)) : Rn g x cs sl mc ms ws lo pc st0 st w0 (.ref (g.2.2.2.2.1 i) :: As) Qc := by
  obtain ⟨⟨p, e, s, m, args⟩, ⟨below, meth, c, A, nL0, R, Q⟩⟩ := x
  obtain ⟨hx, hb, hml, hown, hts, hK, hA, hE, hlk, rfl, rfl⟩ := X
  intro H locs ls hP hD hS hl
  exact va_runV ⟨hx, hb, hml, hown, hts⟩ (hM H.size) (cwV n hts hG hw rfl rfl hd hR) ⟨Pw.blind, vk_recv hE.2.2.1 hi hS, fun U hU hW => ⟨rfl, Pw.call hK hP hD hS hA hE isC hC hnd hU hW⟩⟩ rfl hn hl.1 hst (lv_room hroom) hdg hcs
theorem v_bret (X : Xo g x Ts own cc nL rm) {S : Type} {post : Int → S → Prop} {w1 : S → va_W} (Y : Rt x (some .byte) w0 mc ms (QcI g w0 post w1)) (hdg : decode cc pc = .ok (.ireturn, 1)) {r : Int} (hz : r = 0 ∨ r = 1) {u : S} (hp : post r u) (hw : ws = w1 u) : V g x mc ms ws lo pc [.int (iI r)] := by
  obtain ⟨⟨p, e, s, m, args⟩, ⟨below, meth, c, A, nL0, R, Q⟩⟩ := x
  obtain ⟨hx, hb, hml, hown, hts, hK, hA, hE, hlk, rfl, rfl⟩ := X
  obtain ⟨hr, rfl, rfl⟩ := Y
  intro H locs ls hP hD hS hl
  subst hw
  exact W.zret hx hb hr (by rcases hz with rfl | rfl <;> decide) (fun t ht hW => ⟨⟨iI r, (r, u), rfl, ⟨rfl, hp⟩, by rw [ht]; exact hP, hD⟩, hS.F ht⟩) hS.2.2 hdg hlk
theorem lenQ_5 {i : Nat} (hi : i < 7) : lenQ.getD i 0 ≤ 5 := by
  have h : i = 0 ∨ i = 1 ∨ i = 2 ∨ i = 3 ∨ i = 4 ∨ i = 5 ∨ i = 6 := by omega
  rcases h with rfl | rfl | rfl | rfl | rfl | rfl | rfl <;> decide
theorem chQ_c {i : Nat} {j : Int} (hi : i < 7) (h0 : 0 ≤ j) (h1 : j < (lenQ.getD i 0 : Nat)) : ((iI (iAnd (chQ i j) 255)).toUInt32 % 65536).toInt32 = iI (chQ i j) := by
  have h5 := lenQ_5 hi
  have hj : j = 0 ∨ j = 1 ∨ j = 2 ∨ j = 3 ∨ j = 4 := by omega
  have h : i = 0 ∨ i = 1 ∨ i = 2 ∨ i = 3 ∨ i = 4 ∨ i = 5 ∨ i = 6 := by omega
  rcases h with rfl | rfl | rfl | rfl | rfl | rfl | rfl <;> rcases hj with rfl | rfl | rfl | rfl | rfl <;> decide
theorem v_cret (X : Xo g x Ts own cc nL rm) {S : Type} {post : Int → S → Prop} {w1 : S → va_W} (Y : Rt x (some .char) w0 mc ms (QcI g w0 post w1)) (hdg : decode cc pc = .ok (.ireturn, 1)) {i : Nat} {j : Int} (hi : i < 7) (h0 : 0 ≤ j) (h1 : j < (lenQ.getD i 0 : Nat)) {u : S} (hp : post (chQ i j) u) (hw : ws = w1 u) : V g x mc ms ws lo pc [.int (iI (chQ i j))] := by
  obtain ⟨⟨p, e, s, m, args⟩, ⟨below, meth, c, A, nL0, R, Q⟩⟩ := x
  obtain ⟨hx, hb, hml, hown, hts, hK, hA, hE, hlk, rfl, rfl⟩ := X
  obtain ⟨hr, rfl, rfl⟩ := Y
  intro H locs ls hP hD hS hl
  subst hw
  refine W.zret hx hb hr ?_ (fun t ht hW => ⟨⟨iI (chQ i j), (chQ i j, u), rfl, ⟨rfl, hp⟩, by rw [ht]; exact hP, hD⟩, hS.F ht⟩) hS.2.2 hdg hlk
  have h5 := lenQ_5 hi
  have hj : j = 0 ∨ j = 1 ∨ j = 2 ∨ j = 3 ∨ j = 4 := by omega
  have h : i = 0 ∨ i = 1 ∨ i = 2 ∨ i = 3 ∨ i = 4 ∨ i = 5 ∨ i = 6 := by omega
  clear hp hdg hr hP hD hS hl
  rcases h with rfl | rfl | rfl | rfl | rfl | rfl | rfl <;> rcases hj with rfl | rfl | rfl | rfl | rfl <;> decide
end ST
