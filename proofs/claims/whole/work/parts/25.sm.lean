/-! calls upon a text constant -/
section ST
variable {g : Gx} {x : Xt} {Ts : List Cond} {own : String} {cc : ByteArray} {nL : Nat} {rm : Room} {cs sl : Nat} {ws : va_W} {lo : List (Option Value)} {pc : Nat} {st : List Value}
variable {y : MethodName} {wl wl2 : List Cond} {fr mc ms lo0 maxL index n : Nat} {w0 : va_W} {Qc : Nat → Array Value → State → Outcome → State → Prop} {ret : Option FieldType} {bytes : ByteArray} {As : List Value} {st0 : List Value}
theorem run_VT (X : Xo g x Ts own cc nL rm) (i : Nat) (hi : i < 7) (hM : Ct g y wl fr mc ms lo0 (.ref (g.2.2.2.2.1 i) :: As) w0 Qc) (hG : GoodIn Ts (wsV own index "java/lang/String" y wl)) (hw : wl = Cond.code y bytes maxL ret :: wl2) (hd : y.cls = "java/lang/String" ∧ y.cls ≠ "java/lang/invoke/MethodHandle" ∧ y.cls ≠ "java/lang/invoke/VarHandle" ∧ (parseMethodDescriptor y.desc).map (fun d => d.parameters.length) = some n) (hR : fr + 1 ≤ rm.frames ∧ 8 + (maxL + 11) + lo0 ≤ rm.locals) (hcs : cs + mc ≤ rm.cells ∧ sl + ms ≤ rm.slots)
    (isC : List Nat) (hC : isC.map (fun i => ws[i]?) = w0.map some) (hnd : va_nd isC = true) (hn : As.length = n) (hst : st0 = As.reverse ++ .ref (g.2.2.2.2.1 i) :: st) (hroom : (st.map fun v => v.category).sum ≤ 8) (hdg : decode cc pc = .ok (.invokevirtual index, 3)) : Rn g x cs sl mc ms ws lo pc st0 st w0 (.ref (g.2.2.2.2.1 i) :: As) Qc := by
  obtain ⟨⟨p, e, s, m, args⟩, ⟨below, meth, c, A, nL0, R, Q⟩⟩ := x
  obtain ⟨hx, hb, hml, hown, hts, hK, hA, hE, hlk, rfl, rfl⟩ := X
  intro H locs ls hP hD hS hl
  exact va_runV ⟨hx, hb, hml, hown, hts⟩ (hM H.size) (cwV n hts hG hw rfl rfl hd hR) ⟨Pw.blind, vk_recv hE.2.2.1 hi hS, fun U hU hW => ⟨rfl, Pw.call hK hP hD hS hA hE isC hC hnd hU hW⟩⟩ rfl hn hl.1 hst (lv_room hroom) hdg hcs
end ST
