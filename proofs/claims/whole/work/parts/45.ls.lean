/-! THE CLAIM OUT OF ONE WALK OF THE LAW'S BODY. Your part is whole_start (and what it stands on); all else here is the same for every law, but numbers. -/
def R_law : String := "AlikeHandsLaw"
def lw_P (b : Addr) (xs : List Int32) (args : Array Value) (s : State) : Prop := args = #[.ref b] ∧ s.IntsAt b xs ∧ xs.length ≤ 3584 ∧ (Jvm.Cond.and given_1 narrow_1).before args s = true
def lw_Q (_ : Array Value) (s : State) (o : Outcome) (t : State) : Prop := o = .returned (some (.int 1)) ∧ Framed s o t [] 43 1681
def lw_Z (below : List Frame) (a : Array Value) (s : State) : State → Prop := fun t => ∃ o, t.status = .running ∧ Ended t below o ∧ lw_Q a s o t
/-- the law's own end, with 1 on the stack, nothing written that was there before, its room as the claim has it -/
theorem lw_ret {p : Program} {l : Launch} {e : Env} {s : State} {m : MethodId} {below : List Frame} {meth : Method} {c : Code} {b : Nat} (hx : p.tables.exec = Jvm.exec) (hb : c.code = code) (hr : meth.sig.returnType = ret) (hlocks : meth.locks = false) {pc : Nat} {H : Heap} {ls : Array Slot} (hdg : decode code pc = .ok (.ireturn, 1)) : W p l e room_1 s m #[Value.ref b] below meth c H [] 43 1681 (lw_Z below #[Value.ref b] s) (F0 m pc ls [.int 1]) := by
  intro T hT X
  obtain ⟨fs, hret, hrun, hended, hW, hframe⟩ := X.leave (v := some (.int 1)) (hlocks := hlocks) (fun h => by rw [hr] at h; cases h)
  have hmeth' : T.vm.method? m = some meth := X.method'
  refine ⟨T.setFrames fs, ?_, .returned (some (.int 1)), hrun, hended, rfl, ⟨_, rfl⟩, hW, hframe⟩
  jvm_step X.here [X.here.top, hx, hb, hdg, hmeth', hr, ret, narrow_b1]
  (try refine ⟨rfl, ?_⟩); (try refine ⟨rfl, ?_⟩)
  first | (intro acts; rw [hret _ acts rfl rfl rfl]) | rw [hret _ _ rfl rfl rfl]
  exact Steps.refl _
/-- what holds at the law's entry: the machine, the code, the tables' words (any of lw_tbl by 'hts w (by decide +kernel)'), the script of L ints xs at the cell b, what the Statement gives of the start (any of its parts by flat_of_before) -/
def lw_At (p : Program) (s : State) (m : MethodId) (meth : Method) (c : Code) (b L : Nat) (xs : Nat → Int32) : Prop :=
  p.tables.exec = Jvm.exec ∧ c.code = code ∧ meth.sig.returnType = ret ∧ c.maxLocals = 4 ∧ s.vm.findClass R_law = some m.cls ∧ (∀ w ∈ lw_tbl, w.before #[Value.ref b] s = true) ∧ va_X b L xs s s.heap ∧ b < s.heap.size ∧ meth.locks = false ∧ (Jvm.Cond.and given_1 narrow_1).before #[Value.ref b] s = true

/-! the law's own rules -/
def Xs (x : Xt) (b L : Nat) (xs : Nat → Int32) : Prop := match x with
  | ((_, _, s, _, _), (_, _, _, A, _, _, _)) => va_X b L xs s s.heap ∧ b < s.heap.size ∧ ¬ A b
def Xl (x : Xt) (b : Nat) : Prop := match x with
  | ((_, _, s, _, args), (below, meth, _, A, _, R, Q)) => R = room_1 ∧ args = #[Value.ref b] ∧ meth.sig.returnType = ret ∧ (∀ q : Nat, A q → s.heap.size ≤ q) ∧ Q = lw_Z below #[Value.ref b] s
section LW
variable {g : Gx} {x : Xt} {Ts : List Cond} {own : String} {cc : ByteArray} {nL : Nat} {rm : Room} {cs sl : Nat} {ws : va_W} {lo : List (Option Value)} {pc : Nat} {st : List Value} {b L : Nat} {xs : Nat → Int32}
theorem v_sld (X : Xo g x Ts own cc nL rm) (Z : Xs x b L xs) {i y : Int} (hy : y = (xs i.toNat).toInt) (h0 : 0 ≤ i) (h1 : i < L) (h2 : i ≤ 2147483647) (hdg : decode cc pc = .ok (.iaload, 1)) (k : V g x cs sl ws lo (pc + 1) (.int (iI y) :: st)) : V g x cs sl ws lo pc (.int (iI i) :: .ref b :: st) := by
  obtain ⟨⟨p, e, s, m, args⟩, ⟨below, meth, c, A, nL0, R, Q⟩⟩ := x
  obtain ⟨hx, hb, hml, hown, hts, hK, hA, hE, hlk, rfl, rfl⟩ := X
  obtain ⟨hX, hbl, hbA⟩ := Z
  intro H locs ls hP hD hS hl
  refine va_sld hx hb hX hbl hbA hS (iI_in h0 h1 h2) hdg ?_
  have k2 := k H locs ls hP hD hS hl
  rw [hy, iI_of] at k2
  rw [iI_clamp (by omega)]
  exact k2
theorem v_slen (X : Xo g x Ts own cc nL rm) (Z : Xs x b L xs) (hdg : decode cc pc = .ok (.arraylength, 1)) (k : V g x cs sl ws lo (pc + 1) (.int (iI (L : Int)) :: st)) : V g x cs sl ws lo pc (.ref b :: st) := by
  obtain ⟨⟨p, e, s, m, args⟩, ⟨below, meth, c, A, nL0, R, Q⟩⟩ := x
  obtain ⟨hx, hb, hml, hown, hts, hK, hA, hE, hlk, rfl, rfl⟩ := X
  obtain ⟨hX, hbl, hbA⟩ := Z
  intro H locs ls hP hD hS hl
  exact va_slen hx hb hX hbl hbA hS hdg (k H locs ls hP hD hS hl)
theorem v_icmp_eqT (X : Xo g x Ts own cc nL rm) {a c : Int} {off : Int} {tgt : Nat} (hdg : decode cc pc = .ok (.if_icmp .eq off, 3)) (ht : (pc : Int) + off = (tgt : Int)) (h : a = c) (k : V g x cs sl ws lo tgt st) : V g x cs sl ws lo pc (.int (iI c) :: .int (iI a) :: st) := by
  obtain ⟨⟨p, e, s, m, args⟩, ⟨below, meth, c, A, nL0, R, Q⟩⟩ := x
  obtain ⟨hx, hb, hml, hown, hts, hK, hA, hE, hlk, rfl, rfl⟩ := X
  intro H locs ls hP hD hS hl
  subst h
  exact lv_icmp_eq hx hb hdg ht (fun _ => k H locs ls hP hD hS hl) (fun z => absurd rfl z)
theorem v_lawret (X : Xo g x Ts own code nL rm) (E : Xl x b) (hdg : decode code pc = .ok (.ireturn, 1)) : V g x 43 1681 ws lo pc [.int (iI 1)] := by
  obtain ⟨⟨p, e, s, m, args⟩, ⟨below, meth, c, A, nL0, R, Q⟩⟩ := x
  obtain ⟨hx, hb, hml, hown, hts, hK, hA, hE, hlk, rfl, rfl⟩ := X
  obtain ⟨rfl, rfl, hr, hAq, rfl⟩ := E
  intro H locs ls hP hD hS hl
  exact va_forget (fun q hq => hAq _ (hS.2.2 q hq)) (lw_ret hx hb hr hlk hdg)
end LW
