/-! making: objects, arrays, constructors; what comes back from a call that made some -/
section NR
variable {g : Gx} {x : Xt} {Ts : List Cond} {own : String} {cc : ByteArray} {nL : Nat} {rm : Room} {cs sl : Nat} {ws : va_W} {lo : List (Option Value)} {pc : Nat} {st : List Value}
theorem v_cs {c2 s2 : Nat} (h1 : c2 = cs) (h2 : s2 = sl) (k : V g x c2 s2 ws lo pc st) : V g x cs sl ws lo pc st := by subst h1; subst h2; exact k
theorem v_new (X : Xo g x Ts own cc nL rm) {C : String} {T : u_T} {N ci index : Nat} (hin : ∀ w ∈ u_ws C T N, w ∈ Ts) (ty : Nat → FieldType) (hty : ∀ k, k < N → parseFieldDescriptor (T k).2.2.1 = some (ty k)) (hcl : Cond.classLink own index C ∈ Ts) (hinst : Cond.instantiable C N ∈ Ts) (hini : Cond.initialized C ∈ Ts) (hc : vwCl[ci]? = some (C, T, N)) {fs : List Value} (hfs : ∀ j, j < N → defaultValue (ty j) = vp_V fs j) (hcells : cs + 1 ≤ rm.cells) (hslots : sl + N ≤ rm.slots) (hdg : decode cc pc = .ok (.new index, 3)) (k : ∀ q : Nat, V g x (cs + 1) (sl + N) (ws ++ [(q, .inr (ci, fs))]) lo (pc + 3) (.ref q :: st)) : V g x cs sl ws lo pc st := by
  obtain ⟨⟨p, e, s, m, args⟩, ⟨below, meth, c, A, nL0, R, Q⟩⟩ := x
  obtain ⟨hx, hb, hml, hown, hts, hK, hA, hE, hlk, rfl, rfl⟩ := X
  intro H locs ls hP hD hS hl
  exact va_new hx hb hts hin ty hty hown (hts _ hcl) (hts _ hinst) (hts _ hini) hK hP hD hS hA hc hfs hcells hslots hdg (fun q H1 hP1 hD1 hS1 => k q H1 locs ls hP1 hD1 hS1 hl)
theorem v_newa (X : Xo g x Ts own cc nL rm) {n : Int} (hw : Cond.arrayClass .int ∈ Ts) (h0 : 0 ≤ n ∧ n ≤ 100000) (hcells : cs + 1 ≤ rm.cells) (hslots : sl + n.toNat ≤ rm.slots) (hdg : decode cc pc = .ok (.newarray .int, 2)) (k : ∀ q : Nat, V g x (cs + 1) (sl + n.toNat) (ws ++ [(q, aI g n.toNat (fun _ => 0))]) lo (pc + 2) (.ref q :: st)) : V g x cs sl ws lo pc (.int (iI n) :: st) := by
  obtain ⟨⟨p, e, s, m, args⟩, ⟨below, meth, c, A, nL0, R, Q⟩⟩ := x
  obtain ⟨hx, hb, hml, hown, hts, hK, hA, hE, hlk, rfl, rfl⟩ := X
  intro H locs ls hP hD hS hl
  refine va_newa (atype := .int) (ty := .int) (a0 := (n.toNat, .inl (fun _ => iI 0))) hx hb (hts _ hw) rfl hK hP hD hS hA (fun cA => rfl) (fun h => ?_) (iI_clamp (by omega)) ?_ hcells hslots hdg (fun q cA H1 hK1 hP1 hD1 hS1 => ?_)
  · have := (iI_lt (x := n) (y := 0) (by omega) (by omega)).mp h
    omega
  · show n.toNat * 4 ≤ 536870912
    omega
  · have e1 : s.vm.findClass ("[" ++ FieldType.int.toString) = some cA := (hK1.2 2 (cA, .int) rfl).2
    have e2 : s.vm.findClass ("[" ++ FieldType.int.toString) = some g.2.2.1 := (hK.2 0 (g.2.2.1, .int) rfl).2
    have e3 : cA = g.2.2.1 := Option.some.inj (e1.symm.trans e2)
    subst e3
    exact k q H1 locs ls hP1 hD1 hS1 hl
theorem v_newz (X : Xo g x Ts own cc nL rm) {n : Int} (hw : Cond.arrayClass .boolean ∈ Ts) (h0 : 0 ≤ n ∧ n ≤ 100000) (hcells : cs + 1 ≤ rm.cells) (hslots : sl + n.toNat ≤ rm.slots) (hdg : decode cc pc = .ok (.newarray .boolean, 2)) (k : ∀ q : Nat, V g x (cs + 1) (sl + n.toNat) (ws ++ [(q, aZ g n.toNat (fun _ => 0))]) lo (pc + 2) (.ref q :: st)) : V g x cs sl ws lo pc (.int (iI n) :: st) := by
  obtain ⟨⟨p, e, s, m, args⟩, ⟨below, meth, c, A, nL0, R, Q⟩⟩ := x
  obtain ⟨hx, hb, hml, hown, hts, hK, hA, hE, hlk, rfl, rfl⟩ := X
  intro H locs ls hP hD hS hl
  refine va_newa (atype := .boolean) (ty := .boolean) (a0 := (n.toNat, .inl (fun _ => iI 0))) hx hb (hts _ hw) rfl hK hP hD hS hA (fun cA => rfl) (fun h => ?_) (iI_clamp (by omega)) ?_ hcells hslots hdg (fun q cA H1 hK1 hP1 hD1 hS1 => ?_)
  · have := (iI_lt (x := n) (y := 0) (by omega) (by omega)).mp h
    omega
  · show n.toNat * 1 ≤ 536870912
    omega
  · have e1 : s.vm.findClass ("[" ++ FieldType.boolean.toString) = some cA := (hK1.2 2 (cA, .boolean) rfl).2
    have e2 : s.vm.findClass ("[" ++ FieldType.boolean.toString) = some g.2.2.2.1 := (hK.2 1 (g.2.2.2.1, .boolean) rfl).2
    have e3 : cA = g.2.2.2.1 := Option.some.inj (e1.symm.trans e2)
    subst e3
    exact k q H1 locs ls hP1 hD1 hS1 hl
theorem v_obj (X : Xo g x Ts own cc nL rm) {idx a : Nat} (h1 : Cond.methodLink own idx objectInit ∈ Ts) (h2 : Cond.instanceMethod objectInit ∈ Ts) (h3 : Cond.code objectInit ⟨#[0xb1]⟩ 1 none ∈ Ts) (hR : 1 ≤ rm.frames ∧ (st.map fun v => v.category).sum + 12 ≤ rm.locals) (hdg : decode cc pc = .ok (.invokespecial idx, 3)) (k : V g x cs sl ws lo (pc + 3) st) : V g x cs sl ws lo pc (.ref a :: st) := by
  obtain ⟨⟨p, e, s, m, args⟩, ⟨below, meth, c, A, nL0, R, Q⟩⟩ := x
  obtain ⟨hx, hb, hml, hown, hts, hK, hA, hE, hlk, rfl, rfl⟩ := X
  intro H locs ls hP hD hS hl
  refine W.objInit hx hb hown (hts _ h1) (hts _ h2) (hts _ h3) rfl (hl.1.trans hml.symm) rfl hdg hR.1 ?_ (k H locs ls hP hD hS hl)
  show 2 * 0 + _ + 12 ≤ _
  have := hR.2
  omega
variable {y : MethodName} {wl wl2 : List Cond} {fr mc ms lo0 maxL index n : Nat} {w0 : va_W} {Qc : Nat → Array Value → State → Outcome → State → Prop} {bytes : ByteArray} {As : List Value} {st0 : List Value}
theorem run_I {b : Nat} (X : Xo g x Ts own cc nL rm) (hM : Ct g y wl fr mc ms lo0 (.ref b :: As) w0 Qc) (hG : GoodIn Ts wl) (hw : wl = Cond.code y bytes maxL none :: wl2) (hini : Cond.initialized y.cls ∈ Ts) (hlk1 : Cond.methodLink own index y ∈ Ts) (hin : Cond.instanceMethod y ∈ Ts) (hy1 : y.name = "<init>") (hd : y.cls ≠ "java/lang/invoke/MethodHandle" ∧ y.cls ≠ "java/lang/invoke/VarHandle" ∧ (parseMethodDescriptor y.desc).map (fun d => d.parameters.length) = some n) (hR : fr + 1 ≤ rm.frames ∧ 8 + (maxL + 11) + lo0 ≤ rm.locals) (hcs : cs + mc ≤ rm.cells ∧ sl + ms ≤ rm.slots)
    (isC : List Nat) (hC : isC.map (fun i => ws[i]?) = w0.map some) (hnd : va_nd isC = true) (hn : As.length = n) (hst : st0 = As.reverse ++ .ref b :: st) (hroom : (st.map fun v => v.category).sum ≤ 8) (hdg : decode cc pc = .ok (.invokespecial index, 3)) : Rn g x cs sl mc ms ws lo pc st0 st w0 (.ref b :: As) Qc := by
  obtain ⟨⟨p, e, s, m, args⟩, ⟨below, meth, c, A, nL0, R, Q⟩⟩ := x
  obtain ⟨hx, hb, hml, hown, hts, hK, hA, hE, hlk, rfl, rfl⟩ := X
  intro H locs ls hP hD hS hl
  exact va_runI ⟨hx, hb, hml, hown, hts⟩ (hM H.size) (cwI n hts hG hw rfl rfl (hts _ hini) (hts _ hlk1) (hts _ hin) hy1 hd hR) ⟨Pw.blind, fun U hU hW => ⟨rfl, Pw.call hK hP hD hS hA hE isC hC hnd hU hW⟩⟩ rfl hn hl.1 hst (lv_room hroom) hdg hcs
theorem run_IN {host : String} {b : Nat} (X : Xo g x Ts own cc nL rm) (hM : Ct g y wl fr mc ms lo0 (.ref b :: As) w0 Qc) (hG : GoodIn Ts wl) (hw : wl = Cond.code y bytes maxL none :: wl2) (hq : (own, index, y, host) ∈ nestQ) (hini : Cond.initialized y.cls ∈ Ts) (hin : Cond.instanceMethod y ∈ Ts) (hy1 : y.name = "<init>") (hd : y.cls ≠ "java/lang/invoke/MethodHandle" ∧ y.cls ≠ "java/lang/invoke/VarHandle" ∧ (parseMethodDescriptor y.desc).map (fun d => d.parameters.length) = some n) (hR : fr + 1 ≤ rm.frames ∧ 8 + (maxL + 11) + lo0 ≤ rm.locals) (hcs : cs + mc ≤ rm.cells ∧ sl + ms ≤ rm.slots)
    (isC : List Nat) (hC : isC.map (fun i => ws[i]?) = w0.map some) (hnd : va_nd isC = true) (hn : As.length = n) (hst : st0 = As.reverse ++ .ref b :: st) (hroom : (st.map fun v => v.category).sum ≤ 8) (hdg : decode cc pc = .ok (.invokespecial index, 3)) : Rn g x cs sl mc ms ws lo pc st0 st w0 (.ref b :: As) Qc := by
  obtain ⟨⟨p, e, s, m, args⟩, ⟨below, meth, c, A, nL0, R, Q⟩⟩ := x
  obtain ⟨hx, hb, hml, hown, hts, hK, hA, hE, hlk, rfl, rfl⟩ := X
  intro H locs ls hP hD hS hl
  exact va_runIN ⟨hx, hb, hml, hown, hts⟩ (hM H.size) ⟨va_cnB n hts hG hw rfl rfl (hE.1 _ hq) (hts _ hini) hd hR, hy1, hts _ hin⟩ ⟨Pw.blind, fun U hU hW => ⟨rfl, Pw.call hK hP hD hS hA hE isC hC hnd hU hW⟩⟩ rfl hn hl.1 hst (lv_room hroom) hdg hcs
def CtN {S : Type} (g : Gx) (y : MethodName) (wl : List Cond) (fr mc ms lo : Nat) (as : List Value) (w0 : va_W) (post : S → Prop) (w1 : S → va_W) : Prop := Ct g y wl fr mc ms lo as w0 (QcV g w0 post w1)
theorem res_N (X : Xo g x Ts own cc nL rm) {S : Type} {post : S → Prop} {w1 : S → va_W} {as : List Value} (hr : Rn g x cs sl mc ms ws lo pc st0 st w0 as (QcV g w0 post w1)) (isC : List Nat) (hC : isC.map (fun i => ws[i]?) = w0.map some) (wr : va_W) (isR : List Nat) (hR : isR.map (fun i => ws[i]?) = wr.map some) (hnr : va_nd isR = true) (hdis : ∀ i ∈ isR, i ∉ isC) (k : ∀ (u : S), post u → V g x (cs + mc) (sl + ms) (wr ++ w1 u) lo (pc + 3) st) : V g x cs sl ws lo pc st0 := by
  obtain ⟨⟨p, e, s, m, args⟩, ⟨below, meth, c, A, nL0, R, Q⟩⟩ := x
  obtain ⟨hx, hb, hml, hown, hts, hK, hA, hE, hlk, rfl, rfl⟩ := X
  intro H locs ls hP hD hS hl
  have hF := va_free (wc := w0) hD hS hA isC hC
  refine va_callv (hr H locs ls hP hD hS hl) hS (fun q _ h => hF q h) hF (fun u t H1 locs1 ht hvm hp hB hz hk hS1 => ?_)
  obtain ⟨hP1, hD1⟩ := hB
  rw [ht] at hP1
  obtain ⟨hP2, hD2⟩ := va_join hP hD isC isR hC hR hnr hdis hk hF hP1 hD1
  exact k u hp H1 locs1 ls hP2 hD2 hS1 hl
end NR
section NS
variable {g : Gx} {x : Xt} {Ts : List Cond} {own : String} {cc : ByteArray} {nL : Nat} {rm : Room} {cs sl : Nat} {lo : List (Option Value)} {pc : Nat} {st st0 : List Value} {mc ms : Nat}
theorem last_C (wr : va_W) (c0 : Nat × va_E) : [wr.length].map (fun i => (wr ++ [c0])[i]?) = [c0].map some := by simp
theorem last_R (wr : va_W) (c0 : Nat × va_E) : (List.range wr.length).map (fun i => (wr ++ [c0])[i]?) = wr.map some := by
  refine List.ext_getElem? (fun j => ?_)
  rw [List.getElem?_map, List.getElem?_map]
  by_cases h : j < wr.length
  · rw [List.getElem?_range h, Option.map_some, List.getElem?_append_left h, List.getElem?_eq_getElem h]
    rfl
  · rw [List.getElem?_eq_none (by simpa using h), List.getElem?_eq_none (by simpa using h)]
    rfl
theorem nd_range : ∀ (n k : Nat), va_nd ((List.range n).map (fun i => k + i)) = true := by
  intro n
  induction n with
  | zero => intro k; rfl
  | succ n ih =>
    intro k
    rw [List.range_succ_eq_map, List.map_cons, List.map_map]
    have h := ih (k + 1)
    have e : List.map ((fun i => k + i) ∘ Nat.succ) (List.range n) = List.map (fun i => k + 1 + i) (List.range n) := by
      refine List.map_congr_left (fun i _ => ?_)
      show k + (i + 1) = k + 1 + i
      omega
    rw [e]
    simp only [va_nd, Bool.and_eq_true]
    refine ⟨decide_eq_true_iff.mpr (fun hm => ?_), h⟩
    obtain ⟨i, hi, e2⟩ := List.mem_map.mp hm
    omega
theorem res_N1 (X : Xo g x Ts own cc nL rm) {wr : va_W} {c0 : Nat × va_E} {S : Type} {post : S → Prop} {w1 : S → va_W} {as : List Value} (hr : Rn g x cs sl mc ms (wr ++ [c0]) lo pc st0 st [c0] as (QcV g [c0] post w1)) (k : ∀ (u : S), post u → V g x (cs + mc) (sl + ms) (wr ++ w1 u) lo (pc + 3) st) : V g x cs sl (wr ++ [c0]) lo pc st0 := by
  refine res_N X hr [wr.length] (last_C wr c0) wr (List.range wr.length) (last_R wr c0) ?_ (fun i hi h => ?_) k
  · have h := nd_range wr.length 0
    rw [show List.map (fun i => 0 + i) (List.range wr.length) = List.range wr.length by simp] at h
    exact h
  · have h1 := List.mem_range.mp hi
    have h2 := List.mem_singleton.mp h
    omega
end NS
