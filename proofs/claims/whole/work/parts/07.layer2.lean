/-! what stays the same through all calls: links of nest mates, text constants, two statics -/
abbrev Gx : Type := Launch × va_G × ClassId × ClassId × (Nat → Nat) × (Nat → Nat)
def nestQ : List (String × Nat × MethodName × String) := [(RX7, 18, yX6_init, RX7), (RX7, 25, yX2_init, RX7), (RX7, 41, yX0_init, RX7), (RX7, 48, yX3_init, RX7), (RX7, 55, yX4_init, RX7), (RX7, 62, yX1_init, RX7), (RX5, 27, yX7_isRow, RX7), (RX5, 45, yX7_isWithin, RX7), (RX6, 80, yX7_isWithin, RX7), (RX0, 29, yX7_isWithin, RX7), (RX2, 48, yX7_rest, RX7), (RX3, 19, yX7_common, RX7), (RX3, 37, yX7_rest, RX7), (RX4, 53, yX7_rest, RX7)]
def strQ : List (Nat × String) := [(33, "dial"), (56, "hand"), (106, "hour"), (108, "moon"), (110, "sweep"), (112, "back"), (114, "tide")]
def lenQ : List Nat := [4, 4, 4, 4, 5, 4, 4]
def bytQ : List (List Int32) := [[100, 105, 97, 108], [104, 97, 110, 100], [104, 111, 117, 114], [109, 111, 111, 110], [115, 119, 101, 101, 112], [98, 97, 99, 107], [116, 105, 100, 101]]
def Ev (g : Gx) (A : Nat → Prop) (U : State) (H : Heap) : Prop :=
  (∀ q ∈ nestQ, va_Nw (.methodLinkNest q.1 q.2.1 q.2.2.1 q.2.2.2) U) ∧ (∀ (i : Nat) (q : Nat × String), strQ[i]? = some q → vk_R RX6 q.1 q.2 (g.2.2.2.2.1 i) U) ∧ vk_S 7 lenQ bytQ g.2.2.2.2.1 g.2.2.2.2.2 A U H ∧ va_Z "java/lang/String" "COMPACT_STRINGS" "Z" (.int 1) A U H ∧ va_Zq "jdk/internal/util/Preconditions" "SIOOBE_FORMATTER" "Ljava/util/function/BiFunction;" A U H
theorem Ev.warm {g : Gx} {A : Nat → Prop} {s U : State} {H : Heap} (hW : s.WarmedH U.vm) (h : Ev g A s H) : Ev g A U H :=
  ⟨fun q hq => va_Nw.warmM hW (h.1 q hq), fun i q hq => (h.2.1 i q hq).warm hW, h.2.2.1.moved hW.alike, h.2.2.2.1.moved hW.alike, h.2.2.2.2.moved hW.alike⟩
theorem Ev.same {g : Gx} {A : Nat → Prop} {s U : State} {H : Heap} (hv : s.vm = U.vm) (h : Ev g A s H) : Ev g A U H :=
  ⟨fun q hq => (h.1 q hq).same rfl hv, fun i q hq => (h.2.1 i q hq).same hv.symm, h.2.2.1.moved (by rw [hv]; exact Vm.Alike.refl U.vm), h.2.2.2.1.moved (by rw [hv]; exact Vm.Alike.refl U.vm), h.2.2.2.2.moved (by rw [hv]; exact Vm.Alike.refl U.vm)⟩
theorem Ev.kept {g : Gx} {A : Nat → Prop} {U : State} {H H1 : Heap} (h : Ev g A U H) (hq : ∀ a : Nat, a < H.size → ¬ A a → H1[a]? = H[a]?) : Ev g A U H1 :=
  ⟨h.1, h.2.1, h.2.2.1.kept hq, h.2.2.2.1.kept hq, h.2.2.2.2.kept hq⟩
theorem Ev.narrow {g : Gx} {A B : Nat → Prop} {U : State} {H : Heap} (h : Ev g A U H) (hAB : ∀ q, B q → A q) : Ev g B U H :=
  ⟨h.1, h.2.1, h.2.2.1.narrow hAB, h.2.2.2.1.narrow hAB, h.2.2.2.2.narrow hAB⟩
/-! the place of a walk: its world, its locals, its stack -/
abbrev Xt : Type := (Program × Env × State × MethodId × Array Value) × (List Frame × Method × Code × (Nat → Prop) × Nat × Room × (State → Prop))
abbrev TYg (g : Gx) : List (ClassId × FieldType) := [(g.2.2.1, .int), (g.2.2.2.1, .boolean)]
abbrev aI (g : Gx) (n : Nat) (f : Nat → Int) : va_E := .inl (g.2.2.1, n, .inl (fun j => iI (f j)))
abbrev aZ (g : Gx) (n : Nat) (f : Nat → Int) : va_E := .inl (g.2.2.2.1, n, .inl (fun j => iI (f j)))
def V (g : Gx) (x : Xt) (cs sl : Nat) (ws : va_W) (lo : List (Option Value)) (pc : Nat) (st : List Value) : Prop :=
  match x with
  | ((p, e, s, m, args), (below, meth, c, A, nL, R, Q)) => ∀ (H : Heap) (locs : List Loc) (ls : Array Slot), va_P g.2.1 vwCl ws H → va_D A ws → va_S A s.heap H locs → lvO ls nL lo → W p g.1 e R s m args below meth c H locs cs sl Q (F0 m pc ls st)
def Xo (g : Gx) (x : Xt) (Ts : List Cond) (own : String) (cc : ByteArray) (nL : Nat) (rm : Room) : Prop :=
  match x with
  | ((p, _, s, m, args), (_, meth, c, A, nL0, R, _)) => p.tables.exec = Jvm.exec ∧ c.code = cc ∧ c.maxLocals = nL ∧ s.vm.findClass own = some m.cls ∧ (∀ w ∈ Ts, w.before args s = true) ∧ va_K g.2.1 vwCl (TYg g) s ∧ (∀ q : Nat, s.heap.size ≤ q → A q) ∧ Ev g A s s.heap ∧ meth.locks = false ∧ nL0 = nL ∧ R = rm
section VR
variable {g : Gx} {x : Xt} {Ts : List Cond} {own : String} {cc : ByteArray} {nL : Nat} {rm : Room} {cs sl : Nat} {ws : va_W} {lo : List (Option Value)} {pc : Nat} {st : List Value}
theorem v_eq {pc2 : Nat} {st2 : List Value} {ws2 : va_W} {lo2 : List (Option Value)} (h1 : pc2 = pc) (h2 : st2 = st) (h3 : ws2 = ws) (h4 : lo2 = lo) (k : V g x cs sl ws2 lo2 pc2 st2) : V g x cs sl ws lo pc st := by subst h1; subst h2; subst h3; subst h4; exact k
theorem v_lo {lo2 : List (Option Value)} (hs : ∀ (i : Nat) (v : Value), lo2[i]? = some (some v) → lo[i]? = some (some v)) (k : V g x cs sl ws lo2 pc st) : V g x cs sl ws lo pc st := by
  obtain ⟨⟨p, e, s, m, args⟩, ⟨below, meth, c, A, nL0, R, Q⟩⟩ := x
  intro H locs ls hP hD hS hl
  exact k H locs ls hP hD hS (lvO_sub hl hs)
theorem v_widen {c2 s2 : Nat} (h1 : cs ≤ c2) (h2 : sl ≤ s2) (k : V g x c2 s2 ws lo pc st) : V g x cs sl ws lo pc st := by
  obtain ⟨⟨p, e, s, m, args⟩, ⟨below, meth, c, A, nL0, R, Q⟩⟩ := x
  intro H locs ls hP hD hS hl
  exact W.widen h1 h2 (k H locs ls hP hD hS hl)
theorem v_drop (n : Nat) (k : V g x cs sl ws (lo.set n none) pc st) : V g x cs sl ws lo pc st := by
  refine v_lo (fun i v h => ?_) k
  by_cases e : i = n
  · subst e
    exfalso
    rcases Nat.lt_or_ge i lo.length with q | q
    · rw [List.getElem?_set_self q] at h; cases h
    · rw [List.getElem?_eq_none (by simpa using q)] at h; cases h
  · rwa [List.getElem?_set_ne (Ne.symm e)] at h
theorem v_iconst (X : Xo g x Ts own cc nL rm) {n : Int} (hdg : decode cc pc = .ok (.iconst n, 1)) (k : V g x cs sl ws lo (pc + 1) (.int (iI n) :: st)) : V g x cs sl ws lo pc st := by
  obtain ⟨⟨p, e, s, m, args⟩, ⟨below, meth, c, A, nL0, R, Q⟩⟩ := x
  obtain ⟨hx, hb, hml, hown, hts, hK, hA, hE, hlk, rfl, rfl⟩ := X
  intro H locs ls hP hD hS hl
  exact lv_iconst hx hb hdg rfl (k H locs ls hP hD hS hl)
theorem v_bipush (X : Xo g x Ts own cc nL rm) {n : Int} (hdg : decode cc pc = .ok (.bipush n, 2)) (hn : -128 ≤ n ∧ n ≤ 127) (k : V g x cs sl ws lo (pc + 2) (.int (iI n) :: st)) : V g x cs sl ws lo pc st := by
  obtain ⟨⟨p, e, s, m, args⟩, ⟨below, meth, c, A, nL0, R, Q⟩⟩ := x
  obtain ⟨hx, hb, hml, hown, hts, hK, hA, hE, hlk, rfl, rfl⟩ := X
  intro H locs ls hP hD hS hl
  exact lv_bipush hx hb hdg (iI_b hn) (k H locs ls hP hD hS hl)
theorem v_sipush (X : Xo g x Ts own cc nL rm) {n : Int} (hdg : decode cc pc = .ok (.sipush n, 3)) (hn : -32768 ≤ n ∧ n ≤ 32767) (k : V g x cs sl ws lo (pc + 3) (.int (iI n) :: st)) : V g x cs sl ws lo pc st := by
  obtain ⟨⟨p, e, s, m, args⟩, ⟨below, meth, c, A, nL0, R, Q⟩⟩ := x
  obtain ⟨hx, hb, hml, hown, hts, hK, hA, hE, hlk, rfl, rfl⟩ := X
  intro H locs ls hP hD hS hl
  exact lv_sipush hx hb hdg (iI_s hn) (k H locs ls hP hD hS hl)
theorem v_ldc (X : Xo g x Ts own cc nL rm) {index : Nat} {v : Int32} (hw : Cond.constant own index v ∈ Ts) (hdg : decode cc pc = .ok (.ldc index, 2)) {n : Int} (hv : iI n = v) (k : V g x cs sl ws lo (pc + 2) (.int (iI n) :: st)) : V g x cs sl ws lo pc st := by
  obtain ⟨⟨p, e, s, m, args⟩, ⟨below, meth, c, A, nL0, R, Q⟩⟩ := x
  obtain ⟨hx, hb, hml, hown, hts, hK, hA, hE, hlk, rfl, rfl⟩ := X
  intro H locs ls hP hD hS hl
  subst hv
  exact lv_ldc hx hb hown (hts _ hw) hdg (k H locs ls hP hD hS hl)
theorem v_ldcw (X : Xo g x Ts own cc nL rm) {index : Nat} {v : Int32} (hw : Cond.constant own index v ∈ Ts) (hdg : decode cc pc = .ok (.ldc_w index, 3)) {n : Int} (hv : iI n = v) (k : V g x cs sl ws lo (pc + 3) (.int (iI n) :: st)) : V g x cs sl ws lo pc st := by
  obtain ⟨⟨p, e, s, m, args⟩, ⟨below, meth, c, A, nL0, R, Q⟩⟩ := x
  obtain ⟨hx, hb, hml, hown, hts, hK, hA, hE, hlk, rfl, rfl⟩ := X
  intro H locs ls hP hD hS hl
  subst hv
  exact lv_ldcw hx hb hown (hts _ hw) hdg (k H locs ls hP hD hS hl)
theorem v_ldc2 (X : Xo g x Ts own cc nL rm) {index : Nat} {v : Int64} (hw : Cond.constantLong own index v ∈ Ts) (hdg : decode cc pc = .ok (.ldc2_w index, 3)) {n : Int} (hv : lI n = v) (k : V g x cs sl ws lo (pc + 3) (.long (lI n) :: st)) : V g x cs sl ws lo pc st := by
  obtain ⟨⟨p, e, s, m, args⟩, ⟨below, meth, c, A, nL0, R, Q⟩⟩ := x
  obtain ⟨hx, hb, hml, hown, hts, hK, hA, hE, hlk, rfl, rfl⟩ := X
  intro H locs ls hP hD hS hl
  subst hv
  exact lv_ldc2 hx hb hown (hts _ hw) hdg (k H locs ls hP hD hS hl)
theorem v_lconst0 (X : Xo g x Ts own cc nL rm) (hdg : decode cc pc = .ok (.lconst 0, 1)) (k : V g x cs sl ws lo (pc + 1) (.long (lI 0) :: st)) : V g x cs sl ws lo pc st := by
  obtain ⟨⟨p, e, s, m, args⟩, ⟨below, meth, c, A, nL0, R, Q⟩⟩ := x
  obtain ⟨hx, hb, hml, hown, hts, hK, hA, hE, hlk, rfl, rfl⟩ := X
  intro H locs ls hP hD hS hl
  exact lv_lconst hx hb hdg rfl (k H locs ls hP hD hS hl)
theorem v_lconst1 (X : Xo g x Ts own cc nL rm) (hdg : decode cc pc = .ok (.lconst 1, 1)) (k : V g x cs sl ws lo (pc + 1) (.long (lI 1) :: st)) : V g x cs sl ws lo pc st := by
  obtain ⟨⟨p, e, s, m, args⟩, ⟨below, meth, c, A, nL0, R, Q⟩⟩ := x
  obtain ⟨hx, hb, hml, hown, hts, hK, hA, hE, hlk, rfl, rfl⟩ := X
  intro H locs ls hP hD hS hl
  exact lv_lconst hx hb hdg rfl (k H locs ls hP hD hS hl)
theorem v_iload_n (X : Xo g x Ts own cc nL rm) {n : Fin 4} {y : Int32} (hdg : decode cc pc = .ok (.iload_n n, 1)) (hv : lo[(n : Nat)]? = some (some (.int y))) (k : V g x cs sl ws lo (pc + 1) (.int y :: st)) : V g x cs sl ws lo pc st := by
  obtain ⟨⟨p, e, s, m, args⟩, ⟨below, meth, c, A, nL0, R, Q⟩⟩ := x
  obtain ⟨hx, hb, hml, hown, hts, hK, hA, hE, hlk, rfl, rfl⟩ := X
  intro H locs ls hP hD hS hl
  exact lv_iload_n hx hb hdg rfl (lvO_at hl hv) (k H locs ls hP hD hS hl)
theorem v_iload (X : Xo g x Ts own cc nL rm) {n : Nat} {y : Int32} (hdg : decode cc pc = .ok (.iload n, 2)) (hv : lo[n]? = some (some (.int y))) (k : V g x cs sl ws lo (pc + 2) (.int y :: st)) : V g x cs sl ws lo pc st := by
  obtain ⟨⟨p, e, s, m, args⟩, ⟨below, meth, c, A, nL0, R, Q⟩⟩ := x
  obtain ⟨hx, hb, hml, hown, hts, hK, hA, hE, hlk, rfl, rfl⟩ := X
  intro H locs ls hP hD hS hl
  exact lv_iload hx hb hdg (lvO_at hl hv) (k H locs ls hP hD hS hl)
theorem v_lload_n (X : Xo g x Ts own cc nL rm) {n : Fin 4} {y : Int64} (hdg : decode cc pc = .ok (.lload_n n, 1)) (hv : lo[(n : Nat)]? = some (some (.long y))) (k : V g x cs sl ws lo (pc + 1) (.long y :: st)) : V g x cs sl ws lo pc st := by
  obtain ⟨⟨p, e, s, m, args⟩, ⟨below, meth, c, A, nL0, R, Q⟩⟩ := x
  obtain ⟨hx, hb, hml, hown, hts, hK, hA, hE, hlk, rfl, rfl⟩ := X
  intro H locs ls hP hD hS hl
  exact lv_lload_n hx hb hdg rfl (lvO_at hl hv) (k H locs ls hP hD hS hl)
theorem v_lload (X : Xo g x Ts own cc nL rm) {n : Nat} {y : Int64} (hdg : decode cc pc = .ok (.lload n, 2)) (hv : lo[n]? = some (some (.long y))) (k : V g x cs sl ws lo (pc + 2) (.long y :: st)) : V g x cs sl ws lo pc st := by
  obtain ⟨⟨p, e, s, m, args⟩, ⟨below, meth, c, A, nL0, R, Q⟩⟩ := x
  obtain ⟨hx, hb, hml, hown, hts, hK, hA, hE, hlk, rfl, rfl⟩ := X
  intro H locs ls hP hD hS hl
  exact lv_lload hx hb hdg (lvO_at hl hv) (k H locs ls hP hD hS hl)
theorem v_aload_n (X : Xo g x Ts own cc nL rm) {n : Fin 4} {y : Nat} (hdg : decode cc pc = .ok (.aload_n n, 1)) (hv : lo[(n : Nat)]? = some (some (.ref y))) (k : V g x cs sl ws lo (pc + 1) (.ref y :: st)) : V g x cs sl ws lo pc st := by
  obtain ⟨⟨p, e, s, m, args⟩, ⟨below, meth, c, A, nL0, R, Q⟩⟩ := x
  obtain ⟨hx, hb, hml, hown, hts, hK, hA, hE, hlk, rfl, rfl⟩ := X
  intro H locs ls hP hD hS hl
  exact lv_aload_n hx hb hdg rfl (lvO_at hl hv) (k H locs ls hP hD hS hl)
theorem v_aload (X : Xo g x Ts own cc nL rm) {n : Nat} {y : Nat} (hdg : decode cc pc = .ok (.aload n, 2)) (hv : lo[n]? = some (some (.ref y))) (k : V g x cs sl ws lo (pc + 2) (.ref y :: st)) : V g x cs sl ws lo pc st := by
  obtain ⟨⟨p, e, s, m, args⟩, ⟨below, meth, c, A, nL0, R, Q⟩⟩ := x
  obtain ⟨hx, hb, hml, hown, hts, hK, hA, hE, hlk, rfl, rfl⟩ := X
  intro H locs ls hP hD hS hl
  exact lv_aload hx hb hdg (lvO_at hl hv) (k H locs ls hP hD hS hl)
theorem v_istore_n (X : Xo g x Ts own cc nL rm) {n : Fin 4} {y : Int32} (hdg : decode cc pc = .ok (.istore_n n, 1)) (i : Nat) (hi : (n : Nat) = i) (hn : i < nL) (hk : okS lo i = true) (k : V g x cs sl ws (lo.set i (some (.int y))) (pc + 1) st) : V g x cs sl ws lo pc (.int y :: st) := by
  obtain ⟨⟨p, e, s, m, args⟩, ⟨below, meth, c, A, nL0, R, Q⟩⟩ := x
  obtain ⟨hx, hb, hml, hown, hts, hK, hA, hE, hlk, rfl, rfl⟩ := X
  intro H locs ls hP hD hS hl
  subst hi
  exact lv_istore_n hx hb hdg rfl hl hn rfl (fun ls2 h2 => k H locs ls2 hP hD hS (lvO_set1 hk h2))
theorem v_istore (X : Xo g x Ts own cc nL rm) {n : Nat} {y : Int32} (hdg : decode cc pc = .ok (.istore n, 2)) (hn : n < nL) (hk : okS lo n = true) (k : V g x cs sl ws (lo.set n (some (.int y))) (pc + 2) st) : V g x cs sl ws lo pc (.int y :: st) := by
  obtain ⟨⟨p, e, s, m, args⟩, ⟨below, meth, c, A, nL0, R, Q⟩⟩ := x
  obtain ⟨hx, hb, hml, hown, hts, hK, hA, hE, hlk, rfl, rfl⟩ := X
  intro H locs ls hP hD hS hl
  exact lv_istore hx hb hdg hl hn rfl (fun ls2 h2 => k H locs ls2 hP hD hS (lvO_set1 hk h2))
theorem v_astore_n (X : Xo g x Ts own cc nL rm) {n : Fin 4} {y : Nat} (hdg : decode cc pc = .ok (.astore_n n, 1)) (i : Nat) (hi : (n : Nat) = i) (hn : i < nL) (hk : okS lo i = true) (k : V g x cs sl ws (lo.set i (some (.ref y))) (pc + 1) st) : V g x cs sl ws lo pc (.ref y :: st) := by
  obtain ⟨⟨p, e, s, m, args⟩, ⟨below, meth, c, A, nL0, R, Q⟩⟩ := x
  obtain ⟨hx, hb, hml, hown, hts, hK, hA, hE, hlk, rfl, rfl⟩ := X
  intro H locs ls hP hD hS hl
  subst hi
  exact lv_astore_n hx hb hdg rfl hl hn rfl (fun ls2 h2 => k H locs ls2 hP hD hS (lvO_set1 hk h2))
theorem v_astore (X : Xo g x Ts own cc nL rm) {n : Nat} {y : Nat} (hdg : decode cc pc = .ok (.astore n, 2)) (hn : n < nL) (hk : okS lo n = true) (k : V g x cs sl ws (lo.set n (some (.ref y))) (pc + 2) st) : V g x cs sl ws lo pc (.ref y :: st) := by
  obtain ⟨⟨p, e, s, m, args⟩, ⟨below, meth, c, A, nL0, R, Q⟩⟩ := x
  obtain ⟨hx, hb, hml, hown, hts, hK, hA, hE, hlk, rfl, rfl⟩ := X
  intro H locs ls hP hD hS hl
  exact lv_astore hx hb hdg hl hn rfl (fun ls2 h2 => k H locs ls2 hP hD hS (lvO_set1 hk h2))
theorem v_lstore_n (X : Xo g x Ts own cc nL rm) {n : Fin 4} {y : Int64} (hdg : decode cc pc = .ok (.lstore_n n, 1)) (i : Nat) (hi : (n : Nat) = i) (hn : i + 1 < nL) (hk : okS lo i = true) (k : V g x cs sl ws ((lo.set i (some (.long y))).set (i + 1) none) (pc + 1) st) : V g x cs sl ws lo pc (.long y :: st) := by
  obtain ⟨⟨p, e, s, m, args⟩, ⟨below, meth, c, A, nL0, R, Q⟩⟩ := x
  obtain ⟨hx, hb, hml, hown, hts, hK, hA, hE, hlk, rfl, rfl⟩ := X
  intro H locs ls hP hD hS hl
  subst hi
  exact lv_lstore_n hx hb hdg rfl hl hn rfl (fun ls2 h2 => k H locs ls2 hP hD hS (lvO_set2 hk h2))
theorem v_lstore (X : Xo g x Ts own cc nL rm) {n : Nat} {y : Int64} (hdg : decode cc pc = .ok (.lstore n, 2)) (hn : n + 1 < nL) (hk : okS lo n = true) (k : V g x cs sl ws ((lo.set n (some (.long y))).set (n + 1) none) (pc + 2) st) : V g x cs sl ws lo pc (.long y :: st) := by
  obtain ⟨⟨p, e, s, m, args⟩, ⟨below, meth, c, A, nL0, R, Q⟩⟩ := x
  obtain ⟨hx, hb, hml, hown, hts, hK, hA, hE, hlk, rfl, rfl⟩ := X
  intro H locs ls hP hD hS hl
  exact lv_lstore hx hb hdg hl hn rfl (fun ls2 h2 => k H locs ls2 hP hD hS (lvO_set2 hk h2))
theorem v_iinc (X : Xo g x Ts own cc nL rm) {i : Nat} {n a : Int} (hdg : decode cc pc = .ok (.iinc i n, 3)) (hv : lo[i]? = some (some (.int (iI a)))) (hn : i < nL) (hk : okS lo i = true) (k : V g x cs sl ws (lo.set i (some (.int (iI (a + n))))) (pc + 3) st) : V g x cs sl ws lo pc st := by
  obtain ⟨⟨p, e, s, m, args⟩, ⟨below, meth, c, A, nL0, R, Q⟩⟩ := x
  obtain ⟨hx, hb, hml, hown, hts, hK, hA, hE, hlk, rfl, rfl⟩ := X
  intro H locs ls hP hD hS hl
  have hm := loL_mem lo 0 i _ hv
  rw [Nat.zero_add] at hm
  obtain ⟨q, hq⟩ := List.getElem?_of_mem hm
  exact lv_iinc hx hb hdg hl hq (show iI a + Int32.ofInt n = iI (a + n) from iI_add a n) hn rfl (fun ls2 h2 => k H locs ls2 hP hD hS (lvO_set1 hk h2))
theorem v_iadd (X : Xo g x Ts own cc nL rm) {a b : Int} (hdg : decode cc pc = .ok (.iadd, 1)) (k : V g x cs sl ws lo (pc + 1) (.int (iI (a + b)) :: st)) : V g x cs sl ws lo pc (.int (iI b) :: .int (iI a) :: st) := by
  obtain ⟨⟨p, e, s, m, args⟩, ⟨below, meth, c, A, nL0, R, Q⟩⟩ := x
  obtain ⟨hx, hb, hml, hown, hts, hK, hA, hE, hlk, rfl, rfl⟩ := X
  intro H locs ls hP hD hS hl
  exact lv_iadd hx hb hdg (by rw [iI_add]; exact (k H locs ls hP hD hS hl))
theorem v_isub (X : Xo g x Ts own cc nL rm) {a b : Int} (hdg : decode cc pc = .ok (.isub, 1)) (k : V g x cs sl ws lo (pc + 1) (.int (iI (a - b)) :: st)) : V g x cs sl ws lo pc (.int (iI b) :: .int (iI a) :: st) := by
  obtain ⟨⟨p, e, s, m, args⟩, ⟨below, meth, c, A, nL0, R, Q⟩⟩ := x
  obtain ⟨hx, hb, hml, hown, hts, hK, hA, hE, hlk, rfl, rfl⟩ := X
  intro H locs ls hP hD hS hl
  exact lv_isub hx hb hdg (by rw [iI_sub]; exact (k H locs ls hP hD hS hl))
theorem v_imul (X : Xo g x Ts own cc nL rm) {a b : Int} (hdg : decode cc pc = .ok (.imul, 1)) (k : V g x cs sl ws lo (pc + 1) (.int (iI (a * b)) :: st)) : V g x cs sl ws lo pc (.int (iI b) :: .int (iI a) :: st) := by
  obtain ⟨⟨p, e, s, m, args⟩, ⟨below, meth, c, A, nL0, R, Q⟩⟩ := x
  obtain ⟨hx, hb, hml, hown, hts, hK, hA, hE, hlk, rfl, rfl⟩ := X
  intro H locs ls hP hD hS hl
  exact lv_imul hx hb hdg (by rw [iI_mul]; exact (k H locs ls hP hD hS hl))
theorem v_ineg (X : Xo g x Ts own cc nL rm) {a : Int} (hdg : decode cc pc = .ok (.ineg, 1)) (k : V g x cs sl ws lo (pc + 1) (.int (iI (-a)) :: st)) : V g x cs sl ws lo pc (.int (iI a) :: st) := by
  obtain ⟨⟨p, e, s, m, args⟩, ⟨below, meth, c, A, nL0, R, Q⟩⟩ := x
  obtain ⟨hx, hb, hml, hown, hts, hK, hA, hE, hlk, rfl, rfl⟩ := X
  intro H locs ls hP hD hS hl
  exact lv_ineg hx hb hdg (by rw [iI_neg]; exact (k H locs ls hP hD hS hl))
theorem v_idiv (X : Xo g x Ts own cc nL rm) {a b : Int} (hdg : decode cc pc = .ok (.idiv, 1)) (ha : R32 a) (hb2 : R32 b) (h0 : b ≠ 0) (k : V g x cs sl ws lo (pc + 1) (.int (iI (a.tdiv b)) :: st)) : V g x cs sl ws lo pc (.int (iI b) :: .int (iI a) :: st) := by
  obtain ⟨⟨p, e, s, m, args⟩, ⟨below, meth, c, A, nL0, R, Q⟩⟩ := x
  obtain ⟨hx, hb, hml, hown, hts, hK, hA, hE, hlk, rfl, rfl⟩ := X
  intro H locs ls hP hD hS hl
  exact lv_idiv hx hb hdg (iI_ne0 hb2 h0) (by rw [iI_div ha hb2]; exact (k H locs ls hP hD hS hl))
theorem v_irem (X : Xo g x Ts own cc nL rm) {a b : Int} (hdg : decode cc pc = .ok (.irem, 1)) (ha : R32 a) (hb2 : R32 b) (h0 : b ≠ 0) (k : V g x cs sl ws lo (pc + 1) (.int (iI (a.tmod b)) :: st)) : V g x cs sl ws lo pc (.int (iI b) :: .int (iI a) :: st) := by
  obtain ⟨⟨p, e, s, m, args⟩, ⟨below, meth, c, A, nL0, R, Q⟩⟩ := x
  obtain ⟨hx, hb, hml, hown, hts, hK, hA, hE, hlk, rfl, rfl⟩ := X
  intro H locs ls hP hD hS hl
  exact lv_irem hx hb hdg (iI_ne0 hb2 h0) (by rw [iI_rem ha hb2]; exact (k H locs ls hP hD hS hl))
theorem v_iand (X : Xo g x Ts own cc nL rm) {a b : Int} (hdg : decode cc pc = .ok (.iand, 1)) (k : V g x cs sl ws lo (pc + 1) (.int (iI (iAnd a b)) :: st)) : V g x cs sl ws lo pc (.int (iI b) :: .int (iI a) :: st) := by
  obtain ⟨⟨p, e, s, m, args⟩, ⟨below, meth, c, A, nL0, R, Q⟩⟩ := x
  obtain ⟨hx, hb, hml, hown, hts, hK, hA, hE, hlk, rfl, rfl⟩ := X
  intro H locs ls hP hD hS hl
  have k2 := (k H locs ls hP hD hS hl)
  unfold iAnd at k2
  rw [iI_of] at k2
  exact lv_iand hx hb hdg k2
theorem v_ior (X : Xo g x Ts own cc nL rm) {a b : Int} (hdg : decode cc pc = .ok (.ior, 1)) (k : V g x cs sl ws lo (pc + 1) (.int (iI (iOr a b)) :: st)) : V g x cs sl ws lo pc (.int (iI b) :: .int (iI a) :: st) := by
  obtain ⟨⟨p, e, s, m, args⟩, ⟨below, meth, c, A, nL0, R, Q⟩⟩ := x
  obtain ⟨hx, hb, hml, hown, hts, hK, hA, hE, hlk, rfl, rfl⟩ := X
  intro H locs ls hP hD hS hl
  have k2 := (k H locs ls hP hD hS hl)
  unfold iOr at k2
  rw [iI_of] at k2
  exact lv_ior hx hb hdg k2
theorem v_ishl (X : Xo g x Ts own cc nL rm) {a b : Int} (hdg : decode cc pc = .ok (.ishl, 1)) (k : V g x cs sl ws lo (pc + 1) (.int (iI (iShl a b)) :: st)) : V g x cs sl ws lo pc (.int (iI b) :: .int (iI a) :: st) := by
  obtain ⟨⟨p, e, s, m, args⟩, ⟨below, meth, c, A, nL0, R, Q⟩⟩ := x
  obtain ⟨hx, hb, hml, hown, hts, hK, hA, hE, hlk, rfl, rfl⟩ := X
  intro H locs ls hP hD hS hl
  have k2 := (k H locs ls hP hD hS hl)
  unfold iShl at k2
  rw [iI_of] at k2
  exact lv_ishl hx hb hdg k2
theorem v_i2b (X : Xo g x Ts own cc nL rm) {a : Int} (hdg : decode cc pc = .ok (.i2b, 1)) (k : V g x cs sl ws lo (pc + 1) (.int (iI (iByte a)) :: st)) : V g x cs sl ws lo pc (.int (iI a) :: st) := by
  obtain ⟨⟨p, e, s, m, args⟩, ⟨below, meth, c, A, nL0, R, Q⟩⟩ := x
  obtain ⟨hx, hb, hml, hown, hts, hK, hA, hE, hlk, rfl, rfl⟩ := X
  intro H locs ls hP hD hS hl
  exact lv_i2b hx hb hdg (show (iI a).toInt8.toInt32 = iI (iByte a) from rfl) (k H locs ls hP hD hS hl)
theorem v_i2s (X : Xo g x Ts own cc nL rm) {a : Int} (hdg : decode cc pc = .ok (.i2s, 1)) (k : V g x cs sl ws lo (pc + 1) (.int (iI (iShort a)) :: st)) : V g x cs sl ws lo pc (.int (iI a) :: st) := by
  obtain ⟨⟨p, e, s, m, args⟩, ⟨below, meth, c, A, nL0, R, Q⟩⟩ := x
  obtain ⟨hx, hb, hml, hown, hts, hK, hA, hE, hlk, rfl, rfl⟩ := X
  intro H locs ls hP hD hS hl
  exact lv_i2s hx hb hdg (show (iI a).toInt16.toInt32 = iI (iShort a) from rfl) (k H locs ls hP hD hS hl)
theorem v_i2l (X : Xo g x Ts own cc nL rm) {a : Int} (hdg : decode cc pc = .ok (.i2l, 1)) (ha : R32 a) (k : V g x cs sl ws lo (pc + 1) (.long (lI a) :: st)) : V g x cs sl ws lo pc (.int (iI a) :: st) := by
  obtain ⟨⟨p, e, s, m, args⟩, ⟨below, meth, c, A, nL0, R, Q⟩⟩ := x
  obtain ⟨hx, hb, hml, hown, hts, hK, hA, hE, hlk, rfl, rfl⟩ := X
  intro H locs ls hP hD hS hl
  exact lv_i2l hx hb hdg (Int32.toInt64_ofInt (by exact ha.1) (by exact ha.2)) (k H locs ls hP hD hS hl)
theorem v_l2i (X : Xo g x Ts own cc nL rm) {w : Int64} (hdg : decode cc pc = .ok (.l2i, 1)) (k : V g x cs sl ws lo (pc + 1) (.int (iI (iLow w)) :: st)) : V g x cs sl ws lo pc (.long w :: st) := by
  obtain ⟨⟨p, e, s, m, args⟩, ⟨below, meth, c, A, nL0, R, Q⟩⟩ := x
  obtain ⟨hx, hb, hml, hown, hts, hK, hA, hE, hlk, rfl, rfl⟩ := X
  intro H locs ls hP hD hS hl
  exact lv_l2i hx hb hdg (by unfold iLow; rw [iI_of]) (k H locs ls hP hD hS hl)
theorem v_ladd (X : Xo g x Ts own cc nL rm) {a b : Int} (hdg : decode cc pc = .ok (.ladd, 1)) (k : V g x cs sl ws lo (pc + 1) (.long (lI (a + b)) :: st)) : V g x cs sl ws lo pc (.long (lI b) :: .long (lI a) :: st) := by
  obtain ⟨⟨p, e, s, m, args⟩, ⟨below, meth, c, A, nL0, R, Q⟩⟩ := x
  obtain ⟨hx, hb, hml, hown, hts, hK, hA, hE, hlk, rfl, rfl⟩ := X
  intro H locs ls hP hD hS hl
  exact lv_ladd hx hb hdg (by rw [show lI a + lI b = lI (a + b) from (Int64.ofInt_add a b).symm]; exact (k H locs ls hP hD hS hl))
theorem v_land (X : Xo g x Ts own cc nL rm) {a b : Int64} (hdg : decode cc pc = .ok (.land, 1)) (k : V g x cs sl ws lo (pc + 1) (.long (a &&& b) :: st)) : V g x cs sl ws lo pc (.long b :: .long a :: st) := by
  obtain ⟨⟨p, e, s, m, args⟩, ⟨below, meth, c, A, nL0, R, Q⟩⟩ := x
  obtain ⟨hx, hb, hml, hown, hts, hK, hA, hE, hlk, rfl, rfl⟩ := X
  intro H locs ls hP hD hS hl
  exact lv_land hx hb hdg (k H locs ls hP hD hS hl)
theorem v_lor (X : Xo g x Ts own cc nL rm) {a b : Int64} (hdg : decode cc pc = .ok (.lor, 1)) (k : V g x cs sl ws lo (pc + 1) (.long (a ||| b) :: st)) : V g x cs sl ws lo pc (.long b :: .long a :: st) := by
  obtain ⟨⟨p, e, s, m, args⟩, ⟨below, meth, c, A, nL0, R, Q⟩⟩ := x
  obtain ⟨hx, hb, hml, hown, hts, hK, hA, hE, hlk, rfl, rfl⟩ := X
  intro H locs ls hP hD hS hl
  exact lv_lor hx hb hdg (k H locs ls hP hD hS hl)
theorem v_lshl (X : Xo g x Ts own cc nL rm) {a : Int64} {b : Int32} (hdg : decode cc pc = .ok (.lshl, 1)) (k : V g x cs sl ws lo (pc + 1) (.long (a <<< (b.toInt64 &&& 63)) :: st)) : V g x cs sl ws lo pc (.int b :: .long a :: st) := by
  obtain ⟨⟨p, e, s, m, args⟩, ⟨below, meth, c, A, nL0, R, Q⟩⟩ := x
  obtain ⟨hx, hb, hml, hown, hts, hK, hA, hE, hlk, rfl, rfl⟩ := X
  intro H locs ls hP hD hS hl
  exact lv_lshl hx hb hdg rfl (k H locs ls hP hD hS hl)
theorem v_lshr (X : Xo g x Ts own cc nL rm) {a : Int64} {b : Int32} (hdg : decode cc pc = .ok (.lshr, 1)) (k : V g x cs sl ws lo (pc + 1) (.long (a >>> (b.toInt64 &&& 63)) :: st)) : V g x cs sl ws lo pc (.int b :: .long a :: st) := by
  obtain ⟨⟨p, e, s, m, args⟩, ⟨below, meth, c, A, nL0, R, Q⟩⟩ := x
  obtain ⟨hx, hb, hml, hown, hts, hK, hA, hE, hlk, rfl, rfl⟩ := X
  intro H locs ls hP hD hS hl
  exact lv_lshr hx hb hdg rfl (k H locs ls hP hD hS hl)
theorem v_lushr (X : Xo g x Ts own cc nL rm) {a : Int64} {b : Int32} (hdg : decode cc pc = .ok (.lushr, 1)) (k : V g x cs sl ws lo (pc + 1) (.long ((a.toUInt64 >>> (b.toInt64.toUInt64 &&& Int64.toUInt64 63)).toInt64) :: st)) : V g x cs sl ws lo pc (.int b :: .long a :: st) := by
  obtain ⟨⟨p, e, s, m, args⟩, ⟨below, meth, c, A, nL0, R, Q⟩⟩ := x
  obtain ⟨hx, hb, hml, hown, hts, hK, hA, hE, hlk, rfl, rfl⟩ := X
  intro H locs ls hP hD hS hl
  exact lv_lushr hx hb hdg rfl (k H locs ls hP hD hS hl)
theorem v_dup (X : Xo g x Ts own cc nL rm) {a : Value} (hdg : decode cc pc = .ok (.dup, 1)) (hv : a.category = 1) (k : V g x cs sl ws lo (pc + 1) (a :: a :: st)) : V g x cs sl ws lo pc (a :: st) := by
  obtain ⟨⟨p, e, s, m, args⟩, ⟨below, meth, c, A, nL0, R, Q⟩⟩ := x
  obtain ⟨hx, hb, hml, hown, hts, hK, hA, hE, hlk, rfl, rfl⟩ := X
  intro H locs ls hP hD hS hl
  exact lv_dup hx hb hdg hv (k H locs ls hP hD hS hl)
theorem v_dup2 (X : Xo g x Ts own cc nL rm) {a b : Value} (hdg : decode cc pc = .ok (.dup2, 1)) (hva : a.category = 1) (hvb : b.category = 1) (k : V g x cs sl ws lo (pc + 1) (a :: b :: a :: b :: st)) : V g x cs sl ws lo pc (a :: b :: st) := by
  obtain ⟨⟨p, e, s, m, args⟩, ⟨below, meth, c, A, nL0, R, Q⟩⟩ := x
  obtain ⟨hx, hb, hml, hown, hts, hK, hA, hE, hlk, rfl, rfl⟩ := X
  intro H locs ls hP hD hS hl
  exact lv_dup2_11 hx hb hdg hva hvb (k H locs ls hP hD hS hl)
theorem v_goto (X : Xo g x Ts own cc nL rm) {off : Int} {tgt : Nat} (hdg : decode cc pc = .ok (.goto off, 3)) (ht : (pc : Int) + off = (tgt : Int)) (k : V g x cs sl ws lo tgt st) : V g x cs sl ws lo pc st := by
  obtain ⟨⟨p, e, s, m, args⟩, ⟨below, meth, c, A, nL0, R, Q⟩⟩ := x
  obtain ⟨hx, hb, hml, hown, hts, hK, hA, hE, hlk, rfl, rfl⟩ := X
  intro H locs ls hP hD hS hl
  exact lv_goto hx hb hdg ht (k H locs ls hP hD hS hl)
theorem v_icmp_eq (X : Xo g x Ts own cc nL rm) {a b : Int} {off : Int} {tgt : Nat} (hdg : decode cc pc = .ok (.if_icmp .eq off, 3)) (ht : (pc : Int) + off = (tgt : Int)) (ha : R32 a) (hb2 : R32 b) (kt : (a = b) → V g x cs sl ws lo tgt st) (kf : (a ≠ b) → V g x cs sl ws lo (pc + 3) st) : V g x cs sl ws lo pc (.int (iI b) :: .int (iI a) :: st) := by
  obtain ⟨⟨p, e, s, m, args⟩, ⟨below, meth, c, A, nL0, R, Q⟩⟩ := x
  obtain ⟨hx, hb, hml, hown, hts, hK, hA, hE, hlk, rfl, rfl⟩ := X
  intro H locs ls hP hD hS hl
  exact lv_icmp_eq hx hb hdg ht (fun h => kt ((iI_inj ha hb2).mp h) H locs ls hP hD hS hl) (fun h => kf (fun q => h ((iI_inj ha hb2).mpr q)) H locs ls hP hD hS hl)
theorem v_if_eq (X : Xo g x Ts own cc nL rm) {a : Int} {off : Int} {tgt : Nat} (hdg : decode cc pc = .ok (.ifCond .eq off, 3)) (ht : (pc : Int) + off = (tgt : Int)) (ha : R32 a) (kt : (a = 0) → V g x cs sl ws lo tgt st) (kf : (a ≠ 0) → V g x cs sl ws lo (pc + 3) st) : V g x cs sl ws lo pc (.int (iI a) :: st) := by
  obtain ⟨⟨p, e, s, m, args⟩, ⟨below, meth, c, A, nL0, R, Q⟩⟩ := x
  obtain ⟨hx, hb, hml, hown, hts, hK, hA, hE, hlk, rfl, rfl⟩ := X
  intro H locs ls hP hD hS hl
  have r0 : R32 0 := by omega
  exact lv_if_eq hx hb hdg ht (fun h => kt ((iI_inj ha r0).mp h) H locs ls hP hD hS hl) (fun h => kf (fun q => h ((iI_inj ha r0).mpr q)) H locs ls hP hD hS hl)
theorem v_icmp_ne (X : Xo g x Ts own cc nL rm) {a b : Int} {off : Int} {tgt : Nat} (hdg : decode cc pc = .ok (.if_icmp .ne off, 3)) (ht : (pc : Int) + off = (tgt : Int)) (ha : R32 a) (hb2 : R32 b) (kt : (a ≠ b) → V g x cs sl ws lo tgt st) (kf : (a = b) → V g x cs sl ws lo (pc + 3) st) : V g x cs sl ws lo pc (.int (iI b) :: .int (iI a) :: st) := by
  obtain ⟨⟨p, e, s, m, args⟩, ⟨below, meth, c, A, nL0, R, Q⟩⟩ := x
  obtain ⟨hx, hb, hml, hown, hts, hK, hA, hE, hlk, rfl, rfl⟩ := X
  intro H locs ls hP hD hS hl
  exact lv_icmp_ne hx hb hdg ht (fun h => kt (fun q => h ((iI_inj ha hb2).mpr q)) H locs ls hP hD hS hl) (fun h => kf ((iI_inj ha hb2).mp h) H locs ls hP hD hS hl)
theorem v_if_ne (X : Xo g x Ts own cc nL rm) {a : Int} {off : Int} {tgt : Nat} (hdg : decode cc pc = .ok (.ifCond .ne off, 3)) (ht : (pc : Int) + off = (tgt : Int)) (ha : R32 a) (kt : (a ≠ 0) → V g x cs sl ws lo tgt st) (kf : (a = 0) → V g x cs sl ws lo (pc + 3) st) : V g x cs sl ws lo pc (.int (iI a) :: st) := by
  obtain ⟨⟨p, e, s, m, args⟩, ⟨below, meth, c, A, nL0, R, Q⟩⟩ := x
  obtain ⟨hx, hb, hml, hown, hts, hK, hA, hE, hlk, rfl, rfl⟩ := X
  intro H locs ls hP hD hS hl
  have r0 : R32 0 := by omega
  exact lv_if_ne hx hb hdg ht (fun h => kt (fun q => h ((iI_inj ha r0).mpr q)) H locs ls hP hD hS hl) (fun h => kf ((iI_inj ha r0).mp h) H locs ls hP hD hS hl)
theorem v_icmp_lt (X : Xo g x Ts own cc nL rm) {a b : Int} {off : Int} {tgt : Nat} (hdg : decode cc pc = .ok (.if_icmp .lt off, 3)) (ht : (pc : Int) + off = (tgt : Int)) (ha : R32 a) (hb2 : R32 b) (kt : (a < b) → V g x cs sl ws lo tgt st) (kf : (b ≤ a) → V g x cs sl ws lo (pc + 3) st) : V g x cs sl ws lo pc (.int (iI b) :: .int (iI a) :: st) := by
  obtain ⟨⟨p, e, s, m, args⟩, ⟨below, meth, c, A, nL0, R, Q⟩⟩ := x
  obtain ⟨hx, hb, hml, hown, hts, hK, hA, hE, hlk, rfl, rfl⟩ := X
  intro H locs ls hP hD hS hl
  exact lv_icmp_lt hx hb hdg ht (fun h => kt ((iI_lt ha hb2).mp h) H locs ls hP hD hS hl) (fun h => kf (Int.not_lt.mp fun q => h ((iI_lt ha hb2).mpr q)) H locs ls hP hD hS hl)
theorem v_if_lt (X : Xo g x Ts own cc nL rm) {a : Int} {off : Int} {tgt : Nat} (hdg : decode cc pc = .ok (.ifCond .lt off, 3)) (ht : (pc : Int) + off = (tgt : Int)) (ha : R32 a) (kt : (a < 0) → V g x cs sl ws lo tgt st) (kf : (0 ≤ a) → V g x cs sl ws lo (pc + 3) st) : V g x cs sl ws lo pc (.int (iI a) :: st) := by
  obtain ⟨⟨p, e, s, m, args⟩, ⟨below, meth, c, A, nL0, R, Q⟩⟩ := x
  obtain ⟨hx, hb, hml, hown, hts, hK, hA, hE, hlk, rfl, rfl⟩ := X
  intro H locs ls hP hD hS hl
  have r0 : R32 0 := by omega
  exact lv_if_lt hx hb hdg ht (fun h => kt ((iI_lt ha r0).mp h) H locs ls hP hD hS hl) (fun h => kf (Int.not_lt.mp fun q => h ((iI_lt ha r0).mpr q)) H locs ls hP hD hS hl)
theorem v_icmp_ge (X : Xo g x Ts own cc nL rm) {a b : Int} {off : Int} {tgt : Nat} (hdg : decode cc pc = .ok (.if_icmp .ge off, 3)) (ht : (pc : Int) + off = (tgt : Int)) (ha : R32 a) (hb2 : R32 b) (kt : (b ≤ a) → V g x cs sl ws lo tgt st) (kf : (a < b) → V g x cs sl ws lo (pc + 3) st) : V g x cs sl ws lo pc (.int (iI b) :: .int (iI a) :: st) := by
  obtain ⟨⟨p, e, s, m, args⟩, ⟨below, meth, c, A, nL0, R, Q⟩⟩ := x
  obtain ⟨hx, hb, hml, hown, hts, hK, hA, hE, hlk, rfl, rfl⟩ := X
  intro H locs ls hP hD hS hl
  exact lv_icmp_ge hx hb hdg ht (fun h => kt ((iI_le hb2 ha).mp h) H locs ls hP hD hS hl) (fun h => kf (Int.not_le.mp fun q => h ((iI_le hb2 ha).mpr q)) H locs ls hP hD hS hl)
theorem v_if_ge (X : Xo g x Ts own cc nL rm) {a : Int} {off : Int} {tgt : Nat} (hdg : decode cc pc = .ok (.ifCond .ge off, 3)) (ht : (pc : Int) + off = (tgt : Int)) (ha : R32 a) (kt : (0 ≤ a) → V g x cs sl ws lo tgt st) (kf : (a < 0) → V g x cs sl ws lo (pc + 3) st) : V g x cs sl ws lo pc (.int (iI a) :: st) := by
  obtain ⟨⟨p, e, s, m, args⟩, ⟨below, meth, c, A, nL0, R, Q⟩⟩ := x
  obtain ⟨hx, hb, hml, hown, hts, hK, hA, hE, hlk, rfl, rfl⟩ := X
  intro H locs ls hP hD hS hl
  have r0 : R32 0 := by omega
  exact lv_if_ge hx hb hdg ht (fun h => kt ((iI_le r0 ha).mp h) H locs ls hP hD hS hl) (fun h => kf (Int.not_le.mp fun q => h ((iI_le r0 ha).mpr q)) H locs ls hP hD hS hl)
theorem v_icmp_gt (X : Xo g x Ts own cc nL rm) {a b : Int} {off : Int} {tgt : Nat} (hdg : decode cc pc = .ok (.if_icmp .gt off, 3)) (ht : (pc : Int) + off = (tgt : Int)) (ha : R32 a) (hb2 : R32 b) (kt : (b < a) → V g x cs sl ws lo tgt st) (kf : (a ≤ b) → V g x cs sl ws lo (pc + 3) st) : V g x cs sl ws lo pc (.int (iI b) :: .int (iI a) :: st) := by
  obtain ⟨⟨p, e, s, m, args⟩, ⟨below, meth, c, A, nL0, R, Q⟩⟩ := x
  obtain ⟨hx, hb, hml, hown, hts, hK, hA, hE, hlk, rfl, rfl⟩ := X
  intro H locs ls hP hD hS hl
  exact lv_icmp_gt hx hb hdg ht (fun h => kt ((iI_lt hb2 ha).mp h) H locs ls hP hD hS hl) (fun h => kf (Int.not_lt.mp fun q => h ((iI_lt hb2 ha).mpr q)) H locs ls hP hD hS hl)
theorem v_if_gt (X : Xo g x Ts own cc nL rm) {a : Int} {off : Int} {tgt : Nat} (hdg : decode cc pc = .ok (.ifCond .gt off, 3)) (ht : (pc : Int) + off = (tgt : Int)) (ha : R32 a) (kt : (0 < a) → V g x cs sl ws lo tgt st) (kf : (a ≤ 0) → V g x cs sl ws lo (pc + 3) st) : V g x cs sl ws lo pc (.int (iI a) :: st) := by
  obtain ⟨⟨p, e, s, m, args⟩, ⟨below, meth, c, A, nL0, R, Q⟩⟩ := x
  obtain ⟨hx, hb, hml, hown, hts, hK, hA, hE, hlk, rfl, rfl⟩ := X
  intro H locs ls hP hD hS hl
  have r0 : R32 0 := by omega
  exact lv_if_gt hx hb hdg ht (fun h => kt ((iI_lt r0 ha).mp h) H locs ls hP hD hS hl) (fun h => kf (Int.not_lt.mp fun q => h ((iI_lt r0 ha).mpr q)) H locs ls hP hD hS hl)
theorem v_icmp_le (X : Xo g x Ts own cc nL rm) {a b : Int} {off : Int} {tgt : Nat} (hdg : decode cc pc = .ok (.if_icmp .le off, 3)) (ht : (pc : Int) + off = (tgt : Int)) (ha : R32 a) (hb2 : R32 b) (kt : (a ≤ b) → V g x cs sl ws lo tgt st) (kf : (b < a) → V g x cs sl ws lo (pc + 3) st) : V g x cs sl ws lo pc (.int (iI b) :: .int (iI a) :: st) := by
  obtain ⟨⟨p, e, s, m, args⟩, ⟨below, meth, c, A, nL0, R, Q⟩⟩ := x
  obtain ⟨hx, hb, hml, hown, hts, hK, hA, hE, hlk, rfl, rfl⟩ := X
  intro H locs ls hP hD hS hl
  exact lv_icmp_le hx hb hdg ht (fun h => kt ((iI_le ha hb2).mp h) H locs ls hP hD hS hl) (fun h => kf (Int.not_le.mp fun q => h ((iI_le ha hb2).mpr q)) H locs ls hP hD hS hl)
theorem v_if_le (X : Xo g x Ts own cc nL rm) {a : Int} {off : Int} {tgt : Nat} (hdg : decode cc pc = .ok (.ifCond .le off, 3)) (ht : (pc : Int) + off = (tgt : Int)) (ha : R32 a) (kt : (a ≤ 0) → V g x cs sl ws lo tgt st) (kf : (0 < a) → V g x cs sl ws lo (pc + 3) st) : V g x cs sl ws lo pc (.int (iI a) :: st) := by
  obtain ⟨⟨p, e, s, m, args⟩, ⟨below, meth, c, A, nL0, R, Q⟩⟩ := x
  obtain ⟨hx, hb, hml, hown, hts, hK, hA, hE, hlk, rfl, rfl⟩ := X
  intro H locs ls hP hD hS hl
  have r0 : R32 0 := by omega
  exact lv_if_le hx hb hdg ht (fun h => kt ((iI_le ha r0).mp h) H locs ls hP hD hS hl) (fun h => kf (Int.not_le.mp fun q => h ((iI_le ha r0).mpr q)) H locs ls hP hD hS hl)
theorem v_lcmp (X : Xo g x Ts own cc nL rm) {a b : Int} (hdg : decode cc pc = .ok (.lcmp, 1)) (ha : R64 a) (hb2 : R64 b) (kg : b < a → V g x cs sl ws lo (pc + 1) (.int (iI 1) :: st)) (ke : a = b → V g x cs sl ws lo (pc + 1) (.int (iI 0) :: st)) (kl : a < b → V g x cs sl ws lo (pc + 1) (.int (iI (-1)) :: st)) : V g x cs sl ws lo pc (.long (lI b) :: .long (lI a) :: st) := by
  obtain ⟨⟨p, e, s, m, args⟩, ⟨below, meth, c, A, nL0, R, Q⟩⟩ := x
  obtain ⟨hx, hb, hml, hown, hts, hK, hA, hE, hlk, rfl, rfl⟩ := X
  intro H locs ls hP hD hS hl
  refine W.lcmp hx hb hdg ?_
  have hlt : ∀ u v : Int, R64 u → R64 v → (lI u < lI v ↔ u < v) := fun u v hu hv => by rw [Int64.lt_iff_toInt_lt, lI_toInt hu, lI_toInt hv]
  by_cases h1 : b < a
  · have e : lg_cmp (lI a) (lI b) = iI 1 := by
      have := (hlt b a hb2 ha).mpr h1
      simp [lg_cmp, this]
      rfl
    rw [e]
    exact kg h1 H locs ls hP hD hS hl
  · have n1 : ¬ lI b < lI a := fun q => h1 ((hlt b a hb2 ha).mp q)
    by_cases h2 : a = b
    · subst h2
      have e : lg_cmp (lI a) (lI a) = iI 0 := by
        simp [lg_cmp]
        rfl
      rw [e]
      exact ke rfl H locs ls hP hD hS hl
    · have n2 : ¬ lI a = lI b := fun q => h2 (by rw [← lI_toInt ha, ← lI_toInt hb2, q])
      have e : lg_cmp (lI a) (lI b) = iI (-1) := by
        simp [lg_cmp, n1, n2]
        rfl
      rw [e]
      exact kl (by omega) H locs ls hP hD hS hl
theorem v_tabOut (X : Xo g x Ts own cc nL rm) {dflt lw hi : Int} {offs : Array Int} {len : Nat} {a : Int} {tgt : Nat} (hdg : decode cc pc = .ok (.tableswitch dflt lw hi offs, len)) (ha : R32 a) (h : a < lw ∨ hi < a) (ht : (pc : Int) + dflt = (tgt : Int)) (k : V g x cs sl ws lo tgt st) : V g x cs sl ws lo pc (.int (iI a) :: st) := by
  obtain ⟨⟨p, e, s, m, args⟩, ⟨below, meth, c, A, nL0, R, Q⟩⟩ := x
  obtain ⟨hx, hb, hml, hown, hts, hK, hA, hE, hlk, rfl, rfl⟩ := X
  intro H locs ls hP hD hS hl
  exact lv_tableOut hx hb hdg (by rw [iI_toInt ha]; exact h) ht (k H locs ls hP hD hS hl)
theorem v_tabIn (X : Xo g x Ts own cc nL rm) {dflt lw hi : Int} {offs : Array Int} {len : Nat} {a : Int} {off : Int} {tgt : Nat} (hdg : decode cc pc = .ok (.tableswitch dflt lw hi offs, len)) (ha : R32 a) (h1 : lw ≤ a) (h2 : a ≤ hi) (ho : offs[(a - lw).toNat]? = some off) (ht : (pc : Int) + off = (tgt : Int)) (k : V g x cs sl ws lo tgt st) : V g x cs sl ws lo pc (.int (iI a) :: st) := by
  obtain ⟨⟨p, e, s, m, args⟩, ⟨below, meth, c, A, nL0, R, Q⟩⟩ := x
  obtain ⟨hx, hb, hml, hown, hts, hK, hA, hE, hlk, rfl, rfl⟩ := X
  intro H locs ls hP hD hS hl
  exact lv_tableIn hx hb hdg (by rw [iI_toInt ha]; omega) (by rw [iI_toInt ha]; omega) (by rw [iI_toInt ha]; exact ho) ht (k H locs ls hP hD hS hl)
theorem v_get (X : Xo g x Ts own cc nL rm) {ref C : String} {T : u_T} {N ci index : Nat} (hin : ∀ w ∈ u_ws C T N, w ∈ Ts) (q0 : Nat) {a : Nat} {fs : List Value} (he : ws[q0]? = some (a, .inr (ci, fs))) (hc : vwCl[ci]? = some (C, T, N)) (j : Nat) (hj : j < N) (hr : ref = (T j).1) (hw : Cond.fieldLink own index ref (T j).2.1 (T j).2.2.1 ∈ Ts) {v : Value} (hv : fs[j]? = some v) (hdg : decode cc pc = .ok (.getfield index, 3)) (k : V g x cs sl ws lo (pc + 3) (v :: st)) : V g x cs sl ws lo pc (.ref a :: st) := by
  obtain ⟨⟨p, e, s, m, args⟩, ⟨below, meth, c, A, nL0, R, Q⟩⟩ := x
  obtain ⟨hx, hb, hml, hown, hts, hK, hA, hE, hlk, rfl, rfl⟩ := X
  intro H locs ls hP hD hS hl
  subst hr
  exact va_get (D := g.2.1) (cl := vwCl) (ci := ci) (C := C) (T := T) (N := N) hx hb hts hin hown hK hP q0 he hc j hj (hts _ hw) (fun _ h9 => h9) hv hdg (k H locs ls hP hD hS hl)
theorem v_put (X : Xo g x Ts own cc nL rm) {ref C : String} {T : u_T} {N ci index : Nat} (hin : ∀ w ∈ u_ws C T N, w ∈ Ts) (ty0 : Nat → FieldType) (hty : ∀ k, k < N → parseFieldDescriptor (T k).2.2.1 = some (ty0 k)) (hnm : ∀ a, a < N → ∀ b, b < N → a ≠ b → (T a).2.1 ≠ (T b).2.1) (q0 : Nat) {a : Nat} {fs : List Value} (he : ws[q0]? = some (a, .inr (ci, fs))) (hc : vwCl[ci]? = some (C, T, N)) (j : Nat) (hj : j < N) (hr : ref = (T j).1) (hw : Cond.fieldLink own index ref (T j).2.1 (T j).2.2.1 ∈ Ts) (hfin : (T j).2.2.2 = false) {v : Value} (hn : narrow (ty0 j) v = v) (hfit : fits (ty0 j) v = true) (hl0 : j < fs.length) (hdg : decode cc pc = .ok (.putfield index, 3)) (k : V g x cs sl (ws.set q0 (a, .inr (ci, fs.set j v))) lo (pc + 3) st) : V g x cs sl ws lo pc (v :: .ref a :: st) := by
  obtain ⟨⟨p, e, s, m, args⟩, ⟨below, meth, c, A, nL0, R, Q⟩⟩ := x
  obtain ⟨hx, hb, hml, hown, hts, hK, hA, hE, hlk, rfl, rfl⟩ := X
  intro H locs ls hP hD hS hl
  subst hr
  exact va_put (D := g.2.1) (cl := vwCl) (ci := ci) (C := C) (T := T) (N := N) hx hb hts hin ty0 hty hnm hown hK hP hD hS q0 he hc j hj (hts _ hw) (fun _ h9 => h9) hfin (hty j hj) hn hfit hl0 hdg (fun H1 locs1 hP1 hD1 hS1 => k H1 locs1 ls hP1 hD1 hS1 hl)
theorem v_putF (X : Xo g x Ts own cc nL rm) (hini : x.2.2.1.name = "<init>") {C : String} {T : u_T} {N ci index : Nat} (hin : ∀ w ∈ u_ws C T N, w ∈ Ts) (ty0 : Nat → FieldType) (hty : ∀ k, k < N → parseFieldDescriptor (T k).2.2.1 = some (ty0 k)) (hnm : ∀ a, a < N → ∀ b, b < N → a ≠ b → (T a).2.1 ≠ (T b).2.1) (q0 : Nat) {a : Nat} {fs : List Value} (he : ws[q0]? = some (a, .inr (ci, fs))) (hc : vwCl[ci]? = some (C, T, N)) (j : Nat) (hj : j < N) (hr : own = (T j).1) (hw : Cond.fieldLink own index own (T j).2.1 (T j).2.2.1 ∈ Ts) (hfin : (T j).2.2.2 = true) {v : Value} (hn : narrow (ty0 j) v = v) (hfit : fits (ty0 j) v = true) (hl0 : j < fs.length) (hdg : decode cc pc = .ok (.putfield index, 3)) (k : V g x cs sl (ws.set q0 (a, .inr (ci, fs.set j v))) lo (pc + 3) st) : V g x cs sl ws lo pc (v :: .ref a :: st) := by
  obtain ⟨⟨p, e, s, m, args⟩, ⟨below, meth, c, A, nL0, R, Q⟩⟩ := x
  obtain ⟨hx, hb, hml, hown, hts, hK, hA, hE, hlk, rfl, rfl⟩ := X
  intro H locs ls hP hD hS hl
  subst hr
  exact va_putF (D := g.2.1) (cl := vwCl) (ci := ci) (C := C) (T := T) (N := N) (ref := (T j).1) hx hb hts hin ty0 hty hnm hown hK hP hD hS q0 he hc j hj (hts _ hw) (fun _ h9 => h9) hfin hini rfl (hty j hj) hn hfit hl0 hdg (fun H1 locs1 hP1 hD1 hS1 => k H1 locs1 ls hP1 hD1 hS1 hl)
theorem v_iald (X : Xo g x Ts own cc nL rm) (q0 : Nat) {a n : Nat} {f : Nat → Int} (he : ws[q0]? = some (a, aI g n f)) {i : Int} (h0 : 0 ≤ i) (h1 : i < n) (h2 : i ≤ 2147483647) (hdg : decode cc pc = .ok (.iaload, 1)) {lw hi : Int} (hr : Bd lw hi f) (k : ∀ z : Int, z = f i.toNat → lw ≤ z → z ≤ hi → V g x cs sl ws lo (pc + 1) (.int (iI z) :: st)) : V g x cs sl ws lo pc (.int (iI i) :: .ref a :: st) := by
  obtain ⟨⟨p, e, s, m, args⟩, ⟨below, meth, c, A, nL0, R, Q⟩⟩ := x
  obtain ⟨hx, hb, hml, hown, hts, hK, hA, hE, hlk, rfl, rfl⟩ := X
  intro H locs ls hP hD hS hl
  have k2 := k (f i.toNat) rfl (hr _).1 (hr _).2 H locs ls hP hD hS hl
  refine va_iald (f := fun j => iI (f j)) hx hb hK hP q0 0 he rfl (iI_in h0 h1 h2) hdg ?_
  rw [iI_clamp ⟨by omega, h2⟩]
  exact k2
theorem v_zald (X : Xo g x Ts own cc nL rm) (q0 : Nat) {a n : Nat} {f : Nat → Int} (he : ws[q0]? = some (a, aZ g n f)) {i : Int} (h0 : 0 ≤ i) (h1 : i < n) (h2 : i ≤ 2147483647) (hdg : decode cc pc = .ok (.baload, 1)) {lw hi : Int} (hr : Bd lw hi f) (k : ∀ z : Int, z = f i.toNat → lw ≤ z → z ≤ hi → V g x cs sl ws lo (pc + 1) (.int (iI z) :: st)) : V g x cs sl ws lo pc (.int (iI i) :: .ref a :: st) := by
  obtain ⟨⟨p, e, s, m, args⟩, ⟨below, meth, c, A, nL0, R, Q⟩⟩ := x
  obtain ⟨hx, hb, hml, hown, hts, hK, hA, hE, hlk, rfl, rfl⟩ := X
  intro H locs ls hP hD hS hl
  have k2 := k (f i.toNat) rfl (hr _).1 (hr _).2 H locs ls hP hD hS hl
  refine va_zald (f := fun j => iI (f j)) hx hb hK hP q0 1 he rfl (iI_in h0 h1 h2) hdg ?_
  rw [iI_clamp ⟨by omega, h2⟩]
  exact k2
theorem upd_iI (f : Nat → Int) (k : Nat) (z : Int) : upd (fun j => iI (f j)) k (iI z) = fun j => iI (updI f k z j) := by
  funext j
  unfold upd updI
  split <;> rfl
theorem v_iast (X : Xo g x Ts own cc nL rm) (q0 : Nat) {a n : Nat} {f : Nat → Int} (he : ws[q0]? = some (a, aI g n f)) {i z : Int} (h0 : 0 ≤ i) (h1 : i < n) (h2 : i ≤ 2147483647) (hdg : decode cc pc = .ok (.iastore, 1)) (k : V g x cs sl (ws.set q0 (a, aI g n (updI f i.toNat z))) lo (pc + 1) st) : V g x cs sl ws lo pc (.int (iI z) :: .int (iI i) :: .ref a :: st) := by
  obtain ⟨⟨p, e, s, m, args⟩, ⟨below, meth, c, A, nL0, R, Q⟩⟩ := x
  obtain ⟨hx, hb, hml, hown, hts, hK, hA, hE, hlk, rfl, rfl⟩ := X
  intro H locs ls hP hD hS hl
  refine va_iast (f := fun j => iI (f j)) hx hb hK hP hD hS q0 0 he rfl (iI_in h0 h1 h2) hdg (fun H1 locs1 hP1 hD1 hS1 => ?_)
  rw [iI_clamp ⟨by omega, h2⟩, upd_iI] at hP1 hD1
  exact k H1 locs1 ls hP1 hD1 hS1 hl
theorem v_zast (X : Xo g x Ts own cc nL rm) (q0 : Nat) {a n : Nat} {f : Nat → Int} (he : ws[q0]? = some (a, aZ g n f)) {i z : Int} (h0 : 0 ≤ i) (h1 : i < n) (h2 : i ≤ 2147483647) (hz : z = 0 ∨ z = 1) (hdg : decode cc pc = .ok (.bastore, 1)) (k : V g x cs sl (ws.set q0 (a, aZ g n (updI f i.toNat z))) lo (pc + 1) st) : V g x cs sl ws lo pc (.int (iI z) :: .int (iI i) :: .ref a :: st) := by
  obtain ⟨⟨p, e, s, m, args⟩, ⟨below, meth, c, A, nL0, R, Q⟩⟩ := x
  obtain ⟨hx, hb, hml, hown, hts, hK, hA, hE, hlk, rfl, rfl⟩ := X
  intro H locs ls hP hD hS hl
  refine va_zast (f := fun j => iI (f j)) hx hb hK hP hD hS q0 1 he rfl (iI_in h0 h1 h2) hdg (fun H1 locs1 hP1 hD1 hS1 => ?_)
  have e : vp_nar .boolean (iI z) = iI z := by rcases hz with rfl | rfl <;> decide
  rw [e, iI_clamp ⟨by omega, h2⟩, upd_iI] at hP1 hD1
  exact k H1 locs1 ls hP1 hD1 hS1 hl
theorem v_alen (X : Xo g x Ts own cc nL rm) (q0 : Nat) {a n : Nat} {f : Nat → Int} (he : ws[q0]? = some (a, aI g n f)) (hdg : decode cc pc = .ok (.arraylength, 1)) (k : V g x cs sl ws lo (pc + 1) (.int (iI (n : Int)) :: st)) : V g x cs sl ws lo pc (.ref a :: st) := by
  obtain ⟨⟨p, e, s, m, args⟩, ⟨below, meth, c, A, nL0, R, Q⟩⟩ := x
  obtain ⟨hx, hb, hml, hown, hts, hK, hA, hE, hlk, rfl, rfl⟩ := X
  intro H locs ls hP hD hS hl
  exact va_alen hx hb hK hP q0 0 he rfl (show Int32.ofNat n = iI (n : Int) from rfl) hdg (k H locs ls hP hD hS hl)
end VR
/-! contracts: what a method needs of its world, what it answers, what its world is then -/
def Pw (g : Gx) (w0 : va_W) (sz : Nat) : State → Prop := fun U => U.heap.size = sz ∧ va_P g.2.1 vwCl w0 U.heap ∧ va_K g.2.1 vwCl (TYg g) U ∧ va_D (fun _ => True) w0 ∧ Ev g (va_A w0 sz) U U.heap
def Bw (g : Gx) (A : Nat → Prop) (w1 : va_W) : State → Prop := fun t => va_P g.2.1 vwCl w1 t.heap ∧ va_D A w1
def QcI {S : Type} (g : Gx) (w0 : va_W) (post : Int → S → Prop) (w1 : S → va_W) (sz : Nat) : Array Value → State → Outcome → State → Prop := va_Qi (S := Int × S) (fun r u => r = iI u.1 ∧ post u.1 u.2) (fun u t => Bw g (va_A w0 sz) (w1 u.2) t) (va_A w0 sz)
def QcV {S : Type} (g : Gx) (w0 : va_W) (post : S → Prop) (w1 : S → va_W) (sz : Nat) : Array Value → State → Outcome → State → Prop := va_Qv (S := S) post (fun u t => Bw g (va_A w0 sz) (w1 u) t) (va_A w0 sz)
def QcL {S : Type} (g : Gx) (w0 : va_W) (post : Int64 → S → Prop) (w1 : S → va_W) (sz : Nat) : Array Value → State → Outcome → State → Prop := va_Ql (S := S) post (fun u t => Bw g (va_A w0 sz) (w1 u) t) (va_A w0 sz)
def QcR {S : Type} (g : Gx) (w0 : va_W) (post : Nat → S → Prop) (w1 : S → va_W) (sz : Nat) : Array Value → State → Outcome → State → Prop := va_Qr (S := Nat × S) (fun u => post u.1 u.2) (fun u a t => a = u.1 ∧ Bw g (va_A w0 sz) (w1 u.2) t) (va_A w0 sz)
def Ct (g : Gx) (y : MethodName) (wl : List Cond) (fr mc ms lo : Nat) (as : List Value) (w0 : va_W) (Qc : Nat → Array Value → State → Outcome → State → Prop) : Prop :=
  ∀ sz : Nat, Met g.1 y wl { frames := fr, cells := mc, slots := ms, locals := lo } (va_Pc as (Pw g w0 sz)) (Qc sz) mc ms (va_A w0 sz)
def CtI {S : Type} (g : Gx) (y : MethodName) (wl : List Cond) (fr lo : Nat) (as : List Value) (w0 : va_W) (post : Int → S → Prop) (w1 : S → va_W) : Prop := Ct g y wl fr 0 0 lo as w0 (QcI g w0 post w1)
def CtV {S : Type} (g : Gx) (y : MethodName) (wl : List Cond) (fr lo : Nat) (as : List Value) (w0 : va_W) (post : S → Prop) (w1 : S → va_W) : Prop := Ct g y wl fr 0 0 lo as w0 (QcV g w0 post w1)
def CtL {S : Type} (g : Gx) (y : MethodName) (wl : List Cond) (fr lo : Nat) (as : List Value) (w0 : va_W) (post : Int64 → S → Prop) (w1 : S → va_W) : Prop := Ct g y wl fr 0 0 lo as w0 (QcL g w0 post w1)
def CtR {S : Type} (g : Gx) (y : MethodName) (wl : List Cond) (fr lo : Nat) (as : List Value) (w0 : va_W) (post : Nat → S → Prop) (w1 : S → va_W) : Prop := Ct g y wl fr 0 0 lo as w0 (QcR g w0 post w1)
/-- the answer is F, the world w1 -/
def CtE (g : Gx) (y : MethodName) (wl : List Cond) (fr lo : Nat) (as : List Value) (w0 : va_W) (F : Int) (w1 : va_W) : Prop := CtI (S := Unit) g y wl fr lo as w0 (fun r _ => r = F) (fun _ => w1)
def CtW (g : Gx) (y : MethodName) (wl : List Cond) (fr lo : Nat) (as : List Value) (w0 : va_W) (w1 : va_W) : Prop := CtV (S := Unit) g y wl fr lo as w0 (fun _ => True) (fun _ => w1)
theorem Pw.blind {g : Gx} {w0 : va_W} {sz : Nat} {as : List Value} : FrameBlind (va_Pc as (Pw g w0 sz)) := fun a U f mk q => by
  obtain ⟨q0, q1, qP, qK, qD, qE⟩ := q
  exact ⟨q0, q1, qP, va_K.moved (u := U) (U := U.calling f mk a) (Vm.Alike.refl U.vm) qK, qD, Ev.same (s := U) (U := U.calling f mk a) rfl qE⟩
/-- what a walk knows of its own end -/
def Rt (x : Xt) (ty : Option FieldType) (w0 : va_W) (mc ms : Nat) (Qc : Nat → Array Value → State → Outcome → State → Prop) : Prop :=
  match x with
  | ((_, _, s, _, args), (below, meth, _, A, _, _, Q)) => meth.sig.returnType = ty ∧ A = va_A w0 s.heap.size ∧ Q = MQ below (Qc s.heap.size) args s mc ms (va_A w0 s.heap.size)
theorem Met_ofWF {l : Launch} {y : MethodName} {ws ws' : List Cond} {rm : Room} {Pc : Array Value → State → Prop} {Qc : Array Value → State → Outcome → State → Prop} {mc ms : Nat} {free : Addr → Prop} {cc : ByteArray} {maxL : Nat} {ret : Option FieldType}
    (hy : plainFor y = true) (hw : ws = Cond.code y cc maxL ret :: ws')
    (body : ∀ p e s m args below meth c s₁, BodyLoose p l y (headSpec ws rm) cc maxL ret e s m args below meth c s₁ → c.maxLocals = maxL → Pc args s →
      W p l e (headSpec ws rm).room s m args below meth c s.heap [] 0 0 (MQ below Qc args s mc ms free) (entryFrame m args maxL)) : Met l y ws rm Pc Qc mc ms free := by
  refine MetFree.of_bodySF (code := cc) (maxLocals := maxL) (ret := ret) hy ?_ ?_
  · intro args s m h hn
    obtain ⟨meth, c, h1, h2, h3, h4, h5, h6, -, -⟩ := Cond.code_spec hn (atoms_spec (ws := ws) h _ (by rw [hw]; exact List.mem_cons_self))
    exact ⟨meth, c, h1, h2, h3, h4, h5, h6⟩
  · intro p e s m args below meth c s₁ B hml hP _
    have hh0 : s₁.heap = s.heap := by rw [B.state]; rfl
    obtain ⟨t, a1, o, b1, b2, b3⟩ := body p e s m args below meth c s₁ B hml hP s₁ hh0 (Stand.of_body B)
    exact ⟨t, o, a1, b1, b2, ⟨b3.1, b3.2⟩⟩
theorem m_go {g : Gx} {y : MethodName} {wl wl2 : List Cond} {cc : ByteArray} {nL : Nat} {ret : Option FieldType} {fr mc ms lo0 : Nat} {as : List Value} {w0 : va_W} {Qc : Nat → Array Value → State → Outcome → State → Prop} (hy : plainFor y = true) (hw : wl = Cond.code y cc nL ret :: wl2) (hn : (lg_sl as).length ≤ nL)
    (body : ∀ x : Xt, Xo g x wl y.cls cc nL { frames := fr, cells := mc, slots := ms, locals := lo0 } → Rt x ret w0 mc ms Qc → x.2.2.1.name = y.name → V g x 0 0 w0 (enL as nL) 0 []) : Ct g y wl fr mc ms lo0 as w0 Qc := by
  intro sz
  refine Met_ofWF (cc := cc) (maxL := nL) (ret := ret) hy hw ?_
  intro p e s m args below meth c s₁ B hml hv
  obtain ⟨rfl, hsz, hP, hK, hD0, hE⟩ := hv
  have hx := B.exec
  have hb := B.bytes
  have hr := B.returns
  have hts := atoms_spec (ws := wl) B.pre
  have hown : s.vm.findClass y.cls = some m.cls := findClass_of_methodNamed B.named
  have hlocks := B.notSynchronized
  have hnm : meth.name = y.name := (name_of_methodNamed B.named B.method).1
  subst hsz
  have hD := hD0.self (sz := s.heap.size)
  have hl := lv_entry as (n := nL) hn
  rw [lg_entry_eq]
  exact body ((p, e, s, m, as.toArray), (below, meth, c, va_A w0 s.heap.size, nL, _, _)) ⟨hx, hb, hml, hown, hts, hK, fun q h => Or.inr h, hE, hlocks, rfl, rfl⟩ ⟨hr, rfl, rfl⟩ hnm s.heap [] _ hP hD va_S.rf (lvO_of hl (fun i v h => by have := enL_in as nL 0 i v h; simpa using this))
section VT
variable {g : Gx} {x : Xt} {Ts : List Cond} {own : String} {cc : ByteArray} {nL : Nat} {rm : Room} {cs sl : Nat} {ws : va_W} {lo : List (Option Value)} {pc : Nat} {st : List Value}
theorem v_iret (X : Xo g x Ts own cc nL rm) {S : Type} {w0 : va_W} {post : Int → S → Prop} {w1 : S → va_W} {mc ms : Nat} (Y : Rt x (some .int) w0 mc ms (QcI g w0 post w1)) (hdg : decode cc pc = .ok (.ireturn, 1)) {r : Int} {u : S} (hp : post r u) (hw : ws = w1 u) : V g x mc ms ws lo pc [.int (iI r)] := by
  obtain ⟨⟨p, e, s, m, args⟩, ⟨below, meth, c, A, nL0, R, Q⟩⟩ := x
  obtain ⟨hx, hb, hml, hown, hts, hK, hA, hE, hlk, rfl, rfl⟩ := X
  obtain ⟨hr, rfl, rfl⟩ := Y
  intro H locs ls hP hD hS hl
  subst hw
  exact W.iret hx hb hr (fun t ht hW => ⟨⟨iI r, (r, u), rfl, ⟨rfl, hp⟩, by rw [ht]; exact hP, hD⟩, hS.F ht⟩) hS.2.2 hdg hlk
theorem v_zret (X : Xo g x Ts own cc nL rm) {S : Type} {w0 : va_W} {post : Int → S → Prop} {w1 : S → va_W} {mc ms : Nat} (Y : Rt x (some .boolean) w0 mc ms (QcI g w0 post w1)) (hdg : decode cc pc = .ok (.ireturn, 1)) {r : Int} (hz : r = 0 ∨ r = 1) {u : S} (hp : post r u) (hw : ws = w1 u) : V g x mc ms ws lo pc [.int (iI r)] := by
  obtain ⟨⟨p, e, s, m, args⟩, ⟨below, meth, c, A, nL0, R, Q⟩⟩ := x
  obtain ⟨hx, hb, hml, hown, hts, hK, hA, hE, hlk, rfl, rfl⟩ := X
  obtain ⟨hr, rfl, rfl⟩ := Y
  intro H locs ls hP hD hS hl
  subst hw
  exact W.zret hx hb hr (by rcases hz with rfl | rfl <;> decide) (fun t ht hW => ⟨⟨iI r, (r, u), rfl, ⟨rfl, hp⟩, by rw [ht]; exact hP, hD⟩, hS.F ht⟩) hS.2.2 hdg hlk
theorem v_vret (X : Xo g x Ts own cc nL rm) {S : Type} {w0 : va_W} {post : S → Prop} {w1 : S → va_W} {mc ms : Nat} (Y : Rt x none w0 mc ms (QcV g w0 post w1)) (hdg : decode cc pc = .ok (.return_, 1)) {u : S} (hp : post u) (hw : ws = w1 u) : V g x mc ms ws lo pc [] := by
  obtain ⟨⟨p, e, s, m, args⟩, ⟨below, meth, c, A, nL0, R, Q⟩⟩ := x
  obtain ⟨hx, hb, hml, hown, hts, hK, hA, hE, hlk, rfl, rfl⟩ := X
  obtain ⟨hr, rfl, rfl⟩ := Y
  intro H locs ls hP hD hS hl
  subst hw
  exact W.vret hx hb hr (fun t ht hW => ⟨⟨u, rfl, hp, by rw [ht]; exact hP, hD⟩, hS.F ht⟩) hS.2.2 hdg hlk
theorem v_lret (X : Xo g x Ts own cc nL rm) {S : Type} {w0 : va_W} {post : Int64 → S → Prop} {w1 : S → va_W} {mc ms : Nat} (Y : Rt x (some .long) w0 mc ms (QcL g w0 post w1)) (hdg : decode cc pc = .ok (.lreturn, 1)) {r : Int64} {u : S} (hp : post r u) (hw : ws = w1 u) : V g x mc ms ws lo pc [.long r] := by
  obtain ⟨⟨p, e, s, m, args⟩, ⟨below, meth, c, A, nL0, R, Q⟩⟩ := x
  obtain ⟨hx, hb, hml, hown, hts, hK, hA, hE, hlk, rfl, rfl⟩ := X
  obtain ⟨hr, rfl, rfl⟩ := Y
  intro H locs ls hP hD hS hl
  subst hw
  exact W.lret hx hb hr (fun t ht hW => ⟨⟨r, u, rfl, hp, by rw [ht]; exact hP, hD⟩, hS.F ht⟩) hS.2.2 hdg hlk
theorem v_aret (X : Xo g x Ts own cc nL rm) {S : Type} {w0 : va_W} {post : Nat → S → Prop} {w1 : S → va_W} {mc ms : Nat} {C : String} (Y : Rt x (some (.object C)) w0 mc ms (QcR g w0 post w1)) (hdg : decode cc pc = .ok (.areturn, 1)) {r : Nat} {u : S} (hp : post r u) (hw : ws = w1 u) : V g x mc ms ws lo pc [.ref r] := by
  obtain ⟨⟨p, e, s, m, args⟩, ⟨below, meth, c, A, nL0, R, Q⟩⟩ := x
  obtain ⟨hx, hb, hml, hown, hts, hK, hA, hE, hlk, rfl, rfl⟩ := X
  obtain ⟨hr, rfl, rfl⟩ := Y
  intro H locs ls hP hD hS hl
  subst hw
  exact W.aret hx hb hr (Or.inl ⟨C, rfl⟩) (Or.inr ⟨r, rfl⟩) (fun t ht hW => ⟨⟨(r, u), r, rfl, hp, rfl, by rw [ht]; exact hP, hD⟩, hS.F ht⟩) hS.2.2 hdg hlk
/-! calls -/
def Rn (g : Gx) (x : Xt) (cs sl mc ms : Nat) (ws : va_W) (lo : List (Option Value)) (pc : Nat) (st0 st : List Value) (w0 : va_W) (as : List Value) (Qc : Nat → Array Value → State → Outcome → State → Prop) : Prop :=
  match x with
  | ((p, e, s, m, args), (below, meth, c, A, nL, R, _)) => ∀ (H : Heap) (locs : List Loc) (ls : Array Slot), va_P g.2.1 vwCl ws H → va_D A ws → va_S A s.heap H locs → lvO ls nL lo → va_Run p g.1 e R s m args below meth c H locs cs sl mc ms (F0 m pc ls st0) st (Qc H.size as.toArray) (va_A w0 H.size)
variable {y : MethodName} {wl wl2 : List Cond} {fr mc ms lo0 maxL index n : Nat} {w0 : va_W} {Qc : Nat → Array Value → State → Outcome → State → Prop} {ret : Option FieldType} {bytes : ByteArray} {As : List Value} {st0 : List Value}
theorem Pw.call {U s : State} {H : Heap} {A : Nat → Prop} {locs : List Loc} {H0 : Heap} (hK : va_K g.2.1 vwCl (TYg g) s) (hP : va_P g.2.1 vwCl ws H) (hD : va_D A ws) (hS : va_S A H0 H locs) (hA : ∀ q : Nat, H0.size ≤ q → A q) (hE : Ev g A s H0) (isC : List Nat) (hC : isC.map (fun i => ws[i]?) = w0.map some) (hnd : va_nd isC = true) (hU : U.heap = H) (hW : s.WarmedH U.vm) : Pw g w0 H.size U := by
  have hf := isC_fm isC ws w0 hC
  have hF := va_free (wc := w0) hD hS hA isC hC
  refine ⟨by rw [hU], by rw [hU]; exact hP.sub isC hf, va_K.moved hW.alike hK, (hD.sub isC hnd hC).weaken (fun _ _ _ _ => trivial), ?_⟩
  rw [hU]
  exact ((hE.kept hS.2.1).narrow hF).warm hW
theorem run_V {C : String} {b : Nat} (X : Xo g x Ts own cc nL rm) (hM : Ct g y wl fr mc ms lo0 (.ref b :: As) w0 Qc) (hG : GoodIn Ts (wsV own index C y wl)) (hw : wl = Cond.code y bytes maxL ret :: wl2) (hd : y.cls = C ∧ y.cls ≠ "java/lang/invoke/MethodHandle" ∧ y.cls ≠ "java/lang/invoke/VarHandle" ∧ (parseMethodDescriptor y.desc).map (fun d => d.parameters.length) = some n) (hR : fr + 1 ≤ rm.frames ∧ 8 + (maxL + 11) + lo0 ≤ rm.locals) (hcs : cs + mc ≤ rm.cells ∧ sl + ms ≤ rm.slots)
    (q0 : Nat) {ci : Nat} {fs : List Value} {cl : vw_C} (hc : vwCl[ci]? = some cl) (hcl : cl.1 = C) (he : ws[q0]? = some (b, .inr (ci, fs))) (isC : List Nat) (hC : isC.map (fun i => ws[i]?) = w0.map some) (hnd : va_nd isC = true) (hn : As.length = n) (hst : st0 = As.reverse ++ .ref b :: st) (hroom : (st.map fun v => v.category).sum ≤ 8) (hdg : decode cc pc = .ok (.invokevirtual index, 3)) : Rn g x cs sl mc ms ws lo pc st0 st w0 (.ref b :: As) Qc := by
  obtain ⟨⟨p, e, s, m, args⟩, ⟨below, meth, c, A, nL0, R, Q⟩⟩ := x
  obtain ⟨hx, hb, hml, hown, hts, hK, hA, hE, hlk, rfl, rfl⟩ := X
  intro H locs ls hP hD hS hl
  subst hcl
  exact va_runV ⟨hx, hb, hml, hown, hts⟩ (hM H.size) (cwV n hts hG hw rfl rfl hd hR) ⟨Pw.blind, va_recv hK hP hc he, fun U hU hW => ⟨rfl, Pw.call hK hP hD hS hA hE isC hC hnd hU hW⟩⟩ rfl hn hl.1 hst (lv_room hroom) hdg hcs
theorem run_S (X : Xo g x Ts own cc nL rm) (hM : Ct g y wl fr mc ms lo0 As w0 Qc) (hG : GoodIn Ts (va_wsS own index y wl)) (hw : wl = Cond.code y bytes maxL ret :: wl2) (hd : y.cls ≠ "java/lang/invoke/MethodHandle" ∧ y.cls ≠ "java/lang/invoke/VarHandle" ∧ (parseMethodDescriptor y.desc).map (fun d => d.parameters.length) = some n) (hR : fr + 1 ≤ rm.frames ∧ 8 + (maxL + 11) + lo0 ≤ rm.locals) (hcs : cs + mc ≤ rm.cells ∧ sl + ms ≤ rm.slots)
    (isC : List Nat) (hC : isC.map (fun i => ws[i]?) = w0.map some) (hnd : va_nd isC = true) (hn : As.length = n) (hst : st0 = As.reverse ++ st) (hroom : (st.map fun v => v.category).sum ≤ 8) (hdg : decode cc pc = .ok (.invokestatic index, 3)) : Rn g x cs sl mc ms ws lo pc st0 st w0 As Qc := by
  obtain ⟨⟨p, e, s, m, args⟩, ⟨below, meth, c, A, nL0, R, Q⟩⟩ := x
  obtain ⟨hx, hb, hml, hown, hts, hK, hA, hE, hlk, rfl, rfl⟩ := X
  intro H locs ls hP hD hS hl
  exact va_runS ⟨hx, hb, hml, hown, hts⟩ (hM H.size) (va_cwS n hts hG hw rfl rfl hd hR) ⟨Pw.blind, fun U hU hW => ⟨rfl, Pw.call hK hP hD hS hA hE isC hC hnd hU hW⟩⟩ rfl hn hl.1 hst (lv_room hroom) hdg hcs
theorem run_SN {host : String} (X : Xo g x Ts own cc nL rm) (hM : Ct g y wl fr mc ms lo0 As w0 Qc) (hG : GoodIn Ts wl) (hw : wl = Cond.code y bytes maxL ret :: wl2) (hq : (own, index, y, host) ∈ nestQ) (hini : Cond.initialized y.cls ∈ Ts) (hstat : Cond.static y ∈ Ts) (hd : y.cls ≠ "java/lang/invoke/MethodHandle" ∧ y.cls ≠ "java/lang/invoke/VarHandle" ∧ (parseMethodDescriptor y.desc).map (fun d => d.parameters.length) = some n) (hR : fr + 1 ≤ rm.frames ∧ 8 + (maxL + 11) + lo0 ≤ rm.locals) (hcs : cs + mc ≤ rm.cells ∧ sl + ms ≤ rm.slots)
    (isC : List Nat) (hC : isC.map (fun i => ws[i]?) = w0.map some) (hnd : va_nd isC = true) (hn : As.length = n) (hst : st0 = As.reverse ++ st) (hroom : (st.map fun v => v.category).sum ≤ 8) (hdg : decode cc pc = .ok (.invokestatic index, 3)) : Rn g x cs sl mc ms ws lo pc st0 st w0 As Qc := by
  obtain ⟨⟨p, e, s, m, args⟩, ⟨below, meth, c, A, nL0, R, Q⟩⟩ := x
  obtain ⟨hx, hb, hml, hown, hts, hK, hA, hE, hlk, rfl, rfl⟩ := X
  intro H locs ls hP hD hS hl
  exact va_runSN ⟨hx, hb, hml, hown, hts⟩ (hM H.size) ⟨va_cnB n hts hG hw rfl rfl (hE.1 _ hq) (hts _ hini) hd hR, hts _ hstat, trivial⟩ ⟨Pw.blind, fun U hU hW => ⟨rfl, Pw.call hK hP hD hS hA hE isC hC hnd hU hW⟩⟩ rfl hn hl.1 hst (lv_room hroom) hdg hcs
/-! what comes back -/
theorem res_I (X : Xo g x Ts own cc nL rm) {S : Type} {post : Int → S → Prop} {w1 : S → va_W} {as : List Value} (hr : Rn g x cs sl 0 0 ws lo pc st0 st w0 as (QcI g w0 post w1)) (isC : List Nat) (hC : isC.map (fun i => ws[i]?) = w0.map some) (hnd : va_nd isC = true) (hf : ∀ u : S, (w1 u).map Prod.fst = w0.map Prod.fst) (k : ∀ (r : Int) (u : S), post r u → V g x cs sl (patch ws isC (w1 u)) lo (pc + 3) (.int (iI r) :: st)) : V g x cs sl ws lo pc st0 := by
  obtain ⟨⟨p, e, s, m, args⟩, ⟨below, meth, c, A, nL0, R, Q⟩⟩ := x
  obtain ⟨hx, hb, hml, hown, hts, hK, hA, hE, hlk, rfl, rfl⟩ := X
  intro H locs ls hP hD hS hl
  have hF := va_free (wc := w0) hD hS hA isC hC
  refine va_calli (hr H locs ls hP hD hS hl) hS (fun q _ h => hF q h) hF (fun r u t H1 locs1 ht hvm hp hB hz hk hS1 => ?_)
  obtain ⟨r2, u⟩ := u
  obtain ⟨rfl, hp⟩ := hp
  obtain ⟨hP1, -⟩ := hB
  rw [ht] at hP1
  obtain ⟨hP2, hD2⟩ := va_back hP hD isC hC hnd (hf u) hk hP1
  exact k r2 u hp H1 locs1 ls hP2 hD2 hS1 hl
theorem res_V (X : Xo g x Ts own cc nL rm) {S : Type} {post : S → Prop} {w1 : S → va_W} {as : List Value} (hr : Rn g x cs sl 0 0 ws lo pc st0 st w0 as (QcV g w0 post w1)) (isC : List Nat) (hC : isC.map (fun i => ws[i]?) = w0.map some) (hnd : va_nd isC = true) (hf : ∀ u : S, (w1 u).map Prod.fst = w0.map Prod.fst) (k : ∀ (u : S), post u → V g x cs sl (patch ws isC (w1 u)) lo (pc + 3) st) : V g x cs sl ws lo pc st0 := by
  obtain ⟨⟨p, e, s, m, args⟩, ⟨below, meth, c, A, nL0, R, Q⟩⟩ := x
  obtain ⟨hx, hb, hml, hown, hts, hK, hA, hE, hlk, rfl, rfl⟩ := X
  intro H locs ls hP hD hS hl
  have hF := va_free (wc := w0) hD hS hA isC hC
  refine va_callv (hr H locs ls hP hD hS hl) hS (fun q _ h => hF q h) hF (fun u t H1 locs1 ht hvm hp hB hz hk hS1 => ?_)
  obtain ⟨hP1, -⟩ := hB
  rw [ht] at hP1
  obtain ⟨hP2, hD2⟩ := va_back hP hD isC hC hnd (hf u) hk hP1
  exact k u hp H1 locs1 ls hP2 hD2 hS1 hl
theorem res_L (X : Xo g x Ts own cc nL rm) {S : Type} {post : Int64 → S → Prop} {w1 : S → va_W} {as : List Value} (hr : Rn g x cs sl 0 0 ws lo pc st0 st w0 as (QcL g w0 post w1)) (isC : List Nat) (hC : isC.map (fun i => ws[i]?) = w0.map some) (hnd : va_nd isC = true) (hf : ∀ u : S, (w1 u).map Prod.fst = w0.map Prod.fst) (k : ∀ (r : Int64) (u : S), post r u → V g x cs sl (patch ws isC (w1 u)) lo (pc + 3) (.long r :: st)) : V g x cs sl ws lo pc st0 := by
  obtain ⟨⟨p, e, s, m, args⟩, ⟨below, meth, c, A, nL0, R, Q⟩⟩ := x
  obtain ⟨hx, hb, hml, hown, hts, hK, hA, hE, hlk, rfl, rfl⟩ := X
  intro H locs ls hP hD hS hl
  have hF := va_free (wc := w0) hD hS hA isC hC
  refine va_calll (hr H locs ls hP hD hS hl) hS (fun q _ h => hF q h) hF (fun r u t H1 locs1 ht hvm hp hB hz hk hS1 => ?_)
  obtain ⟨hP1, -⟩ := hB
  rw [ht] at hP1
  obtain ⟨hP2, hD2⟩ := va_back hP hD isC hC hnd (hf u) hk hP1
  exact k r u hp H1 locs1 ls hP2 hD2 hS1 hl
theorem res_R (X : Xo g x Ts own cc nL rm) {S : Type} {post : Nat → S → Prop} {w1 : S → va_W} {as : List Value} (hr : Rn g x cs sl 0 0 ws lo pc st0 st w0 as (QcR g w0 post w1)) (isC : List Nat) (hC : isC.map (fun i => ws[i]?) = w0.map some) (hnd : va_nd isC = true) (hf : ∀ u : S, (w1 u).map Prod.fst = w0.map Prod.fst) (k : ∀ (r : Nat) (u : S), post r u → V g x cs sl (patch ws isC (w1 u)) lo (pc + 3) (.ref r :: st)) : V g x cs sl ws lo pc st0 := by
  obtain ⟨⟨p, e, s, m, args⟩, ⟨below, meth, c, A, nL0, R, Q⟩⟩ := x
  obtain ⟨hx, hb, hml, hown, hts, hK, hA, hE, hlk, rfl, rfl⟩ := X
  intro H locs ls hP hD hS hl
  have hF := va_free (wc := w0) hD hS hA isC hC
  refine va_callr (hr H locs ls hP hD hS hl) hS (fun q _ h => hF q h) hF (fun u ra t H1 locs1 ht hvm hp hB hz hk hS1 => ?_)
  obtain ⟨r2, u⟩ := u
  obtain ⟨rfl, hP1, -⟩ := hB
  rw [ht] at hP1
  obtain ⟨hP2, hD2⟩ := va_back hP hD isC hC hnd (hf u) hk hP1
  exact k _ u hp H1 locs1 ls hP2 hD2 hS1 hl
/-- the answer is told, the world stays -/
theorem res_E (X : Xo g x Ts own cc nL rm) {F : Int} {as : List Value} (hr : Rn g x cs sl 0 0 ws lo pc st0 st w0 as (QcI (S := Unit) g w0 (fun r _ => r = F) (fun _ => w0))) (isC : List Nat) (hC : isC.map (fun i => ws[i]?) = w0.map some) (hnd : va_nd isC = true) (k : V g x cs sl ws lo (pc + 3) (.int (iI F) :: st)) : V g x cs sl ws lo pc st0 :=
  res_I X hr isC hC hnd (fun _ => rfl) (fun r _ h => by rw [h, patch_id isC ws w0 hC]; exact k)
/-- the answer is told, and what the world becomes -/
theorem res_F (X : Xo g x Ts own cc nL rm) {F : Int} {w1 : va_W} {as : List Value} (hr : Rn g x cs sl 0 0 ws lo pc st0 st w0 as (QcI (S := Unit) g w0 (fun r _ => r = F) (fun _ => w1))) (isC : List Nat) (hC : isC.map (fun i => ws[i]?) = w0.map some) (hnd : va_nd isC = true) (hf : w1.map Prod.fst = w0.map Prod.fst) (k : V g x cs sl (patch ws isC w1) lo (pc + 3) (.int (iI F) :: st)) : V g x cs sl ws lo pc st0 :=
  res_I X hr isC hC hnd (fun _ => hf) (fun r _ h => by rw [h]; exact k)
theorem res_W (X : Xo g x Ts own cc nL rm) {w1 : va_W} {as : List Value} (hr : Rn g x cs sl 0 0 ws lo pc st0 st w0 as (QcV (S := Unit) g w0 (fun _ => True) (fun _ => w1))) (isC : List Nat) (hC : isC.map (fun i => ws[i]?) = w0.map some) (hnd : va_nd isC = true) (hf : w1.map Prod.fst = w0.map Prod.fst) (k : V g x cs sl (patch ws isC w1) lo (pc + 3) st) : V g x cs sl ws lo pc st0 :=
  res_V X hr isC hC hnd (fun _ => hf) (fun _ _ => k)
/-! Math and arraycopy -/
theorem v_abs (X : Xo g x Ts own cc nL rm) (hl1 : Cond.methodLink own index Lib.Math.abs.name ∈ Ts) (hs1 : Cond.static Lib.Math.abs.name ∈ Ts) (hi1 : Cond.initialized "java/lang/Math" ∈ Ts) (hc1 : Cond.code Lib.Math.abs.name Lib.Math.abs.code 1 (some .int) ∈ Ts) (hR : 1 ≤ rm.frames ∧ (st.map fun v => v.category).sum + 13 ≤ rm.locals ∧ cs ≤ rm.cells ∧ sl ≤ rm.slots) {a : Int} (ha : R32 a) (hdg : decode cc pc = .ok (.invokestatic index, 3)) (k : V g x cs sl ws lo (pc + 3) (.int (iI (if 0 ≤ a then a else -a)) :: st)) : V g x cs sl ws lo pc (.int (iI a) :: st) := by
  obtain ⟨⟨p, e, s, m, args⟩, ⟨below, meth, c, A, nL0, R, Q⟩⟩ := x
  obtain ⟨hx, hb, hml, hown, hts, hK, hA, hE, hlk, rfl, rfl⟩ := X
  intro H locs ls hP hD hS hl
  refine va_mabs hx hb (hml.trans hl.1.symm) hown (hts _ hl1) (hts _ hs1) (hts _ hi1) (hts _ hc1) hR.1 hR.2.1 hR.2.2.1 hR.2.2.2 hdg ?_
  have k2 := k H locs ls hP hD hS hl
  have e : (if 0 ≤ iI a then iI a else 0 - iI a) = iI (if 0 ≤ a then a else -a) := by
    by_cases h : 0 ≤ a
    · rw [if_pos h, if_pos (show (0 : Int32) ≤ iI a from (iI_le (x := 0) (y := a) (by omega) ha).mpr h)]
    · rw [if_neg h, if_neg (show ¬ (0 : Int32) ≤ iI a from fun q => h ((iI_le (x := 0) (y := a) (by omega) ha).mp q)), show (0 : Int32) = iI 0 from rfl, iI_sub]
      congr 1
      omega
  rw [e]
  exact k2
theorem v_min (X : Xo g x Ts own cc nL rm) (hl1 : Cond.methodLink own index Lib.Math.min.name ∈ Ts) (hs1 : Cond.static Lib.Math.min.name ∈ Ts) (hi1 : Cond.initialized "java/lang/Math" ∈ Ts) (hc1 : Cond.code Lib.Math.min.name Lib.Math.min.code 2 (some .int) ∈ Ts) (hR : 1 ≤ rm.frames ∧ (st.map fun v => v.category).sum + 13 ≤ rm.locals ∧ cs ≤ rm.cells ∧ sl ≤ rm.slots) {a b : Int} (ha : R32 a) (hb2 : R32 b) (hdg : decode cc pc = .ok (.invokestatic index, 3)) (k : V g x cs sl ws lo (pc + 3) (.int (iI (if b < a then b else a)) :: st)) : V g x cs sl ws lo pc (.int (iI b) :: .int (iI a) :: st) := by
  obtain ⟨⟨p, e, s, m, args⟩, ⟨below, meth, c, A, nL0, R, Q⟩⟩ := x
  obtain ⟨hx, hb, hml, hown, hts, hK, hA, hE, hlk, rfl, rfl⟩ := X
  intro H locs ls hP hD hS hl
  refine va_mmin hx hb (hml.trans hl.1.symm) hown (hts _ hl1) (hts _ hs1) (hts _ hi1) (hts _ hc1) hR.1 hR.2.1 hR.2.2.1 hR.2.2.2 hdg ?_
  have k2 := k H locs ls hP hD hS hl
  have e : (if iI b < iI a then iI b else iI a) = iI (if b < a then b else a) := by
    by_cases h : b < a
    · rw [if_pos h, if_pos ((iI_lt hb2 ha).mpr h)]
    · rw [if_neg h, if_neg (fun q => h ((iI_lt hb2 ha).mp q))]
  rw [e]
  exact k2
theorem v_max (X : Xo g x Ts own cc nL rm) (hl1 : Cond.methodLink own index Lib.Math.max.name ∈ Ts) (hs1 : Cond.static Lib.Math.max.name ∈ Ts) (hi1 : Cond.initialized "java/lang/Math" ∈ Ts) (hc1 : Cond.code Lib.Math.max.name Lib.Math.max.code 2 (some .int) ∈ Ts) (hR : 1 ≤ rm.frames ∧ (st.map fun v => v.category).sum + 13 ≤ rm.locals ∧ cs ≤ rm.cells ∧ sl ≤ rm.slots) {a b : Int} (ha : R32 a) (hb2 : R32 b) (hdg : decode cc pc = .ok (.invokestatic index, 3)) (k : V g x cs sl ws lo (pc + 3) (.int (iI (if a < b then b else a)) :: st)) : V g x cs sl ws lo pc (.int (iI b) :: .int (iI a) :: st) := by
  obtain ⟨⟨p, e, s, m, args⟩, ⟨below, meth, c, A, nL0, R, Q⟩⟩ := x
  obtain ⟨hx, hb, hml, hown, hts, hK, hA, hE, hlk, rfl, rfl⟩ := X
  intro H locs ls hP hD hS hl
  refine va_mmax hx hb (hml.trans hl.1.symm) hown (hts _ hl1) (hts _ hs1) (hts _ hi1) (hts _ hc1) hR.1 hR.2.1 hR.2.2.1 hR.2.2.2 hdg ?_
  have k2 := k H locs ls hP hD hS hl
  have e : (if iI a < iI b then iI b else iI a) = iI (if a < b then b else a) := by
    by_cases h : a < b
    · rw [if_pos h, if_pos ((iI_lt ha hb2).mpr h)]
    · rw [if_neg h, if_neg (fun q => h ((iI_lt ha hb2).mp q))]
  rw [e]
  exact k2
theorem cpy_iI (f h : Nat → Int) (a b n : Nat) : va_cpy (fun j => iI (f j)) (fun j => iI (h j)) a b n = fun j => iI (cpyI f h a b n j) := by
  funext j
  unfold va_cpy cpyI
  split <;> rfl
theorem v_copy (X : Xo g x Ts own cc nL rm) (hl1 : Cond.methodLink own index arraycopyName ∈ Ts) (hn1 : Cond.native arraycopyName ∈ Ts) (hs1 : Cond.static arraycopyName ∈ Ts) (hi1 : Cond.initialized "java/lang/System" ∈ Ts) (q0 q1 : Nat) {a0 a1 n0 n1 : Nat} {f h : Nat → Int} (ha0 : ws[q0]? = some (a0, aI g n0 f)) (ha1 : ws[q1]? = some (a1, aI g n1 h)) {sp dp k0 : Int} (h1 : 0 ≤ sp ∧ sp ≤ 2147483647) (h2 : 0 ≤ dp ∧ dp ≤ 2147483647) (h3 : 0 ≤ k0 ∧ k0 ≤ 2147483647) (h4 : sp + k0 ≤ n0) (h5 : dp + k0 ≤ n1) (hR : 1 ≤ rm.frames ∧ (st.map fun v => v.category).sum + (nativeFrameWords "java/lang/System" "arraycopy" 5 + 11) ≤ rm.locals) (hdg : decode cc pc = .ok (.invokestatic index, 3)) (k : V g x cs sl (ws.set q1 (a1, aI g n1 (cpyI f h sp.toNat dp.toNat k0.toNat))) lo (pc + 3) st) : V g x cs sl ws lo pc (.int (iI k0) :: .int (iI dp) :: .ref a1 :: .int (iI sp) :: .ref a0 :: st) := by
  obtain ⟨⟨p, e, s, m, args⟩, ⟨below, meth, c, A, nL0, R, Q⟩⟩ := x
  obtain ⟨hx, hb, hml, hown, hts, hK, hA, hE, hlk, rfl, rfl⟩ := X
  intro H locs ls hP hD hS hl
  have n0' : ∀ z : Int, 0 ≤ z → z ≤ 2147483647 → ¬ iI z < 0 := fun z q1 q2 q => by
    have := (iI_lt (x := z) (y := 0) (by omega) (by omega)).mp q
    omega
  refine va_copyi (f := fun j => iI (f j)) (g := fun j => iI (h j)) hx hb (hml.trans hl.1.symm) hown (hts _ hl1) (hts _ hn1) (hts _ hs1) (hts _ hi1) hK hP hD hS q0 q1 0 0 ha0 ha1 rfl rfl rfl (n0' _ h1.1 h1.2) (n0' _ h2.1 h2.2) (n0' _ h3.1 h3.2) (by rw [iI_clamp (by omega), iI_clamp (by omega)]; omega) (by rw [iI_clamp (by omega), iI_clamp (by omega)]; omega) (fun _ _ => rfl) hR.1 hR.2 hdg (fun H1 locs1 hP1 hD1 hS1 => ?_)
  rw [iI_clamp (by omega), iI_clamp (by omega), iI_clamp (by omega), cpy_iI] at hP1 hD1
  exact k H1 locs1 ls hP1 hD1 hS1 hl
end VT
