/-! whole numbers as ints and longs -/
def iI (z : Int) : Int32 := Int32.ofInt z
def lI (z : Int) : Int64 := Int64.ofInt z
abbrev R32 (z : Int) : Prop := -2147483648 ≤ z ∧ z ≤ 2147483647
abbrev R64 (z : Int) : Prop := -9223372036854775808 ≤ z ∧ z ≤ 9223372036854775807
theorem iI_toInt {z : Int} (h : R32 z) : (iI z).toInt = z := Int32.toInt_ofInt_of_le (by omega) (by omega)
theorem iI_of (x : Int32) : iI x.toInt = x := Int32.ofInt_toInt x
theorem iI_r (x : Int32) : R32 x.toInt := ⟨by have := x.le_toInt; omega, by have := x.toInt_lt; omega⟩
theorem lI_toInt {z : Int} (h : R64 z) : (lI z).toInt = z := Int64.toInt_ofInt_of_le (by omega) (by omega)
theorem lI_of (x : Int64) : lI x.toInt = x := Int64.ofInt_toInt x
theorem iI_add (x y : Int) : iI x + iI y = iI (x + y) := (Int32.ofInt_add x y).symm
theorem iI_sub (x y : Int) : iI x - iI y = iI (x - y) := (Int32.ofInt_sub x y).symm
theorem iI_mul (x y : Int) : iI x * iI y = iI (x * y) := (Int32.ofInt_mul x y).symm
theorem iI_neg (x : Int) : -iI x = iI (-x) := (Int32.ofInt_neg x).symm
theorem iI_inj {x y : Int} (hx : R32 x) (hy : R32 y) : iI x = iI y ↔ x = y := by
  constructor
  · intro h
    rw [← iI_toInt hx, ← iI_toInt hy, h]
  · intro h; rw [h]
theorem iI_le {x y : Int} (hx : R32 x) (hy : R32 y) : iI x ≤ iI y ↔ x ≤ y := by rw [Int32.le_iff_toInt_le, iI_toInt hx, iI_toInt hy]
theorem iI_lt {x y : Int} (hx : R32 x) (hy : R32 y) : iI x < iI y ↔ x < y := by rw [Int32.lt_iff_toInt_lt, iI_toInt hx, iI_toInt hy]
theorem iI_0 : iI 0 = 0 := rfl
theorem iI_div {x y : Int} (hx : R32 x) (hy : R32 y) : iI x / iI y = iI (x.tdiv y) := (Int32.ofInt_tdiv (by exact hx.1) (by exact hx.2) (by exact hy.1) (by exact hy.2)).symm
theorem iI_rem {x y : Int} (hx : R32 x) (hy : R32 y) : iI x - iI x / iI y * iI y = iI (x.tmod y) := by
  rw [iI_div hx hy, iI_mul, iI_sub]
  congr 1
  have := Int.tmod_add_mul_tdiv x y
  rw [Int.mul_comm] at this
  omega
theorem iI_ne0 {y : Int} (hy : R32 y) (h : y ≠ 0) : ¬ iI y = 0 := fun e => h ((iI_inj hy (by omega)).mp (e.trans iI_0.symm))
theorem iI_clamp {z : Int} (h : R32 z) : (iI z).toNatClampNeg = z.toNat := Int32.toNatClampNeg_ofInt_of_le (by omega) (by omega)
theorem iI_in {z : Int} {n : Nat} (h0 : 0 ≤ z) (h1 : z < n) (hn : z ≤ 2147483647) : vp_in (iI z) n := by
  intro h
  rcases h with h | h
  · have := (iI_lt (x := z) (y := 0) (by omega) (by omega)).mp h
    omega
  · rw [iI_clamp (by omega)] at h
    omega
theorem iI_b {n : Int} (h : -128 ≤ n ∧ n ≤ 127) : (Int8.ofInt n).toInt32 = iI n := by
  apply Int32.toInt_inj.mp
  rw [Int8.toInt_toInt32, iI_toInt (by omega), Int8.toInt_ofInt_of_le (by omega) (by omega)]
theorem iI_s {n : Int} (h : -32768 ≤ n ∧ n ≤ 32767) : (Int16.ofInt n).toInt32 = iI n := by
  apply Int32.toInt_inj.mp
  rw [Int16.toInt_toInt32, iI_toInt (by omega), Int16.toInt_ofInt_of_le (by omega) (by omega)]
/-- bits by their ints -/
def iOr (a b : Int) : Int := (iI a ||| iI b).toInt
def iAnd (a b : Int) : Int := (iI a &&& iI b).toInt
def iShl (a b : Int) : Int := (iI a <<< (iI b &&& 31)).toInt
def iByte (a : Int) : Int := (iI a).toInt8.toInt
def iShort (a : Int) : Int := (iI a).toInt16.toInt
def iLow (w : Int64) : Int := w.toInt32.toInt
def cpyI (f g : Nat → Int) (sp dp n : Nat) : Nat → Int := fun k => if dp ≤ k ∧ k < dp + n then f (sp + (k - dp)) else g k
def updI (f : Nat → Int) (k : Nat) (x : Int) : Nat → Int := fun j => if j = k then x else f j
theorem updI_s (f : Nat → Int) (k : Nat) (x : Int) : updI f k x k = x := if_pos rfl
theorem updI_n {f : Nat → Int} {k j : Nat} (x : Int) (h : j ≠ k) : updI f k x j = f j := if_neg h
/-- every entry lies between -/
def Bd (lo hi : Int) (f : Nat → Int) : Prop := ∀ j : Nat, lo ≤ f j ∧ f j ≤ hi
theorem Bd_0 : Bd 0 0 (fun _ => 0) := fun _ => ⟨Int.le_refl _, Int.le_refl _⟩
theorem Bd_up {lo hi : Int} {f : Nat → Int} {k : Nat} {x : Int} (h : Bd lo hi f) (h1 : lo ≤ x) (h2 : x ≤ hi) : Bd lo hi (updI f k x) := by
  intro j
  unfold updI
  split
  · exact ⟨h1, h2⟩
  · exact h j
theorem Bd_cpy {lo hi : Int} {f g : Nat → Int} {a b n : Nat} (h : Bd lo hi f) (h2 : Bd lo hi g) : Bd lo hi (cpyI f g a b n) := by
  intro j
  unfold cpyI
  split
  · exact h _
  · exact h2 j
theorem Bd_w {a b lo hi : Int} {f : Nat → Int} (h : Bd a b f) (h1 : lo ≤ a) (h2 : b ≤ hi) : Bd lo hi f := fun j => ⟨Int.le_trans h1 (h j).1, Int.le_trans (h j).2 h2⟩
/-- the locals, place by place -/
def loL : Nat → List (Option Value) → List (Nat × Value)
  | _, [] => []
  | i, none :: r => loL (i + 1) r
  | i, some v :: r => (i, v) :: loL (i + 1) r
theorem loL_in : ∀ (lo : List (Option Value)) (k i : Nat) (v : Value), (i, v) ∈ loL k lo → ∃ j : Nat, i = k + j ∧ lo[j]? = some (some v) := by
  intro lo
  induction lo with
  | nil => intro k i v h; simp [loL] at h
  | cons a r ih =>
    intro k i v h
    cases a with
    | none =>
      obtain ⟨j, h1, h2⟩ := ih (k + 1) i v h
      exact ⟨j + 1, by omega, by simpa using h2⟩
    | some w =>
      simp only [loL, List.mem_cons, Prod.mk.injEq] at h
      rcases h with ⟨rfl, rfl⟩ | h
      · exact ⟨0, rfl, rfl⟩
      · obtain ⟨j, h1, h2⟩ := ih (k + 1) i v h
        exact ⟨j + 1, by omega, by simpa using h2⟩
theorem loL_mem : ∀ (lo : List (Option Value)) (k j : Nat) (v : Value), lo[j]? = some (some v) → (k + j, v) ∈ loL k lo := by
  intro lo
  induction lo with
  | nil => intro k j v h; simp at h
  | cons a r ih =>
    intro k j v h
    cases j with
    | zero =>
      simp at h
      subst h
      simp [loL]
    | succ j =>
      have h2 := ih (k + 1) j v (by simpa using h)
      rw [show k + (j + 1) = k + 1 + j by omega]
      cases a with
      | none => exact h2
      | some w => exact List.mem_cons_of_mem _ h2
def lvO (ls : Array Slot) (nL : Nat) (lo : List (Option Value)) : Prop := lv_has ls nL (loL 0 lo)
theorem lvO_at {ls : Array Slot} {nL : Nat} {lo : List (Option Value)} {i : Nat} {v : Value} (h : lvO ls nL lo) (hi : lo[i]? = some (some v)) : ls[i]? = some (.val v) := by
  have := h.2.2 (0 + i, v) (loL_mem lo 0 i v hi)
  simpa using this
theorem lvO_of {ls : Array Slot} {nL : Nat} {lo : List (Option Value)} {l : List (Nat × Value)} (h : lv_has ls nL l) (hs : ∀ (i : Nat) (v : Value), lo[i]? = some (some v) → (i, v) ∈ l) : lvO ls nL lo := by
  refine ⟨h.1, h.2.1, ?_⟩
  rintro ⟨i, v⟩ hq
  obtain ⟨j, h1, h2⟩ := loL_in lo 0 i v hq
  have h3 : i = j := by omega
  subst h3
  exact h.2.2 (i, v) (hs i v h2)
theorem lvO_sub {ls : Array Slot} {nL : Nat} {lo lo2 : List (Option Value)} (h : lvO ls nL lo) (hs : ∀ (i : Nat) (v : Value), lo2[i]? = some (some v) → lo[i]? = some (some v)) : lvO ls nL lo2 :=
  lvO_of h (fun i v hi => by have := loL_mem lo 0 i v (hs i v hi); simpa using this)
/-- no long stands just ahead of the place -/
def okS (lo : List (Option Value)) : Nat → Bool
  | 0 => true
  | i + 1 => match lo[i]? with
    | some (some (.long _)) => false
    | some (some (.double _)) => false
    | _ => true
theorem okS_cat {lo : List (Option Value)} {i j : Nat} {v : Value} (h : okS lo i = true) (hj : j + 1 = i) (hv : lo[j]? = some (some v)) : (v.category == 2) = false := by
  subst hj
  simp only [okS, hv] at h
  cases v <;> simp_all [Value.category]
theorem lvO_set1 {ls : Array Slot} {nL : Nat} {lo : List (Option Value)} {i : Nat} {v : Value} (hk : okS lo i = true) (h : lv_has ls nL ((i, v) :: (loL 0 lo).filter (fun q => !(q.1 == i) && !(q.1 + 1 == i && q.2.category == 2)))) : lvO ls nL (lo.set i (some v)) := by
  refine lvO_of h (fun j w hj => ?_)
  by_cases e : j = i
  · subst e
    have hl : j < lo.length := by
      rcases Nat.lt_or_ge j lo.length with q | q
      · exact q
      · rw [List.getElem?_eq_none (by simpa using q)] at hj; cases hj
    rw [List.getElem?_set_self hl] at hj
    cases hj
    exact List.mem_cons_self
  · rw [List.getElem?_set_ne (Ne.symm e)] at hj
    refine List.mem_cons_of_mem _ (List.mem_filter.mpr ⟨by have := loL_mem lo 0 j w hj; simpa using this, ?_⟩)
    have e1 : (j == i) = false := by simpa using e
    simp only [e1, Bool.not_false, Bool.true_and]
    by_cases e2 : j + 1 = i
    · rw [okS_cat hk e2 hj]
      simp
    · have e3 : (j + 1 == i) = false := by simpa using e2
      simp [e3]
theorem lvO_set2 {ls : Array Slot} {nL : Nat} {lo : List (Option Value)} {i : Nat} {v : Value} (hk : okS lo i = true) (h : lv_has ls nL ((i, v) :: (loL 0 lo).filter (fun q => !(q.1 == i) && (!(q.1 == i + 1) && !(q.1 + 1 == i && q.2.category == 2))))) : lvO ls nL ((lo.set i (some v)).set (i + 1) none) := by
  refine lvO_of h (fun j w hj => ?_)
  by_cases e : j = i + 1
  · subst e
    exfalso
    rcases Nat.lt_or_ge (i + 1) (lo.set i (some v)).length with q | q
    · rw [List.getElem?_set_self q] at hj; cases hj
    · rw [List.getElem?_eq_none (by simpa using q)] at hj; cases hj
  · rw [List.getElem?_set_ne (Ne.symm e)] at hj
    by_cases e0 : j = i
    · subst e0
      have hl : j < lo.length := by
        rcases Nat.lt_or_ge j lo.length with q | q
        · exact q
        · rw [List.getElem?_eq_none (by simpa using q)] at hj; cases hj
      rw [List.getElem?_set_self hl] at hj
      cases hj
      exact List.mem_cons_self
    · rw [List.getElem?_set_ne (Ne.symm e0)] at hj
      refine List.mem_cons_of_mem _ (List.mem_filter.mpr ⟨by have := loL_mem lo 0 j w hj; simpa using this, ?_⟩)
      have e1 : (j == i) = false := by simpa using e0
      have e4 : (j == i + 1) = false := by simpa using e
      simp only [e1, e4, Bool.not_false, Bool.true_and]
      by_cases e2 : j + 1 = i
      · rw [okS_cat hk e2 hj]
        simp
      · have e3 : (j + 1 == i) = false := by simpa using e2
        simp [e3]
/-- the locals at the entry -/
def enL : List Value → Nat → List (Option Value)
  | [], n => List.replicate n none
  | v :: vs, n => if v.category = 2 then some v :: none :: enL vs (n - 2) else some v :: enL vs (n - 1)
theorem enL_in : ∀ (vs : List Value) (n k i : Nat) (v : Value), (enL vs n)[i]? = some (some v) → (k + i, v) ∈ lv_args k vs := by
  intro vs
  induction vs with
  | nil =>
    intro n k i v h
    simp only [enL] at h
    rw [List.getElem?_replicate] at h
    split at h <;> simp at h
  | cons a r ih =>
    intro n k i v h
    simp only [enL] at h
    split at h
    next hc =>
      cases i with
      | zero => simp at h; subst h; simp [lv_args]
      | succ i =>
        cases i with
        | zero => simp at h
        | succ i =>
          have := ih (n - 2) (k + 2) i v (by simpa using h)
          simp only [lv_args, hc, if_true]
          rw [show k + (i + 1 + 1) = k + 2 + i by omega]
          exact List.mem_cons_of_mem _ this
    next hc =>
      cases i with
      | zero => simp at h; subst h; simp [lv_args]
      | succ i =>
        have := ih (n - 1) (k + 1) i v (by simpa using h)
        simp only [lv_args, hc, if_false]
        rw [show k + (i + 1) = k + 1 + i by omega]
        exact List.mem_cons_of_mem _ this
/-- some cells of a world put in the place of others at the same addresses -/
def patch : va_W → List Nat → va_W → va_W
  | ws, i :: is, q :: qs => patch (ws.set i q) is qs
  | ws, _, _ => ws
theorem patch_len : ∀ (is : List Nat) (ws w1 : va_W), (patch ws is w1).length = ws.length := by
  intro is
  induction is with
  | nil => intro ws w1; simp [patch]
  | cons i is ih =>
    intro ws w1
    cases w1 with
    | nil => simp [patch]
    | cons q qs => simp [patch, ih]
theorem patch_get : ∀ (is : List Nat) (ws w1 : va_W), is.length = w1.length → ∀ (k : Nat) (q : Nat × va_E), (patch ws is w1)[k]? = some q → (∃ j : Nat, is[j]? = some k ∧ w1[j]? = some q) ∨ (k ∉ is ∧ ws[k]? = some q) := by
  intro is
  induction is with
  | nil => intro ws w1 _ k q h; exact Or.inr ⟨List.not_mem_nil, by simpa [patch] using h⟩
  | cons i is ih =>
    intro ws w1 hl k q h
    cases w1 with
    | nil => simp at hl
    | cons a as =>
      simp only [patch] at h
      rcases ih (ws.set i a) as (by simpa using hl) k q h with ⟨j, h1, h2⟩ | ⟨h1, h2⟩
      · exact Or.inl ⟨j + 1, by simpa using h1, by simpa using h2⟩
      · by_cases e : k = i
        · subst e
          have hk : k < ws.length := by
            rcases Nat.lt_or_ge k ws.length with z | z
            · exact z
            · rw [List.getElem?_eq_none (by simpa using z)] at h2; cases h2
          rw [List.getElem?_set_self hk] at h2
          exact Or.inl ⟨0, rfl, by simpa using h2⟩
        · rw [List.getElem?_set_ne (Ne.symm e)] at h2
          exact Or.inr ⟨by simp [e, h1], h2⟩
theorem patch_fst : ∀ (is : List Nat) (ws w0 w1 : va_W), is.map (fun i => ws[i]?) = w0.map some → w1.map Prod.fst = w0.map Prod.fst → va_nd is = true → (patch ws is w1).map Prod.fst = ws.map Prod.fst := by
  intro is
  induction is with
  | nil => intro ws w0 w1 _ _ _; simp [patch]
  | cons i is ih =>
    intro ws w0 w1 h0 h1 hn
    cases w0 with
    | nil => simp at h0
    | cons b bs =>
      cases w1 with
      | nil => simp at h1
      | cons a as =>
        simp only [List.map_cons, List.cons.injEq] at h0 h1
        simp only [patch]
        have hi : i < ws.length := by
          rcases Nat.lt_or_ge i ws.length with z | z
          · exact z
          · have := h0.1; rw [List.getElem?_eq_none z] at this; cases this
        have hni : i ∉ is := by
          intro hm
          have := va_nd_inj _ hn
          obtain ⟨j, hj⟩ := List.getElem?_of_mem hm
          have := this 0 (j + 1) i (by simp) (by simpa using hj)
          omega
        have hn2 : va_nd is = true := by
          simp only [va_nd, Bool.and_eq_true] at hn
          exact hn.2
        rw [ih (ws.set i a) bs as (by
          rw [← h0.2]
          refine List.map_congr_left (fun j hj => ?_)
          exact List.getElem?_set_ne (fun e => hni (by rw [e]; exact hj))) h1.2 hn2]
        rw [List.map_set]
        refine List.ext_getElem? (fun j => ?_)
        by_cases e : j = i
        · subst e
          rw [List.getElem?_set_self (by simpa using hi), List.getElem?_map, h0.1]
          simp [h1.1]
        · rw [List.getElem?_set_ne (Ne.symm e)]
theorem patch_id : ∀ (is : List Nat) (ws w0 : va_W), is.map (fun i => ws[i]?) = w0.map some → patch ws is w0 = ws := by
  intro is
  induction is with
  | nil => intro ws w0 _; simp [patch]
  | cons i is ih =>
    intro ws w0 h
    cases w0 with
    | nil => simp [patch]
    | cons b bs =>
      simp only [List.map_cons, List.cons.injEq] at h
      have e : ws.set i b = ws := by
        refine List.ext_getElem? (fun j => ?_)
        by_cases e : j = i
        · subst e
          rcases Nat.lt_or_ge j ws.length with z | z
          · rw [List.getElem?_set_self z, h.1]
          · have := h.1; rw [List.getElem?_eq_none z] at this; cases this
        · rw [List.getElem?_set_ne (Ne.symm e)]
      simp only [patch]
      rw [e]
      exact ih ws bs h.2
theorem va_D_fst {A : Nat → Prop} {ws w2 : va_W} (h : va_D A ws) (e : w2.map Prod.fst = ws.map Prod.fst) : va_D A w2 := by
  have key : ∀ (k : Nat) (q : Nat × va_E), w2[k]? = some q → ∃ r : Nat × va_E, ws[k]? = some r ∧ r.1 = q.1 := by
    intro k q hq
    have h1 : (w2.map Prod.fst)[k]? = some q.1 := by rw [List.getElem?_map, hq]; rfl
    rw [e, List.getElem?_map] at h1
    cases hr : ws[k]? with
    | none => rw [hr] at h1; cases h1
    | some r => rw [hr] at h1; exact ⟨r, rfl, Option.some.inj h1⟩
  refine ⟨fun i j p q hp hq hpq => ?_, fun k q hq => ?_⟩
  · obtain ⟨p2, h1, h2⟩ := key i p hp
    obtain ⟨q2, h3, h4⟩ := key j q hq
    exact h.1 i j p2 q2 h1 h3 (by rw [h2, h4, hpq])
  · obtain ⟨r, h1, h2⟩ := key k q hq
    rw [← h2]
    exact h.2 k r h1
/-- behind a call: the callee's cells put back in their places -/
theorem va_back {A0 : Nat → Prop} {D : va_G} {cl : List vw_C} {ws wc w1 : va_W} {H H1 : Heap} (hP : va_P D cl ws H) (hD : va_D A0 ws) (isC : List Nat) (hC : isC.map (fun i => ws[i]?) = wc.map some) (hn : va_nd isC = true) (hf : w1.map Prod.fst = wc.map Prod.fst)
    (hk : ∀ q : Nat, q < H.size → ¬ va_A wc H.size q → H1[q]? = H[q]?) (hP1 : va_P D cl w1 H1) : va_P D cl (patch ws isC w1) H1 ∧ va_D A0 (patch ws isC w1) := by
  refine ⟨fun k q hq => ?_, va_D_fst hD (patch_fst isC ws wc w1 hC hf hn)⟩
  have hlen : isC.length = w1.length := by
    have h1 := congrArg List.length hC
    have h2 := congrArg List.length hf
    simp only [List.length_map] at h1 h2
    omega
  rcases patch_get isC ws w1 hlen k q hq with ⟨j, h1, h2⟩ | ⟨h1, h2⟩
  · exact hP1 j q h2
  · have hl := (hP k q h2).lt
    refine (hP k q h2).kept (hk q.1 hl (fun h => ?_))
    rcases h with ⟨k2, e, h⟩ | h
    · have h3 : (isC.map (fun i => ws[i]?))[k2]? = some (some (q.1, e)) := by rw [hC, List.getElem?_map, h]; rfl
      rw [List.getElem?_map] at h3
      cases hi : isC[k2]? with
      | none => rw [hi] at h3; cases h3
      | some i =>
        rw [hi] at h3
        have h4 : ws[i]? = some (q.1, e) := Option.some.inj h3
        have hij := hD.1 k i q (q.1, e) h2 h4 rfl
        subst hij
        exact h1 (List.mem_of_getElem? hi)
    · omega
theorem isC_fm : ∀ (is : List Nat) (ws w0 : va_W), is.map (fun i => ws[i]?) = w0.map some → is.filterMap (fun i => ws[i]?) = w0 := by
  intro is
  induction is with
  | nil => intro ws w0 h; cases w0 with
    | nil => rfl
    | cons b bs => simp at h
  | cons i is ih =>
    intro ws w0 h
    cases w0 with
    | nil => simp at h
    | cons b bs =>
      simp only [List.map_cons, List.cons.injEq] at h
      rw [List.filterMap_cons, h.1, ih ws bs h.2]
