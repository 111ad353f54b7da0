/-! readings, side by side -/
theorem rest_neg {Y W z : Int} (hW : 0 < W) : (restI Y W = 0 ∧ restI (-Y + W * z) W = 0) ∨ (0 < restI Y W ∧ restI (-Y + W * z) W = W - restI Y W) := by
  have e : ∀ n : Int, restI n W = n % W := fun n => if_neg (by omega)
  rw [e, e, Int.add_mul_emod_self_left]
  have a1 := Int.emod_add_mul_ediv Y W
  have a2 := Int.emod_nonneg Y (show W ≠ 0 by omega)
  have a3 := Int.emod_lt_of_pos Y hW
  generalize Y / W = d at a1
  by_cases c : Y % W = 0
  · refine Or.inl ⟨c, mod_of hW (Int.le_refl _) hW ⟨-d, ?_⟩⟩
    rw [Int.mul_neg]
    omega
  · refine Or.inr ⟨by omega, mod_of hW (by omega) (by omega) ⟨-d - 1, ?_⟩⟩
    rw [Int.mul_sub, Int.mul_neg, Int.mul_one]
    omega
theorem gap_eq {ar sp fc fi : Nat → Int} {pa fr b t h bu : Int} (hb : basI bu = b) (e1 : atI 4 sp b = spdM fc b) (e2 : atI 4 sp h = spdM fc h) (e3 : atI 4 ar b = mAr fi fr b) (e4 : atI 4 ar h = mAr fi fr h) (hs : spdM fc b ≠ 0) (hp : 1 ≤ pa) :
    ∃ o W : Int, 0 < W ∧ (0 ≤ o ∧ o < W) ∧ gapI ar sp pa b t h = (if W - o < o then W - o else o) ∧ mWh fc pa bu = W ∧ absI (spdM fc b) * pa = W ∧ (mTm fc fi fr pa bu h (mX fc fi fr pa bu t) = o ∨ (0 < o ∧ mTm fc fi fr pa bu h (mX fc fi fr pa bu t) = W - o)) := by
  have hA : 0 < absI (spdM fc b) := by unfold absI; split <;> omega
  have hW : 0 < absI (spdM fc b) * pa := Int.mul_pos hA (by omega)
  have eW : mWh fc pa bu = absI (spdM fc b) * pa := by
    unfold mWh mTu
    rw [hb, Int.mul_comm]
  refine ⟨restI (spdM fc h * (mAr fi fr b + t * pa) - mAr fi fr h * spdM fc b) (absI (spdM fc b) * pa), absI (spdM fc b) * pa, hW, ⟨restI_bd.1, restI_bd.2 hW⟩, ?_, eW, rfl, ?_⟩
  · unfold gapI
    rw [e1, e2, e3, e4]
  · unfold mTm mX
    rw [eW]
    unfold mAt mTu
    rw [hb]
    by_cases c : spdM fc b < 0
    · rw [if_pos c]
      have ea : absI (spdM fc b) = -(spdM fc b) := by unfold absI; rw [if_neg (by omega)]
      have er : restI (-(mAr fi fr b + t * pa)) (absI (spdM fc b) * pa) = -(mAr fi fr b + t * pa) + absI (spdM fc b) * pa * -(-(mAr fi fr b + t * pa) / (absI (spdM fc b) * pa)) := by
        unfold restI
        rw [if_neg (by omega), Int.mul_neg]
        have := Int.emod_add_mul_ediv (-(mAr fi fr b + t * pa)) (absI (spdM fc b) * pa)
        omega
      rw [er]
      generalize -(-(mAr fi fr b + t * pa) / (absI (spdM fc b) * pa)) = z
      have e5 : spdM fc h * (-(mAr fi fr b + t * pa) + absI (spdM fc b) * pa * z) - mAr fi fr h * absI (spdM fc b) = -(spdM fc h * (mAr fi fr b + t * pa) - mAr fi fr h * spdM fc b) + absI (spdM fc b) * pa * (spdM fc h * z) := by
        rw [ea]
        grind
      rw [e5]
      rcases rest_neg (Y := spdM fc h * (mAr fi fr b + t * pa) - mAr fi fr h * spdM fc b) (z := spdM fc h * z) hW with q | q
      · exact Or.inl (by rw [q.1, q.2])
      · exact Or.inr q
    · rw [if_neg c]
      have ea : absI (spdM fc b) = spdM fc b := by unfold absI; rw [if_pos (by omega)]
      rw [ea]
      exact Or.inl rfl
/-- what is read, the same on either side -/
def RD (ar sp fc fi : Nat → Int) (cn fr : Int) : Prop := fc 1 = cn ∧ ∀ h : Int, 0 ≤ h → h < cn → atI 4 sp h = spdM fc h ∧ spdM fc h ≠ 0 ∧ atI 4 ar h = mAr fi fr h
theorem fit_eq {ar sp fc fi : Nat → Int} {cn pa fr t wo bu : Int} (R : RD ar sp fc fi cn fr) (hp : 1 ≤ pa) (hb : basI bu = basI wo) (hbc : basI wo < cn) (hw : ∀ h : Int, 0 ≤ h → h < cn → (h = wo ↔ h = bu)) : FitA ar sp cn pa (basI wo) t wo ↔ mFit fc fi fr pa bu t := by
  obtain ⟨hc, R⟩ := R
  have b0 : 0 ≤ basI wo := by unfold basI; split <;> decide
  have rb := R _ b0 hbc
  unfold FitA mFit
  rw [hc]
  have key : ∀ h : Int, 0 ≤ h → h < cn → (gapI ar sp pa (basI wo) t h = 0 ↔ mTm fc fi fr pa bu h (mX fc fi fr pa bu t) = 0) := by
    intro h h0 h1
    have rh := R h h0 h1
    obtain ⟨o, W, hW, ho, g1, -, -, g2⟩ := gap_eq (t := t) hb rb.1 rh.1 rb.2.2 rh.2.2 rb.2.1 hp
    rw [g1]
    split <;> omega
  constructor
  · intro H h h0 h1
    by_cases e : h = bu
    · exact Or.inl e
    · exact Or.inr ((key h h0 h1).mp (H h h0 h1 (fun z => e ((hw h h0 h1).mp z))))
  · intro H h h0 h1 hn
    rcases H h h0 h1 with e | e
    · exact absurd ((hw h h0 h1).mpr e) hn
    · exact (key h h0 h1).mpr e
theorem fitW_eq {ar sp fc fi : Nat → Int} {cn pa fr wo bu : Int} (R : RD ar sp fc fi cn fr) (hc1 : 1 ≤ cn) (hp : 1 ≤ pa) (hb : basI bu = basI wo) (hw : ∀ h : Int, 0 ≤ h → h < cn → (h = wo ↔ h = bu)) : FitW ar sp cn pa wo ↔ mFitW fc fi fr pa bu := by
  have b0 : 0 ≤ basI wo ∧ basI wo ≤ 1 := by unfold basI; split <;> decide
  unfold FitW mFitW
  rw [R.1, hb]
  by_cases hbc : basI wo < cn
  · have rb := R.2 _ b0.1 hbc
    have et : mTu fc bu = absI (atI 4 sp (basI wo)) := by
      unfold mTu
      rw [hb, rb.1]
    rw [et]
    constructor
    · rintro (h | ⟨t, t0, t1, t2⟩)
      · omega
      · exact Or.inr ⟨t, t0, t1, (fit_eq R hp hb hbc hw).mp t2⟩
    · rintro (h | ⟨t, t0, t1, t2⟩)
      · omega
      · exact Or.inr ⟨t, t0, t1, (fit_eq R hp hb hbc hw).mpr t2⟩
  · exact ⟨fun _ => Or.inl (by omega), fun _ => Or.inl (by omega)⟩
theorem pI_e {P Q : Prop} (h : P ↔ Q) : pI P = pI Q := by rw [propext h]
theorem pB_e {P Q : Prop} (h : P ↔ Q) : pB P = pB Q := by rw [propext h]
theorem lm_ln {b : Nat → Bool} {f : Nat → Int} (hf : ∀ t, 0 ≤ f t) : ∀ n : Nat, (lmN b f n = -1 ∧ lnN b f n = -1000000 ∧ ∀ t : Nat, t < n → b t = false) ∨ (0 ≤ lmN b f n ∧ lnN b f n = lmN b f n ∧ ∃ t : Nat, t < n ∧ b t = true) := by
  intro n
  induction n with
  | zero => exact Or.inl ⟨rfl, rfl, fun t ht => by omega⟩
  | succ n ih =>
    have h0 := hf n
    have e1 : lmN b f (n + 1) = if b n = true then (if lmN b f n < 0 then f n else if f n < lmN b f n then f n else lmN b f n) else lmN b f n := rfl
    have e2 : lnN b f (n + 1) = if b n = true then (if lnN b f n = -1000000 ∨ f n < lnN b f n then f n else lnN b f n) else lnN b f n := rfl
    rw [e1, e2]
    by_cases c : b n = true
    · rw [if_pos c, if_pos c]
      refine Or.inr ⟨?_, ?_, n, by omega, c⟩
      · rcases ih with q | q
        · rw [if_pos (by omega)]; exact h0
        · rw [if_neg (by omega)]; split <;> omega
      · rcases ih with q | q
        · rw [if_pos (Or.inl q.2.1), if_pos (by omega)]
        · rw [q.2.1, if_neg (show ¬ lmN b f n < 0 by omega)]
          by_cases c2 : f n < lmN b f n
          · rw [if_pos (Or.inr c2), if_pos c2]
          · rw [if_neg (by omega), if_neg c2]
    · rw [if_neg c, if_neg c]
      rcases ih with q | q
      · refine Or.inl ⟨q.1, q.2.1, fun t ht => ?_⟩
        by_cases e : t = n
        · subst e
          cases e3 : b t
          · rfl
          · exact absurd e3 c
        · exact q.2.2 t (by omega)
      · obtain ⟨t, ht, hb⟩ := q.2.2
        exact Or.inr ⟨q.1, q.2.1, t, by omega, hb⟩
theorem lmN_c {b b2 : Nat → Bool} {f f2 : Nat → Int} : ∀ n : Nat, (∀ t : Nat, t < n → b t = b2 t ∧ f t = f2 t) → lmN b f n = lmN b2 f2 n := by
  intro n
  induction n with
  | zero => intro _; rfl
  | succ n ih =>
    intro h
    have e1 : lmN b f (n + 1) = if b n = true then (if lmN b f n < 0 then f n else if f n < lmN b f n then f n else lmN b f n) else lmN b f n := rfl
    have e2 : lmN b2 f2 (n + 1) = if b2 n = true then (if lmN b2 f2 n < 0 then f2 n else if f2 n < lmN b2 f2 n then f2 n else lmN b2 f2 n) else lmN b2 f2 n := rfl
    rw [e1, e2, ih (fun t ht => h t (by omega)), (h n (by omega)).1, (h n (by omega)).2]
theorem told_0 {W w : Int} (hW : 1 ≤ W) : toldI 0 W w = if w = 0 then 0 else 1 := by
  have e : ((Int.gcd 0 W : Nat) : Int) = W := by
    rw [Int.gcd_zero_left]
    omega
  unfold toldI
  rw [e, Int.zero_ediv, Int.ediv_self (by omega)]
theorem lie_eq {ar sp fc fi : Nat → Int} {cn pa fr w : Int} (R : RD ar sp fc fi cn fr) (hc : 1 ≤ cn) (hp : 1 ≤ pa) (ht3 : Bd 0 12 (tM fc)) (hpa : pa ≤ 720) (hw : 0 ≤ w ∧ w ≤ 3) : lieV ar sp cn pa w = lieM fc fi fr pa w := by
  unfold lieV lieM
  by_cases w0 : w = 0
  · rw [if_pos w0, if_pos w0]
    exact pI_e (fitW_eq R hc hp rfl (fun h h0 h1 => by omega))
  · rw [if_neg w0, if_neg w0]
    by_cases w1 : w = 1
    · rw [if_pos w1, if_pos w1, R.1]
      exact bits_c _ (fun j hj => pB_e (fitW_eq R hc hp rfl (fun h h0 h1 => Iff.rfl)))
    · rw [if_neg w1, if_neg w1, R.1]
      by_cases c1 : cn = 1
      · have eb : fc 1 = basI (cn - 1) := by rw [R.1, c1]; rfl
        have e1 : lmI ar sp cn pa = 0 := if_pos (by omega)
        have e2 : mLs fc fi fr pa (cn - 1) = 0 := if_pos eb
        have e3 : mLo fc pa (cn - 1) = 1 := if_pos eb
        have e4 : pI (mFitW fc fi fr pa (cn - 1)) = 1 := pI_1 (Or.inl eb)
        rw [e1, e2, e3, e4, if_neg (by decide), if_pos rfl, told_0 (Int.le_refl _), told_0 (by unfold whlI; split <;> omega)]
      · have eb : basI (cn - 1) = 0 := if_neg (by omega)
        have nb : ¬ fc 1 = basI (cn - 1) := by rw [R.1, eb]; omega
        have r0 := R.2 0 (Int.le_refl _) (by omega)
        have rl := R.2 (cn - 1) (by omega) (by omega)
        have et : mTu fc (cn - 1) = absI (atI 4 sp 0) := by unfold mTu; rw [eb, r0.1]
        have eF : ∀ t : Int, FitA ar sp cn pa 0 t (cn - 1) ↔ mFit fc fi fr pa (cn - 1) t := by
          intro t
          have q := fit_eq (t := t) (wo := cn - 1) (bu := cn - 1) R hp rfl (by rw [eb]; omega) (fun h h0 h1 => Iff.rfl)
          rw [eb] at q
          exact q
        have eG : ∀ t : Int, gapI ar sp pa 0 t (cn - 1) = mBy fc fi fr pa (cn - 1) t := by
          intro t
          obtain ⟨o, W, hW, ho, g1, g2, -, g3⟩ := gap_eq (t := t) (bu := cn - 1) eb r0.1 rl.1 r0.2.2 rl.2.2 r0.2.1 hp
          unfold mBy
          rw [R.1, g1, g2]
          rcases g3 with g3 | g3
          · rw [g3]
          · rw [g3.2]
            split <;> split <;> omega
        have hmw := mWh_bd (pa := pa) (bu := cn - 1) ht3 ⟨hp, hpa⟩
        have e1 : lmI ar sp cn pa = lmN (fun t => pB (mFit fc fi fr pa (cn - 1) t)) (fun t => mBy fc fi fr pa (cn - 1) t) (mTu fc (cn - 1)).toNat := by
          unfold lmI
          rw [if_neg (by omega), et]
          exact lmN_c _ (fun t _ => ⟨pB_e (eF t), eG t⟩)
        have e2 : mLs fc fi fr pa (cn - 1) = lnN (fun t => pB (mFit fc fi fr pa (cn - 1) t)) (fun t => mBy fc fi fr pa (cn - 1) t) (mTu fc (cn - 1)).toNat := if_neg nb
        have e3 : mLo fc pa (cn - 1) = mWh fc pa (cn - 1) := if_neg nb
        have hm0 : 0 < mWh fc pa (cn - 1) ∧ mWh fc pa (cn - 1) = absI (atI 4 sp 0) * pa := by
          obtain ⟨o, W, hW, -, -, g2, g3, -⟩ := gap_eq (t := 0) (bu := cn - 1) eb r0.1 rl.1 r0.2.2 rl.2.2 r0.2.1 hp
          rw [r0.1, g3, g2]
          exact ⟨hW, rfl⟩
        have e5 : whlI sp pa = mWh fc pa (cn - 1) := by
          unfold whlI
          rw [← hm0.2]
          split <;> omega
        rw [e1, e2, e3, e5]
        rcases lm_ln (b := fun t => pB (mFit fc fi fr pa (cn - 1) t)) (f := fun t => mBy fc fi fr pa (cn - 1) t) (fun t => (mBy_bd hmw).1) (mTu fc (cn - 1)).toNat with q | q
        · have e6 : pI (mFitW fc fi fr pa (cn - 1)) = 0 := pI_0 (fun z => by
            rcases z with z | ⟨t, t0, t1, t2⟩
            · exact nb z
            · have q2 := q.2.2 t.toNat (by omega)
              have q3 : pB (mFit fc fi fr pa (cn - 1) ((t.toNat : Nat) : Int)) = false := q2
              rw [show ((t.toNat : Nat) : Int) = t by omega, pB_iff.mpr t2] at q3
              exact absurd q3 (by decide))
          rw [q.1, e6, if_pos (by decide), if_neg (by decide)]
        · obtain ⟨t, ht, hb⟩ := q.2.2
          have e6 : pI (mFitW fc fi fr pa (cn - 1)) = 1 := pI_1 (Or.inr ⟨t, by omega, by omega, pB_iff.mp hb⟩)
          rw [e6, q.2.1, if_neg (by omega), if_pos rfl]
theorem itm_in {it la le fl fm fi : Nat → Int} {r i : Int} (h : SR it la le fl fm fi) (hr : 0 ≤ r ∧ r < 8) (hi : 0 ≤ i ∧ i < le r.toNat) : itmI it le r i = fi (40 * r + i).toNat := by
  unfold itmI
  rw [if_pos ⟨hr.1, hr.2, by rw [rchI_1 hr, if_pos hi]⟩]
  have g := (h.2.2.2.2.2.2 r.toNat (by omega)).2.2.2 i hi.1 hi.2
  rw [show (((r.toNat : Nat) : Int) * 40 + i).toNat = (r * 40 + i).toNat by omega] at g
  rw [g, show (40 * r + i).toNat = (r * 40 + i).toNat by omega]
theorem spd_n0 {mk cn h : Int} {so tu sp : Nat → Int} (hk : CK mk cn so tu sp) (h0 : 0 ≤ h) (h1 : h < cn) : spdI cn so tu h ≠ 0 := by
  have g := hk.2.2.2.2 h.toNat (by omega)
  have ea : atI cn so h = so h.toNat := if_pos ⟨h0, h1⟩
  have eb : atI cn tu h = tu h.toNat := if_pos ⟨h0, h1⟩
  unfold spdI
  rw [ea, eb]
  (repeat split) <;> omega
theorem RD_over {it la le fl fm fi ar rs : Nat → Int} {mk cn r i : Int} {so tu sp : Nat → Int} (hk : CK mk cn so tu sp) (h : SR it la le fl fm fi) (hr : 0 ≤ r ∧ r < 8) (hi : 0 ≤ i ∧ i + cn ≤ le r.toNat) : RD (overI cn (rdA it le r i) ar) (overI cn (rdS cn so tu) rs) (clkF mk cn so tu sp) fi cn (40 * r + i) := by
  have c4 := hk.c4
  refine ⟨rfl, fun h2 h0 h1 => ?_⟩
  rw [spd_e c4]
  refine ⟨?_, spd_n0 hk h0 h1, ?_⟩
  · unfold atI overI rdS
    rw [if_pos ⟨h0, by omega⟩, if_pos (by omega), show ((h2.toNat : Nat) : Int) = h2 by omega]
  · unfold atI overI rdA mAr
    rw [if_pos ⟨h0, by omega⟩, if_pos (by omega), show ((h2.toNat : Nat) : Int) = h2 by omega, itm_in h hr (by omega)]
    congr 2
    omega
theorem RD_plain {it la le fl fm fi : Nat → Int} {mk cn r i : Int} {so tu sp : Nat → Int} (hk : CK mk cn so tu sp) (h : SR it la le fl fm fi) (hr : 0 ≤ r ∧ r < 8) (hi : 0 ≤ i ∧ i + cn ≤ le r.toNat) : RD (rdA it le r i) (rdS cn so tu) (clkF mk cn so tu sp) fi cn (40 * r + i) := by
  have c4 := hk.c4
  refine ⟨rfl, fun h2 h0 h1 => ?_⟩
  rw [spd_e c4]
  refine ⟨?_, spd_n0 hk h0 h1, ?_⟩
  · unfold atI rdS
    rw [if_pos ⟨h0, by omega⟩, show ((h2.toNat : Nat) : Int) = h2 by omega]
  · unfold atI rdA mAr
    rw [if_pos ⟨h0, by omega⟩, show ((h2.toNat : Nat) : Int) = h2 by omega, itm_in h hr (by omega)]
    congr 2
    omega
theorem arcs_eq {it la le fl fm fi : Nat → Int} {r i n pa : Int} (h : SR it la le fl fm fi) (hr : 0 ≤ r ∧ r < 8) (hi : 0 ≤ i ∧ i + n ≤ le r.toNat) : (∀ k : Int, 0 ≤ k → k < n → 0 ≤ itmI it le r (i + k) ∧ itmI it le r (i + k) < pa) ↔ (∀ k : Int, 0 ≤ k → k < n → 0 ≤ fi (40 * r + i + k).toNat ∧ fi (40 * r + i + k).toNat < pa) := by
  have e : ∀ k : Int, 0 ≤ k → k < n → itmI it le r (i + k) = fi (40 * r + i + k).toNat := by
    intro k k0 k1
    rw [itm_in h hr (by omega), show 40 * r + (i + k) = 40 * r + i + k by omega]
  constructor
  · intro H k k0 k1
    rw [← e k k0 k1]
    exact H k k0 k1
  · intro H k k0 k1
    rw [e k k0 k1]
    exact H k k0 k1
theorem oth_c {P Q : Int → Bool} : ∀ (k : Nat) (y : Int), (∀ z : Int, y ≤ z → z < y + k → P z = Q z) → othS P k y = othS Q k y := by
  intro k
  induction k with
  | zero => intro y _; rfl
  | succ k ih =>
    intro y h
    show (if P y = true then y else othS P k (y + 1)) = (if Q y = true then y else othS Q k (y + 1))
    rw [h y (Int.le_refl _) (by omega), ih (y + 1) (fun z h1 h2 => h z (by omega) (by omega))]
theorem fir_eq {it la le fl fm fi : Nat → Int} {mk cn r n pa : Int} {so tu sp : Nat → Int} (hk : CK mk cn so tu sp) (hc : 1 ≤ cn) (h : SR it la le fl fm fi) (hr : 0 ≤ r ∧ r < 8) (hp : 1 ≤ pa) (hn : 0 ≤ n) (hle : n * cn ≤ le r.toNat) : firC it le cn so tu r n pa = firM (clkF mk cn so tu sp) fi r n pa := by
  unfold firC firM
  refine oth_c _ _ (fun k k0 k1 => ?_)
  have q1 : 0 ≤ k * cn := Int.mul_nonneg k0 (by omega)
  have q2 : k * cn + cn ≤ n * cn := by
    have := Int.mul_le_mul_of_nonneg_right (show k + 1 ≤ n by omega) (show 0 ≤ cn by omega)
    rw [Int.add_mul, Int.one_mul] at this
    exact this
  have R := RD_plain (i := k * cn) hk h hr ⟨q1, by omega⟩
  rw [clkF_1]
  congr 1
  exact pB_e (fitW_eq R hc hp rfl (fun h h0 h1 => by omega))
