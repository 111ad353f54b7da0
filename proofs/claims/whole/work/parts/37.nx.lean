/-! the next meeting -/
theorem ceil_c {X q c : Int} (hq : 0 < q) (hc : 0 < c) : c * ((X + q - 1) / q) - c < (c * X + q - 1) / q ∧ (c * X + q - 1) / q ≤ c * ((X + q - 1) / q) := by
  have a1 := Int.emod_add_mul_ediv (X + q - 1) q
  have a2 := Int.emod_nonneg (X + q - 1) (show q ≠ 0 by omega)
  have a3 := Int.emod_lt_of_pos (X + q - 1) hq
  have b1 := Int.emod_add_mul_ediv (c * X + q - 1) q
  have b2 := Int.emod_nonneg (c * X + q - 1) (show q ≠ 0 by omega)
  have b3 := Int.emod_lt_of_pos (c * X + q - 1) hq
  generalize (X + q - 1) / q = K at *
  generalize (c * X + q - 1) / q = F at *
  generalize (X + q - 1) % q = r at *
  generalize (c * X + q - 1) % q = r2 at *
  constructor
  · refine Decidable.by_contra (fun z => ?_)
    have z1 : F ≤ c * K - c := by omega
    have z2 := Int.mul_le_mul_of_nonneg_left z1 (show 0 ≤ q by omega)
    have z3 : q * (c * K - c) = c * (q * K - q) := by grind
    have z4 := Int.mul_le_mul_of_nonneg_left (show q * K - q ≤ X - 1 by omega) (show 0 ≤ c by omega)
    have z5 : c * (X - 1) = c * X - c := by grind
    omega
  · refine Decidable.by_contra (fun z => ?_)
    have z1 : c * K + 1 ≤ F := by omega
    have z2 := Int.mul_le_mul_of_nonneg_left z1 (show 0 ≤ q by omega)
    have z3 : q * (c * K + 1) = c * (q * K) + q := by grind
    have z4 := Int.mul_le_mul_of_nonneg_left (show X ≤ q * K by omega) (show 0 ≤ c by omega)
    omega
theorem nxS_is {P : Int → Bool} {n : Int} : ∀ (k : Nat) (f t : Int), 0 ≤ t → t < k → P ((f + t).tmod n) = true → (∀ i : Int, 0 ≤ i → i < t → P ((f + i).tmod n) = false) → nxS P n k f = (f + t).tmod n := by
  intro k
  induction k with
  | zero => intro f t h0 h1; omega
  | succ k ih =>
    intro f t h0 h1 h2 h3
    show (if P (f.tmod n) = true then f.tmod n else nxS P n k (f + 1)) = _
    by_cases e : t = 0
    · subst e
      rw [Int.add_zero] at h2 ⊢
      rw [if_pos h2]
    · have q := h3 0 (Int.le_refl _) (by omega)
      rw [Int.add_zero] at q
      rw [q, if_neg (by decide), ih (f + 1) (t - 1) (by omega) (by omega) (by rw [show f + 1 + (t - 1) = f + t by omega]; exact h2) (fun i i0 i1 => by rw [show f + 1 + i = f + (i + 1) by omega]; exact h3 (i + 1) (by omega) (by omega))]
      congr 1
      omega
theorem tm_lo {x n : Int} (h0 : 0 ≤ x) (h1 : x < n) : x.tmod n = x := by
  rw [Int.tmod_eq_emod_of_nonneg h0, Int.emod_eq_of_lt h0 h1]
theorem tm_hi {x n : Int} (h0 : n ≤ x) (h1 : x < n + n) (hn : 0 < n) : x.tmod n = x - n := by
  rw [Int.tmod_eq_emod_of_nonneg (by omega)]
  have : x % n = (x - n) % n := by
    have := Int.add_mul_emod_self_left (x - n) n 1
    rw [Int.mul_one] at this
    rw [← this]
    congr 1
    omega
  rw [this, Int.emod_eq_of_lt (by omega) (by omega)]
theorem isS_t {h p : Int} : isS h p = true ↔ (h = 0 ∧ p % 4 = 0) ∨ (h = 1 ∧ p % 4 = 2) ∨ (h = 2 ∧ p % 2 = 1) := decide_eq_true_iff
theorem isS_f {h p : Int} (z : ¬ ((h = 0 ∧ p % 4 = 0) ∨ (h = 1 ∧ p % 4 = 2) ∨ (h = 2 ∧ p % 2 = 1))) : isS h p = false := by
  cases e : isS h p
  · rfl
  · exact absurd (isS_t.mp e) z
/-- which part the search finds, by the first k -/
theorem nxM_is {d h p q c K F b : Int} (hd : 1 ≤ d) (hh : (h = 0 ∧ c = 4) ∨ (h = 1 ∧ c = 2) ∨ (h = 2 ∧ c = 1)) (hb : c * b = 4 * d) (hF : F = (p * (4 * d) + q - 1) / q) (hK : K = (b * p + q - 1) / q) (h1 : c * K - c < F ∧ F ≤ c * K) (h2 : 0 ≤ F ∧ F ≤ 4 * d) (h3 : 0 ≤ K ∧ K ≤ b) : nxM d h p q = c * fmI b h p q := by
  unfold nxM fmI
  rw [← hF, ← hK]
  have tm : ∀ x : Int, 0 ≤ x → x < 4 * d + 4 → (x < 4 * d ∧ x.tmod (4 * d) = x) ∨ (4 * d ≤ x ∧ x.tmod (4 * d) = x - 4 * d) := by
    intro x x0 x1
    by_cases e : x < 4 * d
    · exact Or.inl ⟨e, tm_lo x0 e⟩
    · by_cases e2 : x < 4 * d + 4 * d
      · exact Or.inr ⟨by omega, tm_hi (by omega) e2 (by omega)⟩
      · omega
  rcases hh with ⟨rfl, rfl⟩ | ⟨rfl, rfl⟩ | ⟨rfl, rfl⟩
  · have e0 := tm (F + (4 * K - F)) (by omega) (by omega)
    rw [nxS_is (4 * d).toNat F (4 * K - F) (by omega) (by omega) (isS_t.mpr (Or.inl ⟨rfl, by omega⟩)) (fun i i0 i1 => isS_f (fun z => by
      have ei := tm (F + i) (by omega) (by omega)
      omega))]
    rw [if_neg (by omega)]
    by_cases c1 : K < b
    · rw [if_pos c1]; omega
    · rw [if_neg c1, if_pos rfl]; omega
  · by_cases c0 : K % 2 = 0
    · have e0 := tm (F + (2 * (K + 1) - F)) (by omega) (by omega)
      rw [nxS_is (4 * d).toNat F (2 * (K + 1) - F) (by omega) (by omega) (isS_t.mpr (Or.inr (Or.inl ⟨rfl, by omega⟩))) (fun i i0 i1 => isS_f (fun z => by
        have ei := tm (F + i) (by omega) (by omega)
        omega))]
      rw [if_pos ⟨by decide, c0⟩]
      by_cases c1 : K + 1 < b
      · rw [if_pos c1]; omega
      · rw [if_neg c1, if_neg (by decide)]; omega
    · have e0 := tm (F + (2 * K - F)) (by omega) (by omega)
      rw [nxS_is (4 * d).toNat F (2 * K - F) (by omega) (by omega) (isS_t.mpr (Or.inr (Or.inl ⟨rfl, by omega⟩))) (fun i i0 i1 => isS_f (fun z => by
        have ei := tm (F + i) (by omega) (by omega)
        omega))]
      rw [if_neg (fun z => c0 z.2)]
      by_cases c1 : K < b
      · rw [if_pos c1]; omega
      · rw [if_neg c1, if_neg (by decide)]; omega
  · by_cases c0 : K % 2 = 0
    · have e0 := tm (F + (K + 1 - F)) (by omega) (by omega)
      rw [nxS_is (4 * d).toNat F (K + 1 - F) (by omega) (by omega) (isS_t.mpr (Or.inr (Or.inr ⟨rfl, by omega⟩))) (fun i i0 i1 => isS_f (fun z => by
        have ei := tm (F + i) (by omega) (by omega)
        omega))]
      rw [if_pos ⟨by decide, c0⟩]
      by_cases c1 : K + 1 < b
      · rw [if_pos c1]; omega
      · rw [if_neg c1, if_neg (by decide)]; omega
    · have e0 := tm (F + (K - F)) (by omega) (by omega)
      rw [nxS_is (4 * d).toNat F (K - F) (by omega) (by omega) (isS_t.mpr (Or.inr (Or.inr ⟨rfl, by omega⟩))) (fun i i0 i1 => isS_f (fun z => by omega))]
      rw [if_neg (fun z => c0 z.2)]
      by_cases c1 : K < b
      · rw [if_pos c1]; omega
      · rw [if_neg c1, if_neg (by decide)]; omega
theorem ceil_b {X q b : Int} (hq : 0 < q) (h0 : 0 ≤ X) (h1 : X ≤ b * q) : 0 ≤ (X + q - 1) / q ∧ (X + q - 1) / q ≤ b := by
  refine ⟨Int.ediv_nonneg (by omega) (by omega), ?_⟩
  have := Int.ediv_lt_of_lt_mul (a := X + q - 1) (b := b + 1) hq (by rw [Int.add_mul]; omega)
  omega
theorem next_eq {d h p q w v : Int} (hd : 1 ≤ d) (hh : 0 ≤ h ∧ h ≤ 2) (hq : 1 ≤ q) (hp : 0 ≤ p ∧ p < q) (hv : (nxM d h p q = -1 ∧ v = -1000000) ∨ (0 ≤ nxM d h p q ∧ v = toldI (nxM d h p q) (4 * d) w)) : toldI (fmI (belI d h) h p q) (belI d h) w = v := by
  obtain ⟨c, hc⟩ : ∃ c : Int, (h = 0 ∧ c = 4) ∨ (h = 1 ∧ c = 2) ∨ (h = 2 ∧ c = 1) := by
    rcases (show h = 0 ∨ h = 1 ∨ h = 2 by omega) with e | e | e
    · exact ⟨4, Or.inl ⟨e, rfl⟩⟩
    · exact ⟨2, Or.inr (Or.inl ⟨e, rfl⟩)⟩
    · exact ⟨1, Or.inr (Or.inr ⟨e, rfl⟩)⟩
  have hb : c * belI d h = 4 * d ∧ 1 ≤ belI d h ∧ 0 < c := by
    unfold belI
    rcases hc with ⟨rfl, rfl⟩ | ⟨rfl, rfl⟩ | ⟨rfl, rfl⟩
    · rw [if_pos rfl]; omega
    · rw [if_neg (by decide), if_pos rfl]; omega
    · rw [if_neg (by decide), if_neg (by decide)]; omega
  have hX : 0 ≤ belI d h * p ∧ belI d h * p ≤ belI d h * q := ⟨Int.mul_nonneg (by omega) hp.1, Int.mul_le_mul_of_nonneg_left (by omega) (by omega)⟩
  have e1 : p * (4 * d) = c * (belI d h * p) := by rw [← hb.1]; grind
  have k1 := ceil_c (X := belI d h * p) (q := q) (c := c) (by omega) hb.2.2
  have k2 := ceil_b (q := q) (b := belI d h) (by omega) hX.1 hX.2
  have k3 := ceil_b (X := p * (4 * d)) (q := q) (b := 4 * d) (by omega) (Int.mul_nonneg hp.1 (by omega)) (by
    rw [Int.mul_comm p]
    exact Int.mul_le_mul_of_nonneg_left (by omega) (by omega))
  rw [← e1] at k1
  have key := nxM_is (d := d) (h := h) (p := p) (q := q) hd hc hb.1 rfl rfl k1 k3 k2
  have f0 : 0 ≤ fmI (belI d h) h p q := by
    unfold fmI
    (repeat split) <;> omega
  have f1 : 0 ≤ c * fmI (belI d h) h p q := Int.mul_nonneg (by omega) f0
  rcases hv with hv | hv
  · omega
  · rw [hv.2, key, ← hb.1, Int.mul_comm c (fmI (belI d h) h p q), told_mul hb.2.2]
