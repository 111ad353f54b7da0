/-! numbers: the doubts of two speeds -/
theorem nt_bezN (m n : Nat) : ∃ x y : Int, (m : Int) * x + (n : Int) * y = ((Nat.gcd m n : Nat) : Int) := by
  induction m, n using Nat.gcd.induction with
  | H0 n => exact ⟨0, 1, by simp⟩
  | H1 m n hm ih =>
    obtain ⟨x, y, h⟩ := ih
    refine ⟨y - ((n / m : Nat) : Int) * x, x, ?_⟩
    have e : ((n % m : Nat) : Int) + (m : Int) * ((n / m : Nat) : Int) = (n : Int) := by
      have q := congrArg (fun z : Nat => (z : Int)) (Nat.mod_add_div n m)
      simpa only [Int.natCast_add, Int.natCast_mul] using q
    rw [Nat.gcd_rec m n, ← h]
    generalize ((n % m : Nat) : Int) = r at e ⊢
    generalize ((n / m : Nat) : Int) = d at e ⊢
    rw [← e]
    grind
theorem nt_bez (a b : Int) : ∃ x y : Int, a * x + b * y = ((Int.gcd a b : Nat) : Int) := by
  obtain ⟨x, y, h⟩ := nt_bezN a.natAbs b.natAbs
  rw [Int.gcd_eq_natAbs_gcd_natAbs, ← h]
  rcases Int.natAbs_eq a with ha | ha <;> rcases Int.natAbs_eq b with hb | hb
  · exact ⟨x, y, by rw [← ha, ← hb]⟩
  · exact ⟨x, -y, by
      generalize (a.natAbs : Int) = u at ha ⊢
      generalize (b.natAbs : Int) = v at hb ⊢
      subst ha hb
      grind⟩
  · exact ⟨-x, y, by
      generalize (a.natAbs : Int) = u at ha ⊢
      generalize (b.natAbs : Int) = v at hb ⊢
      subst ha hb
      grind⟩
  · exact ⟨-x, -y, by
      generalize (a.natAbs : Int) = u at ha ⊢
      generalize (b.natAbs : Int) = v at hb ⊢
      subst ha hb
      grind⟩
theorem absI_n (a : Int) : absI a = (a.natAbs : Int) := by
  unfold absI
  split <;> omega
theorem sha_g (a b : Int) : shaI a b = ((Int.gcd a b : Nat) : Int) := by
  unfold shaI
  rw [absI_n, absI_n]
  simp [Int.gcd_eq_natAbs_gcd_natAbs]
theorem absI_mul {g z : Int} (hg : 0 < g) : absI (g * z) = g * absI z := by
  unfold absI
  by_cases h : 0 ≤ z
  · rw [if_pos h, if_pos (Int.mul_nonneg (by omega) h)]
  · have := Int.mul_neg_of_pos_of_neg hg (show z < 0 by omega)
    rw [if_neg h, if_neg (by omega), Int.mul_neg]
theorem nt_set {a b : Int} (h : whoI a b ≠ 0) : ∃ G p q x y D : Int, 0 < G ∧ 0 < D ∧ a = G * p ∧ b = G * q ∧ p * x + q * y = 1 ∧ (D = p * p - q * q ∨ D = q * q - p * p) ∧ shaI a b = G ∧ whoI a b = G * (G * D) ∧ momI a b = G * D := by
  have hG : ((Int.gcd a b : Nat) : Int) ≠ 0 := by
    intro z
    have z0 : Int.gcd a b = 0 := by omega
    have z1 := Int.eq_zero_of_gcd_eq_zero_left z0
    have z2 := Int.eq_zero_of_gcd_eq_zero_right z0
    rw [z1, z2] at h
    exact h rfl
  have hs := sha_g a b
  obtain ⟨x, y, hxy⟩ := nt_bez a b
  obtain ⟨p, hp⟩ := Int.gcd_dvd_left a b
  obtain ⟨q, hq⟩ := Int.gcd_dvd_right a b
  have hG0 : 0 < ((Int.gcd a b : Nat) : Int) := by omega
  generalize ((Int.gcd a b : Nat) : Int) = G at *
  have e1 : p * x + q * y = 1 := by
    refine Int.eq_of_mul_eq_mul_left hG ?_
    rw [hp, hq] at hxy
    rw [Int.mul_one]
    grind
  have e2 : a * a - b * b = G * (G * (p * p - q * q)) := by
    rw [hp, hq]
    grind
  have e3 : whoI a b = G * (G * absI (p * p - q * q)) := by
    unfold whoI
    rw [e2, absI_mul hG0, absI_mul hG0]
  refine ⟨G, p, q, x, y, absI (p * p - q * q), hG0, ?_, hp, hq, e1, ?_, hs, e3, ?_⟩
  · have h1 : 0 ≤ absI (p * p - q * q) := by rw [absI_n]; omega
    have h2 : absI (p * p - q * q) ≠ 0 := by
      intro z
      rw [e3, z, Int.mul_zero, Int.mul_zero] at h
      exact h rfl
    omega
  · unfold absI
    split
    · exact Or.inl rfl
    · exact Or.inr (by omega)
  · unfold momI
    rw [hs, e3, Int.mul_ediv_cancel_left _ hG]
/-- x and y might be the one for the other -/
def ntS (a b n x y : Int) : Prop := n ∣ a * x - b * y ∧ n ∣ b * x - a * y
theorem nt_g {G p q D X Y : Int} (hG : 0 < G) (hD : 0 < D) (hd : D = p * p - q * q ∨ D = q * q - p * p) (h : ntS (G * p) (G * q) (G * (G * D)) X Y) : G ∣ X := by
  obtain ⟨⟨k, hk⟩, ⟨m, hm⟩⟩ := h
  have e1 : p * X - q * Y = G * D * k := by
    refine Int.eq_of_mul_eq_mul_left (show G ≠ 0 by omega) ?_
    grind
  have e2 : q * X - p * Y = G * D * m := by
    refine Int.eq_of_mul_eq_mul_left (show G ≠ 0 by omega) ?_
    grind
  rcases hd with hd | hd
  · refine ⟨p * k - q * m, ?_⟩
    refine Int.eq_of_mul_eq_mul_left (show D ≠ 0 by omega) ?_
    have e3 : D * X = p * (p * X - q * Y) - q * (q * X - p * Y) := by rw [hd]; grind
    rw [e3, e1, e2]
    grind
  · refine ⟨q * m - p * k, ?_⟩
    refine Int.eq_of_mul_eq_mul_left (show D ≠ 0 by omega) ?_
    have e3 : D * X = q * (q * X - p * Y) - p * (p * X - q * Y) := by rw [hd]; grind
    rw [e3, e1, e2]
    grind
theorem nt_i1 (G p q k f Y : Int) : G * q * (Y - k * f) = k * (G * p * G - G * q * f) - (G * p * (k * G) - G * q * Y) := by grind
theorem nt_i2 (N k a b : Int) : k * (N * a) - N * b = N * (k * a - b) := by grind
/-- what stands beside 0 is whole rounds -/
theorem nt_one {G p q x y D k f Y : Int} (hG : 0 < G) (hxy : p * x + q * y = 1) (hf : ntS (G * p) (G * q) (G * (G * D)) G f) (h : ntS (G * p) (G * q) (G * (G * D)) (k * G) Y) : (G * D) ∣ Y - k * f := by
  obtain ⟨⟨k1, hk1⟩, ⟨m1, hm1⟩⟩ := hf
  obtain ⟨⟨k2, hk2⟩, ⟨m2, hm2⟩⟩ := h
  refine ⟨x * (k * m1 - m2) + y * (k * k1 - k2), ?_⟩
  refine Int.eq_of_mul_eq_mul_left (show G ≠ 0 by omega) ?_
  have e1 : G * q * (Y - k * f) = G * (G * D) * (k * k1 - k2) := by rw [nt_i1 G p q k f Y, hk1, hk2, nt_i2]
  have e2 : G * p * (Y - k * f) = G * (G * D) * (k * m1 - m2) := by rw [nt_i1 G q p k f Y, hm1, hm2, nt_i2]
  have e3 : G * (Y - k * f) = x * (G * p * (Y - k * f)) + y * (G * q * (Y - k * f)) := by
    have : G * (Y - k * f) = G * (p * x + q * y) * (Y - k * f) := by rw [hxy, Int.mul_one]
    rw [this]
    grind
  rw [e3, e1, e2]
  grind
theorem nt_two {G p q D k f Y : Int} (hf : ntS (G * p) (G * q) (G * (G * D)) G f) (h : (G * D) ∣ Y - k * f) : ntS (G * p) (G * q) (G * (G * D)) (k * G) Y := by
  obtain ⟨⟨k1, hk1⟩, ⟨m1, hm1⟩⟩ := hf
  obtain ⟨t, ht⟩ := h
  have e : Y = k * f + G * D * t := by omega
  refine ⟨⟨k * k1 - q * t, ?_⟩, ⟨k * m1 - p * t, ?_⟩⟩
  · rw [e]
    have : G * p * (k * G) - G * q * (k * f + G * D * t) = k * (G * p * G - G * q * f) - G * q * (G * D * t) := by grind
    rw [this, hk1]
    grind
  · rw [e]
    have : G * q * (k * G) - G * p * (k * f + G * D * t) = k * (G * q * G - G * p * f) - G * p * (G * D * t) := by grind
    rw [this, hm1]
    grind
theorem nt_ex {G p q x y D : Int} (hxy : p * x + q * y = 1) (hd : D = p * p - q * q ∨ D = q * q - p * p) : ∃ f : Int, ntS (G * p) (G * q) (G * (G * D)) G f := by
  have h1 : (p * p - q * q) * (x * x) + q * (q * (x * x) + 2 * p * x * y + q * (y * y)) = 1 := by
    have h2 : (p * x + q * y) * (p * x + q * y) = 1 := by rw [hxy, Int.mul_one]
    rw [← h2]
    grind
  generalize hu : q * (x * x) + 2 * p * x * y + q * (y * y) = u at h1
  refine ⟨G * (p * u), ?_⟩
  have h3 : q * u = 1 - (p * p - q * q) * (x * x) := by omega
  have h4 : p * p = (p * p - q * q) + q * q := by omega
  have h5 : G * p * G - G * q * (G * (p * u)) = G * G * (p - p * (q * u)) := by grind
  have h6 : G * q * G - G * p * (G * (p * u)) = G * G * (q - (p * p) * u) := by grind
  rcases hd with hd | hd
  · refine ⟨⟨p * (x * x), ?_⟩, ⟨q * (x * x) - u, ?_⟩⟩
    · rw [h5, h3, ← hd]; grind
    · rw [h6, h4, ← hd]
      have : (D + q * q) * u = D * u + q * (q * u) := by grind
      rw [this, h3, ← hd]; grind
  · have hd2 : p * p - q * q = -D := by omega
    refine ⟨⟨-(p * (x * x)), ?_⟩, ⟨u - q * (x * x), ?_⟩⟩
    · rw [h5, h3, hd2]; grind
    · rw [h6, h4, hd2]
      have : (-D + q * q) * u = -D * u + q * (q * u) := by grind
      rw [this, h3, hd2]; grind
theorem rest_dvd {n w : Int} (hw : 0 < w) : restI n w = 0 ↔ w ∣ n := by
  unfold restI
  rw [if_neg (by omega)]
  exact ⟨Int.dvd_of_emod_eq_zero, Int.emod_eq_zero_of_dvd⟩
theorem dvd_sw {w x y : Int} : w ∣ x - y ↔ w ∣ y - x := by
  constructor
  · rintro ⟨k, hk⟩
    exact ⟨-k, by rw [Int.mul_neg, ← hk]; omega⟩
  · rintro ⟨k, hk⟩
    exact ⟨-k, by rw [Int.mul_neg, ← hk]; omega⟩
theorem lsQ_S {a b N G j : Int} (hN : 0 < N) : lsQ N G a b j ↔ ntS a b N G j := by
  unfold lsQ ntS
  rw [rest_dvd hN, rest_dvd hN, dvd_sw (x := b * j), dvd_sw (x := a * j)]
theorem oth_none {P : Int → Bool} : ∀ (k : Nat) (y : Int), (∀ z : Int, y ≤ z → z < y + k → P z = false) → othS P k y = -1000000 := by
  intro k
  induction k with
  | zero => intro y _; rfl
  | succ k ih =>
    intro y h
    have h0 := h y (Int.le_refl _) (by omega)
    show (if P y = true then y else othS P k (y + 1)) = _
    rw [h0, if_neg (by decide)]
    exact ih (y + 1) (fun z h1 h2 => h z (by omega) (by omega))
theorem oth_is {P : Int → Bool} {r : Int} (hr : P r = true) : ∀ (k : Nat) (y : Int), y ≤ r → r < y + k → (∀ z : Int, y ≤ z → z < r → P z = false) → othS P k y = r := by
  intro k
  induction k with
  | zero => intro y h1 h2; omega
  | succ k ih =>
    intro y h1 h2 h
    show (if P y = true then y else othS P k (y + 1)) = _
    by_cases e : y = r
    · subst e
      rw [if_pos hr]
    · have h0 := h y (Int.le_refl _) (by omega)
      rw [h0, if_neg (by decide)]
      exact ih (y + 1) (by omega) (by omega) (fun z h3 h4 => h z (by omega) h4)
theorem othQ_t {sa sb n x y : Int} : othQ sa sb n x y = true ↔ y ≠ x ∧ ntS sa sb n x y := by
  unfold othQ ntS
  rw [decide_eq_true_eq]
  constructor
  · rintro ⟨h1, h2, h3⟩
    exact ⟨h1, Int.dvd_of_tmod_eq_zero h2, Int.dvd_of_tmod_eq_zero h3⟩
  · rintro ⟨h1, h2, h3⟩
    exact ⟨h1, Int.tmod_eq_zero_of_dvd h2, Int.tmod_eq_zero_of_dvd h3⟩
theorem othQ_f {sa sb n x y : Int} (h : ¬ (y ≠ x ∧ ntS sa sb n x y)) : othQ sa sb n x y = false := by
  cases e : othQ sa sb n x y
  · rfl
  · exact absurd (othQ_t.mp e) h
/-- all that is told of the doubts of a and b, in short -/
def DB (a b G M f : Int) : Prop := 0 < G ∧ 0 < M ∧ whoI a b = G * M ∧ shaI a b = G ∧ momI a b = M ∧ (0 ≤ f ∧ f < M) ∧ (∀ x : Int, 0 ≤ x → x < G * M → ¬ G ∣ x → othM a b x = -1000000) ∧ ∀ k : Int, 0 ≤ k → k < M → othM a b (k * G) = if 0 ≤ othI M G f k then othI M G f k else -1000000
theorem mod_of {z r M : Int} (hM : 0 < M) (h0 : 0 ≤ r) (h1 : r < M) (h : M ∣ z - r) : z % M = r := by
  obtain ⟨t, ht⟩ := h
  rw [show z = r + M * t by omega, Int.add_mul_emod_self_left, Int.emod_eq_of_lt h0 h1]
theorem DB_of {a b f : Int} (h : whoI a b ≠ 0) (hf : LsO (whoI a b) (shaI a b) (momI a b) a b f) : DB a b (shaI a b) (momI a b) f := by
  obtain ⟨G, p, q, x, y, D, hG, hD, ha, hb, hxy, hd, eG, eN, eM⟩ := nt_set h
  have hM : 0 < G * D := Int.mul_pos hG hD
  have hN : 0 < G * (G * D) := Int.mul_pos hG hM
  rw [eG, eN, eM] at hf
  rw [eG, eM]
  have hS : ntS a b (G * (G * D)) G f ∧ (0 ≤ f ∧ f < G * D) := by
    rcases hf with w | w
    · exact ⟨(lsQ_S hN).mp w.2.2.1, w.1, w.2.1⟩
    · exfalso
      obtain ⟨f1, h1⟩ := nt_ex (G := G) hxy hd
      have h2 : ntS (G * p) (G * q) (G * (G * D)) (1 * G) (f1 % (G * D)) := nt_two h1 ⟨-(f1 / (G * D)), by
        have := Int.emod_add_mul_ediv f1 (G * D)
        rw [Int.mul_neg]
        omega⟩
      rw [Int.one_mul, ← ha, ← hb] at h2
      exact w.2 (f1 % (G * D)) (Int.emod_nonneg _ (by omega)) (Int.emod_lt_of_pos _ hM) ((lsQ_S hN).mpr h2)
  obtain ⟨hS, hf0⟩ := hS
  have hS2 := hS
  rw [ha, hb] at hS2
  refine ⟨hG, hM, eN, eG, eM, hf0, ?_, ?_⟩
  · intro X h0 h1 hX
    unfold othM
    rw [eN]
    refine oth_none _ _ (fun z h2 h3 => othQ_f (fun w => hX ?_))
    have w2 := w.2
    rw [ha, hb] at w2
    exact nt_g hG hD hd w2
  · intro k h0 h1
    have key : ∀ z : Int, ntS a b (G * (G * D)) (k * G) z ↔ (G * D) ∣ z - k * f := by
      intro z
      rw [ha, hb]
      exact ⟨fun w => nt_one hG hxy hS2 w, fun w => nt_two hS2 w⟩
    have er : restI (k * f) (G * D) = (k * f) % (G * D) := by
      unfold restI
      rw [if_neg (by omega)]
    have r0 := Int.emod_nonneg (k * f) (show G * D ≠ 0 by omega)
    have r1 := Int.emod_lt_of_pos (k * f) hM
    have rd : (G * D) ∣ (k * f) % (G * D) - k * f := ⟨-(k * f / (G * D)), by
      have := Int.emod_add_mul_ediv (k * f) (G * D)
      rw [Int.mul_neg]
      omega⟩
    have lo : ∀ z : Int, 0 ≤ z → z < G * D → ntS a b (G * (G * D)) (k * G) z → z = (k * f) % (G * D) := by
      intro z z0 z1 w
      have w2 := (key z).mp w
      obtain ⟨t1, ht1⟩ := w2
      obtain ⟨t2, ht2⟩ := rd
      have e1 := mod_of (z := z) hM r0 r1 ⟨t1 - t2, by rw [Int.mul_sub, ← ht1, ← ht2]; omega⟩
      rw [Int.emod_eq_of_lt z0 z1] at e1
      exact e1
    have hi : ∀ z : Int, G * D ≤ z → z < G * D + G * D → ntS a b (G * (G * D)) (k * G) z → z - G * D = (k * f) % (G * D) := by
      intro z z0 z1 w
      have w2 := (key z).mp w
      obtain ⟨t1, ht1⟩ := w2
      exact lo (z - G * D) (by omega) (by omega) ((key _).mpr ⟨t1 - 1, by rw [Int.mul_sub, ← ht1, Int.mul_one]; omega⟩)
    have i0 : ntS a b (G * (G * D)) (k * G) ((k * f) % (G * D)) := (key _).mpr rd
    have i1 : ntS a b (G * (G * D)) (k * G) ((k * f) % (G * D) + G * D) := by
      obtain ⟨t2, ht2⟩ := rd
      exact (key _).mpr ⟨t2 + 1, by rw [Int.mul_add, ← ht2, Int.mul_one]; omega⟩
    have hGN : G * D ≤ G * (G * D) := by
      have := Int.mul_le_mul_of_nonneg_right (show 1 ≤ G by omega) (show 0 ≤ G * D by omega)
      rw [Int.one_mul] at this
      exact this
    unfold othM othI
    rw [er, eN]
    by_cases c : (k * f) % (G * D) ≠ k * G
    · rw [if_pos c, if_pos r0]
      refine oth_is (othQ_t.mpr ⟨c, i0⟩) _ _ r0 (by omega) (fun z h2 h3 => othQ_f (fun w => ?_))
      have := lo z h2 (by omega) w.2
      omega
    · rw [if_neg c]
      have c2 : (k * f) % (G * D) = k * G := Decidable.not_not.mp c
      by_cases c1 : 1 < G
      · have hG2 : G * D + G * D ≤ G * (G * D) := by
          have := Int.mul_le_mul_of_nonneg_right (show 2 ≤ G by omega) (show 0 ≤ G * D by omega)
          omega
        rw [if_pos c1, if_pos (by omega)]
        refine oth_is (othQ_t.mpr ⟨by omega, i1⟩) _ _ (by omega) (by omega) (fun z h2 h3 => othQ_f (fun w => ?_))
        by_cases c3 : z < G * D
        · have := lo z h2 c3 w.2
          have := w.1
          omega
        · have := hi z (by omega) (by omega) w.2
          omega
      · rw [if_neg c1, if_neg (by omega)]
        have g1 : G = 1 := by omega
        refine oth_none _ _ (fun z h2 h3 => othQ_f (fun w => ?_))
        have : z < G * D := by
          rw [g1] at h3 ⊢
          omega
        have := lo z h2 this w.2
        have := w.1
        omega
