/-! the doubts told: how many, which, whether -/
theorem cnt_flat {p : Nat → Bool} {n : Nat} : ∀ j : Nat, (∀ i : Nat, i < j → p (n + i) = false) → cntN p (n + j) = cntN p n := by
  intro j
  induction j with
  | zero => intro _; rfl
  | succ j ih =>
    intro h
    have h0 := h j (by omega)
    show cntN p (n + j) + (if p (n + j) = true then 1 else 0) = _
    rw [h0, if_neg (by decide), ih (fun i hi => h i (by omega)), Int.add_zero]
theorem cnt_mul {p q : Nat → Bool} {G M : Nat} (hG : 0 < G) (h1 : ∀ k : Nat, k < M → q k = p (G * k)) (h2 : ∀ x : Nat, x < G * M → (∀ k : Nat, x ≠ G * k) → p x = false) : ∀ m : Nat, m ≤ M → cntN p (G * m) = cntN q m := by
  intro m
  induction m with
  | zero => intro _; rfl
  | succ m ih =>
    intro hm
    have e : G * (m + 1) = G * m + 1 + (G - 1) := by rw [Nat.mul_add]; omega
    have hle : G * (m + 1) ≤ G * M := Nat.mul_le_mul_left G hm
    rw [e, cnt_flat (G - 1) (fun i hi => h2 _ (by omega) (fun k hk => ?_))]
    · show cntN p (G * m) + (if p (G * m) = true then 1 else 0) = cntN q m + (if q m = true then 1 else 0)
      rw [ih (by omega), h1 m (by omega)]
    · have c1 : m < k := Nat.lt_of_mul_lt_mul_left (a := G) (by omega)
      have c2 : k < m + 1 := Nat.lt_of_mul_lt_mul_left (a := G) (by omega)
      omega
theorem DB_cnt {a b G M f : Int} (h : DB a b G M f) : ∀ k : Int, 0 ≤ k → k ≤ M → cntN (fun x => decide (othM a b x ≠ -1000000)) (G * k).toNat = cntN (fun k => decide (0 ≤ othI M G f k)) k.toNat := by
  obtain ⟨hG, hM, -, -, -, -, hn, hk⟩ := h
  intro k h0 h1
  have eN : (G * k).toNat = G.toNat * k.toNat := Int.toNat_mul (by omega) h0
  have cast : ∀ k : Nat, ((G.toNat * k : Nat) : Int) = (k : Int) * G := by
    intro k
    rw [Int.natCast_mul, show ((G.toNat : Nat) : Int) = G by omega, Int.mul_comm]
  rw [eN]
  refine cnt_mul (M := M.toNat) (by omega) (fun j hj => ?_) (fun x hx hne => ?_) k.toNat (by omega)
  · have q := hk (j : Int) (by omega) (by omega)
    have ec := cast j
    show decide (0 ≤ othI M G f (j : Int)) = decide (othM a b ((G.toNat * j : Nat) : Int) ≠ -1000000)
    rw [ec, q]
    by_cases c : 0 ≤ othI M G f (j : Int)
    · rw [if_pos c, decide_eq_true c, decide_eq_true (by omega)]
    · rw [if_neg c, decide_eq_false c, decide_eq_false (by omega)]
  · have e2 : ((G.toNat * M.toNat : Nat) : Int) = G * M := by
      rw [Int.natCast_mul]
      congr 1 <;> omega
    have q := hn (x : Int) (by omega) (by omega) (fun ⟨t, ht⟩ => hne t.toNat (by
      have ht0 : 0 ≤ t := by
        rcases (show t < 0 ∨ 0 ≤ t by omega) with z | z
        · exfalso
          have := Int.mul_neg_of_pos_of_neg hG z
          omega
        · exact z
      have e3 := cast t.toNat
      rw [show ((t.toNat : Nat) : Int) = t by omega, Int.mul_comm] at e3
      omega))
    show decide (othM a b (x : Int) ≠ -1000000) = false
    rw [q]
    rfl
theorem mom_0 {a b : Int} (h : whoI a b = 0) : momI a b = 0 := by
  unfold momI
  rw [h, Int.zero_ediv]
theorem doubts_eq {a b f : Int} (hf : LsO (whoI a b) (shaI a b) (momI a b) a b f) : (if momI a b = 0 then -1000000 else cntN (fun k => decide (0 ≤ othI (momI a b) (shaI a b) f k)) (momI a b).toNat) = (if whoI a b = 0 then -1000000 else cntN (fun k => decide (othM a b k ≠ -1000000)) (whoI a b).toNat) := by
  by_cases h : whoI a b = 0
  · rw [if_pos h, if_pos (mom_0 h)]
  · have d := DB_of h hf
    have e := DB_cnt d (momI a b) (by have := d.2.1; omega) (Int.le_refl _)
    rw [if_neg h, if_neg (by have := d.2.1; omega), ← e, d.2.2.1]
theorem cnt_lt {p : Nat → Bool} {i j : Nat} (hp : p i = true) (h : i < j) : cntN p i < cntN p j := by
  have mono : ∀ d : Nat, cntN p (i + 1) ≤ cntN p (i + 1 + d) := by
    intro d
    induction d with
    | zero => exact Int.le_refl _
    | succ d ih =>
      have : cntN p (i + 1 + (d + 1)) = cntN p (i + 1 + d) + (if p (i + 1 + d) = true then 1 else 0) := rfl
      split at this <;> omega
  have h1 : cntN p (i + 1) = cntN p i + (if p i = true then 1 else 0) := rfl
  rw [if_pos hp] at h1
  have h2 := mono (j - (i + 1))
  rw [show i + 1 + (j - (i + 1)) = j by omega] at h2
  omega
theorem told_mul {G k M w : Int} (hG : 0 < G) : toldI (k * G) (G * M) w = toldI k M w := by
  have e : ((Int.gcd (k * G) (G * M) : Nat) : Int) = G * ((Int.gcd k M : Nat) : Int) := by
    rw [Int.mul_comm k G, Int.gcd_mul_left, Int.natCast_mul]
    congr 1
    omega
  unfold toldI
  rw [e, Int.mul_comm k G, Int.mul_ediv_mul_of_pos _ _ hG, Int.mul_ediv_mul_of_pos _ _ hG]
/-- the i-th doubt: the same number on either side -/
theorem doubt_eq {a b f i w v v2 : Int} (hf : LsO (whoI a b) (shaI a b) (momI a b) a b f)
    (h : (∃ k : Int, 0 ≤ k ∧ k < momI a b ∧ 0 ≤ othI (momI a b) (shaI a b) f k ∧ cntN (fun k => decide (0 ≤ othI (momI a b) (shaI a b) f k)) k.toNat = i ∧ v = (if w < 2 then toldI k (momI a b) w else toldI (othI (momI a b) (shaI a b) f k) (whoI a b) (w - 2))) ∨ (cntN (fun k => decide (0 ≤ othI (momI a b) (shaI a b) f k)) (momI a b).toNat ≤ i ∧ v = -1000000))
    (h2 : (∃ k : Int, 0 ≤ k ∧ k < whoI a b ∧ othM a b k ≠ -1000000 ∧ cntN (fun k => decide (othM a b k ≠ -1000000)) k.toNat = i ∧ v2 = (if w < 2 then toldI k (whoI a b) w else toldI (othM a b k) (whoI a b) (w - 2))) ∨ (cntN (fun k => decide (othM a b k ≠ -1000000)) (whoI a b).toNat ≤ i ∧ v2 = -1000000)) : v = v2 := by
  by_cases c : whoI a b = 0
  · have c2 := mom_0 c
    rcases h with ⟨k, q⟩ | h
    · omega
    · rcases h2 with ⟨k, q⟩ | h2
      · omega
      · rw [h.2, h2.2]
  · have d := DB_of c hf
    have cn := DB_cnt d
    have hN := d.2.2.1
    have lt : ∀ {x : Int}, 0 ≤ x → x < whoI a b → othM a b x ≠ -1000000 → ∃ k : Int, 0 ≤ k ∧ k < momI a b ∧ x = k * shaI a b := by
      intro x x0 x1 xn
      have hd : shaI a b ∣ x := Decidable.by_contra (fun z => xn (d.2.2.2.2.2.2.1 x x0 (by omega) z))
      obtain ⟨k, hk⟩ := hd
      refine ⟨k, ?_, ?_, by rw [hk, Int.mul_comm]⟩
      · rcases (show k < 0 ∨ 0 ≤ k by omega) with z | z
        · have := Int.mul_neg_of_pos_of_neg d.1 z
          omega
        · exact z
      · rcases (show k < (momI a b) ∨ (momI a b) ≤ k by omega) with z | z
        · exact z
        · have := Int.mul_le_mul_of_nonneg_left z (show 0 ≤ shaI a b by have := d.1; omega)
          omega
    rcases h with ⟨k, k0, k1, k2, k3, k4⟩ | h
    · have ek := d.2.2.2.2.2.2.2 k k0 k1
      rw [if_pos k2] at ek
      have ck := cn k k0 (by omega)
      have i1 : cntN (fun x => decide (othM a b x ≠ -1000000)) (shaI a b * k).toNat = i := by rw [ck, k3]
      have hx : 0 ≤ shaI a b * k ∧ shaI a b * k < whoI a b := by
        refine ⟨Int.mul_nonneg (by have := d.1; omega) k0, ?_⟩
        rw [hN]
        exact Int.mul_lt_mul_of_pos_left k1 d.1
      have hp : (fun x : Nat => decide (othM a b x ≠ -1000000)) (shaI a b * k).toNat = true := by
        show decide (othM a b (((shaI a b * k).toNat : Nat) : Int) ≠ -1000000) = true
        rw [show (((shaI a b * k).toNat : Nat) : Int) = k * shaI a b by rw [Int.mul_comm k]; omega, ek]
        exact decide_eq_true (by omega)
      rcases h2 with ⟨x, x0, x1, x2, x3, x4⟩ | h2
      · have hp2 : (fun x : Nat => decide (othM a b x ≠ -1000000)) x.toNat = true := by
          show decide (othM a b ((x.toNat : Nat) : Int) ≠ -1000000) = true
          rw [show ((x.toNat : Nat) : Int) = x by omega]
          exact decide_eq_true x2
        have ex : x.toNat = (shaI a b * k).toNat := by
          rcases Nat.lt_trichotomy x.toNat (shaI a b * k).toNat with z | z | z
          · have := cnt_lt (p := fun x : Nat => decide (othM a b x ≠ -1000000)) (i := x.toNat) hp2 z
            omega
          · exact z
          · have := cnt_lt (p := fun x : Nat => decide (othM a b x ≠ -1000000)) (i := (shaI a b * k).toNat) hp z
            omega
        have ex2 : x = k * shaI a b := by rw [Int.mul_comm k]; omega
        rw [k4, x4, ex2, ek]
        by_cases cw : w < 2
        · rw [if_pos cw, if_pos cw, hN, told_mul d.1]
        · rw [if_neg cw, if_neg cw]
      · exfalso
        have := cnt_lt (p := fun x : Nat => decide (othM a b x ≠ -1000000)) (i := (shaI a b * k).toNat) (j := (whoI a b).toNat) hp (by omega)
        omega
    · rcases h2 with ⟨x, x0, x1, x2, x3, x4⟩ | h2
      · exfalso
        obtain ⟨k, k0, k1, k2⟩ := lt x0 x1 x2
        have ek := d.2.2.2.2.2.2.2 k k0 k1
        have ck := cn k k0 (by omega)
        have hk2 : 0 ≤ othI (momI a b) (shaI a b) f k := by
          rcases (show othI (momI a b) (shaI a b) f k < 0 ∨ 0 ≤ othI (momI a b) (shaI a b) f k by omega) with z | z
          · exfalso
            rw [if_neg (by omega), ← k2] at ek
            exact x2 ek
          · exact z
        have hp : (fun k : Nat => decide (0 ≤ othI (momI a b) (shaI a b) f k)) k.toNat = true := by
          show decide (0 ≤ othI (momI a b) (shaI a b) f ((k.toNat : Nat) : Int)) = true
          rw [show ((k.toNat : Nat) : Int) = k by omega]
          exact decide_eq_true hk2
        have := cnt_lt (p := fun k : Nat => decide (0 ≤ othI (momI a b) (shaI a b) f k)) (i := k.toNat) (j := (momI a b).toNat) hp (by omega)
        rw [Int.mul_comm, ← k2] at ck
        omega
      · rw [h.2, h2.2]
theorem isDoubt_eq {a b f p q : Int} (hq : 1 ≤ q) (hp : 0 ≤ p ∧ p < q) (hf : LsO (whoI a b) (shaI a b) (momI a b) a b f) :
    (if momI a b = 0 then -1000000 else if (momI a b * p) % q = 0 ∧ 0 ≤ othI (momI a b) (shaI a b) f (momI a b * p / q) then 1 else 0) = (if whoI a b = 0 then (-1000000 : Int) else if (p * whoI a b) % q = 0 ∧ othM a b (p * whoI a b / q) ≠ -1000000 then 1 else 0) := by
  by_cases h : whoI a b = 0
  · rw [if_pos h, if_pos (mom_0 h)]
  · have d := DB_of h hf
    have hM := d.2.1
    have hG := d.1
    rw [if_neg h, if_neg (by omega)]
    have eN : p * whoI a b = shaI a b * (momI a b * p) := by rw [d.2.2.1, Int.mul_comm p, Int.mul_assoc]
    have hx : p * whoI a b / q < whoI a b ∧ 0 ≤ p * whoI a b / q := by
      have h1 : 0 < whoI a b := by rw [d.2.2.1]; exact Int.mul_pos hG hM
      refine ⟨Int.ediv_lt_of_lt_mul (by omega) ?_, Int.ediv_nonneg (Int.mul_nonneg hp.1 (by omega)) (by omega)⟩
      rw [Int.mul_comm (whoI a b) q]
      exact Int.mul_lt_mul_of_pos_right hp.2 h1
    have hk : momI a b * p / q < momI a b ∧ 0 ≤ momI a b * p / q := by
      refine ⟨Int.ediv_lt_of_lt_mul (by omega) (Int.mul_lt_mul_of_pos_left hp.2 hM), Int.ediv_nonneg (Int.mul_nonneg (by omega) hp.1) (by omega)⟩
    have ek := d.2.2.2.2.2.2.2 (momI a b * p / q) hk.2 hk.1
    by_cases c : (momI a b * p) % q = 0
    · obtain ⟨t, ht⟩ := Int.dvd_of_emod_eq_zero c
      have e1 : momI a b * p / q = t := by rw [ht, Int.mul_ediv_cancel_left _ (by omega)]
      have e2 : p * whoI a b = q * (t * shaI a b) := by
        rw [eN, ht]
        grind
      have e3 : p * whoI a b / q = t * shaI a b := by rw [e2, Int.mul_ediv_cancel_left _ (by omega)]
      have e4 : (p * whoI a b) % q = 0 := by rw [e2, Int.mul_emod_right]
      rw [e1] at ek ⊢
      rw [e3, e4, ek, c]
      by_cases c2 : 0 ≤ othI (momI a b) (shaI a b) f t
      · rw [if_pos ⟨rfl, c2⟩, if_pos ⟨rfl, by rw [if_pos c2]; omega⟩]
      · rw [if_neg (fun z => c2 z.2), if_neg (fun z => z.2 (if_neg c2))]
    · rw [if_neg (fun z => c z.1)]
      by_cases c2 : (p * whoI a b) % q = 0 ∧ othM a b (p * whoI a b / q) ≠ -1000000
      · exfalso
        obtain ⟨t, ht⟩ := Int.dvd_of_emod_eq_zero c2.1
        have e1 : p * whoI a b / q = t := by rw [ht, Int.mul_ediv_cancel_left _ (by omega)]
        rw [e1] at hx c2
        have hd : shaI a b ∣ t := Decidable.by_contra (fun z => c2.2 (d.2.2.2.2.2.2.1 t hx.2 (by have := d.2.2.1; omega) z))
        obtain ⟨k, hk2⟩ := hd
        refine c (Int.emod_eq_zero_of_dvd ⟨k, ?_⟩)
        refine Int.eq_of_mul_eq_mul_left (show shaI a b ≠ 0 by omega) ?_
        rw [← eN, ht, hk2]
        grind
      · rw [if_neg c2]
