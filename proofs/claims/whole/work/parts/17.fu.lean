/-! the tape: feeding, tokens -/
def fdN (h : Int → Int) (f : Nat → Int) (n m : Int) : Nat → Nat → Int
  | 0 => f
  | j + 1 => updI (fdN h f n m j) (n + j).toNat (h (m - 1 - j))
theorem fdN_bd {h : Int → Int} {f : Nat → Int} {n m lo hi : Int} (hf : Bd lo hi f) (hh : ∀ k, lo ≤ h k ∧ h k ≤ hi) : ∀ j, Bd lo hi (fdN h f n m j) := by
  intro j
  induction j with
  | zero => exact hf
  | succ j ih => exact Bd_up ih (hh _).1 (hh _).2
theorem fdN_s {h : Int → Int} {f : Nat → Int} {n m k : Int} (h1 : 0 ≤ k) (h2 : k < m) : fdN h f n m (m - k).toNat = updI (fdN h f n m (m - 1 - k).toNat) (n + (m - 1 - k)).toNat (h k) := by
  rw [show (m - k).toNat = (m - 1 - k).toNat + 1 by omega]
  show updI _ (n + ((m - 1 - k).toNat : Int)).toNat (h (m - 1 - ((m - 1 - k).toNat : Int))) = _
  rw [show ((m - 1 - k).toNat : Int) = m - 1 - k by omega, show m - 1 - (m - 1 - k) = k by omega]
def fbM (w : Int64) (k : Int) : Int := iLow ((w >>> ((iI (8 * k)).toInt64 &&& 63)) &&& lI 255)
def spB (b : Int) : Bool := decide (b = 32 ∨ b = 10)
def leB (b : Int) : Bool := decide (97 ≤ b ∧ b ≤ 122)
def fiB (b : Int) : Bool := decide (48 ≤ b ∧ b ≤ 57)
theorem spB_iff {b : Int} : spB b = true ↔ (b = 32 ∨ b = 10) := decide_eq_true_iff
theorem leB_iff {b : Int} : leB b = true ↔ (97 ≤ b ∧ b ≤ 122) := decide_eq_true_iff
theorem fiB_iff {b : Int} : fiB b = true ↔ (48 ≤ b ∧ b ≤ 57) := decide_eq_true_iff
def scN (p : Int → Bool) (f : Nat → Int) (n : Int) : Nat → Int → Int
  | 0, i => i
  | k + 1, i => if i < n ∧ p (f i.toNat) = true then scN p f n k (i + 1) else i
def scW (p : Int → Bool) (f : Nat → Int) (n i : Int) : Int := scN p f n (n - i).toNat i
theorem scW_s {p : Int → Bool} {f : Nat → Int} {n i : Int} : scW p f n i = if i < n ∧ p (f i.toNat) = true then scW p f n (i + 1) else i := by
  unfold scW
  by_cases h : i < n
  · rw [show (n - i).toNat = (n - (i + 1)).toNat + 1 by omega]
    rfl
  · rw [show (n - i).toNat = 0 by omega, if_neg (fun z => h z.1)]
    rfl
theorem scN_bd {p : Int → Bool} {f : Nat → Int} {n : Int} : ∀ (k : Nat) (i : Int), i ≤ n → i ≤ scN p f n k i ∧ scN p f n k i ≤ n := by
  intro k
  induction k with
  | zero => intro i h; exact ⟨Int.le_refl _, h⟩
  | succ k ih =>
    intro i h
    show i ≤ (if i < n ∧ p (f i.toNat) = true then scN p f n k (i + 1) else i) ∧ (if i < n ∧ p (f i.toNat) = true then scN p f n k (i + 1) else i) ≤ n
    by_cases c : i < n ∧ p (f i.toNat) = true
    · rw [if_pos c]
      have q := ih (i + 1) (by omega)
      omega
    · rw [if_neg c]
      omega
theorem scW_bd {p : Int → Bool} {f : Nat → Int} {n i : Int} (h : i ≤ n) : i ≤ scW p f n i ∧ scW p f n i ≤ n := scN_bd _ _ h
theorem scN_all {p : Int → Bool} {f : Nat → Int} {n : Int} : ∀ (k : Nat) (i j : Int), i ≤ j → j < scN p f n k i → p (f j.toNat) = true := by
  intro k
  induction k with
  | zero =>
    intro i j h1 h2
    have h3 : j < i := h2
    omega
  | succ k ih =>
    intro i j h1 h2
    have h3 : j < (if i < n ∧ p (f i.toNat) = true then scN p f n k (i + 1) else i) := h2
    by_cases c : i < n ∧ p (f i.toNat) = true
    · rw [if_pos c] at h3
      by_cases e : j = i
      · rw [e]; exact c.2
      · exact ih (i + 1) j (by omega) h3
    · rw [if_neg c] at h3
      omega
def tkS (f : Nat → Int) (n i : Int) : Int := scW spB f n i
def tkE (f : Nat → Int) (n i : Int) : Int := if tkS f n i < n then (if leB (f (tkS f n i).toNat) = true then scW leB f n (tkS f n i) else if fiB (f (tkS f n i).toNat) = true then scW fiB f n (tkS f n i) else tkS f n i + 1) else tkS f n i
def tkC (f : Nat → Int) (n i : Int) : Int := if tkS f n i < n then (if leB (f (tkS f n i).toNat) = true then 1 else if fiB (f (tkS f n i).toNat) = true then (if 3 < tkE f n i - tkS f n i then 4 else 2) else if f (tkS f n i).toNat = 59 then 3 else 4) else 0
def tkM (f : Nat → Int) (n i : Int) : Int := if tkS f n i < n then (if leB (f (tkS f n i).toNat) = true then 2 else if fiB (f (tkS f n i).toNat) = true then (if 3 < tkE f n i - tkS f n i then 0 else 3) else if f (tkS f n i).toNat = 59 then 4 else 0) else 1
theorem tk_en {f : Nat → Int} {n i s : Int} (h5 : tkS f n i = s) (h : ¬ s < n) : tkC f n i = 0 ∧ tkE f n i = s ∧ tkM f n i = 1 := by
  unfold tkC tkE tkM
  rw [h5, if_neg h, if_neg h, if_neg h]
  exact ⟨rfl, rfl, rfl⟩
theorem tk_le {f : Nat → Int} {n i s : Int} (h5 : tkS f n i = s) (h : s < n) (hl : 97 ≤ f s.toNat ∧ f s.toNat ≤ 122) : tkC f n i = 1 ∧ tkE f n i = scW leB f n s ∧ tkM f n i = 2 := by
  have hl2 := leB_iff.mpr hl
  unfold tkC tkE tkM
  rw [h5, if_pos h, if_pos h, if_pos h, if_pos hl2, if_pos hl2, if_pos hl2]
  exact ⟨rfl, rfl, rfl⟩
theorem tk_fi {f : Nat → Int} {n i s : Int} (h5 : tkS f n i = s) (h : s < n) (hl : 48 ≤ f s.toNat ∧ f s.toNat ≤ 57) : tkC f n i = (if 3 < scW fiB f n s - s then 4 else 2) ∧ tkE f n i = scW fiB f n s ∧ tkM f n i = (if 3 < scW fiB f n s - s then 0 else 3) := by
  have hl2 : ¬ leB (f s.toNat) = true := fun z => absurd (leB_iff.mp z) (by omega)
  have hl3 := fiB_iff.mpr hl
  have he : tkE f n i = scW fiB f n s := by
    unfold tkE
    rw [h5, if_pos h, if_neg hl2, if_pos hl3]
  refine ⟨?_, he, ?_⟩
  · unfold tkC
    rw [he, h5, if_pos h, if_neg hl2, if_pos hl3]
  · unfold tkM
    rw [he, h5, if_pos h, if_neg hl2, if_pos hl3]
theorem tk_el {f : Nat → Int} {n i s : Int} (h5 : tkS f n i = s) (h : s < n) (hl : ¬ (97 ≤ f s.toNat ∧ f s.toNat ≤ 122)) (hf : ¬ (48 ≤ f s.toNat ∧ f s.toNat ≤ 57)) : tkC f n i = (if f s.toNat = 59 then 3 else 4) ∧ tkE f n i = s + 1 ∧ tkM f n i = (if f s.toNat = 59 then 4 else 0) := by
  have hl2 : ¬ leB (f s.toNat) = true := fun z => hl (leB_iff.mp z)
  have hl3 : ¬ fiB (f s.toNat) = true := fun z => hf (fiB_iff.mp z)
  unfold tkC tkE tkM
  rw [h5, if_pos h, if_pos h, if_pos h, if_neg hl2, if_neg hl2, if_neg hl2, if_neg hl3, if_neg hl3, if_neg hl3]
  exact ⟨rfl, rfl, rfl⟩
def tkOK (f : Nat → Int) (n k s e : Int) : Prop := (0 ≤ s ∧ s ≤ e ∧ e ≤ n) ∧ (k = 2 → e - s ≤ 3 ∧ ∀ j : Int, s ≤ j → j < e → 48 ≤ f j.toNat ∧ f j.toNat ≤ 57) ∧ (k = 1 → s < e ∧ ∀ j : Int, s ≤ j → j < e → 97 ≤ f j.toNat ∧ f j.toNat ≤ 122)
theorem tkOK_adv {f : Nat → Int} {n i : Int} (h0 : 0 ≤ i) (h1 : i ≤ n) : tkOK f n (tkC f n i) (tkS f n i) (tkE f n i) := by
  obtain ⟨s, hs⟩ : ∃ s, tkS f n i = s := ⟨_, rfl⟩
  have b := scW_bd (p := spB) (f := f) h1
  have b2 : i ≤ s ∧ s ≤ n := by
    rw [← hs]
    exact b
  rw [hs]
  by_cases h : s < n
  · by_cases hl : 97 ≤ f s.toNat ∧ f s.toNat ≤ 122
    · have e := tk_le hs h hl
      rw [e.1, e.2.1]
      have b3 := scW_bd (p := leB) (f := f) b2.2
      have b4 := scW_s (p := leB) (f := f) (n := n) (i := s)
      rw [if_pos ⟨h, leB_iff.mpr hl⟩] at b4
      have b5 := scW_bd (p := leB) (f := f) (show s + 1 ≤ n by omega)
      refine ⟨by omega, fun z => absurd z (by decide), fun _ => ⟨by omega, fun j g1 g2 => leB_iff.mp (scN_all _ _ j g1 g2)⟩⟩
    · by_cases hf : 48 ≤ f s.toNat ∧ f s.toNat ≤ 57
      · have e := tk_fi hs h hf
        rw [e.1, e.2.1]
        have b3 := scW_bd (p := fiB) (f := f) b2.2
        by_cases h3 : 3 < scW fiB f n s - s
        · rw [if_pos h3]
          exact ⟨by omega, fun z => absurd z (by decide), fun z => absurd z (by decide)⟩
        · rw [if_neg h3]
          exact ⟨by omega, fun _ => ⟨by omega, fun j g1 g2 => fiB_iff.mp (scN_all _ _ j g1 g2)⟩, fun z => absurd z (by decide)⟩
      · have e := tk_el hs h hl hf
        rw [e.1, e.2.1]
        by_cases h3 : f s.toNat = 59
        · rw [if_pos h3]
          exact ⟨by omega, fun z => absurd z (by decide), fun z => absurd z (by decide)⟩
        · rw [if_neg h3]
          exact ⟨by omega, fun z => absurd z (by decide), fun z => absurd z (by decide)⟩
  · have e := tk_en hs h
    rw [e.1, e.2.1]
    exact ⟨by omega, fun z => absurd z (by decide), fun z => absurd z (by decide)⟩
abbrev PS := Int × Int × Int × Int
def pasI (f : Nat → Int) (n b k : Int) (s : PS) : PS := if s.2.2.2 ≠ 0 then s else if b ≠ 0 then (tkC f n s.2.2.1, tkS f n s.2.2.1, tkE f n s.2.2.1, s.2.2.2) else (s.1, s.2.1, s.2.2.1, k)
def psOK (f : Nat → Int) (n : Int) (s : PS) : Prop := tkOK f n s.1 s.2.1 s.2.2.1
theorem psOK_pas {f : Nat → Int} {n b k : Int} {s : PS} (h : psOK f n s) : psOK f n (pasI f n b k s) := by
  unfold pasI
  by_cases h1 : s.2.2.2 ≠ 0
  · rw [if_pos h1]; exact h
  · rw [if_neg h1]
    by_cases h2 : b ≠ 0
    · rw [if_pos h2]
      exact tkOK_adv (by have q := h.1; omega) h.1.2.2
    · rw [if_neg h2]; exact h
def nmI (f : Nat → Int) (s : Int) : Nat → Int
  | 0 => 0
  | j + 1 => 10 * nmI f s j + f (s + j).toNat - 48
theorem nmI_s {f : Nat → Int} {s i : Int} (h : s ≤ i) : nmI f s (i + 1 - s).toNat = 10 * nmI f s (i - s).toNat + f i.toNat - 48 := by
  rw [show (i + 1 - s).toNat = (i - s).toNat + 1 by omega]
  show 10 * nmI f s (i - s).toNat + f (s + ((i - s).toNat : Int)).toNat - 48 = _
  rw [show s + ((i - s).toNat : Int) = i by omega]
theorem nmI_bd {f : Nat → Int} {s e : Int} (h : e - s ≤ 3) (hf : ∀ j : Int, s ≤ j → j < e → 48 ≤ f j.toNat ∧ f j.toNat ≤ 57) : 0 ≤ nmI f s (e - s).toNat ∧ nmI f s (e - s).toNat ≤ 999 := by
  by_cases h0 : e ≤ s
  · rw [show (e - s).toNat = 0 by omega]
    show (0 : Int) ≤ 0 ∧ (0 : Int) ≤ 999
    exact ⟨by decide, by decide⟩
  · have q0 := hf s (by omega) (by omega)
    have e1 : nmI f s 1 = f s.toNat - 48 := by
      show 10 * 0 + f (s + ((0 : Nat) : Int)).toNat - 48 = _
      rw [show s + ((0 : Nat) : Int) = s by omega]
      omega
    by_cases h1 : e = s + 1
    · rw [show (e - s).toNat = 1 by omega, e1]
      omega
    · have q1 := hf (s + 1) (by omega) (by omega)
      have e2 : nmI f s 2 = 10 * nmI f s 1 + f (s + 1).toNat - 48 := rfl
      by_cases h2 : e = s + 2
      · rw [show (e - s).toNat = 2 by omega, e2, e1]
        omega
      · have q2 := hf (s + 2) (by omega) (by omega)
        have e3 : nmI f s 3 = 10 * nmI f s 2 + f (s + 2).toNat - 48 := rfl
        rw [show (e - s).toNat = 3 by omega, e3, e2, e1]
        omega
