/-! the class reads its tape: words, sorts, hands -/
def isW (f : Nat → Int) (i : Nat) (s : PS) : Prop := s.1 = 1 ∧ s.2.2.1 - s.2.1 = ((lenQ.getD i 0 : Nat) : Int) ∧ ∀ j : Int, 0 ≤ j → j < ((lenQ.getD i 0 : Nat) : Int) → f (s.2.1 + j).toNat = chQ i j
noncomputable def wdC (f : Nat → Int) (n : Int) (i : Nat) (s : PS) : PS := pasI f n (pI (isW f i s)) 1 s
noncomputable def sorI (f : Nat → Int) (s : PS) : Int := if pB (isW f 2 s) = true then 1 else if pB (isW f 3 s) = true then 2 else if pB (isW f 4 s) = true then 3 else if pB (isW f 5 s) = true then 4 else if pB (isW f 6 s) = true then 5 else 0
def snC (f : Nat → Int) (n : Int) (s : PS) : PS := pasI f n (if s.1 = 3 then 1 else 0) 1 s
def nuV (f : Nat → Int) (s : PS) : Int := if s.1 = 2 then nmI f s.2.1 (s.2.2.1 - s.2.1).toNat else 0
def nuC (f : Nat → Int) (n l m : Int) (s : PS) : PS := pasI f n (if l ≤ nuV f s ∧ nuV f s ≤ m then 1 else 0) (if s.1 = 2 then 2 else 1) s
noncomputable def soC (f : Nat → Int) (n : Int) (s : PS) : PS := pasI f n (if sorI f s ≠ 0 then 1 else 0) 1 s
noncomputable def h0C (f : Nat → Int) (cn : Int) (s : PS) : PS := if s.2.2.2 = 0 ∧ pB (isW f 1 s) = true ∧ 4 ≤ cn then (s.1, s.2.1, s.2.2.1, 3) else s
noncomputable def h1C (f : Nat → Int) (n cn : Int) (s : PS) : PS := wdC f n 1 (h0C f cn s)
noncomputable def h2C (f : Nat → Int) (n cn : Int) (s : PS) : PS := soC f n (h1C f n cn s)
noncomputable def h3C (f : Nat → Int) (n cn : Int) (s : PS) : PS := nuC f n 1 12 (h2C f n cn s)
noncomputable def h4C (f : Nat → Int) (n cn : Int) (s : PS) : PS := snC f n (h3C f n cn s)
abbrev CS : Type := Int × (Nat → Int) × (Nat → Int) × (Nat → Int)
noncomputable def haC (f : Nat → Int) (n : Int) (c : CS) (s : PS) : CS := if (h4C f n c.1 s).2.2.2 = 0 then (c.1 + 1, updI c.2.1 c.1.toNat (sorI f (h1C f n c.1 s)), updI c.2.2.1 c.1.toNat (nuV f (h2C f n c.1 s)), updI c.2.2.2 c.1.toNat 0) else c
noncomputable def hlC (f : Nat → Int) (n : Int) : Nat → CS × PS → CS × PS
  | 0, u => u
  | k + 1, u => if u.2.2.2.2 = 0 ∧ u.2.1 ≠ 0 then hlC f n k (haC f n u.1 u.2, h4C f n u.1.1 u.2) else u
def piOK (f : Nat → Int) (n : Int) (s : PS) : Prop := psOK f n s ∧ (0 ≤ s.1 ∧ s.1 ≤ 4) ∧ (0 ≤ s.2.2.2 ∧ s.2.2.2 ≤ 3)
def csOK (c : CS) : Prop := (0 ≤ c.1 ∧ c.1 ≤ 4) ∧ Bd 0 5 c.2.1 ∧ Bd 0 12 c.2.2.1 ∧ Bd 0 59 c.2.2.2
theorem tkC_bd (f : Nat → Int) (n i : Int) : 0 ≤ tkC f n i ∧ tkC f n i ≤ 4 := by
  have c := tkM_cv f n i
  omega
theorem pas_st {f : Nat → Int} {n b k : Int} {s : PS} (h : s.2.2.2 ≠ 0) : pasI f n b k s = s := if_pos h
theorem pas_go {f : Nat → Int} {n b k : Int} {s : PS} (h : s.2.2.2 = 0) (hb : b ≠ 0) : pasI f n b k s = (tkC f n s.2.2.1, tkS f n s.2.2.1, tkE f n s.2.2.1, s.2.2.2) := by
  unfold pasI
  rw [if_neg (by omega), if_pos hb]
theorem pas_no {f : Nat → Int} {n b k : Int} {s : PS} (h : s.2.2.2 = 0) (hb : b = 0) : pasI f n b k s = (s.1, s.2.1, s.2.2.1, k) := by
  unfold pasI
  rw [if_neg (by omega), if_neg (by omega)]
theorem pas_0 {f : Nat → Int} {n b k : Int} {s : PS} (hk : k ≠ 0) (h : (pasI f n b k s).2.2.2 = 0) : s.2.2.2 = 0 ∧ b ≠ 0 := by
  by_cases h1 : s.2.2.2 = 0
  · refine ⟨h1, fun hb => ?_⟩
    rw [pas_no h1 hb] at h
    exact hk h
  · rw [pas_st h1] at h
    exact absurd h h1
theorem piOK_pas {f : Nat → Int} {n b k : Int} {s : PS} (hk : 0 ≤ k ∧ k ≤ 3) (h : piOK f n s) : piOK f n (pasI f n b k s) := by
  refine ⟨psOK_pas h.1, ?_⟩
  by_cases h1 : s.2.2.2 = 0
  · by_cases hb : b = 0
    · rw [pas_no h1 hb]
      exact ⟨h.2.1, hk⟩
    · rw [pas_go h1 hb]
      exact ⟨tkC_bd f n _, h.2.2⟩
  · rw [pas_st h1]
    exact h.2
theorem piOK_k {n : Int} {t : Int} : 0 ≤ (if t = 2 then 2 else (1 : Int)) ∧ (if t = 2 then 2 else (1 : Int)) ≤ 3 := by
  split <;> omega
theorem piOK_wd {f : Nat → Int} {n : Int} {i : Nat} {s : PS} (h : piOK f n s) : piOK f n (wdC f n i s) := piOK_pas (by decide) h
theorem piOK_sn {f : Nat → Int} {n : Int} {s : PS} (h : piOK f n s) : piOK f n (snC f n s) := piOK_pas (by decide) h
theorem piOK_nu {f : Nat → Int} {n l m : Int} {s : PS} (h : piOK f n s) : piOK f n (nuC f n l m s) := piOK_pas (piOK_k (n := n)) h
theorem piOK_so {f : Nat → Int} {n : Int} {s : PS} (h : piOK f n s) : piOK f n (soC f n s) := piOK_pas (by decide) h
theorem piOK_h0 {f : Nat → Int} {n cn : Int} {s : PS} (h : piOK f n s) : piOK f n (h0C f cn s) := by
  unfold h0C
  by_cases c : s.2.2.2 = 0 ∧ pB (isW f 1 s) = true ∧ 4 ≤ cn
  · rw [if_pos c]
    exact ⟨h.1, h.2.1, ⟨(by decide : (0 : Int) ≤ 3), (by decide : (3 : Int) ≤ 3)⟩⟩
  · rw [if_neg c]
    exact h
theorem piOK_h1 {f : Nat → Int} {n cn : Int} {s : PS} (h : piOK f n s) : piOK f n (h1C f n cn s) := piOK_wd (piOK_h0 h)
theorem piOK_h2 {f : Nat → Int} {n cn : Int} {s : PS} (h : piOK f n s) : piOK f n (h2C f n cn s) := piOK_so (piOK_h1 h)
theorem piOK_h3 {f : Nat → Int} {n cn : Int} {s : PS} (h : piOK f n s) : piOK f n (h3C f n cn s) := piOK_nu (piOK_h2 h)
theorem piOK_h4 {f : Nat → Int} {n cn : Int} {s : PS} (h : piOK f n s) : piOK f n (h4C f n cn s) := piOK_sn (piOK_h3 h)
theorem nuV_bd {f : Nat → Int} {n : Int} {s : PS} (h : piOK f n s) : 0 ≤ nuV f s ∧ nuV f s ≤ 999 := by
  unfold nuV
  by_cases c2 : s.1 = 2
  · rw [if_pos c2]
    have q := h.1.2.1 c2
    exact nmI_bd q.1 q.2
  · rw [if_neg c2]
    exact ⟨Int.le_refl _, by decide⟩
theorem sorI_bd (f : Nat → Int) (s : PS) : 0 ≤ sorI f s ∧ sorI f s ≤ 5 := by
  unfold sorI
  (repeat split) <;> omega
theorem if1_ne {P : Prop} [Decidable P] (h : (if P then (1 : Int) else 0) ≠ 0) : P := by
  by_cases c : P
  · exact c
  · rw [if_neg c] at h; exact absurd rfl h
theorem pI_ne {P : Prop} (h : pI P ≠ 0) : P := by
  rcases pI_or P with q | q
  · exact q.1
  · exact absurd q.2 h
theorem nuC_0 {f : Nat → Int} {n l m : Int} {s : PS} (h : (nuC f n l m s).2.2.2 = 0) : s.2.2.2 = 0 ∧ (l ≤ nuV f s ∧ nuV f s ≤ m) := by
  have q := pas_0 (by split <;> omega) h
  exact ⟨q.1, if1_ne q.2⟩
theorem h4_0 {f : Nat → Int} {n cn : Int} {s : PS} (h : (h4C f n cn s).2.2.2 = 0) : s.2.2.2 = 0 ∧ cn < 4 ∧ isW f 1 s ∧ (1 ≤ sorI f (h1C f n cn s) ∧ sorI f (h1C f n cn s) ≤ 5) ∧ (1 ≤ nuV f (h2C f n cn s) ∧ nuV f (h2C f n cn s) ≤ 12) := by
  have a3 := pas_0 (by decide) (show (snC f n (h3C f n cn s)).2.2.2 = 0 from h)
  have a2 := nuC_0 (show (nuC f n 1 12 (h2C f n cn s)).2.2.2 = 0 from a3.1)
  have a1 := pas_0 (by decide) (show (soC f n (h1C f n cn s)).2.2.2 = 0 from a2.1)
  have a0 := pas_0 (by decide) (show (wdC f n 1 (h0C f cn s)).2.2.2 = 0 from a1.1)
  have b1 := if1_ne a1.2
  have b2 := sorI_bd f (h1C f n cn s)
  have c0 := a0.1
  have c1 := pI_ne a0.2
  by_cases c : s.2.2.2 = 0 ∧ pB (isW f 1 s) = true ∧ 4 ≤ cn
  · exfalso
    unfold h0C at c0
    rw [if_pos c] at c0
    exact absurd (show (3 : Int) = 0 from c0) (by decide)
  · have e : h0C f cn s = s := by
      unfold h0C
      rw [if_neg c]
    rw [e] at c0 c1
    refine ⟨c0, ?_, c1, ⟨by omega, b2.2⟩, a2.2⟩
    have c2 := pB_iff.mpr c1
    exact Int.not_le.mp (fun q => c ⟨c0, c2, q⟩)
theorem csOK_ha {f : Nat → Int} {n : Int} {c : CS} {s : PS} (hc : csOK c) : csOK (haC f n c s) := by
  unfold haC
  by_cases h : (h4C f n c.1 s).2.2.2 = 0
  · rw [if_pos h]
    have q := h4_0 h
    have q1 := hc.1
    refine ⟨⟨?_, ?_⟩, Bd_up hc.2.1 (by omega) (by omega), Bd_up hc.2.2.1 (by omega) (by omega), Bd_up hc.2.2.2 (by omega) (by omega)⟩
    · show 0 ≤ c.1 + 1
      omega
    · show c.1 + 1 ≤ 4
      omega
  · rw [if_neg h]
    exact hc
theorem hlC_end {f : Nat → Int} {n : Int} {u : CS × PS} (h : ¬ (u.2.2.2.2 = 0 ∧ u.2.1 ≠ 0)) : ∀ k, hlC f n k u = u := by
  intro k
  cases k with
  | zero => rfl
  | succ k => exact if_neg h
/-- fuel enough: a hand more with each turn -/
def hcK (c t : Int) (k : Nat) : Prop := t = 0 → 5 - c ≤ (k : Int)
theorem haC_1 {f : Nat → Int} {n : Int} {c : CS} {s : PS} : ((h4C f n c.1 s).2.2.2 = 0 ∧ (haC f n c s).1 = c.1 + 1) ∨ ((h4C f n c.1 s).2.2.2 ≠ 0 ∧ haC f n c s = c) := by
  unfold haC
  by_cases h : (h4C f n c.1 s).2.2.2 = 0
  · rw [if_pos h]
    exact Or.inl ⟨h, rfl⟩
  · rw [if_neg h]
    exact Or.inr ⟨h, rfl⟩
theorem hlC_go {f : Nat → Int} {n : Int} {c : CS} {s : PS} {k : Nat} (hc : csOK c) (hk : hcK c.1 s.2.2.2 k) (h : s.2.2.2 = 0 ∧ s.1 ≠ 0) : 0 < k ∧ hlC f n k (c, s) = hlC f n (k - 1) (haC f n c s, h4C f n c.1 s) ∧ hcK (haC f n c s).1 (h4C f n c.1 s).2.2.2 (k - 1) := by
  have t := hk h.1
  have q1 := hc.1
  have k0 : 0 < k := by omega
  refine ⟨k0, ?_, ?_⟩
  · obtain ⟨m, rfl⟩ : ∃ m, k = m + 1 := ⟨k - 1, by omega⟩
    exact if_pos h
  · intro z
    rcases haC_1 (f := f) (n := n) (c := c) (s := s) with q | q
    · rw [q.2]; omega
    · exact absurd z q.1
/-- the whole reading -/
def rdP (f : Nat → Int) (n : Int) : PS := (tkC f n 0, tkS f n 0, tkE f n 0, 0)
noncomputable def rd1 (f : Nat → Int) (n : Int) : PS := wdC f n 0 (rdP f n)
noncomputable def rd3 (f : Nat → Int) (n : Int) : PS := snC f n (nuC f n 2 60 (rd1 f n))
noncomputable def rdR (f : Nat → Int) (n : Int) (c : CS) : CS × PS := hlC f n 5 (haC f n (0, c.2) (rd3 f n), h4C f n 0 (rd3 f n))
theorem piOK_rdP {f : Nat → Int} {n : Int} (h : 0 ≤ n) : piOK f n (rdP f n) := ⟨tkOK_adv (Int.le_refl _) h, tkC_bd f n 0, ⟨(by decide : (0 : Int) ≤ 0), (by decide : (0 : Int) ≤ 3)⟩⟩
theorem hlC_st {f : Nat → Int} {n : Int} {u : CS × PS} (h : u.2.2.2.2 ≠ 0) (k : Nat) : hlC f n k u = u := hlC_end (fun z => h z.1) k
theorem hlC_inv {f : Nat → Int} {n : Int} : ∀ (k : Nat) (u : CS × PS), csOK u.1 → piOK f n u.2 → csOK (hlC f n k u).1 ∧ piOK f n (hlC f n k u).2 ∧ u.1.1 ≤ (hlC f n k u).1.1 := by
  intro k
  induction k with
  | zero => intro u h1 h2; exact ⟨h1, h2, Int.le_refl _⟩
  | succ k ih =>
    intro u h1 h2
    by_cases h : u.2.2.2.2 = 0 ∧ u.2.1 ≠ 0
    · have e : hlC f n (k + 1) u = hlC f n k (haC f n u.1 u.2, h4C f n u.1.1 u.2) := if_pos h
      rw [e]
      have q := ih (haC f n u.1 u.2, h4C f n u.1.1 u.2) (csOK_ha h1) (piOK_h4 h2)
      refine ⟨q.1, q.2.1, Int.le_trans ?_ q.2.2⟩
      show u.1.1 ≤ (haC f n u.1 u.2).1
      rcases haC_1 (f := f) (n := n) (c := u.1) (s := u.2) with z | z
      · rw [z.2]; omega
      · rw [z.2]; exact Int.le_refl _
    · rw [hlC_end h]
      exact ⟨h1, h2, Int.le_refl _⟩
theorem rd_fin {f : Nat → Int} {n : Int} {c : CS} (hn : 0 ≤ n) (hc : csOK (0, c.2)) : csOK (rdR f n c).1 ∧ piOK f n (rdR f n c).2 ∧ ((rdR f n c).2.2.2.2 = 0 → 1 ≤ (rdR f n c).1.1 ∧ 2 ≤ nuV f (rd1 f n) ∧ nuV f (rd1 f n) ≤ 60) := by
  have p3 : piOK f n (rd3 f n) := piOK_sn (piOK_nu (piOK_wd (piOK_rdP hn)))
  have i := hlC_inv (f := f) (n := n) 5 (haC f n (0, c.2) (rd3 f n), h4C f n 0 (rd3 f n)) (csOK_ha hc) (piOK_h4 p3)
  refine ⟨i.1, i.2.1, fun z => ?_⟩
  have z4 : (h4C f n 0 (rd3 f n)).2.2.2 = 0 := by
    by_cases h : (h4C f n 0 (rd3 f n)).2.2.2 = 0
    · exact h
    · have e : rdR f n c = (haC f n (0, c.2) (rd3 f n), h4C f n 0 (rd3 f n)) := hlC_st h 5
      rw [e] at z
      exact absurd z h
  have z3 := (h4_0 z4).1
  have z2 := pas_0 (by decide) (show (snC f n (nuC f n 2 60 (rd1 f n))).2.2.2 = 0 from z3)
  have z1 := nuC_0 z2.1
  refine ⟨?_, z1.2.1, z1.2.2⟩
  have q := i.2.2
  rcases haC_1 (f := f) (n := n) (c := (0, c.2)) (s := rd3 f n) with w | w
  · have w2 : (haC f n (0, c.2) (rd3 f n)).1 = 0 + 1 := w.2
    have q2 : (haC f n (0, c.2) (rd3 f n)).1 ≤ (rdR f n c).1.1 := q
    omega
  · exact absurd z4 w.1
theorem chQ_bd {i : Nat} {j : Int} (hi : i < 7) (h0 : 0 ≤ j) (h1 : j < ((lenQ.getD i 0 : Nat) : Int)) : 0 ≤ chQ i j ∧ chQ i j ≤ 127 := by
  have h5 := lenQ_5 hi
  have hj : j = 0 ∨ j = 1 ∨ j = 2 ∨ j = 3 ∨ j = 4 := by omega
  have h : i = 0 ∨ i = 1 ∨ i = 2 ∨ i = 3 ∨ i = 4 ∨ i = 5 ∨ i = 6 := by omega
  clear h0 h1 h5
  rcases h with rfl | rfl | rfl | rfl | rfl | rfl | rfl <;> rcases hj with rfl | rfl | rfl | rfl | rfl <;> decide
theorem h4C_e {f : Nat → Int} {n cn : Int} {s s0 s1 s2 s3 s4 : PS} (e0 : h0C f cn s = s0) (e1 : wdC f n 1 s0 = s1) (e2 : soC f n s1 = s2) (e3 : nuC f n 1 12 s2 = s3) (e4 : snC f n s3 = s4) : h1C f n cn s = s1 ∧ h2C f n cn s = s2 ∧ h4C f n cn s = s4 := by
  subst e0 e1 e2 e3 e4
  exact ⟨rfl, rfl, rfl⟩
theorem haC_y {f : Nat → Int} {n cn : Int} {so tu sp : Nat → Int} {s s1 s2 s4 : PS} (e : h1C f n cn s = s1 ∧ h2C f n cn s = s2 ∧ h4C f n cn s = s4) (h : s4.2.2.2 = 0) : haC f n (cn, so, tu, sp) s = (cn + 1, updI so cn.toNat (sorI f s1), updI tu cn.toNat (nuV f s2), updI sp cn.toNat 0) := by
  obtain ⟨rfl, rfl, rfl⟩ := e
  exact if_pos h
theorem haC_n {f : Nat → Int} {n cn : Int} {so tu sp : Nat → Int} {s s1 s2 s4 : PS} (e : h1C f n cn s = s1 ∧ h2C f n cn s = s2 ∧ h4C f n cn s = s4) (h : s4.2.2.2 ≠ 0) : haC f n (cn, so, tu, sp) s = (cn, so, tu, sp) := by
  obtain ⟨rfl, rfl, rfl⟩ := e
  exact if_neg h
