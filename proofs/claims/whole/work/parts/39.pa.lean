/-! the tape read, class and model side by side -/
def cvT (a b : Int) : Prop := (a = 0 ∧ b = 1) ∨ (a = 1 ∧ b = 2) ∨ (a = 2 ∧ b = 3) ∨ (a = 3 ∧ b = 4) ∨ (a = 4 ∧ b = 0)
def PR (s : PS) (u : PM) : Prop := cvT s.1 u.2.1 ∧ s.2.1 = u.2.2.1 ∧ s.2.2.1 = u.2.2.2.1 ∧ u.1 = u.2.2.2.1 ∧ s.2.2.2 = u.2.2.2.2.1 ∧ (s.2.2.2 ≠ 0 → u.2.2.2.2.2 = s.2.1)
theorem PR_adv {f : Nat → Int} {n t fp : Int} {x1 x2 x3 : Int} : PR (tkC f n t, tkS f n t, tkE f n t, 0) (mnx f n (t, x1, x2, x3, 0, fp)) :=
  ⟨tkM_cv f n t, rfl, rfl, rfl, rfl, fun z => absurd rfl z⟩
theorem PR_bad {k tk fm tt cu tkm sa ti fp : Int} (h : PR (tk, fm, tt, 0) (cu, tkm, sa, ti, 0, fp)) : PR (tk, fm, tt, k) (mbd k (cu, tkm, sa, ti, 0, fp)) := by
  have e : mbd k (cu, tkm, sa, ti, 0, fp) = (cu, tkm, sa, ti, k, sa) := if_pos rfl
  rw [e]
  exact ⟨h.1, h.2.1, h.2.2.1, h.2.2.2.1, rfl, fun _ => h.2.1.symm⟩
theorem PR_ft {s : PS} {u : PM} (h : PR s u) : u.2.2.2.2.1 = s.2.2.2 := h.2.2.2.2.1.symm
theorem PR_pas {f : Nat → Int} {n b b2 : Int} {s : PS} {u : PM} (h : PR s u) (hb : s.2.2.2 = 0 → (b ≠ 0 ↔ b2 ≠ 0)) : PR (pasI f n b 1 s) (mmu f n b2 u) := by
  by_cases h0 : s.2.2.2 = 0
  · have hb2 := hb h0
    have h1 := PR_ft h
    obtain ⟨tk, fm, tt, tf⟩ := s
    obtain ⟨cu, tkm, sa, ti, ft, fp⟩ := u
    have h0 : tf = 0 := h0
    subst h0
    have h1 : ft = 0 := h1
    subst h1
    by_cases c : b = 0
    · have c2 : b2 = 0 := Decidable.by_contra (fun z => hb2.mpr z c)
      rw [pas_no rfl c]
      have e : mmu f n b2 (cu, tkm, sa, ti, 0, fp) = mbd 1 (cu, tkm, sa, ti, 0, fp) := if_neg (fun z => z c2)
      rw [e]
      exact PR_bad h
    · rw [pas_go rfl c]
      have e : mmu f n b2 (cu, tkm, sa, ti, 0, fp) = mnx f n (cu, tkm, sa, ti, 0, fp) := by
        unfold mmu
        rw [if_pos (hb2.mp c), if_pos rfl]
      rw [e]
      have e2 : cu = tt := h.2.2.2.1.trans h.2.2.1.symm
      subst e2
      exact PR_adv
  · rw [pas_st h0, mmu_st (by rw [PR_ft h]; exact h0)]
    exact h
theorem nam_c {f : Nat → Int} {n : Int} {s : PS} {u : PM} (h : PR s u) (hok : piOK f n s) (h0 : s.2.2.2 = 0) : (s.1 ≠ 1 ∧ namF f u = 0) ∨ (s.1 = 1 ∧ 8 ≤ s.2.2.1 - s.2.1 ∧ namF f u = 0) ∨ (s.1 = 1 ∧ (1 ≤ s.2.2.1 - s.2.1 ∧ s.2.2.1 - s.2.1 ≤ 7) ∧ namF f u = nmN f s.2.1 (s.2.2.1 - s.2.1).toNat ∧ ∀ j : Int, 0 ≤ j → j < s.2.2.1 - s.2.1 → 97 ≤ f (s.2.1 + j).toNat ∧ f (s.2.1 + j).toNat ≤ 122) := by
  have h1 := PR_ft h
  rw [h0] at h1
  have hw := hok.1.2.2
  have hcv := h.1
  have e1 := h.2.1
  have e2 := h.2.2.1
  unfold cvT at hcv
  unfold namF
  rw [if_pos h1, ← e1, ← e2]
  by_cases c : s.1 = 1
  · have w := hw c
    by_cases c2 : s.2.2.1 - s.2.1 < 8
    · rw [if_pos ⟨by omega, c2⟩]
      refine Or.inr (Or.inr ⟨c, ⟨by have := w.1; omega, by omega⟩, rfl, fun j j0 j1 => w.2 (s.2.1 + j) (by omega) (by omega)⟩)
    · rw [if_neg (fun z => c2 z.2)]
      exact Or.inr (Or.inl ⟨c, by omega, rfl⟩)
  · rw [if_neg (fun z => by omega)]
    exact Or.inl ⟨c, rfl⟩

theorem nmN_1 {f : Nat → Int} {s : Int} : nmN f s 1 = 256 * 0 + f (s + 0).toNat := rfl
theorem nmN_2 {f : Nat → Int} {s : Int} : nmN f s 2 = 256 * (256 * 0 + f (s + 0).toNat) + f (s + 1).toNat := rfl
theorem nmN_3 {f : Nat → Int} {s : Int} : nmN f s 3 = 256 * (256 * (256 * 0 + f (s + 0).toNat) + f (s + 1).toNat) + f (s + 2).toNat := rfl
theorem nmN_4 {f : Nat → Int} {s : Int} : nmN f s 4 = 256 * (256 * (256 * (256 * 0 + f (s + 0).toNat) + f (s + 1).toNat) + f (s + 2).toNat) + f (s + 3).toNat := rfl
theorem nmN_5 {f : Nat → Int} {s : Int} : nmN f s 5 = 256 * (256 * (256 * (256 * (256 * 0 + f (s + 0).toNat) + f (s + 1).toNat) + f (s + 2).toNat) + f (s + 3).toNat) + f (s + 4).toNat := rfl
theorem nmN_6 {f : Nat → Int} {s : Int} : nmN f s 6 = 256 * (256 * (256 * (256 * (256 * (256 * 0 + f (s + 0).toNat) + f (s + 1).toNat) + f (s + 2).toNat) + f (s + 3).toNat) + f (s + 4).toNat) + f (s + 5).toNat := rfl
theorem nmN_7 {f : Nat → Int} {s : Int} : nmN f s 7 = 256 * (256 * (256 * (256 * (256 * (256 * (256 * 0 + f (s + 0).toNat) + f (s + 1).toNat) + f (s + 2).toNat) + f (s + 3).toNat) + f (s + 4).toNat) + f (s + 5).toNat) + f (s + 6).toNat := rfl
theorem isW_0 {f : Nat → Int} {n : Int} {s : PS} {u : PM} (h : PR s u) (hok : piOK f n s) (h0 : s.2.2.2 = 0) : isW f 0 s ↔ namF f u = 1684627820 := by
  have key : isW f 0 s ↔ s.1 = 1 ∧ s.2.2.1 - s.2.1 = 4 ∧ f (s.2.1 + 0).toNat = 100 ∧ f (s.2.1 + 1).toNat = 105 ∧ f (s.2.1 + 2).toNat = 97 ∧ f (s.2.1 + 3).toNat = 108 := by
    constructor
    · rintro ⟨z1, z2, z3⟩
      exact ⟨z1, z2, z3 0 (by decide) (by decide), z3 1 (by decide) (by decide), z3 2 (by decide) (by decide), z3 3 (by decide) (by decide)⟩
    · rintro ⟨z1, z2, d0, d1, d2, d3⟩
      refine ⟨z1, z2, fun j j0 j1 => ?_⟩
      have j1 : j < 4 := j1
      rcases (show j = 0 ∨ j = 1 ∨ j = 2 ∨ j = 3 by omega) with rfl | rfl | rfl | rfl
      · exact d0
      · exact d1
      · exact d2
      · exact d3
  rw [key]
  rcases nam_c h hok h0 with q | q | ⟨q1, q2, q3, q4⟩
  · rw [q.2]
    exact ⟨fun z => absurd z.1 q.1, fun z => absurd z (by decide)⟩
  · rw [q.2.2]
    exact ⟨fun z => by omega, fun z => absurd z (by decide)⟩
  · rw [q3]
    rcases (show s.2.2.1 - s.2.1 = 1 ∨ s.2.2.1 - s.2.1 = 2 ∨ s.2.2.1 - s.2.1 = 3 ∨ s.2.2.1 - s.2.1 = 4 ∨ s.2.2.1 - s.2.1 = 5 ∨ s.2.2.1 - s.2.1 = 6 ∨ s.2.2.1 - s.2.1 = 7 by omega) with e | e | e | e | e | e | e
    · rw [e]
      have b0 := q4 0 (by decide) (by omega)
      show _ ↔ nmN f s.2.1 1 = 1684627820
      rw [nmN_1]
      constructor <;> intro z <;> omega
    · rw [e]
      have b0 := q4 0 (by decide) (by omega)
      have b1 := q4 1 (by decide) (by omega)
      show _ ↔ nmN f s.2.1 2 = 1684627820
      rw [nmN_2]
      constructor <;> intro z <;> omega
    · rw [e]
      have b0 := q4 0 (by decide) (by omega)
      have b1 := q4 1 (by decide) (by omega)
      have b2 := q4 2 (by decide) (by omega)
      show _ ↔ nmN f s.2.1 3 = 1684627820
      rw [nmN_3]
      constructor <;> intro z <;> omega
    · rw [e]
      have b0 := q4 0 (by decide) (by omega)
      have b1 := q4 1 (by decide) (by omega)
      have b2 := q4 2 (by decide) (by omega)
      have b3 := q4 3 (by decide) (by omega)
      show _ ↔ nmN f s.2.1 4 = 1684627820
      rw [nmN_4]
      constructor <;> intro z <;> omega
    · rw [e]
      have b0 := q4 0 (by decide) (by omega)
      have b1 := q4 1 (by decide) (by omega)
      have b2 := q4 2 (by decide) (by omega)
      have b3 := q4 3 (by decide) (by omega)
      have b4 := q4 4 (by decide) (by omega)
      show _ ↔ nmN f s.2.1 5 = 1684627820
      rw [nmN_5]
      constructor <;> intro z <;> omega
    · rw [e]
      have b0 := q4 0 (by decide) (by omega)
      have b1 := q4 1 (by decide) (by omega)
      have b2 := q4 2 (by decide) (by omega)
      have b3 := q4 3 (by decide) (by omega)
      have b4 := q4 4 (by decide) (by omega)
      have b5 := q4 5 (by decide) (by omega)
      show _ ↔ nmN f s.2.1 6 = 1684627820
      rw [nmN_6]
      constructor <;> intro z <;> omega
    · rw [e]
      have b0 := q4 0 (by decide) (by omega)
      have b1 := q4 1 (by decide) (by omega)
      have b2 := q4 2 (by decide) (by omega)
      have b3 := q4 3 (by decide) (by omega)
      have b4 := q4 4 (by decide) (by omega)
      have b5 := q4 5 (by decide) (by omega)
      have b6 := q4 6 (by decide) (by omega)
      show _ ↔ nmN f s.2.1 7 = 1684627820
      rw [nmN_7]
      constructor <;> intro z <;> omega
theorem isW_1 {f : Nat → Int} {n : Int} {s : PS} {u : PM} (h : PR s u) (hok : piOK f n s) (h0 : s.2.2.2 = 0) : isW f 1 s ↔ namF f u = 1751215716 := by
  have key : isW f 1 s ↔ s.1 = 1 ∧ s.2.2.1 - s.2.1 = 4 ∧ f (s.2.1 + 0).toNat = 104 ∧ f (s.2.1 + 1).toNat = 97 ∧ f (s.2.1 + 2).toNat = 110 ∧ f (s.2.1 + 3).toNat = 100 := by
    constructor
    · rintro ⟨z1, z2, z3⟩
      exact ⟨z1, z2, z3 0 (by decide) (by decide), z3 1 (by decide) (by decide), z3 2 (by decide) (by decide), z3 3 (by decide) (by decide)⟩
    · rintro ⟨z1, z2, d0, d1, d2, d3⟩
      refine ⟨z1, z2, fun j j0 j1 => ?_⟩
      have j1 : j < 4 := j1
      rcases (show j = 0 ∨ j = 1 ∨ j = 2 ∨ j = 3 by omega) with rfl | rfl | rfl | rfl
      · exact d0
      · exact d1
      · exact d2
      · exact d3
  rw [key]
  rcases nam_c h hok h0 with q | q | ⟨q1, q2, q3, q4⟩
  · rw [q.2]
    exact ⟨fun z => absurd z.1 q.1, fun z => absurd z (by decide)⟩
  · rw [q.2.2]
    exact ⟨fun z => by omega, fun z => absurd z (by decide)⟩
  · rw [q3]
    rcases (show s.2.2.1 - s.2.1 = 1 ∨ s.2.2.1 - s.2.1 = 2 ∨ s.2.2.1 - s.2.1 = 3 ∨ s.2.2.1 - s.2.1 = 4 ∨ s.2.2.1 - s.2.1 = 5 ∨ s.2.2.1 - s.2.1 = 6 ∨ s.2.2.1 - s.2.1 = 7 by omega) with e | e | e | e | e | e | e
    · rw [e]
      have b0 := q4 0 (by decide) (by omega)
      show _ ↔ nmN f s.2.1 1 = 1751215716
      rw [nmN_1]
      constructor <;> intro z <;> omega
    · rw [e]
      have b0 := q4 0 (by decide) (by omega)
      have b1 := q4 1 (by decide) (by omega)
      show _ ↔ nmN f s.2.1 2 = 1751215716
      rw [nmN_2]
      constructor <;> intro z <;> omega
    · rw [e]
      have b0 := q4 0 (by decide) (by omega)
      have b1 := q4 1 (by decide) (by omega)
      have b2 := q4 2 (by decide) (by omega)
      show _ ↔ nmN f s.2.1 3 = 1751215716
      rw [nmN_3]
      constructor <;> intro z <;> omega
    · rw [e]
      have b0 := q4 0 (by decide) (by omega)
      have b1 := q4 1 (by decide) (by omega)
      have b2 := q4 2 (by decide) (by omega)
      have b3 := q4 3 (by decide) (by omega)
      show _ ↔ nmN f s.2.1 4 = 1751215716
      rw [nmN_4]
      constructor <;> intro z <;> omega
    · rw [e]
      have b0 := q4 0 (by decide) (by omega)
      have b1 := q4 1 (by decide) (by omega)
      have b2 := q4 2 (by decide) (by omega)
      have b3 := q4 3 (by decide) (by omega)
      have b4 := q4 4 (by decide) (by omega)
      show _ ↔ nmN f s.2.1 5 = 1751215716
      rw [nmN_5]
      constructor <;> intro z <;> omega
    · rw [e]
      have b0 := q4 0 (by decide) (by omega)
      have b1 := q4 1 (by decide) (by omega)
      have b2 := q4 2 (by decide) (by omega)
      have b3 := q4 3 (by decide) (by omega)
      have b4 := q4 4 (by decide) (by omega)
      have b5 := q4 5 (by decide) (by omega)
      show _ ↔ nmN f s.2.1 6 = 1751215716
      rw [nmN_6]
      constructor <;> intro z <;> omega
    · rw [e]
      have b0 := q4 0 (by decide) (by omega)
      have b1 := q4 1 (by decide) (by omega)
      have b2 := q4 2 (by decide) (by omega)
      have b3 := q4 3 (by decide) (by omega)
      have b4 := q4 4 (by decide) (by omega)
      have b5 := q4 5 (by decide) (by omega)
      have b6 := q4 6 (by decide) (by omega)
      show _ ↔ nmN f s.2.1 7 = 1751215716
      rw [nmN_7]
      constructor <;> intro z <;> omega
theorem isW_2 {f : Nat → Int} {n : Int} {s : PS} {u : PM} (h : PR s u) (hok : piOK f n s) (h0 : s.2.2.2 = 0) : isW f 2 s ↔ namF f u = 1752135026 := by
  have key : isW f 2 s ↔ s.1 = 1 ∧ s.2.2.1 - s.2.1 = 4 ∧ f (s.2.1 + 0).toNat = 104 ∧ f (s.2.1 + 1).toNat = 111 ∧ f (s.2.1 + 2).toNat = 117 ∧ f (s.2.1 + 3).toNat = 114 := by
    constructor
    · rintro ⟨z1, z2, z3⟩
      exact ⟨z1, z2, z3 0 (by decide) (by decide), z3 1 (by decide) (by decide), z3 2 (by decide) (by decide), z3 3 (by decide) (by decide)⟩
    · rintro ⟨z1, z2, d0, d1, d2, d3⟩
      refine ⟨z1, z2, fun j j0 j1 => ?_⟩
      have j1 : j < 4 := j1
      rcases (show j = 0 ∨ j = 1 ∨ j = 2 ∨ j = 3 by omega) with rfl | rfl | rfl | rfl
      · exact d0
      · exact d1
      · exact d2
      · exact d3
  rw [key]
  rcases nam_c h hok h0 with q | q | ⟨q1, q2, q3, q4⟩
  · rw [q.2]
    exact ⟨fun z => absurd z.1 q.1, fun z => absurd z (by decide)⟩
  · rw [q.2.2]
    exact ⟨fun z => by omega, fun z => absurd z (by decide)⟩
  · rw [q3]
    rcases (show s.2.2.1 - s.2.1 = 1 ∨ s.2.2.1 - s.2.1 = 2 ∨ s.2.2.1 - s.2.1 = 3 ∨ s.2.2.1 - s.2.1 = 4 ∨ s.2.2.1 - s.2.1 = 5 ∨ s.2.2.1 - s.2.1 = 6 ∨ s.2.2.1 - s.2.1 = 7 by omega) with e | e | e | e | e | e | e
    · rw [e]
      have b0 := q4 0 (by decide) (by omega)
      show _ ↔ nmN f s.2.1 1 = 1752135026
      rw [nmN_1]
      constructor <;> intro z <;> omega
    · rw [e]
      have b0 := q4 0 (by decide) (by omega)
      have b1 := q4 1 (by decide) (by omega)
      show _ ↔ nmN f s.2.1 2 = 1752135026
      rw [nmN_2]
      constructor <;> intro z <;> omega
    · rw [e]
      have b0 := q4 0 (by decide) (by omega)
      have b1 := q4 1 (by decide) (by omega)
      have b2 := q4 2 (by decide) (by omega)
      show _ ↔ nmN f s.2.1 3 = 1752135026
      rw [nmN_3]
      constructor <;> intro z <;> omega
    · rw [e]
      have b0 := q4 0 (by decide) (by omega)
      have b1 := q4 1 (by decide) (by omega)
      have b2 := q4 2 (by decide) (by omega)
      have b3 := q4 3 (by decide) (by omega)
      show _ ↔ nmN f s.2.1 4 = 1752135026
      rw [nmN_4]
      constructor <;> intro z <;> omega
    · rw [e]
      have b0 := q4 0 (by decide) (by omega)
      have b1 := q4 1 (by decide) (by omega)
      have b2 := q4 2 (by decide) (by omega)
      have b3 := q4 3 (by decide) (by omega)
      have b4 := q4 4 (by decide) (by omega)
      show _ ↔ nmN f s.2.1 5 = 1752135026
      rw [nmN_5]
      constructor <;> intro z <;> omega
    · rw [e]
      have b0 := q4 0 (by decide) (by omega)
      have b1 := q4 1 (by decide) (by omega)
      have b2 := q4 2 (by decide) (by omega)
      have b3 := q4 3 (by decide) (by omega)
      have b4 := q4 4 (by decide) (by omega)
      have b5 := q4 5 (by decide) (by omega)
      show _ ↔ nmN f s.2.1 6 = 1752135026
      rw [nmN_6]
      constructor <;> intro z <;> omega
    · rw [e]
      have b0 := q4 0 (by decide) (by omega)
      have b1 := q4 1 (by decide) (by omega)
      have b2 := q4 2 (by decide) (by omega)
      have b3 := q4 3 (by decide) (by omega)
      have b4 := q4 4 (by decide) (by omega)
      have b5 := q4 5 (by decide) (by omega)
      have b6 := q4 6 (by decide) (by omega)
      show _ ↔ nmN f s.2.1 7 = 1752135026
      rw [nmN_7]
      constructor <;> intro z <;> omega
theorem isW_3 {f : Nat → Int} {n : Int} {s : PS} {u : PM} (h : PR s u) (hok : piOK f n s) (h0 : s.2.2.2 = 0) : isW f 3 s ↔ namF f u = 1836019566 := by
  have key : isW f 3 s ↔ s.1 = 1 ∧ s.2.2.1 - s.2.1 = 4 ∧ f (s.2.1 + 0).toNat = 109 ∧ f (s.2.1 + 1).toNat = 111 ∧ f (s.2.1 + 2).toNat = 111 ∧ f (s.2.1 + 3).toNat = 110 := by
    constructor
    · rintro ⟨z1, z2, z3⟩
      exact ⟨z1, z2, z3 0 (by decide) (by decide), z3 1 (by decide) (by decide), z3 2 (by decide) (by decide), z3 3 (by decide) (by decide)⟩
    · rintro ⟨z1, z2, d0, d1, d2, d3⟩
      refine ⟨z1, z2, fun j j0 j1 => ?_⟩
      have j1 : j < 4 := j1
      rcases (show j = 0 ∨ j = 1 ∨ j = 2 ∨ j = 3 by omega) with rfl | rfl | rfl | rfl
      · exact d0
      · exact d1
      · exact d2
      · exact d3
  rw [key]
  rcases nam_c h hok h0 with q | q | ⟨q1, q2, q3, q4⟩
  · rw [q.2]
    exact ⟨fun z => absurd z.1 q.1, fun z => absurd z (by decide)⟩
  · rw [q.2.2]
    exact ⟨fun z => by omega, fun z => absurd z (by decide)⟩
  · rw [q3]
    rcases (show s.2.2.1 - s.2.1 = 1 ∨ s.2.2.1 - s.2.1 = 2 ∨ s.2.2.1 - s.2.1 = 3 ∨ s.2.2.1 - s.2.1 = 4 ∨ s.2.2.1 - s.2.1 = 5 ∨ s.2.2.1 - s.2.1 = 6 ∨ s.2.2.1 - s.2.1 = 7 by omega) with e | e | e | e | e | e | e
    · rw [e]
      have b0 := q4 0 (by decide) (by omega)
      show _ ↔ nmN f s.2.1 1 = 1836019566
      rw [nmN_1]
      constructor <;> intro z <;> omega
    · rw [e]
      have b0 := q4 0 (by decide) (by omega)
      have b1 := q4 1 (by decide) (by omega)
      show _ ↔ nmN f s.2.1 2 = 1836019566
      rw [nmN_2]
      constructor <;> intro z <;> omega
    · rw [e]
      have b0 := q4 0 (by decide) (by omega)
      have b1 := q4 1 (by decide) (by omega)
      have b2 := q4 2 (by decide) (by omega)
      show _ ↔ nmN f s.2.1 3 = 1836019566
      rw [nmN_3]
      constructor <;> intro z <;> omega
    · rw [e]
      have b0 := q4 0 (by decide) (by omega)
      have b1 := q4 1 (by decide) (by omega)
      have b2 := q4 2 (by decide) (by omega)
      have b3 := q4 3 (by decide) (by omega)
      show _ ↔ nmN f s.2.1 4 = 1836019566
      rw [nmN_4]
      constructor <;> intro z <;> omega
    · rw [e]
      have b0 := q4 0 (by decide) (by omega)
      have b1 := q4 1 (by decide) (by omega)
      have b2 := q4 2 (by decide) (by omega)
      have b3 := q4 3 (by decide) (by omega)
      have b4 := q4 4 (by decide) (by omega)
      show _ ↔ nmN f s.2.1 5 = 1836019566
      rw [nmN_5]
      constructor <;> intro z <;> omega
    · rw [e]
      have b0 := q4 0 (by decide) (by omega)
      have b1 := q4 1 (by decide) (by omega)
      have b2 := q4 2 (by decide) (by omega)
      have b3 := q4 3 (by decide) (by omega)
      have b4 := q4 4 (by decide) (by omega)
      have b5 := q4 5 (by decide) (by omega)
      show _ ↔ nmN f s.2.1 6 = 1836019566
      rw [nmN_6]
      constructor <;> intro z <;> omega
    · rw [e]
      have b0 := q4 0 (by decide) (by omega)
      have b1 := q4 1 (by decide) (by omega)
      have b2 := q4 2 (by decide) (by omega)
      have b3 := q4 3 (by decide) (by omega)
      have b4 := q4 4 (by decide) (by omega)
      have b5 := q4 5 (by decide) (by omega)
      have b6 := q4 6 (by decide) (by omega)
      show _ ↔ nmN f s.2.1 7 = 1836019566
      rw [nmN_7]
      constructor <;> intro z <;> omega
theorem isW_4 {f : Nat → Int} {n : Int} {s : PS} {u : PM} (h : PR s u) (hok : piOK f n s) (h0 : s.2.2.2 = 0) : isW f 4 s ↔ namF f u = 495924372848 := by
  have key : isW f 4 s ↔ s.1 = 1 ∧ s.2.2.1 - s.2.1 = 5 ∧ f (s.2.1 + 0).toNat = 115 ∧ f (s.2.1 + 1).toNat = 119 ∧ f (s.2.1 + 2).toNat = 101 ∧ f (s.2.1 + 3).toNat = 101 ∧ f (s.2.1 + 4).toNat = 112 := by
    constructor
    · rintro ⟨z1, z2, z3⟩
      exact ⟨z1, z2, z3 0 (by decide) (by decide), z3 1 (by decide) (by decide), z3 2 (by decide) (by decide), z3 3 (by decide) (by decide), z3 4 (by decide) (by decide)⟩
    · rintro ⟨z1, z2, d0, d1, d2, d3, d4⟩
      refine ⟨z1, z2, fun j j0 j1 => ?_⟩
      have j1 : j < 5 := j1
      rcases (show j = 0 ∨ j = 1 ∨ j = 2 ∨ j = 3 ∨ j = 4 by omega) with rfl | rfl | rfl | rfl | rfl
      · exact d0
      · exact d1
      · exact d2
      · exact d3
      · exact d4
  rw [key]
  rcases nam_c h hok h0 with q | q | ⟨q1, q2, q3, q4⟩
  · rw [q.2]
    exact ⟨fun z => absurd z.1 q.1, fun z => absurd z (by decide)⟩
  · rw [q.2.2]
    exact ⟨fun z => by omega, fun z => absurd z (by decide)⟩
  · rw [q3]
    rcases (show s.2.2.1 - s.2.1 = 1 ∨ s.2.2.1 - s.2.1 = 2 ∨ s.2.2.1 - s.2.1 = 3 ∨ s.2.2.1 - s.2.1 = 4 ∨ s.2.2.1 - s.2.1 = 5 ∨ s.2.2.1 - s.2.1 = 6 ∨ s.2.2.1 - s.2.1 = 7 by omega) with e | e | e | e | e | e | e
    · rw [e]
      have b0 := q4 0 (by decide) (by omega)
      show _ ↔ nmN f s.2.1 1 = 495924372848
      rw [nmN_1]
      constructor <;> intro z <;> omega
    · rw [e]
      have b0 := q4 0 (by decide) (by omega)
      have b1 := q4 1 (by decide) (by omega)
      show _ ↔ nmN f s.2.1 2 = 495924372848
      rw [nmN_2]
      constructor <;> intro z <;> omega
    · rw [e]
      have b0 := q4 0 (by decide) (by omega)
      have b1 := q4 1 (by decide) (by omega)
      have b2 := q4 2 (by decide) (by omega)
      show _ ↔ nmN f s.2.1 3 = 495924372848
      rw [nmN_3]
      constructor <;> intro z <;> omega
    · rw [e]
      have b0 := q4 0 (by decide) (by omega)
      have b1 := q4 1 (by decide) (by omega)
      have b2 := q4 2 (by decide) (by omega)
      have b3 := q4 3 (by decide) (by omega)
      show _ ↔ nmN f s.2.1 4 = 495924372848
      rw [nmN_4]
      constructor <;> intro z <;> omega
    · rw [e]
      have b0 := q4 0 (by decide) (by omega)
      have b1 := q4 1 (by decide) (by omega)
      have b2 := q4 2 (by decide) (by omega)
      have b3 := q4 3 (by decide) (by omega)
      have b4 := q4 4 (by decide) (by omega)
      show _ ↔ nmN f s.2.1 5 = 495924372848
      rw [nmN_5]
      constructor <;> intro z <;> omega
    · rw [e]
      have b0 := q4 0 (by decide) (by omega)
      have b1 := q4 1 (by decide) (by omega)
      have b2 := q4 2 (by decide) (by omega)
      have b3 := q4 3 (by decide) (by omega)
      have b4 := q4 4 (by decide) (by omega)
      have b5 := q4 5 (by decide) (by omega)
      show _ ↔ nmN f s.2.1 6 = 495924372848
      rw [nmN_6]
      constructor <;> intro z <;> omega
    · rw [e]
      have b0 := q4 0 (by decide) (by omega)
      have b1 := q4 1 (by decide) (by omega)
      have b2 := q4 2 (by decide) (by omega)
      have b3 := q4 3 (by decide) (by omega)
      have b4 := q4 4 (by decide) (by omega)
      have b5 := q4 5 (by decide) (by omega)
      have b6 := q4 6 (by decide) (by omega)
      show _ ↔ nmN f s.2.1 7 = 495924372848
      rw [nmN_7]
      constructor <;> intro z <;> omega
theorem isW_5 {f : Nat → Int} {n : Int} {s : PS} {u : PM} (h : PR s u) (hok : piOK f n s) (h0 : s.2.2.2 = 0) : isW f 5 s ↔ namF f u = 1650549611 := by
  have key : isW f 5 s ↔ s.1 = 1 ∧ s.2.2.1 - s.2.1 = 4 ∧ f (s.2.1 + 0).toNat = 98 ∧ f (s.2.1 + 1).toNat = 97 ∧ f (s.2.1 + 2).toNat = 99 ∧ f (s.2.1 + 3).toNat = 107 := by
    constructor
    · rintro ⟨z1, z2, z3⟩
      exact ⟨z1, z2, z3 0 (by decide) (by decide), z3 1 (by decide) (by decide), z3 2 (by decide) (by decide), z3 3 (by decide) (by decide)⟩
    · rintro ⟨z1, z2, d0, d1, d2, d3⟩
      refine ⟨z1, z2, fun j j0 j1 => ?_⟩
      have j1 : j < 4 := j1
      rcases (show j = 0 ∨ j = 1 ∨ j = 2 ∨ j = 3 by omega) with rfl | rfl | rfl | rfl
      · exact d0
      · exact d1
      · exact d2
      · exact d3
  rw [key]
  rcases nam_c h hok h0 with q | q | ⟨q1, q2, q3, q4⟩
  · rw [q.2]
    exact ⟨fun z => absurd z.1 q.1, fun z => absurd z (by decide)⟩
  · rw [q.2.2]
    exact ⟨fun z => by omega, fun z => absurd z (by decide)⟩
  · rw [q3]
    rcases (show s.2.2.1 - s.2.1 = 1 ∨ s.2.2.1 - s.2.1 = 2 ∨ s.2.2.1 - s.2.1 = 3 ∨ s.2.2.1 - s.2.1 = 4 ∨ s.2.2.1 - s.2.1 = 5 ∨ s.2.2.1 - s.2.1 = 6 ∨ s.2.2.1 - s.2.1 = 7 by omega) with e | e | e | e | e | e | e
    · rw [e]
      have b0 := q4 0 (by decide) (by omega)
      show _ ↔ nmN f s.2.1 1 = 1650549611
      rw [nmN_1]
      constructor <;> intro z <;> omega
    · rw [e]
      have b0 := q4 0 (by decide) (by omega)
      have b1 := q4 1 (by decide) (by omega)
      show _ ↔ nmN f s.2.1 2 = 1650549611
      rw [nmN_2]
      constructor <;> intro z <;> omega
    · rw [e]
      have b0 := q4 0 (by decide) (by omega)
      have b1 := q4 1 (by decide) (by omega)
      have b2 := q4 2 (by decide) (by omega)
      show _ ↔ nmN f s.2.1 3 = 1650549611
      rw [nmN_3]
      constructor <;> intro z <;> omega
    · rw [e]
      have b0 := q4 0 (by decide) (by omega)
      have b1 := q4 1 (by decide) (by omega)
      have b2 := q4 2 (by decide) (by omega)
      have b3 := q4 3 (by decide) (by omega)
      show _ ↔ nmN f s.2.1 4 = 1650549611
      rw [nmN_4]
      constructor <;> intro z <;> omega
    · rw [e]
      have b0 := q4 0 (by decide) (by omega)
      have b1 := q4 1 (by decide) (by omega)
      have b2 := q4 2 (by decide) (by omega)
      have b3 := q4 3 (by decide) (by omega)
      have b4 := q4 4 (by decide) (by omega)
      show _ ↔ nmN f s.2.1 5 = 1650549611
      rw [nmN_5]
      constructor <;> intro z <;> omega
    · rw [e]
      have b0 := q4 0 (by decide) (by omega)
      have b1 := q4 1 (by decide) (by omega)
      have b2 := q4 2 (by decide) (by omega)
      have b3 := q4 3 (by decide) (by omega)
      have b4 := q4 4 (by decide) (by omega)
      have b5 := q4 5 (by decide) (by omega)
      show _ ↔ nmN f s.2.1 6 = 1650549611
      rw [nmN_6]
      constructor <;> intro z <;> omega
    · rw [e]
      have b0 := q4 0 (by decide) (by omega)
      have b1 := q4 1 (by decide) (by omega)
      have b2 := q4 2 (by decide) (by omega)
      have b3 := q4 3 (by decide) (by omega)
      have b4 := q4 4 (by decide) (by omega)
      have b5 := q4 5 (by decide) (by omega)
      have b6 := q4 6 (by decide) (by omega)
      show _ ↔ nmN f s.2.1 7 = 1650549611
      rw [nmN_7]
      constructor <;> intro z <;> omega
theorem isW_6 {f : Nat → Int} {n : Int} {s : PS} {u : PM} (h : PR s u) (hok : piOK f n s) (h0 : s.2.2.2 = 0) : isW f 6 s ↔ namF f u = 1953064037 := by
  have key : isW f 6 s ↔ s.1 = 1 ∧ s.2.2.1 - s.2.1 = 4 ∧ f (s.2.1 + 0).toNat = 116 ∧ f (s.2.1 + 1).toNat = 105 ∧ f (s.2.1 + 2).toNat = 100 ∧ f (s.2.1 + 3).toNat = 101 := by
    constructor
    · rintro ⟨z1, z2, z3⟩
      exact ⟨z1, z2, z3 0 (by decide) (by decide), z3 1 (by decide) (by decide), z3 2 (by decide) (by decide), z3 3 (by decide) (by decide)⟩
    · rintro ⟨z1, z2, d0, d1, d2, d3⟩
      refine ⟨z1, z2, fun j j0 j1 => ?_⟩
      have j1 : j < 4 := j1
      rcases (show j = 0 ∨ j = 1 ∨ j = 2 ∨ j = 3 by omega) with rfl | rfl | rfl | rfl
      · exact d0
      · exact d1
      · exact d2
      · exact d3
  rw [key]
  rcases nam_c h hok h0 with q | q | ⟨q1, q2, q3, q4⟩
  · rw [q.2]
    exact ⟨fun z => absurd z.1 q.1, fun z => absurd z (by decide)⟩
  · rw [q.2.2]
    exact ⟨fun z => by omega, fun z => absurd z (by decide)⟩
  · rw [q3]
    rcases (show s.2.2.1 - s.2.1 = 1 ∨ s.2.2.1 - s.2.1 = 2 ∨ s.2.2.1 - s.2.1 = 3 ∨ s.2.2.1 - s.2.1 = 4 ∨ s.2.2.1 - s.2.1 = 5 ∨ s.2.2.1 - s.2.1 = 6 ∨ s.2.2.1 - s.2.1 = 7 by omega) with e | e | e | e | e | e | e
    · rw [e]
      have b0 := q4 0 (by decide) (by omega)
      show _ ↔ nmN f s.2.1 1 = 1953064037
      rw [nmN_1]
      constructor <;> intro z <;> omega
    · rw [e]
      have b0 := q4 0 (by decide) (by omega)
      have b1 := q4 1 (by decide) (by omega)
      show _ ↔ nmN f s.2.1 2 = 1953064037
      rw [nmN_2]
      constructor <;> intro z <;> omega
    · rw [e]
      have b0 := q4 0 (by decide) (by omega)
      have b1 := q4 1 (by decide) (by omega)
      have b2 := q4 2 (by decide) (by omega)
      show _ ↔ nmN f s.2.1 3 = 1953064037
      rw [nmN_3]
      constructor <;> intro z <;> omega
    · rw [e]
      have b0 := q4 0 (by decide) (by omega)
      have b1 := q4 1 (by decide) (by omega)
      have b2 := q4 2 (by decide) (by omega)
      have b3 := q4 3 (by decide) (by omega)
      show _ ↔ nmN f s.2.1 4 = 1953064037
      rw [nmN_4]
      constructor <;> intro z <;> omega
    · rw [e]
      have b0 := q4 0 (by decide) (by omega)
      have b1 := q4 1 (by decide) (by omega)
      have b2 := q4 2 (by decide) (by omega)
      have b3 := q4 3 (by decide) (by omega)
      have b4 := q4 4 (by decide) (by omega)
      show _ ↔ nmN f s.2.1 5 = 1953064037
      rw [nmN_5]
      constructor <;> intro z <;> omega
    · rw [e]
      have b0 := q4 0 (by decide) (by omega)
      have b1 := q4 1 (by decide) (by omega)
      have b2 := q4 2 (by decide) (by omega)
      have b3 := q4 3 (by decide) (by omega)
      have b4 := q4 4 (by decide) (by omega)
      have b5 := q4 5 (by decide) (by omega)
      show _ ↔ nmN f s.2.1 6 = 1953064037
      rw [nmN_6]
      constructor <;> intro z <;> omega
    · rw [e]
      have b0 := q4 0 (by decide) (by omega)
      have b1 := q4 1 (by decide) (by omega)
      have b2 := q4 2 (by decide) (by omega)
      have b3 := q4 3 (by decide) (by omega)
      have b4 := q4 4 (by decide) (by omega)
      have b5 := q4 5 (by decide) (by omega)
      have b6 := q4 6 (by decide) (by omega)
      show _ ↔ nmN f s.2.1 7 = 1953064037
      rw [nmN_7]
      constructor <;> intro z <;> omega
