/-! the clock of the model, read from the tape -/
def zrI (ff : Nat → Int) : Nat → Int := fun j => if j < 14 then 0 else ff j
def m14 (a b : Nat → Int) : Nat → Int := fun j => if j < 14 then a j else b j
theorem Bd_zr {ff : Nat → Int} (h : Bd 0 999 ff) : Bd 0 999 (zrI ff) := by
  intro j
  show 0 ≤ (if j < 14 then 0 else ff j) ∧ (if j < 14 then 0 else ff j) ≤ 999
  by_cases c : j < 14
  · rw [if_pos c]
    exact ⟨by decide, by decide⟩
  · rw [if_neg c]
    exact h j
theorem hanF_bd {f : Nat → Int} {n : Int} {ff : Nat → Int} {s : PM} (h : pmOK f n s) (hc : 0 ≤ ff 1 ∧ ff 1 ≤ 4) (hf : Bd 0 999 ff) : Bd 0 999 (hanF f n ff s) := by
  unfold hanF
  by_cases c : (hanM f n (ff 1) s).2.2.2.2.1 = 0
  · rw [if_pos c]
    have q := hanM_0 h hc c
    exact Bd_up (Bd_up (Bd_up hf (by omega) (by omega)) (by omega) (by omega)) (by omega) (by omega)
  · rw [if_neg c]
    exact hf
theorem hanF_1 {f : Nat → Int} {n : Int} {ff : Nat → Int} {s : PM} (h : pmOK f n s) (hc : 0 ≤ ff 1 ∧ ff 1 ≤ 4) : ((hanM f n (ff 1) s).2.2.2.2.1 = 0 ∧ ff 1 ≤ 3 ∧ hanF f n ff s 1 = ff 1 + 1) ∨ ((hanM f n (ff 1) s).2.2.2.2.1 ≠ 0 ∧ hanF f n ff s 1 = ff 1) := by
  by_cases c : (hanM f n (ff 1) s).2.2.2.2.1 = 0
  · refine Or.inl ⟨c, (hanM_0 h hc c).1, ?_⟩
    unfold hanF
    rw [if_pos c]
    rfl
  · refine Or.inr ⟨c, ?_⟩
    unfold hanF
    rw [if_neg c]
def hlN (f : Nat → Int) (n : Int) : Nat → (Nat → Int) × PM → (Nat → Int) × PM
  | 0, u => u
  | k + 1, u => if namF f u.2 = 1751215716 then hlN f n k (hanF f n u.1 u.2, hanM f n (u.1 1) u.2) else u
theorem hlN_end {f : Nat → Int} {n : Int} {u : (Nat → Int) × PM} (h : namF f u.2 ≠ 1751215716) : ∀ k, hlN f n k u = u := by
  intro k
  cases k with
  | zero => rfl
  | succ k =>
    show (if namF f u.2 = 1751215716 then hlN f n k (hanF f n u.1 u.2, hanM f n (u.1 1) u.2) else u) = u
    rw [if_neg h]
theorem namF_ft {f : Nat → Int} {s : PM} (h : namF f s = 1751215716) : s.2.2.2.2.1 = 0 := by
  by_cases c : s.2.2.2.2.1 = 0
  · exact c
  · unfold namF at h
    rw [if_neg c] at h
    exact absurd h (by decide)
def hmK (c : Int) (t : Int) (k : Nat) : Prop := t = 0 → 5 - c ≤ (k : Int)
theorem hlN_go {f : Nat → Int} {n : Int} {ff : Nat → Int} {s : PM} {k : Nat} (h : pmOK f n s) (hc : 0 ≤ ff 1 ∧ ff 1 ≤ 4) (hk : hmK (ff 1) s.2.2.2.2.1 k) (e : namF f s = 1751215716) : 0 < k ∧ hlN f n k (ff, s) = hlN f n (k - 1) (hanF f n ff s, hanM f n (ff 1) s) ∧ hmK (hanF f n ff s 1) (hanM f n (ff 1) s).2.2.2.2.1 (k - 1) ∧ (0 ≤ hanF f n ff s 1 ∧ hanF f n ff s 1 ≤ 4) := by
  have t := hk (namF_ft e)
  have k0 : 0 < k := by omega
  have q := hanF_1 h hc
  refine ⟨k0, ?_, ?_, by omega⟩
  · obtain ⟨m, rfl⟩ : ∃ m, k = m + 1 := ⟨k - 1, by omega⟩
    show (if namF f s = 1751215716 then hlN f n m (hanF f n ff s, hanM f n (ff 1) s) else (ff, s)) = _
    rw [if_pos e]
    rfl
  · intro z
    omega
def cl1 (f : Nat → Int) (n : Int) (s : PM) : PM := mmu f n (if namF f s = 1684627820 then 1 else 0) s
def cl3 (f : Nat → Int) (n : Int) (s : PM) : PM := menM f n (numM f n 2 60 (cl1 f n s))
def cl4 (f : Nat → Int) (n : Int) (s : PM) : PM := if namF f (cl3 f n s) = 1751215716 then cl3 f n s else mbd 1 (cl3 f n s)
def clR (f : Nat → Int) (n : Int) (ff : Nat → Int) (s : PM) : (Nat → Int) × PM := hlN f n 5 (updI (zrI ff) 0 (numV f (cl1 f n s)), cl4 f n s)
def clS (f : Nat → Int) (n : Int) (ff : Nat → Int) (s : PM) : PM := if (clR f n ff s).2.2.2.2.2.1 = 0 ∧ (clR f n ff s).2.2.1 ≠ 1 then mbd 1 (clR f n ff s).2 else (clR f n ff s).2
theorem pmOK_0 {f : Nat → Int} {n tk sa ti fp : Int} (h : 0 ≤ n) : pmOK f n (mnx f n (0, tk, sa, ti, 0, fp)) := by
  have c := tkM_cv f n 0
  exact ⟨mOK_adv (Int.le_refl _) h, rfl, ⟨Int.le_refl _, (by decide : (0 : Int) ≤ 3)⟩, by show 0 ≤ tkM f n 0 ∧ tkM f n 0 ≤ 4; omega⟩
