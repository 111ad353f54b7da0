/-! the tape of the model: bytes, names, tokens -/
theorem packL {v z : Int} (hv : 0 ≤ v ∧ v < 281474976710656) (hz : 0 ≤ z ∧ z ≤ 255) : (lI v <<< ((iI 8).toInt64 &&& 63)) ||| lI z = lI (256 * v + z) := by
  obtain ⟨a, rfl⟩ := Int.eq_ofNat_of_zero_le hv.1
  obtain ⟨b, rfl⟩ := Int.eq_ofNat_of_zero_le hz.1
  rw [show ((iI 8).toInt64 &&& 63) = 8 by decide]
  apply Int64.toBitVec_inj.mp
  rw [Int64.toBitVec_or, Int64.toBitVec_shiftLeft]
  unfold lI
  rw [Int64.toBitVec_ofInt, Int64.toBitVec_ofInt, Int64.toBitVec_ofInt]
  rw [show (256 * (a : Int) + (b : Int)) = ((256 * a + b : Nat) : Int) by omega]
  rw [BitVec.ofInt_natCast, BitVec.ofInt_natCast, BitVec.ofInt_natCast]
  rw [show ((8 : Int64).toBitVec.smod 64) = 8#64 by decide]
  apply BitVec.eq_of_toNat_eq
  have e8 : (8#64).toNat = 8 := by decide
  simp only [BitVec.toNat_or, BitVec.shiftLeft_eq', BitVec.toNat_shiftLeft, BitVec.toNat_ofNat, e8]
  rw [Nat.mod_eq_of_lt (show a < 2 ^ 64 by omega), Nat.mod_eq_of_lt (show b < 2 ^ 64 by omega), Nat.mod_eq_of_lt (show 256 * a + b < 2 ^ 64 by omega)]
  rw [Nat.mod_eq_of_lt (show a <<< 8 < 2 ^ 64 by rw [Nat.shiftLeft_eq]; omega), ← Nat.shiftLeft_add_eq_or_of_lt (show b < 2 ^ 8 by omega), Nat.shiftLeft_eq]
  omega
theorem fb_eq {w : Int64} {k : Int} (h : 0 ≤ k ∧ k < 8) : fbM w k = fbC w k := by
  unfold fbC fbM iAnd iLow
  rw [iI_of]
  congr 1
  apply Int32.toBitVec_inj.mp
  rw [Int64.toBitVec_toInt32, Int64.toBitVec_and, Int32.toBitVec_and, Int64.toBitVec_toInt32]
  have e1 : ∀ c : Int, 0 ≤ c → c < 8 → ((iI (8 * c)).toInt64 &&& 63) = Int64.ofInt (8 * c) ∧ (((iI (8 * c)).toInt64.toUInt64 &&& Int64.toUInt64 63)) = UInt64.ofNat (8 * c).toNat := by
    intro c h0 h1
    have hc : c = 0 ∨ c = 1 ∨ c = 2 ∨ c = 3 ∨ c = 4 ∨ c = 5 ∨ c = 6 ∨ c = 7 := by omega
    rcases hc with rfl | rfl | rfl | rfl | rfl | rfl | rfl | rfl <;> decide
  rw [(e1 k h.1 h.2).1, (e1 k h.1 h.2).2]
  have hc : k = 0 ∨ k = 1 ∨ k = 2 ∨ k = 3 ∨ k = 4 ∨ k = 5 ∨ k = 6 ∨ k = 7 := by omega
  rw [BitVec.signExtend_eq_setWidth_of_le _ (by decide), BitVec.signExtend_eq_setWidth_of_le _ (by decide)]
  rw [Int64.toBitVec_shiftRight]
  show _ = (BitVec.setWidth 32 (w.toUInt64 >>> UInt64.ofNat (8 * k).toNat).toBitVec) &&& (iI 255).toBitVec
  rw [UInt64.toBitVec_shiftRight]
  show _ = (BitVec.setWidth 32 (w.toBitVec >>> ((UInt64.ofNat (8 * k).toNat).toBitVec % 64))) &&& (iI 255).toBitVec
  apply BitVec.eq_of_getLsbD_eq
  intro i hi
  rw [BitVec.getLsbD_setWidth, BitVec.getLsbD_and, BitVec.getLsbD_and, BitVec.getLsbD_setWidth]
  have e2 : (lI 255).toBitVec = 255#64 := by decide
  have e3 : (iI 255).toBitVec = 255#32 := by decide
  rw [e2, e3]
  by_cases h8 : i < 8
  · have s1 : ((Int64.ofInt (8 * k)).toBitVec.smod 64).toNat = (8 * k).toNat ∧ ((UInt64.ofNat (8 * k).toNat).toBitVec % 64).toNat = (8 * k).toNat := by
      rcases hc with rfl | rfl | rfl | rfl | rfl | rfl | rfl | rfl <;> decide
    have s2 : (8 * k).toNat ≤ 56 := by omega
    have q : (255#64).getLsbD i = true ∧ (255#32).getLsbD i = true := by
      have hc2 : i = 0 ∨ i = 1 ∨ i = 2 ∨ i = 3 ∨ i = 4 ∨ i = 5 ∨ i = 6 ∨ i = 7 := by omega
      rcases hc2 with rfl | rfl | rfl | rfl | rfl | rfl | rfl | rfl <;> decide
    rw [q.1, q.2, Bool.and_true, Bool.and_true, BitVec.sshiftRight_eq', BitVec.getLsbD_sshiftRight, BitVec.ushiftRight_eq', BitVec.getLsbD_ushiftRight, s1.1, s1.2]
    rw [if_pos (by omega)]
    simp [hi]; omega
  · have q : (255#64).getLsbD i = false ∧ (255#32).getLsbD i = false := by
      have e4 : (255 : Nat) < 2 ^ i := Nat.lt_of_lt_of_le (show 255 < 2 ^ 8 by decide) (Nat.pow_le_pow_right (by decide) (by omega))
      have e5 : Nat.testBit 255 i = false := Nat.testBit_lt_two_pow e4
      constructor
      · rw [BitVec.getLsbD_ofNat, e5, Bool.and_false]
      · rw [BitVec.getLsbD_ofNat, e5, Bool.and_false]
    rw [q.1, q.2, Bool.and_false, Bool.and_false, Bool.and_false]
abbrev PM := Int × Int × Int × Int × Int × Int
def mnx (f : Nat → Int) (n : Int) (s : PM) : PM := (tkE f n s.1, tkM f n s.1, tkS f n s.1, tkE f n s.1, s.2.2.2.2.1, s.2.2.2.2.2)
def mbd (k : Int) (s : PM) : PM := if s.2.2.2.2.1 = 0 then (s.1, s.2.1, s.2.2.1, s.2.2.2.1, k, s.2.2.1) else s
def mmu (f : Nat → Int) (n b : Int) (s : PM) : PM := if b ≠ 0 then (if s.2.2.2.2.1 = 0 then mnx f n s else s) else mbd 1 s
theorem mbd_ne {k : Int} {s : PM} (hk : k ≠ 0) : (mbd k s).2.2.2.2.1 ≠ 0 := by
  unfold mbd
  by_cases h : s.2.2.2.2.1 = 0
  · rw [if_pos h]; exact hk
  · rw [if_neg h]; exact h
def mOK (f : Nat → Int) (n k s e : Int) : Prop := (0 ≤ s ∧ s ≤ e ∧ e ≤ n) ∧ (k = 3 → e - s ≤ 3 ∧ ∀ j : Int, s ≤ j → j < e → 48 ≤ f j.toNat ∧ f j.toNat ≤ 57) ∧ (k = 2 → s < e ∧ ∀ j : Int, s ≤ j → j < e → 97 ≤ f j.toNat ∧ f j.toNat ≤ 122)
def pmOK (f : Nat → Int) (n : Int) (s : PM) : Prop := mOK f n s.2.1 s.2.2.1 s.2.2.2.1 ∧ s.1 = s.2.2.2.1 ∧ (0 ≤ s.2.2.2.2.1 ∧ s.2.2.2.2.1 ≤ 3) ∧ (0 ≤ s.2.1 ∧ s.2.1 ≤ 4)
theorem tkM_cv (f : Nat → Int) (n i : Int) : (tkC f n i = 0 ∧ tkM f n i = 1) ∨ (tkC f n i = 1 ∧ tkM f n i = 2) ∨ (tkC f n i = 2 ∧ tkM f n i = 3) ∨ (tkC f n i = 3 ∧ tkM f n i = 4) ∨ (tkC f n i = 4 ∧ tkM f n i = 0) := by
  obtain ⟨s, hs⟩ : ∃ s, tkS f n i = s := ⟨_, rfl⟩
  by_cases h : s < n
  · by_cases hl : 97 ≤ f s.toNat ∧ f s.toNat ≤ 122
    · have e := tk_le hs h hl
      omega
    · by_cases hf : 48 ≤ f s.toNat ∧ f s.toNat ≤ 57
      · have e := tk_fi hs h hf
        by_cases h3 : 3 < scW fiB f n s - s
        · rw [if_pos h3, if_pos h3] at e
          omega
        · rw [if_neg h3, if_neg h3] at e
          omega
      · have e := tk_el hs h hl hf
        by_cases h3 : f s.toNat = 59
        · rw [if_pos h3, if_pos h3] at e
          omega
        · rw [if_neg h3, if_neg h3] at e
          omega
  · have e := tk_en hs h
    omega
theorem mOK_adv {f : Nat → Int} {n i : Int} (h0 : 0 ≤ i) (h1 : i ≤ n) : mOK f n (tkM f n i) (tkS f n i) (tkE f n i) := by
  have q := tkOK_adv (f := f) h0 h1
  have c := tkM_cv f n i
  exact ⟨q.1, fun z => q.2.1 (by omega), fun z => q.2.2 (by omega)⟩
theorem pm_f {f : Nat → Int} {n cu tk sa ti ft fp : Int} (h : pmOK f n (cu, tk, sa, ti, ft, fp)) : (0 ≤ sa ∧ sa ≤ ti ∧ ti ≤ n) ∧ cu = ti ∧ (0 ≤ ft ∧ ft ≤ 3) ∧ (0 ≤ tk ∧ tk ≤ 4) := ⟨h.1.1, h.2.1, h.2.2.1, h.2.2.2⟩
theorem pmOK_mnx {f : Nat → Int} {n : Int} {s : PM} (h : pmOK f n s) : pmOK f n (mnx f n s) := by
  have q1 := h.1.1
  have q2 := h.2.1
  refine ⟨mOK_adv (by omega) (by omega), rfl, h.2.2.1, ?_⟩
  have c := tkM_cv f n s.1
  show 0 ≤ tkM f n s.1 ∧ tkM f n s.1 ≤ 4
  omega
theorem pmOK_mbd {f : Nat → Int} {n k : Int} {s : PM} (hk : 0 ≤ k ∧ k ≤ 3) (h : pmOK f n s) : pmOK f n (mbd k s) := by
  unfold mbd
  by_cases c : s.2.2.2.2.1 = 0
  · rw [if_pos c]; exact ⟨h.1, h.2.1, hk, h.2.2.2⟩
  · rw [if_neg c]; exact h
theorem pmOK_mmu {f : Nat → Int} {n b : Int} {s : PM} (h : pmOK f n s) : pmOK f n (mmu f n b s) := by
  unfold mmu
  by_cases c : b ≠ 0
  · rw [if_pos c]
    by_cases c2 : s.2.2.2.2.1 = 0
    · rw [if_pos c2]; exact pmOK_mnx h
    · rw [if_neg c2]; exact h
  · rw [if_neg c]; exact pmOK_mbd (by decide) h
def numV (f : Nat → Int) (s : PM) : Int := if 0 < s.2.2.2.2.1 then 0 else if s.2.1 = 3 then nmI f s.2.2.1 (s.2.2.2.1 - s.2.2.1).toNat else 0
def numM (f : Nat → Int) (n l m : Int) (s : PM) : PM := if 0 < s.2.2.2.2.1 then s else mmu f n (if s.2.1 = 3 then 1 else 0) (if s.2.1 = 3 ∧ ¬ (l ≤ numV f s ∧ numV f s ≤ m) then mbd 2 s else s)
theorem numV_bd {f : Nat → Int} {n : Int} {s : PM} (h : pmOK f n s) : 0 ≤ numV f s ∧ numV f s ≤ 999 := by
  unfold numV
  by_cases c : 0 < s.2.2.2.2.1
  · rw [if_pos c]
    exact ⟨Int.le_refl _, by decide⟩
  · rw [if_neg c]
    by_cases c2 : s.2.1 = 3
    · rw [if_pos c2]
      have q := h.1.2.1 c2
      exact nmI_bd q.1 q.2
    · rw [if_neg c2]
      exact ⟨Int.le_refl _, by decide⟩
theorem pmOK_num {f : Nat → Int} {n l m : Int} {s : PM} (h : pmOK f n s) : pmOK f n (numM f n l m s) := by
  unfold numM
  by_cases c : 0 < s.2.2.2.2.1
  · rw [if_pos c]; exact h
  · rw [if_neg c]
    by_cases c2 : s.2.1 = 3 ∧ ¬ (l ≤ numV f s ∧ numV f s ≤ m)
    · rw [if_pos c2]; exact pmOK_mmu (pmOK_mbd (by decide) h)
    · rw [if_neg c2]; exact pmOK_mmu h
def menM (f : Nat → Int) (n : Int) (s : PM) : PM := if s.2.2.2.2.1 = 0 then mmu f n (if s.2.1 = 4 then 1 else 0) s else s
theorem pmOK_men {f : Nat → Int} {n : Int} {s : PM} (h : pmOK f n s) : pmOK f n (menM f n s) := by
  unfold menM
  by_cases c : s.2.2.2.2.1 = 0
  · rw [if_pos c]; exact pmOK_mmu h
  · rw [if_neg c]; exact h
def nmN (f : Nat → Int) (s : Int) : Nat → Int
  | 0 => 0
  | j + 1 => 256 * nmN f s j + f (s + j).toNat
theorem nmN_s {f : Nat → Int} {s i : Int} (h : s ≤ i) : nmN f s (i + 1 - s).toNat = 256 * nmN f s (i - s).toNat + f i.toNat := by
  rw [show (i + 1 - s).toNat = (i - s).toNat + 1 by omega]
  show 256 * nmN f s (i - s).toNat + f (s + ((i - s).toNat : Int)).toNat = _
  rw [show s + ((i - s).toNat : Int) = i by omega]
theorem nmN_bd {f : Nat → Int} {s : Int} (hf : Bd 0 255 f) : ∀ j : Nat, 0 ≤ nmN f s j ∧ (j ≤ 6 → nmN f s j < 281474976710656) ∧ (j ≤ 7 → nmN f s j < 72057594037927936) := by
  have q := fun (j : Nat) => hf (s + j).toNat
  have e : ∀ j : Nat, nmN f s (j + 1) = 256 * nmN f s j + f (s + j).toNat := fun j => rfl
  have b0 : nmN f s 0 = 0 := rfl
  have b1 : 0 ≤ nmN f s 1 ∧ nmN f s 1 < 256 := by have e1 : nmN f s 1 = 256 * nmN f s 0 + f (s + ((0 : Nat) : Int)).toNat := rfl; have := q 0; omega
  have b2 : 0 ≤ nmN f s 2 ∧ nmN f s 2 < 65536 := by have e1 : nmN f s 2 = 256 * nmN f s 1 + f (s + ((1 : Nat) : Int)).toNat := rfl; have := q 1; omega
  have b3 : 0 ≤ nmN f s 3 ∧ nmN f s 3 < 16777216 := by have e1 : nmN f s 3 = 256 * nmN f s 2 + f (s + ((2 : Nat) : Int)).toNat := rfl; have := q 2; omega
  have b4 : 0 ≤ nmN f s 4 ∧ nmN f s 4 < 4294967296 := by have e1 : nmN f s 4 = 256 * nmN f s 3 + f (s + ((3 : Nat) : Int)).toNat := rfl; have := q 3; omega
  have b5 : 0 ≤ nmN f s 5 ∧ nmN f s 5 < 1099511627776 := by have e1 : nmN f s 5 = 256 * nmN f s 4 + f (s + ((4 : Nat) : Int)).toNat := rfl; have := q 4; omega
  have b6 : 0 ≤ nmN f s 6 ∧ nmN f s 6 < 281474976710656 := by have e1 : nmN f s 6 = 256 * nmN f s 5 + f (s + ((5 : Nat) : Int)).toNat := rfl; have := q 5; omega
  have b7 : 0 ≤ nmN f s 7 ∧ nmN f s 7 < 72057594037927936 := by have e1 : nmN f s 7 = 256 * nmN f s 6 + f (s + ((6 : Nat) : Int)).toNat := rfl; have := q 6; omega
  have pos : ∀ j : Nat, 0 ≤ nmN f s j := by
    intro j
    induction j with
    | zero => exact Int.le_refl _
    | succ j ih => have := e j; have := q j; omega
  intro j
  refine ⟨pos j, fun h => ?_, fun h => ?_⟩
  · have hj : j = 0 ∨ j = 1 ∨ j = 2 ∨ j = 3 ∨ j = 4 ∨ j = 5 ∨ j = 6 := by omega
    rcases hj with rfl | rfl | rfl | rfl | rfl | rfl | rfl <;> omega
  · have hj : j = 0 ∨ j = 1 ∨ j = 2 ∨ j = 3 ∨ j = 4 ∨ j = 5 ∨ j = 6 ∨ j = 7 := by omega
    rcases hj with rfl | rfl | rfl | rfl | rfl | rfl | rfl | rfl <;> omega
def namF (f : Nat → Int) (s : PM) : Int := if s.2.2.2.2.1 = 0 then (if s.2.1 = 2 ∧ s.2.2.2.1 - s.2.2.1 < 8 then nmN f s.2.2.1 (s.2.2.2.1 - s.2.2.1).toNat else 0) else 0
theorem mbd_tk {k cu tk sa ti ft fp : Int} : (mbd k (cu, tk, sa, ti, ft, fp)).2.1 = tk := by
  unfold mbd
  split <;> rfl
theorem namF_r {f : Nat → Int} {s : PM} (hf : Bd 0 255 f) : R64 (namF f s) := by
  have q := nmN_bd (s := s.2.2.1) hf (s.2.2.2.1 - s.2.2.1).toNat
  unfold namF
  by_cases c : s.2.2.2.2.1 = 0
  · rw [if_pos c]
    by_cases c2 : s.2.1 = 2 ∧ s.2.2.2.1 - s.2.2.1 < 8
    · rw [if_pos c2]
      have q2 := q.2.2 (by omega)
      omega
    · rw [if_neg c2]
      exact ⟨by decide, by decide⟩
  · rw [if_neg c]
    exact ⟨by decide, by decide⟩
theorem mmu_st {f : Nat → Int} {n b : Int} {s : PM} (h : s.2.2.2.2.1 ≠ 0) : mmu f n b s = s := by
  unfold mmu mbd
  rw [if_neg h, if_neg h]
  split <;> rfl
theorem menM_st {f : Nat → Int} {n : Int} {s : PM} (h : s.2.2.2.2.1 ≠ 0) : menM f n s = s := by
  unfold menM
  rw [if_neg h]
theorem numM_st {f : Nat → Int} {n l m : Int} {s : PM} (h : s.2.2.2.2.1 ≠ 0) : numM f n l m s = s ∨ ¬ 0 < s.2.2.2.2.1 := by
  unfold numM
  by_cases c : 0 < s.2.2.2.2.1
  · exact Or.inl (if_pos c)
  · exact Or.inr c
def hanS (f : Nat → Int) (n cn : Int) (s : PM) : PM := mmu f n 1 (if cn = 4 then mbd 3 s else s)
def hanN (f : Nat → Int) (n cn : Int) (s : PM) : Int := kndI (namF f (hanS f n cn s))
def hanK (f : Nat → Int) (n cn : Int) (s : PM) : PM := if (hanS f n cn s).2.2.2.2.1 = 0 then mmu f n (if hanN f n cn s = -1000000 then 0 else 1) (hanS f n cn s) else hanS f n cn s
def hanT (f : Nat → Int) (n cn : Int) (s : PM) : Int := numV f (hanK f n cn s)
def hanM (f : Nat → Int) (n cn : Int) (s : PM) : PM := menM f n (numM f n 1 12 (hanK f n cn s))
def hanF (f : Nat → Int) (n : Int) (ff : Nat → Int) (s : PM) : Nat → Int := if (hanM f n (ff 1) s).2.2.2.2.1 = 0 then updI (updI (updI ff (2 + 3 * ff 1).toNat (hanN f n (ff 1) s)) (2 + 3 * ff 1 + 1).toNat (hanT f n (ff 1) s)) 1 (ff 1 + 1) else ff
theorem pmOK_hanS {f : Nat → Int} {n cn : Int} {s : PM} (h : pmOK f n s) : pmOK f n (hanS f n cn s) := by
  unfold hanS
  by_cases c : cn = 4
  · rw [if_pos c]; exact pmOK_mmu (pmOK_mbd (by decide) h)
  · rw [if_neg c]; exact pmOK_mmu h
theorem pmOK_hanK {f : Nat → Int} {n cn : Int} {s : PM} (h : pmOK f n s) : pmOK f n (hanK f n cn s) := by
  unfold hanK
  by_cases c : (hanS f n cn s).2.2.2.2.1 = 0
  · rw [if_pos c]; exact pmOK_mmu (pmOK_hanS h)
  · rw [if_neg c]; exact pmOK_hanS h
theorem pmOK_hanM {f : Nat → Int} {n cn : Int} {s : PM} (h : pmOK f n s) : pmOK f n (hanM f n cn s) := pmOK_men (pmOK_num (pmOK_hanK h))
theorem kndI_or (w : Int) : kndI w = -1000000 ∨ (1 ≤ kndI w ∧ kndI w ≤ 5) := by
  unfold kndI
  (repeat split) <;> omega
theorem hanM_0 {f : Nat → Int} {n cn : Int} {s : PM} (h : pmOK f n s) (hc : 0 ≤ cn ∧ cn ≤ 4) (h0 : (hanM f n cn s).2.2.2.2.1 = 0) : cn ≤ 3 ∧ (1 ≤ hanN f n cn s ∧ hanN f n cn s ≤ 5) ∧ (1 ≤ hanT f n cn s ∧ hanT f n cn s ≤ 12) := by
  have okK := pmOK_hanK (cn := cn) h
  have a1 : (numM f n 1 12 (hanK f n cn s)).2.2.2.2.1 = 0 := by
    by_cases c : (numM f n 1 12 (hanK f n cn s)).2.2.2.2.1 = 0
    · exact c
    · unfold hanM at h0
      rw [menM_st c] at h0
      exact h0
  have a2 : (hanK f n cn s).2.2.2.2.1 = 0 := by
    by_cases c : (hanK f n cn s).2.2.2.2.1 = 0
    · exact c
    · rcases numM_st (f := f) (n := n) (l := 1) (m := 12) c with q | q
      · rw [q] at a1; exact a1
      · have := okK.2.2.1
        omega
  have a3 : (hanS f n cn s).2.2.2.2.1 = 0 := by
    by_cases c : (hanS f n cn s).2.2.2.2.1 = 0
    · exact c
    · unfold hanK at a2
      rw [if_neg c] at a2
      exact a2
  refine ⟨?_, ?_, ?_⟩
  · by_cases c : cn = 4
    · exfalso
      unfold hanS at a3
      rw [if_pos c, mmu_st (mbd_ne (by decide))] at a3
      exact mbd_ne (by decide) a3
    · omega
  · rcases kndI_or (namF f (hanS f n cn s)) with q | q
    · exfalso
      unfold hanK at a2
      rw [if_pos a3, if_pos (show hanN f n cn s = -1000000 from q)] at a2
      unfold mmu at a2
      rw [if_neg (by decide)] at a2
      exact mbd_ne (by decide) a2
    · exact q
  · unfold hanT
    by_cases c : 1 ≤ numV f (hanK f n cn s) ∧ numV f (hanK f n cn s) ≤ 12
    · exact c
    · exfalso
      unfold numM at a1
      rw [if_neg (by omega)] at a1
      by_cases c2 : (hanK f n cn s).2.1 = 3
      · rw [if_pos c2, if_pos ⟨c2, c⟩, mmu_st (mbd_ne (by decide))] at a1
        exact mbd_ne (by decide) a1
      · rw [if_neg c2, if_neg (fun z => c2 z.1)] at a1
        unfold mmu at a1
        rw [if_neg (by decide)] at a1
        exact mbd_ne (by decide) a1
