/-! hands read, class and model side by side -/
theorem sor_k {f : Nat → Int} {n : Int} {s : PS} {u : PM} (h : PR s u) (hok : piOK f n s) (h0 : s.2.2.2 = 0) : sorI f s = if kndI (namF f u) = -1000000 then 0 else kndI (namF f u) := by
  have i2 := isW_2 h hok h0
  have i3 := isW_3 h hok h0
  have i4 := isW_4 h hok h0
  have i5 := isW_5 h hok h0
  have i6 := isW_6 h hok h0
  unfold sorI kndI
  by_cases c2 : isW f 2 s
  · rw [if_pos (pB_iff.mpr c2), if_pos (i2.mp c2), if_neg (by decide)]
  · rw [if_neg (fun z => c2 (pB_iff.mp z)), if_neg (fun z => c2 (i2.mpr z))]
    by_cases c3 : isW f 3 s
    · rw [if_pos (pB_iff.mpr c3), if_pos (i3.mp c3), if_neg (by decide)]
    · rw [if_neg (fun z => c3 (pB_iff.mp z)), if_neg (fun z => c3 (i3.mpr z))]
      by_cases c4 : isW f 4 s
      · rw [if_pos (pB_iff.mpr c4), if_pos (i4.mp c4), if_neg (by decide)]
      · rw [if_neg (fun z => c4 (pB_iff.mp z)), if_neg (fun z => c4 (i4.mpr z))]
        by_cases c5 : isW f 5 s
        · rw [if_pos (pB_iff.mpr c5), if_pos (i5.mp c5), if_neg (by decide)]
        · rw [if_neg (fun z => c5 (pB_iff.mp z)), if_neg (fun z => c5 (i5.mpr z))]
          by_cases c6 : isW f 6 s
          · rw [if_pos (pB_iff.mpr c6), if_pos (i6.mp c6), if_neg (by decide)]
          · rw [if_neg (fun z => c6 (pB_iff.mp z)), if_neg (fun z => c6 (i6.mpr z)), if_pos rfl]
theorem PR_sgn {f : Nat → Int} {n : Int} {s : PS} {u : PM} (h : PR s u) : PR (snC f n s) (menM f n u) := by
  have h1 := PR_ft h
  have hc := h.1
  unfold cvT at hc
  by_cases h0 : s.2.2.2 = 0
  · have hu : u.2.2.2.2.1 = 0 := by omega
    unfold menM snC
    rw [if_pos hu]
    refine PR_pas h (fun _ => ?_)
    by_cases c : s.1 = 3
    · rw [if_pos c, if_pos (by omega)]
    · rw [if_neg c, if_neg (by omega)]
  · rw [show snC f n s = s from pas_st h0, menM_st (by omega)]
    exact h
theorem num_v {f : Nat → Int} {s : PS} {u : PM} (h : PR s u) (h0 : s.2.2.2 = 0) : numV f u = nuV f s := by
  have h1 := PR_ft h
  have hc := h.1
  unfold cvT at hc
  unfold numV nuV
  rw [if_neg (by omega), ← h.2.1, ← h.2.2.1]
  by_cases c : s.1 = 2
  · rw [if_pos c, if_pos (by omega)]
  · rw [if_neg c, if_neg (by omega)]
theorem PR_num {f : Nat → Int} {n l m : Int} {s : PS} {u : PM} (h : PR s u) (hok : piOK f n s) (hl : 1 ≤ l) : PR (nuC f n l m s) (numM f n l m u) := by
  have h1 := PR_ft h
  have hf := hok.2.2
  by_cases h0 : s.2.2.2 = 0
  · have hv := num_v (f := f) h h0
    obtain ⟨tk, fm, tt, tf⟩ := s
    obtain ⟨cu, tkm, sa, ti, ft, fp⟩ := u
    have h0 : tf = 0 := h0
    subst h0
    have h1 : ft = 0 := h1
    subst h1
    have hc : cvT tk tkm := h.1
    unfold cvT at hc
    have en : numM f n l m (cu, tkm, sa, ti, 0, fp) = mmu f n (if tkm = 3 then 1 else 0) (if tkm = 3 ∧ ¬ (l ≤ numV f (cu, tkm, sa, ti, 0, fp) ∧ numV f (cu, tkm, sa, ti, 0, fp) ≤ m) then mbd 2 (cu, tkm, sa, ti, 0, fp) else (cu, tkm, sa, ti, 0, fp)) := if_neg (show ¬ (0 : Int) < 0 by decide)
    rw [en, hv]
    unfold nuC
    show PR (pasI f n (if l ≤ nuV f (tk, fm, tt, 0) ∧ nuV f (tk, fm, tt, 0) ≤ m then 1 else 0) (if tk = 2 then 2 else 1) (tk, fm, tt, 0)) _
    by_cases c : tk = 2
    · rw [if_pos c, if_pos (show tkm = 3 by omega)]
      by_cases c2 : l ≤ nuV f (tk, fm, tt, 0) ∧ nuV f (tk, fm, tt, 0) ≤ m
      · rw [if_pos c2, if_neg (fun z => z.2 c2)]
        have e : mmu f n 1 (cu, tkm, sa, ti, 0, fp) = mnx f n (cu, tkm, sa, ti, 0, fp) := rfl
        rw [e, pas_go rfl (by decide)]
        have e2 : cu = tt := h.2.2.2.1.trans h.2.2.1.symm
        subst e2
        exact PR_adv
      · rw [if_neg c2, if_pos ⟨by omega, c2⟩, pas_no rfl rfl, mmu_st (mbd_ne (by decide))]
        exact PR_bad h
    · have e0 : nuV f (tk, fm, tt, 0) = 0 := if_neg c
      rw [if_neg c, if_neg (show ¬ tkm = 3 by omega), if_neg (fun z => by omega), if_neg (fun z => by omega), pas_no rfl rfl]
      have e : mmu f n 0 (cu, tkm, sa, ti, 0, fp) = mbd 1 (cu, tkm, sa, ti, 0, fp) := rfl
      rw [e]
      exact PR_bad h
  · have e : numM f n l m u = u := if_pos (by omega)
    rw [show nuC f n l m s = s from pas_st h0, e]
    exact h
theorem han_st {f : Nat → Int} {n cn : Int} {u : PM} (h : u.2.2.2.2.1 ≠ 0) (h2 : 0 ≤ u.2.2.2.2.1) : menM f n (numM f n 1 12 u) = u := by
  have e : numM f n 1 12 u = u := if_pos (by omega)
  rw [e, menM_st h]
theorem h4_st {f : Nat → Int} {n : Int} {s : PS} (h : s.2.2.2 ≠ 0) : snC f n (nuC f n 1 12 (soC f n (wdC f n 1 s))) = s := by
  rw [show wdC f n 1 s = s from pas_st h, show soC f n s = s from pas_st h, show nuC f n 1 12 s = s from pas_st h, show snC f n s = s from pas_st h]
theorem h4C_f {f : Nat → Int} {n cn : Int} {s : PS} (h : s.2.2.2 ≠ 0) : h4C f n cn s = s := by
  have e : h0C f cn s = s := if_neg (fun z => h z.1)
  show snC f n (nuC f n 1 12 (soC f n (wdC f n 1 (h0C f cn s)))) = s
  rw [e]
  exact h4_st h
/-- a hand that is told as one -/
theorem PR_han {f : Nat → Int} {n cn : Int} {s : PS} {u : PM} (h : PR s u) (hok : piOK f n s) (h0 : s.2.2.2 = 0) (hw : isW f 1 s) (hc : 0 ≤ cn ∧ cn ≤ 4) : PR (h4C f n cn s) (hanM f n cn u) ∧ ((h4C f n cn s).2.2.2 = 0 → sorI f (h1C f n cn s) = hanN f n cn u ∧ nuV f (h2C f n cn s) = hanT f n cn u) := by
  have hu := PR_ft h
  rw [h0] at hu
  by_cases c : cn = 4
  · have e0 : h0C f cn s = (s.1, s.2.1, s.2.2.1, 3) := if_pos ⟨h0, pB_iff.mpr hw, by omega⟩
    have e1 : h4C f n cn s = (s.1, s.2.1, s.2.2.1, 3) := by
      show snC f n (nuC f n 1 12 (soC f n (wdC f n 1 (h0C f cn s)))) = _
      rw [e0]
      exact h4_st (show (3 : Int) ≠ 0 by decide)
    have b3 : (mbd 3 u).2.2.2.2.1 = 3 := by
      unfold mbd
      rw [if_pos hu]
    have e2 : hanS f n cn u = mbd 3 u := by
      unfold hanS
      rw [if_pos c, mmu_st (by omega)]
    have e3 : hanK f n cn u = mbd 3 u := by
      unfold hanK
      rw [e2, if_neg (by omega)]
    have e4 : hanM f n cn u = mbd 3 u := by
      unfold hanM
      rw [e3]
      exact han_st (cn := cn) (by omega) (by omega)
    rw [e1, e4]
    refine ⟨?_, fun z => absurd (show (3 : Int) = 0 from z) (by decide)⟩
    obtain ⟨tk, fm, tt, tf⟩ := s
    obtain ⟨cu, tkm, sa, ti, ft, fp⟩ := u
    have h0 : tf = 0 := h0
    subst h0
    have hu : ft = 0 := hu
    subst hu
    exact PR_bad h
  · have e0 : h0C f cn s = s := if_neg (fun z => by omega)
    have e1 : h1C f n cn s = wdC f n 1 s := by unfold h1C; rw [e0]
    have k1 : PR (h1C f n cn s) (hanS f n cn u) := by
      rw [e1]
      unfold wdC hanS
      rw [if_neg c]
      exact PR_pas h (fun _ => by rw [pI_1 hw])
    have o1 : piOK f n (h1C f n cn s) := piOK_h1 hok
    have k2 : PR (h2C f n cn s) (hanK f n cn u) := by
      have q := PR_ft k1
      show PR (soC f n (h1C f n cn s)) _
      by_cases z0 : (h1C f n cn s).2.2.2 = 0
      · have hz : (hanS f n cn u).2.2.2.2.1 = 0 := by omega
        unfold soC hanK
        rw [if_pos hz]
        refine PR_pas k1 (fun _ => ?_)
        rw [sor_k k1 o1 z0]
        show _ ↔ (if kndI (namF f (hanS f n cn u)) = -1000000 then (0 : Int) else 1) ≠ 0
        have kk := kndI_or (namF f (hanS f n cn u))
        by_cases c5 : kndI (namF f (hanS f n cn u)) = -1000000
        · rw [if_pos c5, if_pos c5]
          simp
        · rw [if_neg c5, if_neg c5, if_pos (by omega)]
      · rw [show soC f n (h1C f n cn s) = h1C f n cn s from pas_st z0]
        unfold hanK
        rw [if_neg (by omega)]
        exact k1
    have o2 : piOK f n (h2C f n cn s) := piOK_h2 hok
    have k3 : PR (h3C f n cn s) (numM f n 1 12 (hanK f n cn u)) := PR_num k2 o2 (by decide)
    have k4 : PR (h4C f n cn s) (hanM f n cn u) := PR_sgn k3
    refine ⟨k4, fun z => ?_⟩
    have a3 := pas_0 (by decide) (show (snC f n (h3C f n cn s)).2.2.2 = 0 from z)
    have a2 := nuC_0 (show (nuC f n 1 12 (h2C f n cn s)).2.2.2 = 0 from a3.1)
    have a1 := pas_0 (by decide) (show (soC f n (h1C f n cn s)).2.2.2 = 0 from a2.1)
    have b1 := if1_ne a1.2
    have es := sor_k k1 o1 a1.1
    refine ⟨?_, (num_v k2 a2.1).symm⟩
    rw [es] at b1 ⊢
    show _ = kndI (namF f (hanS f n cn u))
    by_cases c5 : kndI (namF f (hanS f n cn u)) = -1000000
    · rw [if_pos c5] at b1
      exact absurd rfl b1
    · rw [if_neg c5]
/-- no hand is told -/
theorem PR_non {f : Nat → Int} {n cn : Int} {s : PS} {u : PM} (h : PR s u) (h0 : s.2.2.2 = 0) (hw : ¬ isW f 1 s) : h4C f n cn s = (s.1, s.2.1, s.2.2.1, 1) ∧ PR (h4C f n cn s) (mbd 1 u) := by
  have e0 : h0C f cn s = s := if_neg (fun z => hw (pB_iff.mp z.2.1))
  have e1 : h4C f n cn s = (s.1, s.2.1, s.2.2.1, 1) := by
    have e2 : wdC f n 1 (s.1, s.2.1, s.2.2.1, 1) = (s.1, s.2.1, s.2.2.1, 1) := pas_st (show (1 : Int) ≠ 0 by decide)
    show snC f n (nuC f n 1 12 (soC f n (wdC f n 1 (h0C f cn s)))) = _
    rw [e0, show wdC f n 1 s = (s.1, s.2.1, s.2.2.1, 1) from pas_no h0 (pI_0 hw)]
    have e3 := h4_st (f := f) (n := n) (s := (s.1, s.2.1, s.2.2.1, 1)) (show (1 : Int) ≠ 0 by decide)
    rw [e2] at e3
    exact e3
  refine ⟨e1, ?_⟩
  rw [e1]
  have hu := PR_ft h
  obtain ⟨tk, fm, tt, tf⟩ := s
  obtain ⟨cu, tkm, sa, ti, ft, fp⟩ := u
  have h0 : tf = 0 := h0
  subst h0
  have hu : ft = 0 := hu
  subst hu
  exact PR_bad h
def VC (c : CS) : Prop := ∀ h : Nat, (h : Int) < c.1 → 1 ≤ c.2.1 h ∧ 1 ≤ c.2.2.1 h ∧ c.2.2.2 h = 0
def CF (mk : Int) (c : CS) (ff : Nat → Int) : Prop := VC c ∧ ∀ j : Nat, j < 14 → ff j = clkF mk c.1 c.2.1 c.2.2.1 c.2.2.2 j
theorem CF_add {mk cn k t : Int} {so tu sp ff : Nat → Int} (hc : 0 ≤ cn ∧ cn ≤ 3) (hk : 1 ≤ k) (ht : 1 ≤ t) (h : CF mk (cn, so, tu, sp) ff) : CF mk (cn + 1, updI so cn.toNat k, updI tu cn.toNat t, updI sp cn.toNat 0) (updI (updI (updI ff (2 + 3 * cn).toNat k) (2 + 3 * cn + 1).toNat t) 1 (cn + 1)) := by
  obtain ⟨hv, hf⟩ := h
  refine ⟨fun j hj => ?_, fun j hj => ?_⟩
  · have hj : (j : Int) < cn + 1 := hj
    show 1 ≤ updI so cn.toNat k j ∧ 1 ≤ updI tu cn.toNat t j ∧ updI sp cn.toNat 0 j = 0
    rw [updI_e, updI_e, updI_e]
    by_cases e : j = cn.toNat
    · rw [if_pos e, if_pos e, if_pos e]
      exact ⟨hk, ht, rfl⟩
    · rw [if_neg e, if_neg e, if_neg e]
      exact hv j (show (j : Int) < cn by omega)
  · have q := hf j hj
    have q : ff j = clkF mk cn so tu sp j := q
    show _ = clkF mk (cn + 1) (updI so cn.toNat k) (updI tu cn.toNat t) (updI sp cn.toNat 0) j
    rw [updI_e, updI_e, updI_e]
    unfold clkF at q ⊢
    by_cases c0 : j = 0
    · rw [if_pos c0] at q ⊢
      rw [if_neg (by omega), if_neg (by omega), if_neg (by omega)]
      exact q
    · by_cases c1 : j = 1
      · rw [if_pos c1, if_neg c0, if_pos c1]
      · rw [if_neg c0, if_neg c1] at q ⊢
        rw [if_neg c1]
        by_cases c2 : (((j - 2) / 3 : Nat) : Int) < cn
        · rw [if_pos c2] at q
          have e : ¬ (j - 2) / 3 = cn.toNat := by omega
          rw [if_neg (by omega), if_neg (by omega), if_pos (show (((j - 2) / 3 : Nat) : Int) < cn + 1 by omega), updI_e, updI_e, updI_e, if_neg e, if_neg e, if_neg e]
          exact q
        · rw [if_neg c2] at q
          by_cases c3 : (((j - 2) / 3 : Nat) : Int) = cn
          · have e : (j - 2) / 3 = cn.toNat := by omega
            rw [if_pos (show (((j - 2) / 3 : Nat) : Int) < cn + 1 by omega), updI_e, updI_e, updI_e, if_pos e, if_pos e, if_pos e]
            by_cases d0 : (j - 2) % 3 = 0
            · rw [if_pos d0, if_neg (by omega), if_pos (by omega)]
            · rw [if_neg d0]
              by_cases d1 : (j - 2) % 3 = 1
              · rw [if_pos d1, if_pos (by omega)]
              · rw [if_neg d1, if_neg (by omega), if_neg (by omega)]
                exact q
          · rw [if_neg (show ¬ (((j - 2) / 3 : Nat) : Int) < cn + 1 by omega), if_neg (by omega), if_neg (by omega)]
            exact q
/-- how the model ends -/
def finM (u : PM) : PM := if u.2.2.2.2.1 = 0 ∧ u.2.1 ≠ 1 then mbd 1 u else u
theorem finM_f {u : PM} (h : u.2.2.2.2.1 ≠ 0) : finM u = u := if_neg (fun z => h z.1)
theorem han_cf {f : Nat → Int} {n mk : Int} {c : CS} {s : PS} {ff : Nat → Int} {u : PM} (h : PR s u) (hok : piOK f n s) (hco : csOK c) (h0 : s.2.2.2 = 0) (hw : isW f 1 s) (hcf : CF mk c ff) : PR (h4C f n c.1 s) (hanM f n (ff 1) u) ∧ ((h4C f n c.1 s).2.2.2 = 0 → CF mk (haC f n c s) (hanF f n ff u)) := by
  have e1 : ff 1 = c.1 := hcf.2 1 (by decide)
  have k := PR_han h hok h0 hw hco.1
  rw [← e1] at k ⊢
  refine ⟨k.1, fun z => ?_⟩
  have z2 := k.2 z
  have z4 := h4_0 z
  have zu := PR_ft k.1
  obtain ⟨cn, so, tu, sp⟩ := c
  have e1 : ff 1 = cn := e1
  have hc4 : 0 ≤ cn ∧ cn ≤ 4 := hco.1
  have eh : hanF f n ff u = updI (updI (updI ff (2 + 3 * ff 1).toNat (hanN f n (ff 1) u)) (2 + 3 * ff 1 + 1).toNat (hanT f n (ff 1) u)) 1 (ff 1 + 1) := if_pos (by omega)
  rw [e1] at z z2 z4 eh
  have ea : haC f n (cn, so, tu, sp) s = (cn + 1, updI so cn.toNat (sorI f (h1C f n cn s)), updI tu cn.toNat (nuV f (h2C f n cn s)), updI sp cn.toNat 0) := if_pos z
  rw [ea, eh, z2.1, z2.2]
  exact CF_add ⟨hc4.1, by omega⟩ (by rw [← z2.1]; exact z4.2.2.2.1.1) (by rw [← z2.2]; exact z4.2.2.2.2.1) hcf
theorem loop_eq {f : Nat → Int} {n mk : Int} : ∀ (k1 k2 : Nat) (c : CS) (s : PS) (ff : Nat → Int) (u : PM), PR s u → piOK f n s → pmOK f n u → csOK c → (s.2.2.2 = 0 → CF mk c ff) → hcK c.1 s.2.2.2 k1 → hcK c.1 s.2.2.2 k2 → PR (hlC f n k1 (c, s)).2 (finM (hlN f n k2 (ff, u)).2) ∧ ((hlC f n k1 (c, s)).2.2.2.2 = 0 → CF mk (hlC f n k1 (c, s)).1 (hlN f n k2 (ff, u)).1) := by
  intro k1
  induction k1 with
  | zero =>
    intro k2 c s ff u hP hok hom hco hcf h1 h2
    have hs : s.2.2.2 ≠ 0 := fun z => by
      have := h1 z
      have := hco.1
      omega
    have hu : u.2.2.2.2.1 ≠ 0 := by rw [PR_ft hP]; exact hs
    have e2 : hlN f n k2 (ff, u) = (ff, u) := hlN_end (fun z => hu (namF_ft z)) k2
    rw [e2]
    show PR s (finM u) ∧ (s.2.2.2 = 0 → CF mk c ff)
    rw [finM_f hu]
    exact ⟨hP, hcf⟩
  | succ k1 ih =>
    intro k2 c s ff u hP hok hom hco hcf h1 h2
    have pf := PR_ft hP
    have hcv := hP.1
    unfold cvT at hcv
    by_cases h0 : s.2.2.2 = 0
    · have i1 := isW_1 hP hok h0
      by_cases ht : s.1 = 0
      · have e1 : hlC f n (k1 + 1) (c, s) = (c, s) := hlC_end (fun z => z.2 ht) _
        have nw : namF f u ≠ 1751215716 := fun z => by
          have w := i1.mpr z
          have w1 : s.1 = 1 := w.1
          omega
        have e2 : hlN f n k2 (ff, u) = (ff, u) := hlN_end nw k2
        rw [e1, e2]
        show PR s (finM u) ∧ (s.2.2.2 = 0 → CF mk c ff)
        rw [show finM u = u from if_neg (fun z => by omega)]
        exact ⟨hP, hcf⟩
      · have go := hlC_go (n := n) (f := f) (c := c) (s := s) hco h1 ⟨h0, ht⟩
        by_cases hw : isW f 1 s
        · have go2 := hlC_go (n := n) (f := f) (c := c) (s := s) hco h2 ⟨h0, ht⟩
          have cf := hcf h0
          have e1 : ff 1 = c.1 := cf.2 1 (by decide)
          have gm := hlN_go (n := n) (ff := ff) (k := k2) hom (by rw [e1]; exact hco.1) (fun z => by have := h2 h0; rw [e1]; exact this) (i1.mp hw)
          have hh := han_cf hP hok hco h0 hw cf
          rw [go.2.1, gm.2.1]
          exact ih (k2 - 1) _ _ _ _ hh.1 (piOK_h4 hok) (pmOK_hanM hom) (csOK_ha hco) hh.2 go.2.2 go2.2.2
        · have nw : namF f u ≠ 1751215716 := fun z => hw (i1.mpr z)
          have e2 : hlN f n k2 (ff, u) = (ff, u) := hlN_end nw k2
          have nn := PR_non (n := n) (cn := c.1) hP h0 hw
          have hf1 : (h4C f n c.1 s).2.2.2 ≠ 0 := by rw [nn.1]; exact (show (1 : Int) ≠ 0 by decide)
          rw [go.2.1, e2, hlC_st hf1]
          show PR (h4C f n c.1 s) (finM u) ∧ _
          rw [show finM u = mbd 1 u from if_pos ⟨by omega, by omega⟩]
          exact ⟨nn.2, fun z => absurd z hf1⟩
    · have e1 : hlC f n (k1 + 1) (c, s) = (c, s) := hlC_st h0 _
      have hu : u.2.2.2.2.1 ≠ 0 := by omega
      have e2 : hlN f n k2 (ff, u) = (ff, u) := hlN_end (fun z => hu (namF_ft z)) k2
      rw [e1, e2]
      show PR s (finM u) ∧ (s.2.2.2 = 0 → CF mk c ff)
      rw [finM_f hu]
      exact ⟨hP, hcf⟩
theorem read_eq {f : Nat → Int} {n tk sa ti fp : Int} {ff : Nat → Int} {c : CS} (hn : 0 ≤ n) (hco : csOK (0, c.2)) : PR (rdR f n c).2 (clS f n ff (mnx f n (0, tk, sa, ti, 0, fp))) ∧ ((rdR f n c).2.2.2.2 = 0 → CF (nuV f (rd1 f n)) (rdR f n c).1 (clR f n ff (mnx f n (0, tk, sa, ti, 0, fp))).1) := by
  obtain ⟨u0, hu0⟩ : ∃ u0 : PM, u0 = mnx f n (0, tk, sa, ti, 0, fp) := ⟨_, rfl⟩
  have p0 : PR (rdP f n) u0 := by rw [hu0]; exact PR_adv
  have o0 : piOK f n (rdP f n) := piOK_rdP hn
  have m0 : pmOK f n u0 := by rw [hu0]; exact pmOK_0 hn
  rw [← hu0]
  have p1 : PR (rd1 f n) (cl1 f n u0) := by
    unfold rd1 wdC cl1
    refine PR_pas p0 (fun z => ?_)
    have i0 := isW_0 p0 o0 z
    by_cases w : isW f 0 (rdP f n)
    · rw [pI_1 w, if_pos (i0.mp w)]
    · rw [pI_0 w, if_neg (fun z => w (i0.mpr z))]
  have o1 : piOK f n (rd1 f n) := piOK_wd o0
  have p2 : PR (nuC f n 2 60 (rd1 f n)) (numM f n 2 60 (cl1 f n u0)) := PR_num p1 o1 (by decide)
  have p3 : PR (rd3 f n) (cl3 f n u0) := PR_sgn p2
  have o3 : piOK f n (rd3 f n) := piOK_sn (piOK_nu o1)
  have m1 : pmOK f n (cl1 f n u0) := pmOK_mmu m0
  have m3 : pmOK f n (cl3 f n u0) := pmOK_men (pmOK_num m1)
  have pf3 := PR_ft p3
  have eS : clS f n ff u0 = finM (clR f n ff u0).2 := rfl
  rw [eS]
  unfold rdR clR
  by_cases h0 : (rd3 f n).2.2.2 = 0
  · have i1 := isW_1 p3 o3 h0
    by_cases hw : isW f 1 (rd3 f n)
    · have e4 : cl4 f n u0 = cl3 f n u0 := if_pos (i1.mp hw)
      rw [e4]
      have z2 := pas_0 (by decide) (show (snC f n (nuC f n 2 60 (rd1 f n))).2.2.2 = 0 from h0)
      have z1 := nuC_0 z2.1
      have ev := num_v (f := f) p1 z1.1
      have cf : CF (nuV f (rd1 f n)) (0, c.2) (updI (zrI ff) 0 (numV f (cl1 f n u0))) := by
        refine ⟨fun h hh => ?_, fun j hj => ?_⟩
        · have hh : (h : Int) < 0 := hh
          omega
        · show _ = clkF (nuV f (rd1 f n)) 0 c.2.1 c.2.2.1 c.2.2.2 j
          rw [updI_e, ev]
          unfold clkF zrI
          by_cases c0 : j = 0
          · rw [if_pos c0, if_pos c0]
          · rw [if_neg c0, if_neg c0, if_pos hj]
            by_cases c1 : j = 1
            · rw [if_pos c1]
            · rw [if_neg c1, if_neg (by omega)]
      have nt : (rd3 f n).1 ≠ 0 := fun z => by
        have w1 : (rd3 f n).1 = 1 := hw.1
        omega
      have k5 : hcK (0, c.2).1 (rd3 f n).2.2.2 5 := fun _ => by
        show (5 : Int) - 0 ≤ ((5 : Nat) : Int)
        decide
      have go := hlC_go (n := n) (f := f) (c := (0, c.2)) (s := rd3 f n) hco k5 ⟨h0, nt⟩
      have e1 : (updI (zrI ff) 0 (numV f (cl1 f n u0))) 1 = 0 := cf.2 1 (by decide)
      have gm := hlN_go (n := n) (k := 5) (ff := updI (zrI ff) 0 (numV f (cl1 f n u0))) m3 (by rw [e1]; decide) (fun z => by rw [e1]; decide) (i1.mp hw)
      have hh := han_cf p3 o3 hco h0 hw cf
      rw [gm.2.1]
      refine loop_eq 5 4 _ _ _ _ hh.1 (piOK_h4 o3) (pmOK_hanM m3) (csOK_ha hco) hh.2 (fun z => ?_) go.2.2
      have q := go.2.2 z
      have q : 5 - (haC f n (0, c.2) (rd3 f n)).1 ≤ ((4 : Nat) : Int) := q
      show 5 - (haC f n (0, c.2) (rd3 f n)).1 ≤ ((5 : Nat) : Int)
      omega
    · have nw : namF f (cl3 f n u0) ≠ 1751215716 := fun z => hw (i1.mpr z)
      have e4 : cl4 f n u0 = mbd 1 (cl3 f n u0) := if_neg nw
      have nn := PR_non (n := n) (cn := 0) p3 h0 hw
      have hf1 : (h4C f n 0 (rd3 f n)).2.2.2 ≠ 0 := by rw [nn.1]; exact (show (1 : Int) ≠ 0 by decide)
      have hm1 : (mbd 1 (cl3 f n u0)).2.2.2.2.1 ≠ 0 := mbd_ne (by decide)
      rw [e4, hlN_end (u := (_, mbd 1 (cl3 f n u0))) (fun z => hm1 (namF_ft z)), hlC_st hf1]
      show PR (h4C f n 0 (rd3 f n)) (finM (mbd 1 (cl3 f n u0))) ∧ _
      rw [finM_f hm1]
      exact ⟨nn.2, fun z => absurd z hf1⟩
  · have hu : (cl3 f n u0).2.2.2.2.1 ≠ 0 := by omega
    have nw : namF f (cl3 f n u0) ≠ 1751215716 := fun z => hu (namF_ft z)
    have e4 : cl4 f n u0 = cl3 f n u0 := by
      show (if namF f (cl3 f n u0) = 1751215716 then cl3 f n u0 else mbd 1 (cl3 f n u0)) = _
      rw [if_neg nw]
      exact if_neg hu
    have eh : h4C f n 0 (rd3 f n) = rd3 f n := h4C_f h0
    rw [e4, hlN_end (u := (_, cl3 f n u0)) nw, eh, hlC_st h0]
    show PR (rd3 f n) (finM (cl3 f n u0)) ∧ _
    rw [finM_f hu]
    exact ⟨p3, fun z => absurd z h0⟩
