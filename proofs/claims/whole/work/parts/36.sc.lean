/-! class and model side by side: clocks -/
def CK (mk cn : Int) (so tu sp : Nat → Int) : Prop := ((cn = 0 ∧ mk = 0) ∨ (1 ≤ cn ∧ cn ≤ 4 ∧ 2 ≤ mk ∧ mk ≤ 60)) ∧ Bd 0 5 so ∧ Bd 0 12 tu ∧ Bd 0 59 sp ∧ ∀ h : Nat, (h : Int) < cn → 1 ≤ so h ∧ 1 ≤ tu h ∧ sp h < mk
def clkF (mk cn : Int) (so tu sp : Nat → Int) : Nat → Int := fun j => if j = 0 then mk else if j = 1 then cn else if (((j - 2) / 3 : Nat) : Int) < cn then (if (j - 2) % 3 = 0 then so ((j - 2) / 3) else if (j - 2) % 3 = 1 then tu ((j - 2) / 3) else sp ((j - 2) / 3)) else 0
theorem CK.c4 {mk cn : Int} {so tu sp : Nat → Int} (h : CK mk cn so tu sp) : 0 ≤ cn ∧ cn ≤ 4 := by rcases h.1 with q | q <;> omega
theorem CK.m60 {mk cn : Int} {so tu sp : Nat → Int} (h : CK mk cn so tu sp) : 0 ≤ mk ∧ mk ≤ 60 := by rcases h.1 with q | q <;> omega
theorem CK.mc {mk cn : Int} {so tu sp : Nat → Int} (h : CK mk cn so tu sp) : (0 < cn → 0 < mk) ∧ (0 < mk → 1 ≤ cn) ∧ (cn = 0 ↔ ¬ 0 < mk) := by rcases h.1 with q | q <;> omega
theorem clkF_0 {mk cn : Int} {so tu sp : Nat → Int} : clkF mk cn so tu sp 0 = mk := rfl
theorem clkF_1 {mk cn : Int} {so tu sp : Nat → Int} : clkF mk cn so tu sp 1 = cn := rfl
theorem clkF_k {mk cn : Int} {so tu sp : Nat → Int} (h : Nat) : kM (clkF mk cn so tu sp) h = if (h : Int) < cn then so h else 0 := by
  show clkF mk cn so tu sp (2 + 3 * h) = _
  unfold clkF
  rw [if_neg (by omega), if_neg (by omega), show (2 + 3 * h - 2) / 3 = h by omega, show (2 + 3 * h - 2) % 3 = 0 by omega, if_pos rfl]
theorem clkF_t {mk cn : Int} {so tu sp : Nat → Int} (h : Nat) : tM (clkF mk cn so tu sp) h = if (h : Int) < cn then tu h else 0 := by
  show clkF mk cn so tu sp (3 + 3 * h) = _
  unfold clkF
  rw [if_neg (by omega), if_neg (by omega), show (3 + 3 * h - 2) / 3 = h by omega, show (3 + 3 * h - 2) % 3 = 1 by omega]
  by_cases c : (h : Int) < cn
  · rw [if_pos c, if_pos c, if_neg (by decide), if_pos rfl]
  · rw [if_neg c, if_neg c]
theorem clkF_s {mk cn : Int} {so tu sp : Nat → Int} (h : Nat) : sM (clkF mk cn so tu sp) h = if (h : Int) < cn then sp h else 0 := by
  show clkF mk cn so tu sp (4 + 3 * h) = _
  unfold clkF
  rw [if_neg (by omega), if_neg (by omega), show (4 + 3 * h - 2) / 3 = h by omega, show (4 + 3 * h - 2) % 3 = 2 by omega]
  by_cases c : (h : Int) < cn
  · rw [if_pos c, if_pos c, if_neg (by decide), if_neg (by decide)]
  · rw [if_neg c, if_neg c]
theorem at4 {cn : Int} {f f2 : Nat → Int} (hc : 0 ≤ cn ∧ cn ≤ 4) (hf : ∀ h : Nat, f2 h = if (h : Int) < cn then f h else 0) (h : Int) : atI 4 f2 h = atI cn f h := by
  unfold atI
  by_cases c : 0 ≤ h ∧ h < 4
  · rw [if_pos c, hf h.toNat]
    by_cases c2 : h < cn
    · rw [if_pos (by omega), if_pos ⟨c.1, c2⟩]
    · rw [if_neg (by omega), if_neg (by omega)]
  · rw [if_neg c, if_neg (by omega)]
theorem at_k {mk cn : Int} {so tu sp : Nat → Int} (hc : 0 ≤ cn ∧ cn ≤ 4) (h : Int) : atI 4 (kM (clkF mk cn so tu sp)) h = atI cn so h := at4 hc clkF_k h
theorem at_t {mk cn : Int} {so tu sp : Nat → Int} (hc : 0 ≤ cn ∧ cn ≤ 4) (h : Int) : atI 4 (tM (clkF mk cn so tu sp)) h = atI cn tu h := at4 hc clkF_t h
theorem at_s {mk cn : Int} {so tu sp : Nat → Int} (hc : 0 ≤ cn ∧ cn ≤ 4) (h : Int) : atI 4 (sM (clkF mk cn so tu sp)) h = atI cn sp h := at4 hc clkF_s h
theorem spd_e {mk cn : Int} {so tu sp : Nat → Int} (hc : 0 ≤ cn ∧ cn ≤ 4) (h : Int) : spdM (clkF mk cn so tu sp) h = spdI cn so tu h := by
  unfold spdM spdI
  rw [at_k hc, at_t hc]
theorem clkF_bd {mk cn : Int} {so tu sp : Nat → Int} (h : CK mk cn so tu sp) : Bd 0 60 (clkF mk cn so tu sp) := by
  intro j
  have c := h.c4
  have m := h.m60
  have q1 := h.2.1 ((j - 2) / 3)
  have q2 := h.2.2.1 ((j - 2) / 3)
  have q3 := h.2.2.2.1 ((j - 2) / 3)
  unfold clkF
  (repeat split) <;> omega
theorem clkF_t3 {mk cn : Int} {so tu sp : Nat → Int} (h : CK mk cn so tu sp) : Bd 0 12 (tM (clkF mk cn so tu sp)) := by
  intro j
  rw [clkF_t]
  have := h.2.2.1 j
  split <;> omega
theorem clkF_c1 {mk cn : Int} {so tu sp : Nat → Int} (h : CK mk cn so tu sp) : 0 ≤ clkF mk cn so tu sp 1 ∧ clkF mk cn so tu sp 1 ≤ 4 := h.c4
theorem clkF_hk {mk cn : Int} {so tu sp : Nat → Int} (h : CK mk cn so tu sp) : ∀ i : Int, 0 ≤ i → i < clkF mk cn so tu sp 1 → 1 ≤ atI 4 (kM (clkF mk cn so tu sp)) i ∧ atI 4 (kM (clkF mk cn so tu sp)) i ≤ 5 := by
  intro i h0 h1
  have h1 : i < cn := h1
  rw [at_k h.c4]
  unfold atI
  rw [if_pos ⟨h0, h1⟩]
  exact ⟨(h.2.2.2.2 i.toNat (by omega)).1, (h.2.1 _).2⟩
theorem clkF_mix {mk cn : Int} {so tu sp so2 tu2 sp2 : Nat → Int} (hc : 0 ≤ cn ∧ cn ≤ 4) : clkF mk cn (mixI so so2) (mixI tu tu2) (mixI sp sp2) = clkF mk cn so tu sp := by
  funext j
  unfold clkF mixI
  by_cases c : (((j - 2) / 3 : Nat) : Int) < cn
  · have e : (j - 2) / 3 < 4 := by omega
    rw [if_pos c, if_pos c]
    simp only [if_pos e]
  · rw [if_neg c, if_neg c]
theorem CK_mix {mk cn : Int} {so tu sp so2 tu2 sp2 : Nat → Int} (h : CK mk cn so tu sp) (h1 : Bd 0 5 so2) (h2 : Bd 0 12 tu2) (h3 : Bd 0 59 sp2) : CK mk cn (mixI so so2) (mixI tu tu2) (mixI sp sp2) := by
  refine ⟨h.1, Bd_mix h.2.1 h1, Bd_mix h.2.2.1 h2, Bd_mix h.2.2.2.1 h3, fun j hj => ?_⟩
  have c := h.c4
  unfold mixI
  rw [if_pos (by omega), if_pos (by omega), if_pos (by omega)]
  exact h.2.2.2.2 j hj
theorem clkF_hi {mk cn : Int} {so tu sp : Nat → Int} (hc : 0 ≤ cn ∧ cn ≤ 4) {j : Nat} (hj : 14 ≤ j) : clkF mk cn so tu sp j = 0 := by
  unfold clkF
  rw [if_neg (by omega), if_neg (by omega), if_neg (by omega)]
theorem clkF_slip {mk cn v : Int} {so tu sp : Nat → Int} {h : Nat} (hh : (h : Int) < cn) : updI (clkF mk cn so tu sp) (4 + 3 * h) v = clkF mk cn so tu (updI sp h v) := by
  funext j
  rw [updI_e]
  unfold clkF
  by_cases e : j = 4 + 3 * h
  · rw [if_pos e, if_neg (by omega), if_neg (by omega), if_pos (by omega), if_neg (by omega), if_neg (by omega), updI_e, if_pos (by omega)]
  · rw [if_neg e]
    by_cases c0 : j = 0
    · rw [if_pos c0, if_pos c0]
    · by_cases c1 : j = 1
      · rw [if_neg c0, if_pos c1, if_neg c0, if_pos c1]
      · rw [if_neg c0, if_neg c1, if_neg c0, if_neg c1]
        by_cases c2 : (((j - 2) / 3 : Nat) : Int) < cn
        · rw [if_pos c2, if_pos c2]
          by_cases c3 : (j - 2) % 3 = 0
          · rw [if_pos c3, if_pos c3]
          · by_cases c4 : (j - 2) % 3 = 1
            · rw [if_neg c3, if_pos c4, if_neg c3, if_pos c4]
            · rw [if_neg c3, if_neg c4, if_neg c3, if_neg c4, updI_e, if_neg (by omega)]
        · rw [if_neg c2, if_neg c2]
/-! rows -/
def SR (it la le fl fm fi : Nat → Int) : Prop := Bd (-2147483648) 2147483647 it ∧ Bd (-1) 2 la ∧ Bd 0 40 le ∧ Bd (-1) 2 fl ∧ Bd 0 40 fm ∧ Bd (-2147483648) 2147483647 fi ∧ ∀ r : Nat, r < 8 → la r = fl r ∧ (la r = -1 → le r = 0) ∧ (la r ≠ -1 → le r = fm r) ∧ ∀ j : Int, 0 ≤ j → j < le r → it ((r : Int) * 40 + j).toNat = fi ((r : Int) * 40 + j).toNat
theorem SR_row {it la le fl fm fi it2 fi2 : Nat → Int} {r l n : Int} (h : SR it la le fl fm fi) (hr : 0 ≤ r ∧ r < 8) (hl : 0 ≤ l ∧ l ≤ 2) (hn : 0 ≤ n ∧ n ≤ 40) (h1 : ∀ j : Nat, it2 j = if r * 40 ≤ (j : Int) ∧ (j : Int) < r * 40 + n then 0 else it j) (h2 : ∀ j : Nat, fi2 j = if r * 40 ≤ (j : Int) ∧ (j : Int) < r * 40 + 40 then 0 else fi j) : SR it2 (updI la r.toNat l) (updI le r.toNat n) (updI fl r.toNat l) (updI fm r.toNat n) fi2 := by
  obtain ⟨b1, b2, b3, b4, b5, b6, h⟩ := h
  refine ⟨fun j => ?_, Bd_up b2 (by omega) hl.2, Bd_up b3 hn.1 hn.2, Bd_up b4 (by omega) hl.2, Bd_up b5 hn.1 hn.2, fun j => ?_, fun q hq => ?_⟩
  · have := b1 j
    rw [h1]
    split <;> omega
  · have := b6 j
    rw [h2]
    split <;> omega
  · have g := h q hq
    rw [updI_e, updI_e, updI_e, updI_e]
    by_cases e : q = r.toNat
    · rw [if_pos e, if_pos e, if_pos e, if_pos e]
      refine ⟨rfl, fun z => by omega, fun _ => rfl, fun j j0 j1 => ?_⟩
      rw [h1, h2, if_pos (by omega), if_pos (by omega)]
    · rw [if_neg e, if_neg e, if_neg e, if_neg e]
      refine ⟨g.1, g.2.1, g.2.2.1, fun j j0 j1 => ?_⟩
      have := b3 q
      rw [h1, h2, if_neg (by omega), if_neg (by omega)]
      exact g.2.2.2 j j0 j1
theorem SR_set {it la le fl fm fi : Nat → Int} {r i v : Int} (h : SR it la le fl fm fi) (hr : 0 ≤ r ∧ r < 8) (hi : 0 ≤ i ∧ i < le r.toNat) (hv : R32 v) : SR (updI it (r * 40 + i).toNat v) la le fl fm (updI fi (r * 40 + i).toNat v) := by
  obtain ⟨b1, b2, b3, b4, b5, b6, h⟩ := h
  refine ⟨Bd_up b1 hv.1 hv.2, b2, b3, b4, b5, Bd_up b6 hv.1 hv.2, fun q hq => ?_⟩
  have g := h q hq
  refine ⟨g.1, g.2.1, g.2.2.1, fun j j0 j1 => ?_⟩
  rw [updI_e, updI_e, g.2.2.2 j j0 j1]
theorem SR_drop {it la le fl fm fi : Nat → Int} {r : Int} (h : SR it la le fl fm fi) (hr : 0 ≤ r ∧ r < 8) : SR it (updI la r.toNat (-1)) (updI le r.toNat 0) (updI fl r.toNat (-1)) fm fi := by
  obtain ⟨b1, b2, b3, b4, b5, b6, h⟩ := h
  refine ⟨b1, Bd_up b2 (by decide) (by decide), Bd_up b3 (by decide) (by decide), Bd_up b4 (by decide) (by decide), b5, b6, fun q hq => ?_⟩
  have g := h q hq
  rw [updI_e, updI_e, updI_e]
  by_cases e : q = r.toNat
  · rw [if_pos e, if_pos e, if_pos e]
    exact ⟨rfl, fun _ => rfl, fun z => absurd rfl z, fun j j0 j1 => by omega⟩
  · rw [if_neg e, if_neg e, if_neg e]
    exact g
theorem SR_copy {it la le fl fm fi fi2 : Nat → Int} {a i b j n : Int} (h : SR it la le fl fm fi) (ha : 0 ≤ a ∧ a < 8) (hb : 0 ≤ b ∧ b < 8) (hn : 0 ≤ i ∧ 0 ≤ n ∧ i + n ≤ le a.toNat ∧ 0 ≤ j ∧ j + n ≤ le b.toNat) (h2 : ∀ x : Nat, fi2 x = if b * 40 + j ≤ (x : Int) ∧ (x : Int) < b * 40 + j + n then fi ((a * 40 + i).toNat + (x - (b * 40 + j).toNat)) else fi x) : SR (cpyI it it (a * 40 + i).toNat (b * 40 + j).toNat n.toNat) la le fl fm fi2 := by
  obtain ⟨b1, b2, b3, b4, b5, b6, h⟩ := h
  refine ⟨Bd_cpy b1 b1, b2, b3, b4, b5, fun x => ?_, fun q hq => ?_⟩
  · have q1 := b6 x
    have q2 := b6 ((a * 40 + i).toNat + (x - (b * 40 + j).toNat))
    rw [h2]
    split <;> omega
  · have g := h q hq
    refine ⟨g.1, g.2.1, g.2.2.1, fun k k0 k1 => ?_⟩
    have hk := b3 q
    rw [h2]
    unfold cpyI
    by_cases c : b * 40 + j ≤ ((((q : Int) * 40 + k).toNat : Nat) : Int) ∧ ((((q : Int) * 40 + k).toNat : Nat) : Int) < b * 40 + j + n
    · have hb3 := b3 b.toNat
      have ga := (h a.toNat (by omega)).2.2.2 (i + (((q : Int) * 40 + k) - (b * 40 + j))) (by omega) (by omega)
      rw [if_pos (by omega), if_pos c]
      rw [show (((a.toNat : Nat) : Int) * 40 + (i + ((q : Int) * 40 + k - (b * 40 + j)))).toNat = (a * 40 + i).toNat + (((q : Int) * 40 + k).toNat - (b * 40 + j).toNat) by omega] at ga
      exact ga
    · rw [if_neg (by omega), if_neg c]
      exact g.2.2.2 k k0 k1
/-! slips -/
def SA (ln : Int) (hs ss fw : Nat → Int) (mk cn : Int) (so tu sp : Nat → Int) : Prop := (0 ≤ ln ∧ ln ≤ 24) ∧ Bd 0 59 hs ∧ Bd 0 59 ss ∧ Bd 0 60 fw ∧ ∃ S : Nat → Nat → Int, S ln.toNat = sp ∧ ∀ i : Nat, (i : Int) < ln → hs i < cn ∧ ss i < mk ∧ S i = updI (S (i + 1)) (hs i).toNat (ss i) ∧ ∀ j : Nat, j < 14 → fw (14 * i + j) = clkF mk cn so tu (S i) j
theorem SA_0 {hs ss fw : Nat → Int} {mk cn : Int} {so tu sp : Nat → Int} (h1 : Bd 0 59 hs) (h2 : Bd 0 59 ss) (h3 : Bd 0 60 fw) : SA 0 hs ss fw mk cn so tu sp := ⟨⟨by decide, by decide⟩, h1, h2, h3, fun _ => sp, rfl, fun i hi => by omega⟩
theorem CK_slip {mk cn v : Int} {so tu sp : Nat → Int} {h : Nat} (hk : CK mk cn so tu sp) (hv : 0 ≤ v ∧ v < mk) : CK mk cn so tu (updI sp h v) := by
  have m := hk.m60
  refine ⟨hk.1, hk.2.1, hk.2.2.1, Bd_up hk.2.2.2.1 hv.1 (by omega), fun j hj => ?_⟩
  have g := hk.2.2.2.2 j hj
  refine ⟨g.1, g.2.1, ?_⟩
  rw [updI_e]
  split
  · exact hv.2
  · exact g.2.2
theorem upd_back {f : Nat → Int} {k : Nat} {x : Int} : updI (updI f k x) k (f k) = f := by
  funext j
  rw [updI_e, updI_e]
  split
  next e => rw [e]
  next e => rfl
theorem SA_slip {ln h m : Int} {hs ss fw : Nat → Int} {mk cn v : Int} {so tu sp : Nat → Int} (hk : CK mk cn so tu sp) (hA : SA ln hs ss fw mk cn so tu sp) (hh : 0 ≤ h ∧ h < cn) (hv : 0 ≤ v ∧ v < mk) :
    SA ((if ln < 24 then ln else 23) + 1) (updI (if ln < 24 then hs else cpyI hs hs 1 0 23) (if ln < 24 then ln else 23).toNat h) (updI (if ln < 24 then ss else cpyI ss ss 1 0 23) (if ln < 24 then ln else 23).toNat (sp h.toNat)) (kpW (clkF mk cn so tu sp) fw ln) mk cn so tu (updI sp h.toNat v) := by
  obtain ⟨hl, hb1, hb2, hb3, S, hS, hA⟩ := hA
  have c4 := hk.c4
  have s59 := hk.2.2.2.1 h.toNat
  have sm := (hk.2.2.2.2 h.toNat (by omega)).2.2
  obtain ⟨n, hn⟩ : ∃ n : Int, n = (if ln < 24 then ln else 23) := ⟨_, rfl⟩
  obtain ⟨d, hd⟩ : ∃ d : Nat, d = (if ln < 24 then 0 else 1) := ⟨_, rfl⟩
  have hnd : 0 ≤ n ∧ n ≤ 23 ∧ n + d = ln := by rw [hn, hd]; split <;> omega
  have eH : ∀ (f : Nat → Int) (i : Nat), (i : Int) < n → (if ln < 24 then f else cpyI f f 1 0 23) i = f (i + d) := by
    intro f i hi
    by_cases c : ln < 24
    · rw [if_pos c, hd, if_pos c]
      rfl
    · rw [if_neg c, hd, if_neg c]
      unfold cpyI
      rw [if_pos (by omega)]
      congr 1
      omega
  have eW : ∀ (i j : Nat), (i : Int) < n → j < 14 → kpW (clkF mk cn so tu sp) fw ln (14 * i + j) = fw (14 * (i + d) + j) := by
    intro i j hi hj
    unfold kpW shW acN
    rw [← hn, if_neg (by omega)]
    by_cases c : ln < 24
    · rw [if_pos c, hd, if_pos c]
      rfl
    · rw [if_neg c, if_pos (by omega), hd, if_neg c]
      congr 1
      omega
  have eN : ∀ j : Nat, j < 14 → kpW (clkF mk cn so tu sp) fw ln (14 * n.toNat + j) = clkF mk cn so tu sp j := by
    intro j hj
    unfold kpW acN
    rw [← hn, if_pos (by omega)]
    congr 1
    omega
  rw [← hn]
  have bC := clkF_bd hk
  refine ⟨by omega, Bd_up ?_ hh.1 (by omega), Bd_up ?_ s59.1 s59.2, fun j => ?_, fun i => if (i : Int) ≤ n then S (i + d) else updI sp h.toNat v, ?_, ?_⟩
  · split
    · exact hb1
    · exact Bd_cpy hb1 hb1
  · split
    · exact hb2
    · exact Bd_cpy hb2 hb2
  · unfold kpW shW
    have q1 := bC (j - (14 * acN ln).toNat)
    have q2 := hb3 j
    have q3 := hb3 (j + 14)
    (repeat split) <;> omega
  · show (if (((n + 1).toNat : Nat) : Int) ≤ n then S ((n + 1).toNat + d) else updI sp h.toNat v) = _
    rw [if_neg (by omega)]
  · intro i hi
    by_cases c : i = n.toNat
    · subst c
      have e1 : S (n.toNat + d) = sp := by rw [← hS]; congr 1; omega
      rw [updI_e, updI_e, if_pos rfl, if_pos rfl]
      refine ⟨hh.2, sm, ?_, fun j hj => ?_⟩
      · show (if ((n.toNat : Nat) : Int) ≤ n then S (n.toNat + d) else updI sp h.toNat v) = updI (if ((n.toNat + 1 : Nat) : Int) ≤ n then S (n.toNat + 1 + d) else updI sp h.toNat v) h.toNat (sp h.toNat)
        rw [if_pos (by omega), if_neg (by omega), upd_back, e1]
      · show _ = clkF mk cn so tu (if ((n.toNat : Nat) : Int) ≤ n then S (n.toNat + d) else updI sp h.toNat v) j
        rw [if_pos (by omega), e1]
        exact eN j hj
    · have g := hA (i + d) (by omega)
      rw [updI_e, updI_e, if_neg c, if_neg c, eH hs i (by omega), eH ss i (by omega)]
      refine ⟨g.1, g.2.1, ?_, fun j hj => ?_⟩
      · show (if (i : Int) ≤ n then S (i + d) else updI sp h.toNat v) = updI (if ((i + 1 : Nat) : Int) ≤ n then S (i + 1 + d) else updI sp h.toNat v) (hs (i + d)).toNat (ss (i + d))
        rw [if_pos (by omega), if_pos (by omega), g.2.2.1, show i + 1 + d = i + d + 1 by omega]
      · show _ = clkF mk cn so tu (if (i : Int) ≤ n then S (i + d) else updI sp h.toNat v) j
        rw [if_pos (by omega), eW i j (by omega) hj]
        exact g.2.2.2 j hj
theorem SA_undo {ln : Int} {hs ss fw : Nat → Int} {mk cn : Int} {so tu sp : Nat → Int} (hk : CK mk cn so tu sp) (hA : SA ln hs ss fw mk cn so tu sp) (hl : 1 ≤ ln) :
    CK mk cn so tu (updI sp (hs (ln - 1).toNat).toNat (ss (ln - 1).toNat)) ∧ SA (ln - 1) hs ss fw mk cn so tu (updI sp (hs (ln - 1).toNat).toNat (ss (ln - 1).toNat)) ∧ unC (clkF mk cn so tu sp) fw ln = clkF mk cn so tu (updI sp (hs (ln - 1).toNat).toNat (ss (ln - 1).toNat)) := by
  obtain ⟨hl2, hb1, hb2, hb3, S, hS, hA⟩ := hA
  have g := hA (ln - 1).toNat (by omega)
  have e1 : S ((ln - 1).toNat + 1) = sp := by rw [← hS]; congr 1; omega
  rw [e1] at g
  refine ⟨CK_slip hk ⟨(hb2 _).1, g.2.1⟩, ⟨by omega, hb1, hb2, hb3, S, g.2.2.1, fun i hi => hA i (by omega)⟩, ?_⟩
  funext j
  unfold unC
  by_cases c : j < 14
  · rw [if_pos c, ← g.2.2.1, show (14 * (ln - 1)).toNat = 14 * (ln - 1).toNat by omega]
    exact g.2.2.2 j c
  · rw [if_neg c, clkF_hi hk.c4 (by omega), clkF_hi hk.c4 (by omega)]
/-! images -/
def SI (k : Nat) (mk cn : Int) (so tu sp fk fe : Nat → Int) : Prop := (0 ≤ cn ∧ cn ≤ 4) ∧ Bd 0 5 so ∧ Bd 0 12 tu ∧ Bd 0 59 sp ∧ ((fk k = 0 ∧ cn = 0) ∨ (fk k = 1 ∧ 1 ≤ cn ∧ CK mk cn so tu sp ∧ ∀ j : Nat, j < 14 → fe (14 * k + j) = clkF mk cn so tu sp j))
theorem SI_new {k : Nat} {mk cn mk1 cn1 : Int} {so tu sp so1 tu1 sp1 fk fe : Nat → Int} (hk : CK mk cn so tu sp) (hc : cn ≠ 0) (h : SI k mk1 cn1 so1 tu1 sp1 fk fe) : SI k mk cn (mixI so so1) (mixI tu tu1) (mixI sp sp1) (updI fk k 1) (keM (clkF mk cn so tu sp) fe k) := by
  have c4 := hk.c4
  have hm := CK_mix hk h.2.1 h.2.2.1 h.2.2.2.1
  refine ⟨c4, hm.2.1, hm.2.2.1, hm.2.2.2.1, Or.inr ⟨updI_s _ _ _, by omega, hm, fun j hj => ?_⟩⟩
  rw [clkF_mix c4]
  unfold keM
  rw [if_pos (by omega)]
  congr 1
  all_goals omega
theorem SI_oth {k q : Nat} {mk cn mk1 cn1 : Int} {so tu sp so1 tu1 sp1 fk fe : Nat → Int} (hq : q ≠ k) (h : SI q mk1 cn1 so1 tu1 sp1 fk fe) : SI q mk1 cn1 so1 tu1 sp1 (updI fk k 1) (keM (clkF mk cn so tu sp) fe k) := by
  refine ⟨h.1, h.2.1, h.2.2.1, h.2.2.2.1, ?_⟩
  rw [updI_n _ hq]
  rcases h.2.2.2.2 with g | g
  · exact Or.inl g
  · refine Or.inr ⟨g.1, g.2.1, g.2.2.1, fun j hj => ?_⟩
    rw [← g.2.2.2 j hj]
    unfold keM
    rw [if_neg (by omega)]
theorem SI_back {k : Nat} {mk cn mk1 cn1 : Int} {so tu sp so1 tu1 sp1 fk fe : Nat → Int} (hk : CK mk cn so tu sp) (h : SI k mk1 cn1 so1 tu1 sp1 fk fe) (hf : fk k ≠ 0) : CK mk1 cn1 (mixI so1 so) (mixI tu1 tu) (mixI sp1 sp) ∧ reM (clkF mk cn so tu sp) fe k = clkF mk1 cn1 (mixI so1 so) (mixI tu1 tu) (mixI sp1 sp) := by
  rcases h.2.2.2.2 with g | g
  · exact absurd g.1 hf
  · refine ⟨CK_mix g.2.2.1 hk.2.1 hk.2.2.1 hk.2.2.2.1, ?_⟩
    rw [clkF_mix g.2.2.1.c4]
    funext j
    unfold reM
    by_cases c : j < 14
    · rw [if_pos c, ← g.2.2.2 j c]
      congr 1
    · rw [if_neg c, clkF_hi hk.c4 (by omega), clkF_hi g.2.2.1.c4 (by omega)]
/-! small answers -/
theorem bits_c {b b2 : Nat → Bool} : ∀ n : Nat, (∀ j : Nat, j < n → b j = b2 j) → bitsN b n = bitsN b2 n := by
  intro n
  induction n with
  | zero => intro _; rfl
  | succ n ih =>
    intro h
    show (if b n = true then iOr (bitsN b n) (iShl 1 n) else bitsN b n) = (if b2 n = true then iOr (bitsN b2 n) (iShl 1 n) else bitsN b2 n)
    rw [ih (fun j hj => h j (by omega)), h n (by omega)]
theorem cnt_c {b b2 : Nat → Bool} : ∀ n : Nat, (∀ j : Nat, j < n → b j = b2 j) → cntN b n = cntN b2 n := by
  intro n
  induction n with
  | zero => intro _; rfl
  | succ n ih =>
    intro h
    show cntN b n + (if b n = true then 1 else 0) = cntN b2 n + (if b2 n = true then 1 else 0)
    rw [ih (fun j hj => h j (by omega)), h n (by omega)]
theorem absI_sw (a b : Int) : absI (a - b) = absI (b - a) := by
  unfold absI
  split <;> split <;> omega
theorem all_eq {mk cn : Int} {so tu sp : Nat → Int} (hk : CK mk cn so tu sp) : allM (clkF mk cn so tu sp) = allI cn so tu := by
  unfold allM allI
  congr 1
  funext j
  rw [spd_e hk.c4, spd_e hk.c4, absI_sw]
theorem arc_eq {mk cn h p q : Int} {so tu sp : Nat → Int} (hk : CK mk cn so tu sp) : arcM (clkF mk cn so tu sp) h p q = restI (spdI cn so tu h * p * mk + atI cn sp h * q) (q * mk) := by
  unfold arcM
  rw [spd_e hk.c4, at_s hk.c4]
  rfl
theorem true_eq {mk cn p q : Int} {so tu sp : Nat → Int} (hk : CK mk cn so tu sp) (hq : 1 ≤ q) : trueM (clkF mk cn so tu sp) p q = trueI cn mk so tu sp p q := by
  unfold trueM trueI
  rw [clkF_1]
  refine bits_c _ (fun j hj => ?_)
  have hm : 0 < mk := by rcases hk.1 with z | z <;> omega
  have h0 : 0 < q * mk := Int.mul_pos (by omega) hm
  show decide (2 * arcM (clkF mk cn so tu sp) j p q % (q * mk) = 0) = decide (restI (2 * restI (spdI cn so tu j * p * mk + atI cn sp j * q) (q * mk)) (q * mk) = 0)
  rw [arc_eq hk]
  congr 1
  unfold restI
  rw [if_neg (by omega), if_neg (by omega)]
theorem glass_eq {mk cn p q w : Int} {so tu sp : Nat → Int} (hk : CK mk cn so tu sp) : (if cn = 0 then -1000002 else if (1 ≤ q ∧ q ≤ 9999 ∧ 0 ≤ p ∧ p < q) ∧ 0 ≤ w ∧ w ≤ 2 then (if w = 2 then trueI cn mk so tu sp p q else toldI (restI (-p) q) q w) else -1000001) = (if 0 < clkF mk cn so tu sp 0 then (if (1 ≤ q ∧ q ≤ 9999 ∧ 0 ≤ p ∧ p < q) ∧ 0 ≤ w ∧ w ≤ 2 then (if w < 2 then toldI (if p = 0 then 0 else q - p) q w else trueM (clkF mk cn so tu sp) p q) else -1000001) else -1000002) := by
  have m := hk.mc
  rw [clkF_0]
  by_cases c : cn = 0
  · rw [if_pos c, if_neg (m.2.2.mp c)]
  · have hm : 0 < mk := by omega
    rw [if_neg c, if_pos hm]
    by_cases c2 : (1 ≤ q ∧ q ≤ 9999 ∧ 0 ≤ p ∧ p < q) ∧ 0 ≤ w ∧ w ≤ 2
    · rw [if_pos c2, if_pos c2]
      by_cases c3 : w = 2
      · rw [if_pos c3, if_neg (by omega), true_eq hk c2.1.1]
      · rw [if_neg c3, if_pos (by omega)]
        congr 1
        unfold restI
        rw [if_neg (by omega)]
        by_cases c4 : p = 0
        · rw [if_pos c4, c4]
          simp
        · rw [if_neg c4]
          exact mod_of (by omega) (by omega) (by omega) ⟨-1, by omega⟩
    · rw [if_neg c2, if_neg c2]
theorem okKM {s t : Int} (hs : 1 ≤ s) : okK s t ↔ okM s t := by
  unfold okK okM
  omega
theorem askF_e {mk cn h w : Int} {so tu sp : Nat → Int} (hc : 0 ≤ cn ∧ cn ≤ 4) : askF 4 (kM (clkF mk cn so tu sp)) (tM (clkF mk cn so tu sp)) (sM (clkF mk cn so tu sp)) h w = askF cn so tu sp h w := by
  unfold askF hSz bSz hMk
  rw [at_k hc, at_t hc, at_s hc]
theorem askT_e {mk cn h w : Int} {so tu sp : Nat → Int} {t : TS} (hc : 0 ≤ cn ∧ cn ≤ 4) : askT 4 (kM (clkF mk cn so tu sp)) h w t = askT cn so h w t := by
  unfold askT hSzT bSzT hMkT
  rw [at_k hc]
theorem fdN_c {h h2 : Int → Int} {f : Nat → Int} {n m : Int} (hh : ∀ k : Int, 0 ≤ k → k < m → h k = h2 k) : ∀ j : Nat, (j : Int) ≤ m → fdN h f n m j = fdN h2 f n m j := by
  intro j
  induction j with
  | zero => intro _; rfl
  | succ j ih =>
    intro hj
    show updI (fdN h f n m j) (n + j).toNat (h (m - 1 - j)) = updI (fdN h2 f n m j) (n + j).toNat (h2 (m - 1 - j))
    rw [ih (by omega), hh (m - 1 - j) (by omega) (by omega)]
