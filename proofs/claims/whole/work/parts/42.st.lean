/-! a call on either side: the same answer, and side by side again -/
theorem st_row {it la le fl fm fi : Nat → Int} {sq r l n v7 v8 f7 f8 : Int} {la7 le7 it7 fl8 fm8 fi8 : Nat → Int} (hR : SR it la le fl fm fi)
    (h7 : (¬ (0 ≤ r ∧ r < 8 ∧ 0 ≤ l ∧ l ≤ 2 ∧ n ≤ 40) ∧ v7 = -1000001 ∧ (f7, la7, le7, it7) = (sq, la, le, it)) ∨ ((0 ≤ r ∧ r < 8 ∧ 0 ≤ l ∧ l ≤ 2 ∧ n < 0) ∧ v7 = -1000014 ∧ (f7, la7, le7, it7) = (4, la, le, it)) ∨ ((0 ≤ r ∧ r < 8 ∧ 0 ≤ l ∧ l ≤ 2 ∧ 0 ≤ n ∧ n ≤ 40) ∧ v7 = n ∧ f7 = 0 ∧ la7 = updI la r.toNat l ∧ le7 = updI le r.toNat n ∧ ∀ j : Nat, it7 j = if r * 40 ≤ (j : Int) ∧ (j : Int) < r * 40 + n then 0 else it j))
    (h8 : (¬ (0 ≤ r ∧ r < 8 ∧ 0 ≤ l ∧ l ≤ 2 ∧ n ≤ 40) ∧ v8 = -1000001 ∧ (f8, fl8, fm8, fi8) = (sq, fl, fm, fi)) ∨ ((0 ≤ r ∧ r < 8 ∧ 0 ≤ l ∧ l ≤ 2 ∧ n < 0) ∧ v8 = -1000014 ∧ (f8, fl8, fm8, fi8) = (4, fl, fm, fi)) ∨ ((0 ≤ r ∧ r < 8 ∧ 0 ≤ l ∧ l ≤ 2 ∧ 0 ≤ n ∧ n ≤ 40) ∧ v8 = n ∧ f8 = 0 ∧ fl8 = updI fl r.toNat l ∧ fm8 = updI fm r.toNat n ∧ ∀ j : Nat, fi8 j = if r * 40 ≤ (j : Int) ∧ (j : Int) < r * 40 + 40 then 0 else fi j)) : v7 = v8 ∧ f8 = f7 ∧ SR it7 la7 le7 fl8 fm8 fi8 := by
  rcases h7 with ⟨c, e, q⟩ | ⟨c, e, q⟩ | ⟨c, e, q1, q2, q3, q4⟩ <;> rcases h8 with ⟨d, e2, p⟩ | ⟨d, e2, p⟩ | ⟨d, e2, p1, p2, p3, p4⟩ <;> first
  | (exfalso; omega)
  | (cases q; cases p; exact ⟨by omega, rfl, hR⟩)
  | (subst q1 q2 q3 p1 p2 p3
     exact ⟨by omega, rfl, SR_row hR (by omega) (by omega) (by omega) q4 p4⟩)
theorem SR_la {it la le fl fm fi : Nat → Int} {r : Int} (h : SR it la le fl fm fi) (hr : 0 ≤ r ∧ r < 8) : la r.toNat = fl r.toNat ∧ (la r.toNat = -1 → le r.toNat = 0) ∧ (la r.toNat ≠ -1 → le r.toNat = fm r.toNat) ∧ -1 ≤ fl r.toNat := by
  have g := h.2.2.2.2.2.2 r.toNat (by omega)
  exact ⟨g.1, g.2.1, g.2.2.1, (h.2.2.2.1 _).1⟩
theorem st_set {it la le fl fm fi : Nat → Int} {sq r i v v7 v8 f7 f8 : Int} {it7 fi8 : Nat → Int} (hR : SR it la le fl fm fi) (hv : R32 v)
    (h7 : (¬ (0 ≤ r ∧ r < 8) ∧ v7 = -1000001 ∧ (f7, it7) = (sq, it)) ∨ ((0 ≤ r ∧ r < 8) ∧ ((la r.toNat = -1 ∧ v7 = -1000011 ∧ (f7, it7) = (1, it)) ∨ (la r.toNat ≠ -1 ∧ ¬ (0 ≤ i ∧ i < le r.toNat) ∧ v7 = -1000012 ∧ (f7, it7) = (2, it)) ∨ (la r.toNat ≠ -1 ∧ (0 ≤ i ∧ i < le r.toNat) ∧ v7 = cutI (la r.toNat) v ∧ (f7, it7) = (0, updI it (r * 40 + i).toNat (cutI (la r.toNat) v))))))
    (h8 : (¬ (0 ≤ r ∧ r < 8) ∧ v8 = -1000001 ∧ (f8, fi8) = (sq, fi)) ∨ ((0 ≤ r ∧ r < 8) ∧ ((fl r.toNat < 0 ∧ v8 = -1000011 ∧ (f8, fi8) = (1, fi)) ∨ (0 ≤ fl r.toNat ∧ ¬ (0 ≤ i ∧ i < fm r.toNat) ∧ v8 = -1000012 ∧ (f8, fi8) = (2, fi)) ∨ (0 ≤ fl r.toNat ∧ (0 ≤ i ∧ i < fm r.toNat) ∧ v8 = cutI (fl r.toNat) v ∧ (f8, fi8) = (0, updI fi (r * 40 + i).toNat (cutI (fl r.toNat) v)))))) : v7 = v8 ∧ f8 = f7 ∧ SR it7 la le fl fm fi8 := by
  by_cases hr : 0 ≤ r ∧ r < 8
  · have g := SR_la hR hr
    rcases h7 with ⟨c, -⟩ | ⟨-, h7⟩
    · exact absurd hr c
    · rcases h8 with ⟨c, -⟩ | ⟨-, h8⟩
      · exact absurd hr c
      · rcases h7 with ⟨c, e, q⟩ | ⟨c, c2, e, q⟩ | ⟨c, c2, e, q⟩ <;> rcases h8 with ⟨d, e2, p⟩ | ⟨d, d2, e2, p⟩ | ⟨d, d2, e2, p⟩ <;> first
        | (exfalso; omega)
        | (cases q; cases p; exact ⟨by omega, rfl, hR⟩)
        | (rw [← g.1] at e2 p
           cases q; cases p
           exact ⟨by rw [e, e2], rfl, SR_set hR hr c2 (cutI_bd hv)⟩)
  · rcases h7 with ⟨c, e, q⟩ | ⟨c, -⟩
    · rcases h8 with ⟨d, e2, p⟩ | ⟨d, -⟩
      · cases q; cases p; exact ⟨by omega, rfl, hR⟩
      · exact absurd d hr
    · exact absurd c hr
theorem st_drop {it la le fl fm fi : Nat → Int} {sq r v7 v8 f7 f8 : Int} {la7 le7 fl8 : Nat → Int} (hR : SR it la le fl fm fi)
    (h7 : (¬ (0 ≤ r ∧ r < 8) ∧ v7 = -1000001 ∧ (f7, la7, le7) = (sq, la, le)) ∨ ((0 ≤ r ∧ r < 8) ∧ ((la r.toNat = -1 ∧ v7 = -1000011 ∧ (f7, la7, le7) = (1, la, le)) ∨ (la r.toNat ≠ -1 ∧ v7 = le r.toNat ∧ (f7, la7, le7) = (0, updI la r.toNat (-1), updI le r.toNat 0)))))
    (h8 : (¬ (0 ≤ r ∧ r < 8) ∧ v8 = -1000001 ∧ (f8, fl8) = (sq, fl)) ∨ ((0 ≤ r ∧ r < 8) ∧ ((fl r.toNat < 0 ∧ v8 = -1000011 ∧ (f8, fl8) = (1, fl)) ∨ (0 ≤ fl r.toNat ∧ v8 = fm r.toNat ∧ (f8, fl8) = (0, updI fl r.toNat (-1)))))) : v7 = v8 ∧ f8 = f7 ∧ SR it la7 le7 fl8 fm fi := by
  by_cases hr : 0 ≤ r ∧ r < 8
  · have g := SR_la hR hr
    rcases h7 with ⟨c, -⟩ | ⟨-, h7⟩
    · exact absurd hr c
    · rcases h8 with ⟨c, -⟩ | ⟨-, h8⟩
      · exact absurd hr c
      · rcases h7 with ⟨c, e, q⟩ | ⟨c, e, q⟩ <;> rcases h8 with ⟨d, e2, p⟩ | ⟨d, e2, p⟩ <;> first
        | (exfalso; omega)
        | (cases q; cases p; exact ⟨by omega, rfl, hR⟩)
        | (have g2 := g.2.2.1 c
           cases q; cases p
           exact ⟨by omega, rfl, SR_drop hR hr⟩)
  · rcases h7 with ⟨c, e, q⟩ | ⟨c, -⟩
    · rcases h8 with ⟨d, e2, p⟩ | ⟨d, -⟩
      · cases q; cases p; exact ⟨by omega, rfl, hR⟩
      · exact absurd d hr
    · exact absurd c hr
theorem st_copy {it la le fl fm fi : Nat → Int} {sq a i b j n v7 v8 f7 f8 : Int} {it7 fi8 : Nat → Int} (hR : SR it la le fl fm fi)
    (h7 : (¬ ((0 ≤ a ∧ a < 8) ∧ (0 ≤ b ∧ b < 8)) ∧ v7 = -1000001 ∧ (f7, it7) = (sq, it)) ∨ (((0 ≤ a ∧ a < 8) ∧ (0 ≤ b ∧ b < 8)) ∧ (((la a.toNat = -1 ∨ la b.toNat = -1) ∧ v7 = -1000011 ∧ (f7, it7) = (1, it)) ∨ ((la a.toNat ≠ -1 ∧ la b.toNat ≠ -1) ∧ ((la a.toNat ≠ la b.toNat ∧ v7 = -1000015 ∧ (f7, it7) = (5, it)) ∨ (la a.toNat = la b.toNat ∧ ((¬ (0 ≤ i ∧ 0 ≤ n ∧ i + n ≤ le a.toNat ∧ 0 ≤ j ∧ j + n ≤ le b.toNat) ∧ v7 = -1000012 ∧ (f7, it7) = (2, it)) ∨ ((0 ≤ i ∧ 0 ≤ n ∧ i + n ≤ le a.toNat ∧ 0 ≤ j ∧ j + n ≤ le b.toNat) ∧ v7 = n ∧ (f7, it7) = (0, cpyI it it (a * 40 + i).toNat (b * 40 + j).toNat n.toNat)))))))))
    (h8 : (¬ ((0 ≤ a ∧ a < 8) ∧ (0 ≤ b ∧ b < 8)) ∧ v8 = -1000001 ∧ (f8, fi8) = (sq, fi)) ∨ (((0 ≤ a ∧ a < 8) ∧ (0 ≤ b ∧ b < 8)) ∧ (((fl a.toNat < 0 ∨ fl b.toNat < 0) ∧ v8 = -1000011 ∧ (f8, fi8) = (1, fi)) ∨ ((0 ≤ fl a.toNat ∧ 0 ≤ fl b.toNat) ∧ ((fl a.toNat ≠ fl b.toNat ∧ v8 = -1000015 ∧ (f8, fi8) = (5, fi)) ∨ (fl a.toNat = fl b.toNat ∧ ((¬ (0 ≤ i ∧ 0 ≤ n ∧ i + n ≤ fm a.toNat ∧ 0 ≤ j ∧ j + n ≤ fm b.toNat) ∧ v8 = -1000012 ∧ (f8, fi8) = (2, fi)) ∨ ((0 ≤ i ∧ 0 ≤ n ∧ i + n ≤ fm a.toNat ∧ 0 ≤ j ∧ j + n ≤ fm b.toNat) ∧ v8 = n ∧ f8 = 0 ∧ ∀ x : Nat, fi8 x = if b * 40 + j ≤ (x : Int) ∧ (x : Int) < b * 40 + j + n then fi ((a * 40 + i).toNat + (x - (b * 40 + j).toNat)) else fi x)))))))) : v7 = v8 ∧ f8 = f7 ∧ SR it7 la le fl fm fi8 := by
  by_cases hr : (0 ≤ a ∧ a < 8) ∧ (0 ≤ b ∧ b < 8)
  · have ga := SR_la hR hr.1
    have gb := SR_la hR hr.2
    rcases h7 with ⟨c, -⟩ | ⟨-, h7⟩
    · exact absurd hr c
    · rcases h8 with ⟨c, -⟩ | ⟨-, h8⟩
      · exact absurd hr c
      · rcases h7 with ⟨c, e, q⟩ | ⟨c, ⟨c2, e, q⟩ | ⟨c2, ⟨c3, e, q⟩ | ⟨c3, e, q⟩⟩⟩ <;> rcases h8 with ⟨d, e2, p⟩ | ⟨d, ⟨d2, e2, p⟩ | ⟨d2, ⟨d3, e2, p⟩ | ⟨d3, e2, p1, p2⟩⟩⟩ <;> first
        | (exfalso; omega)
        | (cases q; cases p; exact ⟨by omega, rfl, hR⟩)
        | (cases q
           subst p1
           exact ⟨by omega, rfl, SR_copy hR hr.1 hr.2 c3 p2⟩)
  · rcases h7 with ⟨c, e, q⟩ | ⟨c, -⟩
    · rcases h8 with ⟨d, e2, p⟩ | ⟨d, -⟩
      · cases q; cases p; exact ⟨by omega, rfl, hR⟩
      · exact absurd d hr
    · exact absurd c hr
theorem fbC_b (w : Int64) (k : Int) : 0 ≤ fbC w k ∧ fbC w k ≤ 255 := iAnd_255 _
theorem st_feed {bt : Nat → Int} {tln n v7 v8 l7 l8 : Int} {w : Int64} {b7 b8 : Nat → Int} (hb : Bd 0 255 bt) (ht : 0 ≤ tln ∧ tln ≤ 200)
    (h7 : (¬ (1 ≤ n ∧ n ≤ 8) ∧ v7 = -1000001 ∧ (b7, l7) = (bt, tln)) ∨ ((1 ≤ n ∧ n ≤ 8) ∧ ((200 < tln + n ∧ v7 = -1000003 ∧ (b7, l7) = (bt, tln)) ∨ (tln + n ≤ 200 ∧ v7 = tln + n ∧ (b7, l7) = (fdN (fbC w) bt tln n n.toNat, tln + n)))))
    (h8 : (¬ (1 ≤ n ∧ n ≤ 8) ∧ v8 = -1000001 ∧ (b8, l8) = (bt, tln)) ∨ ((1 ≤ n ∧ n ≤ 8) ∧ ((200 < tln + n ∧ v8 = -1000003 ∧ (b8, l8) = (bt, tln)) ∨ (tln + n ≤ 200 ∧ v8 = tln + n ∧ (b8, l8) = (fdN (fbM w) bt tln n n.toNat, tln + n))))) : v7 = v8 ∧ b8 = b7 ∧ l8 = l7 ∧ Bd 0 255 b7 ∧ (0 ≤ l7 ∧ l7 ≤ 200) := by
  rcases h7 with ⟨c, e, q⟩ | ⟨c, ⟨c2, e, q⟩ | ⟨c2, e, q⟩⟩ <;> rcases h8 with ⟨d, e2, p⟩ | ⟨d, ⟨d2, e2, p⟩ | ⟨d2, e2, p⟩⟩ <;> first
  | (exfalso; omega)
  | (cases q; cases p; exact ⟨by omega, rfl, rfl, hb, ht⟩)
  | (have ee : fdN (fbM w) bt tln n n.toNat = fdN (fbC w) bt tln n n.toNat := fdN_c (fun k k0 k1 => fb_eq ⟨k0, by omega⟩) n.toNat (by omega)
     rw [ee] at p
     cases q; cases p
     exact ⟨by omega, rfl, rfl, fdN_bd hb (fbC_b w) _, by omega⟩)
theorem st_slip {hs ss fw so tu sp : Nat → Int} {mk cn ln h m v7 v8 l7 a8 : Int} {sp7 hs7 ss7 fc8 fw8 : Nat → Int} (hK : CK mk cn so tu sp) (hA : SA ln hs ss fw mk cn so tu sp)
    (h7 : (¬ ((0 ≤ h ∧ h < cn) ∧ -60 ≤ m ∧ m ≤ 60) ∧ v7 = -1000001 ∧ (sp7, hs7, ss7, l7) = (sp, hs, ss, ln)) ∨ (((0 ≤ h ∧ h < cn) ∧ -60 ≤ m ∧ m ≤ 60) ∧ v7 = (sp h.toNat + m) % mk ∧ sp7 = updI sp h.toNat ((sp h.toNat + m) % mk) ∧ (hs7, ss7, l7) = (updI (if ln < 24 then hs else cpyI hs hs 1 0 23) (if ln < 24 then ln else 23).toNat h, updI (if ln < 24 then ss else cpyI ss ss 1 0 23) (if ln < 24 then ln else 23).toNat (sp h.toNat), (if ln < 24 then ln else 23) + 1)))
    (h8 : (¬ ((0 ≤ h ∧ h < clkF mk cn so tu sp 1) ∧ -60 ≤ m ∧ m ≤ 60) ∧ v8 = -1000001 ∧ (fc8, fw8, a8) = (clkF mk cn so tu sp, fw, ln)) ∨ (((0 ≤ h ∧ h < clkF mk cn so tu sp 1) ∧ -60 ≤ m ∧ m ≤ 60) ∧ v8 = (sM (clkF mk cn so tu sp) h.toNat + m) % clkF mk cn so tu sp 0 ∧ (fc8, fw8, a8) = (updI (clkF mk cn so tu sp) (4 + 3 * h.toNat) ((sM (clkF mk cn so tu sp) h.toNat + m) % clkF mk cn so tu sp 0), kpW (clkF mk cn so tu sp) fw ln, acN ln + 1))) :
    v7 = v8 ∧ a8 = l7 ∧ fc8 = clkF mk cn so tu sp7 ∧ CK mk cn so tu sp7 ∧ SA l7 hs7 ss7 fw8 mk cn so tu sp7 := by
  rw [clkF_1] at h8
  rcases h7 with ⟨c, e, q⟩ | ⟨c, e, q1, q2⟩ <;> rcases h8 with ⟨d, e2, p⟩ | ⟨d, e2, p⟩ <;> first
  | (exfalso; omega)
  | (cases q; cases p; exact ⟨by omega, rfl, rfl, hK, hA⟩)
  | (have hm : 0 < mk := by rcases hK.1 with z | z <;> omega
     have v0 := Int.emod_nonneg (sp h.toNat + m) (show mk ≠ 0 by omega)
     have v1 := Int.emod_lt_of_pos (sp h.toNat + m) hm
     have es : sM (clkF mk cn so tu sp) h.toNat = sp h.toNat := by rw [clkF_s, if_pos (by omega)]
     rw [es, clkF_0] at e2 p
     rw [clkF_slip (by omega)] at p
     subst q1
     cases q2; cases p
     exact ⟨by omega, rfl, rfl, CK_slip hK ⟨v0, v1⟩, SA_slip (m := m) hK hA c.1 ⟨v0, v1⟩⟩)
theorem st_undo {hs ss fw so tu sp : Nat → Int} {mk cn ln : Int} (hK : CK mk cn so tu sp) (hA : SA ln hs ss fw mk cn so tu sp) :
    (if ln < 1 then -1000002 else ln - 1) = (if ln = 0 then -1000002 else ln - 1) ∧ (if ln = 0 then ln else ln - 1) = (if ln < 1 then ln else ln - 1) ∧ (if ln = 0 then clkF mk cn so tu sp else unC (clkF mk cn so tu sp) fw ln) = clkF mk cn so tu (if ln < 1 then sp else updI sp (hs (ln - 1).toNat).toNat (ss (ln - 1).toNat)) ∧ CK mk cn so tu (if ln < 1 then sp else updI sp (hs (ln - 1).toNat).toNat (ss (ln - 1).toNat)) ∧ SA (if ln < 1 then ln else ln - 1) hs ss fw mk cn so tu (if ln < 1 then sp else updI sp (hs (ln - 1).toNat).toNat (ss (ln - 1).toNat)) := by
  have hl := hA.1
  by_cases c : ln < 1
  · have c2 : ln = 0 := by omega
    simp only [if_pos c, if_pos c2]
    exact ⟨trivial, trivial, trivial, hK, hA⟩
  · have c2 : ¬ ln = 0 := by omega
    have u := SA_undo hK hA (by omega)
    simp only [if_neg c, if_neg c2]
    exact ⟨trivial, trivial, u.2.2, u.1, u.2.1⟩
theorem SA_hc {hs ss fw so tu sp : Nat → Int} {mk cn ln : Int} (hA : SA ln hs ss fw mk cn so tu sp) : 1 ≤ ln → hs (ln - 1).toNat < cn := by
  intro h
  obtain ⟨S, -, q⟩ := hA.2.2.2.2
  exact (q (ln - 1).toNat (by omega)).1
theorem st_image {k mk cn mk1 cn1 mk2 cn2 v7 v8 : Int} {so tu sp so1 tu1 sp1 so2 tu2 sp2 fk fe fk8 fe8 : Nat → Int} {m7 c7 m8 c8 : Int} {a1 a2 a3 b1 b2 b3 : Nat → Int} (hK : CK mk cn so tu sp) (h1 : SI 0 mk1 cn1 so1 tu1 sp1 fk fe) (h2 : SI 1 mk2 cn2 so2 tu2 sp2 fk fe) (hfk : Bd 0 1 fk) (hfe : Bd 0 60 fe)
    (h7 : (¬ (0 ≤ k ∧ k ≤ 1) ∧ v7 = -1000001 ∧ ((m7, c7, a1, a2, a3), (m8, c8, b1, b2, b3)) = ((mk1, cn1, so1, tu1, sp1), (mk2, cn2, so2, tu2, sp2))) ∨ ((0 ≤ k ∧ k ≤ 1) ∧ ((cn = 0 ∧ v7 = -1000002 ∧ ((m7, c7, a1, a2, a3), (m8, c8, b1, b2, b3)) = ((mk1, cn1, so1, tu1, sp1), (mk2, cn2, so2, tu2, sp2))) ∨ (cn ≠ 0 ∧ v7 = 1 ∧ ((k = 0 ∧ ((m7, c7, a1, a2, a3), (m8, c8, b1, b2, b3)) = ((mk, cn, mixI so so1, mixI tu tu1, mixI sp sp1), (mk2, cn2, so2, tu2, sp2))) ∨ (k = 1 ∧ ((m7, c7, a1, a2, a3), (m8, c8, b1, b2, b3)) = ((mk1, cn1, so1, tu1, sp1), (mk, cn, mixI so so2, mixI tu tu2, mixI sp sp2))))))))
    (h8 : (¬ (0 ≤ k ∧ k ≤ 1) ∧ v8 = -1000001 ∧ (fk8, fe8) = (fk, fe)) ∨ ((0 ≤ k ∧ k ≤ 1) ∧ ((¬ 0 < clkF mk cn so tu sp 0 ∧ v8 = -1000002 ∧ (fk8, fe8) = (fk, fe)) ∨ (0 < clkF mk cn so tu sp 0 ∧ v8 = 1 ∧ (fk8, fe8) = (updI fk k.toNat 1, keM (clkF mk cn so tu sp) fe k))))) :
    v7 = v8 ∧ SI 0 m7 c7 a1 a2 a3 fk8 fe8 ∧ SI 1 m8 c8 b1 b2 b3 fk8 fe8 ∧ Bd 0 1 fk8 ∧ Bd 0 60 fe8 := by
  have mc := hK.mc
  rw [clkF_0] at h8
  have bd : Bd 0 60 (keM (clkF mk cn so tu sp) fe k) := fun j => by
    have q1 := clkF_bd hK (j - (14 * k).toNat)
    have q2 := hfe j
    unfold keM
    split <;> omega
  have bk : Bd 0 1 (updI fk k.toNat 1) := Bd_up hfk (by decide) (by decide)
  rcases h7 with ⟨c, e, q⟩ | ⟨c, ⟨c2, e, q⟩ | ⟨c2, e, ⟨c3, q⟩ | ⟨c3, q⟩⟩⟩ <;> rcases h8 with ⟨d, e2, p⟩ | ⟨d, ⟨d2, e2, p⟩ | ⟨d2, e2, p⟩⟩ <;> first
  | (exfalso; omega)
  | (cases q; cases p; exact ⟨by omega, h1, h2, hfk, hfe⟩)
  | (subst c3
     cases q; cases p
     exact ⟨by omega, SI_new (k := 0) hK c2 h1, SI_oth (k := 0) (by decide) h2, bk, bd⟩)
  | (subst c3
     cases q; cases p
     exact ⟨by omega, SI_oth (k := 1) (by decide) h1, SI_new (k := 1) hK c2 h2, bk, bd⟩)
theorem SI_0 {k : Nat} {mk cn : Int} {so tu sp fk fe : Nat → Int} (h : SI k mk cn so tu sp fk fe) : cn = 0 ↔ fk k = 0 := by
  rcases h.2.2.2.2 with q | q <;> omega
theorem st_restore {k mk cn mk1 cn1 mk2 cn2 v7 v8 ln l7 a8 : Int} {so tu sp so1 tu1 sp1 so2 tu2 sp2 fk fe fc8 hs ss fw : Nat → Int} {m7 c7 : Int} {a1 a2 a3 : Nat → Int} (hK : CK mk cn so tu sp) (hA : SA ln hs ss fw mk cn so tu sp) (h1 : SI 0 mk1 cn1 so1 tu1 sp1 fk fe) (h2 : SI 1 mk2 cn2 so2 tu2 sp2 fk fe)
    (h7 : (¬ (0 ≤ k ∧ k ≤ 1) ∧ v7 = -1000001 ∧ (m7, c7, a1, a2, a3, l7) = (mk, cn, so, tu, sp, ln)) ∨ (k = 0 ∧ ((cn1 = 0 ∧ v7 = -1000002 ∧ (m7, c7, a1, a2, a3, l7) = (mk, cn, so, tu, sp, ln)) ∨ (cn1 ≠ 0 ∧ v7 = 1 ∧ (m7, c7, a1, a2, a3, l7) = (mk1, cn1, mixI so1 so, mixI tu1 tu, mixI sp1 sp, 0)))) ∨ (k = 1 ∧ ((cn2 = 0 ∧ v7 = -1000002 ∧ (m7, c7, a1, a2, a3, l7) = (mk, cn, so, tu, sp, ln)) ∨ (cn2 ≠ 0 ∧ v7 = 1 ∧ (m7, c7, a1, a2, a3, l7) = (mk2, cn2, mixI so2 so, mixI tu2 tu, mixI sp2 sp, 0)))))
    (h8 : (¬ (0 ≤ k ∧ k ≤ 1) ∧ v8 = -1000001 ∧ (fc8, a8) = (clkF mk cn so tu sp, ln)) ∨ ((0 ≤ k ∧ k ≤ 1) ∧ ((fk k.toNat = 0 ∧ v8 = -1000002 ∧ (fc8, a8) = (clkF mk cn so tu sp, ln)) ∨ (fk k.toNat ≠ 0 ∧ v8 = 1 ∧ (fc8, a8) = (reM (clkF mk cn so tu sp) fe k, 0))))) :
    v7 = v8 ∧ a8 = l7 ∧ fc8 = clkF m7 c7 a1 a2 a3 ∧ CK m7 c7 a1 a2 a3 ∧ SA l7 hs ss fw m7 c7 a1 a2 a3 := by
  have z1 := SI_0 h1
  have z2 := SI_0 h2
  rcases h7 with ⟨c, e, q⟩ | ⟨rfl, ⟨c2, e, q⟩ | ⟨c2, e, q⟩⟩ | ⟨rfl, ⟨c2, e, q⟩ | ⟨c2, e, q⟩⟩
  · rcases h8 with ⟨d, e2, p⟩ | ⟨d, -⟩
    · cases q; cases p; exact ⟨by omega, rfl, rfl, hK, hA⟩
    · exact absurd d c
  · rcases h8 with ⟨d, -⟩ | ⟨d, ⟨d2, e2, p⟩ | ⟨d2, -⟩⟩
    · exact absurd ⟨by decide, by decide⟩ d
    · cases q; cases p; exact ⟨by omega, rfl, rfl, hK, hA⟩
    · exact absurd (z1.mp c2) d2
  · rcases h8 with ⟨d, -⟩ | ⟨d, ⟨d2, -⟩ | ⟨d2, e2, p⟩⟩
    · exact absurd ⟨by decide, by decide⟩ d
    · exact absurd (z1.mpr d2) c2
    · have b := SI_back hK h1 d2
      have b2 : reM (clkF mk cn so tu sp) fe 0 = _ := b.2
      rw [b2] at p
      cases q; cases p
      exact ⟨by omega, rfl, rfl, b.1, SA_0 hA.2.1 hA.2.2.1 hA.2.2.2.1⟩
  · rcases h8 with ⟨d, -⟩ | ⟨d, ⟨d2, e2, p⟩ | ⟨d2, -⟩⟩
    · exact absurd ⟨by decide, by decide⟩ d
    · cases q; cases p; exact ⟨by omega, rfl, rfl, hK, hA⟩
    · exact absurd (z2.mp c2) d2
  · rcases h8 with ⟨d, -⟩ | ⟨d, ⟨d2, -⟩ | ⟨d2, e2, p⟩⟩
    · exact absurd ⟨by decide, by decide⟩ d
    · exact absurd (z2.mpr d2) c2
    · have b := SI_back hK h2 d2
      have b2 : reM (clkF mk cn so tu sp) fe 1 = _ := b.2
      rw [b2] at p
      cases q; cases p
      exact ⟨by omega, rfl, rfl, b.1, SA_0 hA.2.1 hA.2.2.1 hA.2.2.2.1⟩
