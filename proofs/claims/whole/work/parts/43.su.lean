/-! further calls on either side -/
theorem e_hand {mk cn h w : Int} {so tu sp : Nat → Int} (hK : CK mk cn so tu sp) : (if (0 ≤ h ∧ h < cn) ∧ 0 ≤ w ∧ w ≤ 2 then (if w = 0 then atI cn tu h else if w = 1 then spdI cn so tu h else atI cn sp h) else -1000001) = (if (0 ≤ h ∧ h < clkF mk cn so tu sp 1) ∧ 0 ≤ w ∧ w ≤ 2 then (if w = 0 then atI 4 (tM (clkF mk cn so tu sp)) h else if w = 1 then spdM (clkF mk cn so tu sp) h else atI 4 (sM (clkF mk cn so tu sp)) h) else -1000001) := by
  rw [at_t hK.c4, at_s hK.c4, spd_e hK.c4, clkF_1]
theorem e_points {mk cn h p q w : Int} {so tu sp : Nat → Int} (hK : CK mk cn so tu sp) : (if (0 ≤ h ∧ h < cn) ∧ (1 ≤ q ∧ q ≤ 9999 ∧ 0 ≤ p ∧ p < q) ∧ 0 ≤ w ∧ w ≤ 1 then toldI (restI (spdI cn so tu h * p * mk + atI cn sp h * q) (q * mk)) (q * mk) w else -1000001) = (if (0 ≤ h ∧ h < clkF mk cn so tu sp 1) ∧ (1 ≤ q ∧ q ≤ 9999 ∧ 0 ≤ p ∧ p < q) ∧ 0 ≤ w ∧ w ≤ 1 then toldI (arcM (clkF mk cn so tu sp) h p q) (q * clkF mk cn so tu sp 0) w else -1000001) := by
  rw [arc_eq hK, clkF_0, clkF_1]
theorem e_often {mk cn a b w : Int} {so tu sp : Nat → Int} (hK : CK mk cn so tu sp) : (if ((0 ≤ a ∧ a < cn) ∧ (0 ≤ b ∧ b < cn) ∧ a ≠ b) ∧ 0 ≤ w ∧ w ≤ 2 then (if absI (spdI cn so tu a - spdI cn so tu b) = 0 then -1000000 else if w = 2 then 2 * absI (spdI cn so tu a - spdI cn so tu b) else absI (spdI cn so tu a - spdI cn so tu b)) else -1000001) = (if ((0 ≤ a ∧ a < clkF mk cn so tu sp 1) ∧ (0 ≤ b ∧ b < clkF mk cn so tu sp 1) ∧ a ≠ b) ∧ 0 ≤ w ∧ w ≤ 2 then (if absI (spdM (clkF mk cn so tu sp) a - spdM (clkF mk cn so tu sp) b) = 0 then -1000000 else if w = 2 then 2 * absI (spdM (clkF mk cn so tu sp) a - spdM (clkF mk cn so tu sp) b) else absI (spdM (clkF mk cn so tu sp) a - spdM (clkF mk cn so tu sp) b)) else -1000001) := by
  rw [spd_e hK.c4, spd_e hK.c4, clkF_1]
theorem e_kind {mk cn h : Int} {so tu sp : Nat → Int} (hK : CK mk cn so tu sp) : (if 0 ≤ h ∧ h < cn then atI cn so h else -1000001) = (if 0 ≤ h ∧ h < clkF mk cn so tu sp 1 then atI 4 (kM (clkF mk cn so tu sp)) h else -1000001) := by
  rw [at_k hK.c4, clkF_1]
theorem e_all {mk cn : Int} {so tu sp : Nat → Int} (hK : CK mk cn so tu sp) : (if cn = 0 then -1000002 else if allI cn so tu = 0 then -1000000 else allI cn so tu) = (if 0 < clkF mk cn so tu sp 0 then (if allM (clkF mk cn so tu sp) = 0 then -1000000 else allM (clkF mk cn so tu sp)) else -1000002) := by
  have m := hK.mc
  rw [all_eq hK, clkF_0]
  by_cases c : cn = 0
  · rw [if_pos c, if_neg (m.2.2.mp c)]
  · have hm : 0 < mk := by omega
    rw [if_neg c, if_pos hm]
theorem e_count {it la le fl fm fi : Nat → Int} {mk cn w ln tln : Int} {so tu sp : Nat → Int} (hR : SR it la le fl fm fi) (hK : CK mk cn so tu sp) : (if w = 0 then cntN (fun j => decide (la j ≠ -1)) 8 else if w = 1 then cn else if w = 2 then mk else if w = 3 then cntN (fun j => decide (sp j ≠ 0)) cn.toNat else if w = 4 then ln else if w = 5 then tln else -1000001) = (if w = 0 then cntN (fun j => decide (0 ≤ fl j)) 8 else if w = 1 then clkF mk cn so tu sp 1 else if w = 2 then clkF mk cn so tu sp 0 else if w = 3 then cntN (fun j => decide (0 < sM (clkF mk cn so tu sp) j)) (clkF mk cn so tu sp 1).toNat else if w = 4 then ln else if w = 5 then tln else -1000001) := by
  have e1 : cntN (fun j => decide (la j ≠ -1)) 8 = cntN (fun j => decide (0 ≤ fl j)) 8 := cnt_c 8 (fun j hj => by
    have g := (hR.2.2.2.2.2.2 j hj).1
    have b := (hR.2.2.2.1 j).1
    rw [g]
    congr 1
    exact propext ⟨fun z => by omega, fun z => by omega⟩)
  have e2 : cntN (fun j => decide (sp j ≠ 0)) cn.toNat = cntN (fun j => decide (0 < sM (clkF mk cn so tu sp) j)) cn.toNat := cnt_c _ (fun j hj => by
    have b := (hK.2.2.2.1 j).1
    rw [clkF_s, if_pos (by omega)]
    congr 1
    exact propext ⟨fun z => by omega, fun z => by omega⟩)
  rw [e1, e2, clkF_0, clkF_1]
theorem st_as {mk cn h w sq v7 v8 f7 f8 : Int} {so tu sp : Nat → Int} (hK : CK mk cn so tu sp)
    (h7 : (¬ ((0 ≤ h ∧ h < cn) ∧ 0 ≤ w ∧ w ≤ 5) ∧ v7 = -1000001 ∧ f7 = sq) ∨ (((0 ≤ h ∧ h < cn) ∧ 0 ≤ w ∧ w ≤ 5) ∧ ((okK (atI cn so h) w ∧ v7 = h ∧ f7 = 0) ∨ (¬ okK (atI cn so h) w ∧ v7 = -1000013 ∧ f7 = 3))))
    (h8 : (¬ ((0 ≤ h ∧ h < clkF mk cn so tu sp 1) ∧ 0 ≤ w ∧ w ≤ 5) ∧ v8 = -1000001 ∧ f8 = sq) ∨ (((0 ≤ h ∧ h < clkF mk cn so tu sp 1) ∧ 0 ≤ w ∧ w ≤ 5) ∧ ((okM (atI 4 (kM (clkF mk cn so tu sp)) h) w ∧ v8 = h ∧ f8 = 0) ∨ (¬ okM (atI 4 (kM (clkF mk cn so tu sp)) h) w ∧ v8 = -1000013 ∧ f8 = 3)))) : v7 = v8 ∧ f8 = f7 := by
  rw [at_k hK.c4, clkF_1] at h8
  rcases h7 with ⟨c, e, q⟩ | ⟨c, h7⟩
  · rcases h8 with ⟨d, e2, p⟩ | ⟨d, -⟩
    · omega
    · exact absurd d c
  · rcases h8 with ⟨d, -⟩ | ⟨d, h8⟩
    · exact absurd c d
    · have hk : 1 ≤ atI cn so h := by
        unfold atI
        rw [if_pos c.1]
        exact (hK.2.2.2.2 h.toNat (by omega)).1
      rw [← okKM hk] at h8
      rcases h7 with ⟨x, e, q⟩ | ⟨x, e, q⟩ <;> rcases h8 with ⟨y, e2, p⟩ | ⟨y, e2, p⟩ <;> first
      | omega
      | exact absurd x y
      | exact absurd y x
def TB (t : TS) : Prop := (0 ≤ t.2 ∧ t.2 ≤ 16) ∧ Bd 0 24 t.1
theorem TB_lv {t : TS} {b : Int} (h : TB t) (hb : 0 ≤ b ∧ b ≤ 24) : TB (lvT t b) := by
  refine ⟨lvT_bd h.1, ?_⟩
  unfold lvT
  by_cases c : t.2 < 16
  · rw [if_pos c]
    exact Bd_up h.2 hb.1 hb.2
  · rw [if_neg c]
    exact h.2
theorem TB_ask {cn h w : Int} {so : Nat → Int} {t : TS} (ht : TB t) : TB (askT cn so h w t) := by
  have h0 : TB (t.1, 0) := ⟨⟨(by decide : (0 : Int) ≤ 0), (by decide : (0 : Int) ≤ 16)⟩, ht.2⟩
  unfold askT hSzT bSzT hMkT
  (repeat' split) <;> (repeat (first | exact h0 | refine TB_lv ?_ ⟨by decide, by decide⟩))
theorem st_ask {mk cn h w v7 v8 : Int} {so tu sp trf f7 f8 : Nat → Int} {trn n7 n8 : Int} (hK : CK mk cn so tu sp) (hT : TB (trf, trn))
    (h7 : (¬ ((0 ≤ h ∧ h < cn) ∧ 0 ≤ w ∧ w ≤ 1) ∧ v7 = -1000001 ∧ (f7, n7) = (trf, trn)) ∨ (((0 ≤ h ∧ h < cn) ∧ 0 ≤ w ∧ w ≤ 1) ∧ v7 = askF cn so tu sp h w ∧ (f7, n7) = askT cn so h w (trf, trn)))
    (h8 : (¬ ((0 ≤ h ∧ h < clkF mk cn so tu sp 1) ∧ 0 ≤ w ∧ w ≤ 1) ∧ v8 = -1000001 ∧ (f8, n8) = (trf, trn)) ∨ (((0 ≤ h ∧ h < clkF mk cn so tu sp 1) ∧ 0 ≤ w ∧ w ≤ 1) ∧ v8 = askF 4 (kM (clkF mk cn so tu sp)) (tM (clkF mk cn so tu sp)) (sM (clkF mk cn so tu sp)) h w ∧ (f8, n8) = askT 4 (kM (clkF mk cn so tu sp)) h w (trf, trn))) : v7 = v8 ∧ f8 = f7 ∧ n8 = n7 ∧ TB (f7, n7) := by
  rw [askF_e hK.c4, askT_e hK.c4, clkF_1] at h8
  rcases h7 with ⟨c, e, q⟩ | ⟨c, e, q⟩ <;> rcases h8 with ⟨d, e2, p⟩ | ⟨d, e2, p⟩
  · cases q; cases p; exact ⟨by omega, rfl, rfl, hT⟩
  · exact absurd d c
  · exact absurd c d
  · have e3 := q.trans p.symm
    cases e3
    exact ⟨by omega, rfl, rfl, by rw [q]; exact TB_ask hT⟩
theorem st_doubts {mk cn a b v7 x1 x2 x3 x4 y1 y2 y3 y4 : Int} {so tu sp : Nat → Int} (hK : CK mk cn so tu sp)
    (h7 : (¬ ((0 ≤ a ∧ a < cn) ∧ (0 ≤ b ∧ b < cn) ∧ a ≠ b) ∧ v7 = -1000001 ∧ (x1, x2, x3, x4) = (y1, y2, y3, y4)) ∨ (((0 ≤ a ∧ a < cn) ∧ (0 ≤ b ∧ b < cn) ∧ a ≠ b) ∧ x1 = whoI (spdI cn so tu a) (spdI cn so tu b) ∧ x2 = shaI (spdI cn so tu a) (spdI cn so tu b) ∧ x3 = momI (spdI cn so tu a) (spdI cn so tu b) ∧ LsO (whoI (spdI cn so tu a) (spdI cn so tu b)) (shaI (spdI cn so tu a) (spdI cn so tu b)) (momI (spdI cn so tu a) (spdI cn so tu b)) (spdI cn so tu a) (spdI cn so tu b) x4 ∧ (v7 = if momI (spdI cn so tu a) (spdI cn so tu b) = 0 then -1000000 else cntN (fun k => decide (0 ≤ othI (momI (spdI cn so tu a) (spdI cn so tu b)) (shaI (spdI cn so tu a) (spdI cn so tu b)) x4 k)) (momI (spdI cn so tu a) (spdI cn so tu b)).toNat))) :
    v7 = (if (0 ≤ a ∧ a < clkF mk cn so tu sp 1) ∧ (0 ≤ b ∧ b < clkF mk cn so tu sp 1) ∧ a ≠ b then (if whoI (spdM (clkF mk cn so tu sp) a) (spdM (clkF mk cn so tu sp) b) = 0 then -1000000 else cntN (fun k => decide (othM (spdM (clkF mk cn so tu sp) a) (spdM (clkF mk cn so tu sp) b) k ≠ -1000000)) (whoI (spdM (clkF mk cn so tu sp) a) (spdM (clkF mk cn so tu sp) b)).toNat) else -1000001) := by
  rw [spd_e hK.c4, spd_e hK.c4, clkF_1]
  rcases h7 with ⟨c, e, -⟩ | ⟨c, -, -, -, e4, e⟩
  · rw [if_neg c, e]
  · rw [if_pos c, e]
    exact doubts_eq e4
theorem st_isDoubt {mk cn a b p q v7 x1 x2 x3 x4 y1 y2 y3 y4 : Int} {so tu sp : Nat → Int} (hK : CK mk cn so tu sp)
    (h7 : (¬ (((0 ≤ a ∧ a < cn) ∧ (0 ≤ b ∧ b < cn) ∧ a ≠ b) ∧ (1 ≤ q ∧ q ≤ 9999 ∧ 0 ≤ p ∧ p < q)) ∧ v7 = -1000001 ∧ (x1, x2, x3, x4) = (y1, y2, y3, y4)) ∨ ((((0 ≤ a ∧ a < cn) ∧ (0 ≤ b ∧ b < cn) ∧ a ≠ b) ∧ (1 ≤ q ∧ q ≤ 9999 ∧ 0 ≤ p ∧ p < q)) ∧ x1 = whoI (spdI cn so tu a) (spdI cn so tu b) ∧ x2 = shaI (spdI cn so tu a) (spdI cn so tu b) ∧ x3 = momI (spdI cn so tu a) (spdI cn so tu b) ∧ LsO (whoI (spdI cn so tu a) (spdI cn so tu b)) (shaI (spdI cn so tu a) (spdI cn so tu b)) (momI (spdI cn so tu a) (spdI cn so tu b)) (spdI cn so tu a) (spdI cn so tu b) x4 ∧ (v7 = if momI (spdI cn so tu a) (spdI cn so tu b) = 0 then -1000000 else if (momI (spdI cn so tu a) (spdI cn so tu b) * p) % q = 0 ∧ 0 ≤ othI (momI (spdI cn so tu a) (spdI cn so tu b)) (shaI (spdI cn so tu a) (spdI cn so tu b)) x4 (momI (spdI cn so tu a) (spdI cn so tu b) * p / q) then 1 else 0))) :
    v7 = (if ((0 ≤ a ∧ a < clkF mk cn so tu sp 1) ∧ (0 ≤ b ∧ b < clkF mk cn so tu sp 1) ∧ a ≠ b) ∧ (1 ≤ q ∧ q ≤ 9999 ∧ 0 ≤ p ∧ p < q) then (if whoI (spdM (clkF mk cn so tu sp) a) (spdM (clkF mk cn so tu sp) b) = 0 then -1000000 else if (p * whoI (spdM (clkF mk cn so tu sp) a) (spdM (clkF mk cn so tu sp) b)) % q = 0 ∧ othM (spdM (clkF mk cn so tu sp) a) (spdM (clkF mk cn so tu sp) b) (p * whoI (spdM (clkF mk cn so tu sp) a) (spdM (clkF mk cn so tu sp) b) / q) ≠ -1000000 then 1 else 0) else -1000001) := by
  rw [spd_e hK.c4, spd_e hK.c4, clkF_1]
  rcases h7 with ⟨c, e, -⟩ | ⟨c, -, -, -, e4, e⟩
  · rw [if_neg c, e]
  · rw [if_pos c, e]
    exact isDoubt_eq c.2.1 c.2.2.2 e4
theorem st_doubt {mk cn a b i w v7 v8 x1 x2 x3 x4 y1 y2 y3 y4 : Int} {so tu sp : Nat → Int} (hK : CK mk cn so tu sp)
    (h7 : (¬ (((0 ≤ a ∧ a < cn) ∧ (0 ≤ b ∧ b < cn) ∧ a ≠ b) ∧ 0 ≤ i ∧ 0 ≤ w ∧ w ≤ 3) ∧ v7 = -1000001 ∧ (x1, x2, x3, x4) = (y1, y2, y3, y4)) ∨ ((((0 ≤ a ∧ a < cn) ∧ (0 ≤ b ∧ b < cn) ∧ a ≠ b) ∧ 0 ≤ i ∧ 0 ≤ w ∧ w ≤ 3) ∧ x1 = whoI (spdI cn so tu a) (spdI cn so tu b) ∧ x2 = shaI (spdI cn so tu a) (spdI cn so tu b) ∧ x3 = momI (spdI cn so tu a) (spdI cn so tu b) ∧ LsO (whoI (spdI cn so tu a) (spdI cn so tu b)) (shaI (spdI cn so tu a) (spdI cn so tu b)) (momI (spdI cn so tu a) (spdI cn so tu b)) (spdI cn so tu a) (spdI cn so tu b) x4 ∧
      ((∃ k : Int, 0 ≤ k ∧ k < momI (spdI cn so tu a) (spdI cn so tu b) ∧ 0 ≤ othI (momI (spdI cn so tu a) (spdI cn so tu b)) (shaI (spdI cn so tu a) (spdI cn so tu b)) x4 k ∧ cntN (fun k => decide (0 ≤ othI (momI (spdI cn so tu a) (spdI cn so tu b)) (shaI (spdI cn so tu a) (spdI cn so tu b)) x4 k)) k.toNat = i ∧ v7 = (if w < 2 then toldI k (momI (spdI cn so tu a) (spdI cn so tu b)) w else toldI (othI (momI (spdI cn so tu a) (spdI cn so tu b)) (shaI (spdI cn so tu a) (spdI cn so tu b)) x4 k) (whoI (spdI cn so tu a) (spdI cn so tu b)) (w - 2))) ∨ (cntN (fun k => decide (0 ≤ othI (momI (spdI cn so tu a) (spdI cn so tu b)) (shaI (spdI cn so tu a) (spdI cn so tu b)) x4 k)) (momI (spdI cn so tu a) (spdI cn so tu b)).toNat ≤ i ∧ v7 = -1000000))))
    (h8 : (¬ (((0 ≤ a ∧ a < clkF mk cn so tu sp 1) ∧ (0 ≤ b ∧ b < clkF mk cn so tu sp 1) ∧ a ≠ b) ∧ 0 ≤ i ∧ 0 ≤ w ∧ w ≤ 3) ∧ v8 = -1000001) ∨ ((((0 ≤ a ∧ a < clkF mk cn so tu sp 1) ∧ (0 ≤ b ∧ b < clkF mk cn so tu sp 1) ∧ a ≠ b) ∧ 0 ≤ i ∧ 0 ≤ w ∧ w ≤ 3) ∧
      ((∃ k : Int, 0 ≤ k ∧ k < whoI (spdM (clkF mk cn so tu sp) a) (spdM (clkF mk cn so tu sp) b) ∧ othM (spdM (clkF mk cn so tu sp) a) (spdM (clkF mk cn so tu sp) b) k ≠ -1000000 ∧ cntN (fun k => decide (othM (spdM (clkF mk cn so tu sp) a) (spdM (clkF mk cn so tu sp) b) k ≠ -1000000)) k.toNat = i ∧ v8 = (if w < 2 then toldI k (whoI (spdM (clkF mk cn so tu sp) a) (spdM (clkF mk cn so tu sp) b)) w else toldI (othM (spdM (clkF mk cn so tu sp) a) (spdM (clkF mk cn so tu sp) b) k) (whoI (spdM (clkF mk cn so tu sp) a) (spdM (clkF mk cn so tu sp) b)) (w - 2))) ∨ (cntN (fun k => decide (othM (spdM (clkF mk cn so tu sp) a) (spdM (clkF mk cn so tu sp) b) k ≠ -1000000)) (whoI (spdM (clkF mk cn so tu sp) a) (spdM (clkF mk cn so tu sp) b)).toNat ≤ i ∧ v8 = -1000000)))) : v7 = v8 := by
  rw [spd_e hK.c4, spd_e hK.c4, clkF_1] at h8
  rcases h7 with ⟨c, e, -⟩ | ⟨c, -, -, -, e4, e⟩
  · rcases h8 with ⟨d, e2⟩ | ⟨d, -⟩
    · rw [e, e2]
    · exact absurd d c
  · rcases h8 with ⟨d, -⟩ | ⟨d, e2⟩
    · exact absurd c d
    · exact doubt_eq e4 e e2
theorem st_next {mk cn a b h p q w v8 : Int} {so tu sp : Nat → Int} (hK : CK mk cn so tu sp)
    (h8 : (¬ (((0 ≤ a ∧ a < clkF mk cn so tu sp 1) ∧ (0 ≤ b ∧ b < clkF mk cn so tu sp 1) ∧ a ≠ b) ∧ (0 ≤ h ∧ h ≤ 2) ∧ (1 ≤ q ∧ q ≤ 9999 ∧ 0 ≤ p ∧ p < q) ∧ 0 ≤ w ∧ w ≤ 1) ∧ v8 = -1000001) ∨ ((((0 ≤ a ∧ a < clkF mk cn so tu sp 1) ∧ (0 ≤ b ∧ b < clkF mk cn so tu sp 1) ∧ a ≠ b) ∧ (0 ≤ h ∧ h ≤ 2) ∧ (1 ≤ q ∧ q ≤ 9999 ∧ 0 ≤ p ∧ p < q) ∧ 0 ≤ w ∧ w ≤ 1) ∧ ((absI (spdM (clkF mk cn so tu sp) a - spdM (clkF mk cn so tu sp) b) = 0 ∧ v8 = -1000000) ∨ (absI (spdM (clkF mk cn so tu sp) a - spdM (clkF mk cn so tu sp) b) ≠ 0 ∧ ((nxM (absI (spdM (clkF mk cn so tu sp) a - spdM (clkF mk cn so tu sp) b)) h p q = -1 ∧ v8 = -1000000) ∨ (0 ≤ nxM (absI (spdM (clkF mk cn so tu sp) a - spdM (clkF mk cn so tu sp) b)) h p q ∧ v8 = toldI (nxM (absI (spdM (clkF mk cn so tu sp) a - spdM (clkF mk cn so tu sp) b)) h p q) (4 * absI (spdM (clkF mk cn so tu sp) a - spdM (clkF mk cn so tu sp) b)) w)))))) :
    (if ((0 ≤ a ∧ a < cn) ∧ (0 ≤ b ∧ b < cn) ∧ a ≠ b) ∧ (0 ≤ h ∧ h ≤ 2) ∧ (1 ≤ q ∧ q ≤ 9999 ∧ 0 ≤ p ∧ p < q) ∧ 0 ≤ w ∧ w ≤ 1 then (if absI (spdI cn so tu a - spdI cn so tu b) = 0 then -1000000 else toldI (fmI (belI (absI (spdI cn so tu a - spdI cn so tu b)) h) h p q) (belI (absI (spdI cn so tu a - spdI cn so tu b)) h) w) else -1000001) = v8 := by
  rw [spd_e hK.c4, spd_e hK.c4, clkF_1] at h8
  rcases h8 with ⟨d, e2⟩ | ⟨d, ⟨d2, e2⟩ | ⟨d2, e2⟩⟩
  · rw [if_neg d, e2]
  · rw [if_pos d, if_pos d2, e2]
  · rw [if_pos d, if_neg d2]
    have h0 : 0 ≤ absI (spdI cn so tu a - spdI cn so tu b) := by rw [absI_n]; omega
    exact next_eq (by omega) d.2.1 d.2.2.1.1 d.2.2.1.2.2 e2
def RB (ar rs : Nat → Int) (rc pa : Int) : Prop := Bd 0 719 ar ∧ Bd (-24) 24 rs ∧ (0 ≤ rc ∧ rc ≤ 4) ∧ (0 ≤ pa ∧ pa ≤ 720)
theorem st_lies {it la le fl fm fi : Nat → Int} {mk cn r i pa w sq v7 v8 f7 s8 x1 x2 y1 y2 rc pa0 rc7 pa7 : Int} {so tu sp ar rs ar7 rs7 : Nat → Int} (hR : SR it la le fl fm fi) (hK : CK mk cn so tu sp) (hB : RB ar rs rc pa0)
    (h7 : (cn = 0 ∧ v7 = -1000002 ∧ (f7, ar7, rs7, rc7, pa7) = (sq, ar, rs, rc, pa0)) ∨ (cn ≠ 0 ∧ ((¬ ((0 ≤ r ∧ r < 8) ∧ (1 ≤ pa ∧ pa ≤ 720) ∧ (0 ≤ w ∧ w ≤ 3)) ∧ v7 = -1000001 ∧ (f7, ar7, rs7, rc7, pa7) = (sq, ar, rs, rc, pa0)) ∨ (((0 ≤ r ∧ r < 8) ∧ (1 ≤ pa ∧ pa ≤ 720) ∧ (0 ≤ w ∧ w ≤ 3)) ∧ ((la r.toNat = -1 ∧ v7 = -1000011 ∧ (f7, ar7, rs7, rc7, pa7) = (1, ar, rs, rc, pa0)) ∨ (la r.toNat ≠ -1 ∧ (((i < 0 ∨ le r.toNat < i + cn) ∧ v7 = -1000012 ∧ (f7, ar7, rs7, rc7, pa7) = (2, ar, rs, rc, pa0)) ∨ ((0 ≤ i ∧ i + cn ≤ le r.toNat) ∧ ((¬ (∀ k : Int, 0 ≤ k → k < cn → 0 ≤ itmI it le r (i + k) ∧ itmI it le r (i + k) < pa) ∧ v7 = -1000001 ∧ (f7, ar7, rs7, rc7, pa7) = (sq, ar, rs, rc, pa0)) ∨ ((∀ k : Int, 0 ≤ k → k < cn → 0 ≤ itmI it le r (i + k) ∧ itmI it le r (i + k) < pa) ∧ v7 = lieV (overI cn (rdA it le r i) ar) (overI cn (rdS cn so tu) rs) cn pa w ∧ (f7, ar7, rs7, rc7, pa7) = (0, (overI cn (rdA it le r i) ar), (overI cn (rdS cn so tu) rs), cn, pa)))))))))))
    (h8 : (¬ 0 < clkF mk cn so tu sp 0 ∧ v8 = -1000002 ∧ (s8, x1, x2) = (sq, y1, y2)) ∨ (0 < clkF mk cn so tu sp 0 ∧ ((¬ ((0 ≤ r ∧ r < 8) ∧ (1 ≤ pa ∧ pa ≤ 720) ∧ (0 ≤ w ∧ w ≤ 3)) ∧ v8 = -1000001 ∧ (s8, x1, x2) = (sq, y1, y2)) ∨ (((0 ≤ r ∧ r < 8) ∧ (1 ≤ pa ∧ pa ≤ 720) ∧ (0 ≤ w ∧ w ≤ 3)) ∧ ((fl r.toNat < 0 ∧ v8 = -1000011 ∧ (s8, x1, x2) = (1, y1, y2)) ∨ (0 ≤ fl r.toNat ∧ (((i < 0 ∨ fm r.toNat < i + clkF mk cn so tu sp 1) ∧ v8 = -1000012 ∧ (s8, x1, x2) = (2, y1, y2)) ∨ ((0 ≤ i ∧ i + clkF mk cn so tu sp 1 ≤ fm r.toNat) ∧ ((¬ (∀ k : Int, 0 ≤ k → k < clkF mk cn so tu sp 1 → 0 ≤ fi (40 * r + i + k).toNat ∧ fi (40 * r + i + k).toNat < pa) ∧ v8 = -1000001 ∧ (s8, x1, x2) = (sq, y1, y2)) ∨ ((∀ k : Int, 0 ≤ k → k < clkF mk cn so tu sp 1 → 0 ≤ fi (40 * r + i + k).toNat ∧ fi (40 * r + i + k).toNat < pa) ∧ v8 = lieM (clkF mk cn so tu sp) fi (40 * r + i) pa w ∧ s8 = 0)))))))))) :
    v7 = v8 ∧ s8 = f7 ∧ RB ar7 rs7 rc7 pa7 := by
  have mc := hK.mc
  have c4 := hK.c4
  rw [clkF_0, clkF_1] at h8
  rcases h7 with ⟨c, e, q⟩ | ⟨c, h7⟩
  · rcases h8 with ⟨d, e2, p⟩ | ⟨d, -⟩
    · cases q; cases p; exact ⟨by omega, rfl, hB⟩
    · omega
  · rcases h8 with ⟨d, -⟩ | ⟨d, h8⟩
    · omega
    · rcases h7 with ⟨c1, e, q⟩ | ⟨c1, h7⟩
      · rcases h8 with ⟨d1, e2, p⟩ | ⟨d1, -⟩
        · cases q; cases p; exact ⟨by omega, rfl, hB⟩
        · exact absurd d1 c1
      · rcases h8 with ⟨d1, -⟩ | ⟨d1, h8⟩
        · exact absurd c1 d1
        · have g := SR_la hR c1.1
          rcases h7 with ⟨c2, e, q⟩ | ⟨c2, h7⟩
          · rcases h8 with ⟨d2, e2, p⟩ | ⟨d2, -⟩
            · cases q; cases p; exact ⟨by omega, rfl, hB⟩
            · omega
          · rcases h8 with ⟨d2, -⟩ | ⟨d2, h8⟩
            · omega
            · have g2 := g.2.2.1 c2
              rw [← g2] at h8
              rcases h7 with ⟨c3, e, q⟩ | ⟨c3, h7⟩
              · rcases h8 with ⟨d3, e2, p⟩ | ⟨d3, -⟩
                · cases q; cases p; exact ⟨by omega, rfl, hB⟩
                · omega
              · rcases h8 with ⟨d3, -⟩ | ⟨d3, h8⟩
                · omega
                · have ae := arcs_eq (pa := pa) hR c1.1 c3
                  rcases h7 with ⟨c5, e, q⟩ | ⟨c5, e, q⟩
                  · rcases h8 with ⟨d5, e2, p⟩ | ⟨d5, -⟩
                    · cases q; cases p; exact ⟨by omega, rfl, hB⟩
                    · exact absurd (ae.mpr d5) c5
                  · rcases h8 with ⟨d5, -⟩ | ⟨d5, e2, p⟩
                    · exact absurd (ae.mp c5) d5
                    · have le := lie_eq (w := w) (RD_over (ar := ar) (rs := rs) hK hR c1.1 c3) (by omega) c1.2.1.1 (clkF_t3 hK) c1.2.1.2 c1.2.2
                      cases q
                      refine ⟨by rw [e, e2, le], p, Bd_over (fun j hj => ?_) hB.1, Bd_over (fun j hj => spdI_bd hK.2.2.1) hB.2.1, c4, ⟨by omega, c1.2.1.2⟩⟩
                      have z := c5 j (by omega) hj
                      unfold rdA
                      omega
theorem st_firstLie {it la le fl fm fi : Nat → Int} {mk cn r n pa sq v7 v8 f7 s8 x1 x2 y1 y2 rc pa0 rc7 pa7 : Int} {so tu sp ar rs ar7 rs7 : Nat → Int} (hR : SR it la le fl fm fi) (hK : CK mk cn so tu sp) (hB : RB ar rs rc pa0)
    (h7 : (cn = 0 ∧ v7 = -1000002 ∧ (f7, ar7, rs7, rc7, pa7) = (sq, ar, rs, rc, pa0)) ∨ (cn ≠ 0 ∧ ((¬ ((0 ≤ r ∧ r < 8) ∧ (1 ≤ n ∧ n ≤ 10) ∧ (1 ≤ pa ∧ pa ≤ 720)) ∧ v7 = -1000001 ∧ (f7, ar7, rs7, rc7, pa7) = (sq, ar, rs, rc, pa0)) ∨ (((0 ≤ r ∧ r < 8) ∧ (1 ≤ n ∧ n ≤ 10) ∧ (1 ≤ pa ∧ pa ≤ 720)) ∧ ((la r.toNat = -1 ∧ v7 = -1000011 ∧ (f7, ar7, rs7, rc7, pa7) = (1, ar, rs, rc, pa0)) ∨ (la r.toNat ≠ -1 ∧ ((le r.toNat < n * cn ∧ v7 = -1000012 ∧ (f7, ar7, rs7, rc7, pa7) = (2, ar, rs, rc, pa0)) ∨ (n * cn ≤ le r.toNat ∧ ((¬ (∀ k : Int, 0 ≤ k → k < n * cn → 0 ≤ itmI it le r (0 + k) ∧ itmI it le r (0 + k) < pa) ∧ v7 = -1000001 ∧ (f7, ar7, rs7, rc7, pa7) = (sq, ar, rs, rc, pa0)) ∨ ((∀ k : Int, 0 ≤ k → k < n * cn → 0 ≤ itmI it le r (0 + k) ∧ itmI it le r (0 + k) < pa) ∧ v7 = firC it le cn so tu r n pa ∧ f7 = 0 ∧ Bd 0 719 ar7 ∧ Bd (-24) 24 rs7 ∧ (0 ≤ rc7 ∧ rc7 ≤ 4) ∧ (0 ≤ pa7 ∧ pa7 ≤ 720)))))))))))
    (h8 : (¬ 0 < clkF mk cn so tu sp 0 ∧ v8 = -1000002 ∧ (s8, x1, x2) = (sq, y1, y2)) ∨ (0 < clkF mk cn so tu sp 0 ∧ ((¬ ((0 ≤ r ∧ r < 8) ∧ (1 ≤ n ∧ n ≤ 10) ∧ (1 ≤ pa ∧ pa ≤ 720)) ∧ v8 = -1000001 ∧ (s8, x1, x2) = (sq, y1, y2)) ∨ (((0 ≤ r ∧ r < 8) ∧ (1 ≤ n ∧ n ≤ 10) ∧ (1 ≤ pa ∧ pa ≤ 720)) ∧ ((fl r.toNat < 0 ∧ v8 = -1000011 ∧ (s8, x1, x2) = (1, y1, y2)) ∨ (0 ≤ fl r.toNat ∧ ((fm r.toNat < n * clkF mk cn so tu sp 1 ∧ v8 = -1000012 ∧ (s8, x1, x2) = (2, y1, y2)) ∨ (n * clkF mk cn so tu sp 1 ≤ fm r.toNat ∧ ((¬ (∀ k : Int, 0 ≤ k → k < n * clkF mk cn so tu sp 1 → 0 ≤ fi (40 * r + k).toNat ∧ fi (40 * r + k).toNat < pa) ∧ v8 = -1000001 ∧ (s8, x1, x2) = (sq, y1, y2)) ∨ ((∀ k : Int, 0 ≤ k → k < n * clkF mk cn so tu sp 1 → 0 ≤ fi (40 * r + k).toNat ∧ fi (40 * r + k).toNat < pa) ∧ v8 = firM (clkF mk cn so tu sp) fi r n pa ∧ s8 = 0)))))))))) :
    v7 = v8 ∧ s8 = f7 ∧ RB ar7 rs7 rc7 pa7 := by
  have mc := hK.mc
  have c4 := hK.c4
  rw [clkF_0, clkF_1] at h8
  rcases h7 with ⟨c, e, q⟩ | ⟨c, h7⟩
  · rcases h8 with ⟨d, e2, p⟩ | ⟨d, -⟩
    · cases q; cases p; exact ⟨by omega, rfl, hB⟩
    · omega
  · rcases h8 with ⟨d, -⟩ | ⟨d, h8⟩
    · omega
    · rcases h7 with ⟨c1, e, q⟩ | ⟨c1, h7⟩
      · rcases h8 with ⟨d1, e2, p⟩ | ⟨d1, -⟩
        · cases q; cases p; exact ⟨by omega, rfl, hB⟩
        · exact absurd d1 c1
      · rcases h8 with ⟨d1, -⟩ | ⟨d1, h8⟩
        · exact absurd c1 d1
        · have g := SR_la hR c1.1
          rcases h7 with ⟨c2, e, q⟩ | ⟨c2, h7⟩
          · rcases h8 with ⟨d2, e2, p⟩ | ⟨d2, -⟩
            · cases q; cases p; exact ⟨by omega, rfl, hB⟩
            · omega
          · rcases h8 with ⟨d2, -⟩ | ⟨d2, h8⟩
            · omega
            · have g2 := g.2.2.1 c2
              rw [← g2] at h8
              rcases h7 with ⟨c3, e, q⟩ | ⟨c3, h7⟩
              · rcases h8 with ⟨d3, e2, p⟩ | ⟨d3, -⟩
                · cases q; cases p; exact ⟨by omega, rfl, hB⟩
                · omega
              · rcases h8 with ⟨d3, -⟩ | ⟨d3, h8⟩
                · omega
                · have ae := arcs_eq (i := 0) (n := n * cn) (pa := pa) hR c1.1 ⟨Int.le_refl _, by omega⟩
                  rw [Int.add_zero] at ae
                  rcases h7 with ⟨c5, e, q⟩ | ⟨c5, e, q⟩
                  · rcases h8 with ⟨d5, e2, p⟩ | ⟨d5, -⟩
                    · cases q; cases p; exact ⟨by omega, rfl, hB⟩
                    · exact absurd (ae.mpr d5) c5
                  · rcases h8 with ⟨d5, -⟩ | ⟨d5, e2, p⟩
                    · exact absurd (ae.mp c5) d5
                    · have le := fir_eq (n := n) hK (by omega) hR c1.1 c1.2.2.1 (by omega) c3
                      exact ⟨by rw [e, e2, le], by rw [p, q.1], q.2⟩
theorem hlN_bd {f : Nat → Int} {n : Int} : ∀ (k : Nat) (u : (Nat → Int) × PM), pmOK f n u.2 → (0 ≤ u.1 1 ∧ u.1 1 ≤ 4) → Bd 0 999 u.1 → Bd 0 999 (hlN f n k u).1 := by
  intro k
  induction k with
  | zero => intro u _ _ h; exact h
  | succ k ih =>
    intro u h1 h2 h3
    by_cases c : namF f u.2 = 1751215716
    · have e : hlN f n (k + 1) u = hlN f n k (hanF f n u.1 u.2, hanM f n (u.1 1) u.2) := if_pos c
      rw [e]
      refine ih _ (pmOK_hanM h1) ?_ (hanF_bd h1 h2 h3)
      show 0 ≤ hanF f n u.1 u.2 1 ∧ hanF f n u.1 u.2 1 ≤ 4
      rcases hanF_1 h1 h2 with q | q
      · rw [q.2.2]; omega
      · rw [q.2]; exact h2
    · rw [hlN_end c]
      exact h3
theorem clR_bd {f : Nat → Int} {n : Int} {ff : Nat → Int} {u : PM} (hu : pmOK f n u) (hf : Bd 0 999 ff) : Bd 0 999 (clR f n ff u).1 := by
  have m1 : pmOK f n (cl1 f n u) := pmOK_mmu hu
  have m3 : pmOK f n (cl3 f n u) := pmOK_men (pmOK_num m1)
  have m4 : pmOK f n (cl4 f n u) := by
    unfold cl4
    split
    · exact m3
    · exact pmOK_mbd (by decide) m3
  have v := numV_bd m1
  refine hlN_bd 5 _ m4 ?_ (Bd_up (Bd_zr hf) v.1 v.2)
  exact (show (0 : Int) ≤ 0 ∧ (0 : Int) ≤ 4 from ⟨by decide, by decide⟩)
theorem read_ok {f : Nat → Int} {n mk : Int} {c : CS} {ff : Nat → Int} (hn : 0 ≤ n) (hco : csOK (0, c.2)) (h0 : (rdR f n c).2.2.2.2 = 0) (hcf : CF (nuV f (rd1 f n)) (rdR f n c).1 ff) : CK (nuV f (rd1 f n)) (rdR f n c).1.1 (rdR f n c).1.2.1 (rdR f n c).1.2.2.1 (rdR f n c).1.2.2.2 := by
  have rf := rd_fin (f := f) (n := n) (c := c) hn hco
  have r2 := rf.2.2 h0
  have r1 := rf.1
  refine ⟨Or.inr ⟨r2.1, r1.1.2, r2.2.1, r2.2.2⟩, r1.2.1, r1.2.2.1, r1.2.2.2, fun h hh => ?_⟩
  have v := hcf.1 h hh
  refine ⟨v.1, v.2.1, ?_⟩
  rw [v.2.2]
  omega
theorem st_clock {bt hs ss fw so tu sp sod tud spd : Nat → Int} {mk cn tln ln cnd lf v7 v8 l7 m7 c7 n7 t8 a8 : Int} {s7 t7 p7 fc8 ff8 ff : Nat → Int} {tkm sam tim fpm : Int} {u8 : PM} (ht : 0 ≤ tln ∧ tln ≤ 200) (hK : CK mk cn so tu sp) (hA : SA ln hs ss fw mk cn so tu sp) (hd : Bd 0 5 sod ∧ Bd 0 12 tud ∧ Bd 0 59 spd) (hff : Bd 0 999 ff)
    (h7 : ((rdR bt tln (cnd, sod, tud, spd)).2.2.2.2 ≠ 0 ∧ v7 = -1000100 - (rdR bt tln (cnd, sod, tud, spd)).2.2.1 ∧ (l7, m7, c7, s7, t7, p7, n7) = ((rdR bt tln (cnd, sod, tud, spd)).2.2.2.2, mk, cn, so, tu, sp, ln)) ∨ ((rdR bt tln (cnd, sod, tud, spd)).2.2.2.2 = 0 ∧ v7 = (rdR bt tln (cnd, sod, tud, spd)).1.1 ∧ (l7, m7, c7, s7, t7, p7, n7) = (lf, nuV bt (rd1 bt tln), (rdR bt tln (cnd, sod, tud, spd)).1.1, mixI (rdR bt tln (cnd, sod, tud, spd)).1.2.1 so, mixI (rdR bt tln (cnd, sod, tud, spd)).1.2.2.1 tu, mixI (rdR bt tln (cnd, sod, tud, spd)).1.2.2.2 sp, 0)))
    (h8 : ff8 = (clR bt tln ff (mnx bt tln (0, tkm, sam, tim, 0, fpm))).1 ∧ u8 = clS bt tln ff (mnx bt tln (0, tkm, sam, tim, 0, fpm)) ∧ pmOK bt tln (clS bt tln ff (mnx bt tln (0, tkm, sam, tim, 0, fpm))) ∧ (((clS bt tln ff (mnx bt tln (0, tkm, sam, tim, 0, fpm))).2.2.2.2.1 ≠ 0 ∧ v8 = -1000100 - (clS bt tln ff (mnx bt tln (0, tkm, sam, tim, 0, fpm))).2.2.2.2.2 ∧ t8 = (clS bt tln ff (mnx bt tln (0, tkm, sam, tim, 0, fpm))).2.2.2.2.1 ∧ a8 = ln ∧ fc8 = clkF mk cn so tu sp) ∨ ((clS bt tln ff (mnx bt tln (0, tkm, sam, tim, 0, fpm))).2.2.2.2.1 = 0 ∧ v8 = (clR bt tln ff (mnx bt tln (0, tkm, sam, tim, 0, fpm))).1 1 ∧ t8 = lf ∧ a8 = 0 ∧ fc8 = m14 (clR bt tln ff (mnx bt tln (0, tkm, sam, tim, 0, fpm))).1 (clkF mk cn so tu sp)))) :
    v7 = v8 ∧ t8 = l7 ∧ a8 = n7 ∧ fc8 = clkF m7 c7 s7 t7 p7 ∧ CK m7 c7 s7 t7 p7 ∧ SA n7 hs ss fw m7 c7 s7 t7 p7 ∧ (Bd 0 5 (rdR bt tln (cnd, sod, tud, spd)).1.2.1 ∧ Bd 0 12 (rdR bt tln (cnd, sod, tud, spd)).1.2.2.1 ∧ Bd 0 59 (rdR bt tln (cnd, sod, tud, spd)).1.2.2.2) ∧ Bd 0 999 ff8 := by
  have hco : csOK (0, sod, tud, spd) := ⟨⟨Int.le_refl _, (by decide : (0 : Int) ≤ 4)⟩, hd⟩
  have re := read_eq (f := bt) (n := tln) (tk := tkm) (sa := sam) (ti := tim) (fp := fpm) (ff := ff) (c := (cnd, sod, tud, spd)) ht.1 hco
  have rf := rd_fin (f := bt) (n := tln) (c := (cnd, sod, tud, spd)) ht.1 hco
  have hp := PR_ft re.1
  have bf := clR_bd (f := bt) (n := tln) (ff := ff) (u := mnx bt tln (0, tkm, sam, tim, 0, fpm)) (pmOK_0 ht.1) hff
  obtain ⟨e1, e2, e3, h8⟩ := h8
  rw [← e1] at bf
  rcases h7 with ⟨c, e, q⟩ | ⟨c, e, q⟩
  · rcases h8 with ⟨d, f1, f2, f3, f4⟩ | ⟨d, -⟩
    · have z := re.1.2.2.2.2.2 c
      cases q
      exact ⟨by rw [e, f1, z], by rw [f2, hp], f3, f4, hK, hA, rf.1.2, bf⟩
    · omega
  · rcases h8 with ⟨d, -⟩ | ⟨d, f1, f2, f3, f4⟩
    · omega
    · have cf := re.2 c
      have ok := read_ok (mk := 0) ht.1 hco c cf
      have cm := CK_mix ok hK.2.1 hK.2.2.1 hK.2.2.2.1
      have e9 : (clR bt tln ff (mnx bt tln (0, tkm, sam, tim, 0, fpm))).1 1 = (rdR bt tln (cnd, sod, tud, spd)).1.1 := cf.2 1 (by decide)
      cases q
      refine ⟨by rw [e, f1, e9], f2, f3, ?_, cm, SA_0 hA.2.1 hA.2.2.1 hA.2.2.2.1, rf.1.2, bf⟩
      rw [f4, clkF_mix ok.c4]
      funext j
      unfold m14
      by_cases cj : j < 14
      · rw [if_pos cj, cf.2 j cj]
      · rw [if_neg cj, clkF_hi hK.c4 (by omega), clkF_hi ok.c4 (by omega)]
