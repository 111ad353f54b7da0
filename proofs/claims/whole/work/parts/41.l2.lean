set_option maxHeartbeats 4000000 in
set_option maxRecDepth 100000 in
theorem c2_X7_lies {g : Gx} {B : Nat → Nat} {lf fi : Int} {it la le : Nat → Int} {mk cn : Int} {so tu sp : Nat → Int} {ar rs : Nat → Int} {rc pa0 : Int} {r i pa w : Int} (hit : Bd (-2147483648) 2147483647 it) (hla : Bd (-1) 2 la) (hle : Bd 0 40 le) (hcn : 0 ≤ cn ∧ cn ≤ 4) (hmk : 0 ≤ mk ∧ mk ≤ 60) (hso : Bd 0 5 so) (htu : Bd 0 12 tu) (hsp : Bd 0 59 sp) (har : Bd 0 719 ar) (hrs : Bd (-24) 24 rs) (hrc : 0 ≤ rc ∧ rc ≤ 4) (hpa : 0 ≤ pa0 ∧ pa0 ≤ 720) (hr : R32 r) (hi : R32 i) (hpa : R32 pa) (hw : R32 w) : CtI (S := Int × (Nat → Int) × (Nat → Int) × Int × Int) g yX7_lies wsX7_lies 7 162 [.ref (B 0), .int (iI r), .int (iI i), .int (iI pa), .int (iI w)] (oAH g B (lf) (fi) :: (wRow g (B 1) (B 11) (B 12) (B 13) it la le ++ (wClk g (B 3) (B 15) (B 16) (B 17) mk cn so tu sp ++ (wRea g (B 9) (B 29) (B 30) ar rs rc pa0)))) (fun v u => (cn = 0 ∧ v = -1000002 ∧ u = (fi, ar, rs, rc, pa0)) ∨ (cn ≠ 0 ∧ ((¬ ((0 ≤ r ∧ r < 8) ∧ (1 ≤ pa ∧ pa ≤ 720) ∧ (0 ≤ w ∧ w ≤ 3)) ∧ v = -1000001 ∧ u = (fi, ar, rs, rc, pa0)) ∨ (((0 ≤ r ∧ r < 8) ∧ (1 ≤ pa ∧ pa ≤ 720) ∧ (0 ≤ w ∧ w ≤ 3)) ∧ ((la r.toNat = -1 ∧ v = -1000011 ∧ u = (1, ar, rs, rc, pa0)) ∨ (la r.toNat ≠ -1 ∧ (((i < 0 ∨ le r.toNat < i + cn) ∧ v = -1000012 ∧ u = (2, ar, rs, rc, pa0)) ∨ ((0 ≤ i ∧ i + cn ≤ le r.toNat) ∧ ((¬ (∀ k : Int, 0 ≤ k → k < cn → 0 ≤ itmI it le r (i + k) ∧ itmI it le r (i + k) < pa) ∧ v = -1000001 ∧ u = (fi, ar, rs, rc, pa0)) ∨ ((∀ k : Int, 0 ≤ k → k < cn → 0 ≤ itmI it le r (i + k) ∧ itmI it le r (i + k) < pa) ∧ v = lieV (overI cn (rdA it le r i) ar) (overI cn (rdS cn so tu) rs) cn pa w ∧ u = (0, (overI cn (rdA it le r i) ar), (overI cn (rdS cn so tu) rs), cn, pa))))))))))) (fun u => oAH g B (lf) (u.1) :: (wRow g (B 1) (B 11) (B 12) (B 13) it la le ++ (wClk g (B 3) (B 15) (B 16) (B 17) mk cn so tu sp ++ (wRea g (B 9) (B 29) (B 30) (u.2.1) (u.2.2.1) (u.2.2.2.1) (u.2.2.2.2))))) := by
  refine m_go (cc := cX7_lies) (nL := 6) (by decide +kernel) rfl (Nat.le_of_ble_eq_true rfl) (fun x X Y hnm => ?_)
  refine v_eq (lo2 := [some (.ref (B 0)), some (.int (iI r)), some (.int (iI i)), some (.int (iI pa)), some (.int (iI w)), none]) rfl rfl rfl rfl ?_
  refine v_aload_n X dX7_lies_0 rfl ?_
  refine v_get X (fun _ h => List.mem_cons_of_mem _ (List.mem_append_left _ (List.mem_append_left _ (List.mem_append_left _ (List.mem_append_right _ h))))) 0 rfl rfl 2 (by decide) rfl (List.mem_of_getElem? (i := 1) rfl) rfl dX7_lies_1 ?_
  refine res_E X (run_V X (c_X2_isNone (g := g) (by first | assumption | omega)) gX7_lies_X2_isNone rfl hdX2_isNone ⟨(Nat.le_of_ble_eq_true rfl), (Nat.le_of_ble_eq_true rfl)⟩ ⟨(Nat.le_of_ble_eq_true rfl), (Nat.le_of_ble_eq_true rfl)⟩ 5 rfl rfl rfl [5, 6, 7, 8] rfl rfl rfl rfl (by simp [Value.category]) dX7_lies_4) [5, 6, 7, 8] rfl rfl ?_
  refine v_ifb_eq (tgt := 13) X dX7_lies_7 (by decide) (fun c1 => ?_) (fun c1 => ?_)
  · skip
    refine v_iload_n X dX7_lies_13 rfl ?_
    refine res_E X (run_S X (c_X7_isRow (g := g) (by first | assumption | omega)) gX7_lies_X7_isRow rfl hdX7_isRow.2 ⟨(Nat.le_of_ble_eq_true rfl), (Nat.le_of_ble_eq_true rfl)⟩ ⟨(Nat.le_of_ble_eq_true rfl), (Nat.le_of_ble_eq_true rfl)⟩ [] rfl rfl rfl rfl (by simp [Value.category]) dX7_lies_14) [] rfl rfl ?_
    refine v_ifb_eq (tgt := 41) X dX7_lies_17 (by decide) (fun c2 => ?_) (fun c2 => ?_)
    · skip
      refine v_ldc X (List.mem_of_getElem? (i := 3) rfl) dX7_lies_41 (n := -1000001) (by decide) ?_
      refine v_iret X Y dX7_lies_43 (u := (fi, ar, rs, rc, pa0)) ?_ (by rfl)
      exact Or.inr ⟨by omega, Or.inl ⟨by omega, rfl, rfl⟩⟩
    · skip
      refine v_iload_n X dX7_lies_20 rfl ?_
      refine v_iconst X dX7_lies_21 ?_
      refine v_sipush X dX7_lies_22 (by decide) ?_
      refine res_E X (run_S X (c_X7_isWithin (g := g) (by first | assumption | omega) (by first | assumption | omega) (by first | assumption | omega)) gX7_lies_X7_isWithin rfl hdX7_isWithin.2 ⟨(Nat.le_of_ble_eq_true rfl), (Nat.le_of_ble_eq_true rfl)⟩ ⟨(Nat.le_of_ble_eq_true rfl), (Nat.le_of_ble_eq_true rfl)⟩ [] rfl rfl rfl rfl (by simp [Value.category]) dX7_lies_25) [] rfl rfl ?_
      refine v_ifb_eq (tgt := 41) X dX7_lies_28 (by decide) (fun c3 => ?_) (fun c3 => ?_)
      · skip
        refine v_ldc X (List.mem_of_getElem? (i := 3) rfl) dX7_lies_41 (n := -1000001) (by decide) ?_
        refine v_iret X Y dX7_lies_43 (u := (fi, ar, rs, rc, pa0)) ?_ (by rfl)
        exact Or.inr ⟨by omega, Or.inl ⟨by omega, rfl, rfl⟩⟩
      · skip
        refine v_iload X dX7_lies_31 rfl ?_
        refine v_iconst X dX7_lies_33 ?_
        refine v_iconst X dX7_lies_34 ?_
        refine res_E X (run_S X (c_X7_isWithin (g := g) (by first | assumption | omega) (by first | assumption | omega) (by first | assumption | omega)) gX7_lies_X7_isWithin rfl hdX7_isWithin.2 ⟨(Nat.le_of_ble_eq_true rfl), (Nat.le_of_ble_eq_true rfl)⟩ ⟨(Nat.le_of_ble_eq_true rfl), (Nat.le_of_ble_eq_true rfl)⟩ [] rfl rfl rfl rfl (by simp [Value.category]) dX7_lies_35) [] rfl rfl ?_
        refine v_ifb_ne (tgt := 44) X dX7_lies_38 (by decide) (fun c4 => ?_) (fun c4 => ?_)
        · skip
          have q1 := hle r.toNat
          have q0 := hla r.toNat
          refine v_aload_n X dX7_lies_44 rfl ?_
          refine v_get X (fun _ h => List.mem_cons_of_mem _ (List.mem_append_left _ (List.mem_append_left _ (List.mem_append_left _ (List.mem_append_right _ h))))) 0 rfl rfl 0 (by decide) rfl (List.mem_of_getElem? (i := 4) rfl) rfl dX7_lies_45 ?_
          refine v_iload_n X dX7_lies_48 rfl ?_
          refine v_iload_n X dX7_lies_49 rfl ?_
          refine v_aload_n X dX7_lies_50 rfl ?_
          refine v_get X (fun _ h => List.mem_cons_of_mem _ (List.mem_append_left _ (List.mem_append_left _ (List.mem_append_left _ (List.mem_append_right _ h))))) 0 rfl rfl 2 (by decide) rfl (List.mem_of_getElem? (i := 1) rfl) rfl dX7_lies_51 ?_
          refine v_get X (fun _ h => List.mem_cons_of_mem _ (List.mem_append_left _ (List.mem_append_left _ (List.mem_append_right _ h)))) 5 rfl rfl 4 (by decide) rfl (List.mem_of_getElem? (i := 5) rfl) rfl dX7_lies_54 ?_
          refine res_E X (run_V X (c_X5_wrongAt (g := g) (by first | assumption | omega) (by first | assumption | omega) (by first | assumption | omega) (by first | assumption | omega) (by first | assumption | omega)) gX7_lies_X5_wrongAt rfl hdX5_wrongAt ⟨(Nat.le_of_ble_eq_true rfl), (Nat.le_of_ble_eq_true rfl)⟩ ⟨(Nat.le_of_ble_eq_true rfl), (Nat.le_of_ble_eq_true rfl)⟩ 1 rfl rfl rfl [1, 2, 3, 4] rfl rfl rfl rfl (by simp [Value.category]) dX7_lies_57) [1, 2, 3, 4] rfl rfl ?_
          have hno : wrgI la le r i cn = (if lanI la r = -1 then 1 else if rchI le r i cn = 1 then 0 else 2) := rfl
          have hr1 : rchI le r i cn = if 0 ≤ i ∧ 0 ≤ cn ∧ i ≤ le r.toNat - cn then 1 else 0 := rchI_n (by omega)
          have hl1 : lanI la r = la r.toNat := if_pos (by omega)
          have hn2 : (la r.toNat = -1 ∧ wrgI la le r i cn = 1) ∨ (la r.toNat ≠ -1 ∧ (i < 0 ∨ le r.toNat < i + cn) ∧ wrgI la le r i cn = 2) ∨ (la r.toNat ≠ -1 ∧ (0 ≤ i ∧ i + cn ≤ le r.toNat) ∧ wrgI la le r i cn = 0) := by rw [hno, hr1, hl1]; (repeat split) <;> omega
          refine v_istore X dX7_lies_60 (by decide) rfl ?_
          dsimp only [List.set]
          refine v_iload X dX7_lies_62 rfl ?_
          refine v_if_eq (tgt := 74) X dX7_lies_64 (by decide) (by first | omega | (rcases hn2 with q | q | q <;> omega)) (fun c5 => ?_) (fun c5 => ?_)
          · skip
            have g3 : la r.toNat ≠ -1 ∧ 0 ≤ i ∧ i + cn ≤ le r.toNat := by rcases hn2 with q | q | q <;> omega
            refine v_aload_n X dX7_lies_74 rfl ?_
            refine v_get X (fun _ h => List.mem_cons_of_mem _ (List.mem_append_left _ (List.mem_append_left _ (List.mem_append_left _ (List.mem_append_right _ h))))) 0 rfl rfl 0 (by decide) rfl (List.mem_of_getElem? (i := 4) rfl) rfl dX7_lies_75 ?_
            refine v_iload_n X dX7_lies_78 rfl ?_
            refine v_iload_n X dX7_lies_79 rfl ?_
            refine v_iload_n X dX7_lies_80 rfl ?_
            refine v_aload_n X dX7_lies_81 rfl ?_
            refine v_get X (fun _ h => List.mem_cons_of_mem _ (List.mem_append_left _ (List.mem_append_left _ (List.mem_append_left _ (List.mem_append_right _ h))))) 0 rfl rfl 2 (by decide) rfl (List.mem_of_getElem? (i := 1) rfl) rfl dX7_lies_82 ?_
            refine v_get X (fun _ h => List.mem_cons_of_mem _ (List.mem_append_left _ (List.mem_append_left _ (List.mem_append_right _ h)))) 5 rfl rfl 4 (by decide) rfl (List.mem_of_getElem? (i := 5) rfl) rfl dX7_lies_85 ?_
            refine res_E X (run_V X (c_X5_areBelow (g := g) (by first | assumption | omega) (by first | assumption | omega) (by first | assumption | omega) (by first | assumption | omega) (by first | assumption | omega) (by first | assumption | omega)) gX7_lies_X5_areBelow rfl hdX5_areBelow ⟨(Nat.le_of_ble_eq_true rfl), (Nat.le_of_ble_eq_true rfl)⟩ ⟨(Nat.le_of_ble_eq_true rfl), (Nat.le_of_ble_eq_true rfl)⟩ 1 rfl rfl rfl [1, 2, 3, 4] rfl rfl rfl rfl (by simp [Value.category]) dX7_lies_88) [1, 2, 3, 4] rfl rfl ?_
            refine v_ifp_ne (tgt := 97) X dX7_lies_91 (by decide) (fun c6 => ?_) (fun c6 => ?_)
            · skip
              have hb := (by assumption : (∀ k : Int, 0 ≤ k → k < cn → 0 ≤ itmI it le r (i + k) ∧ itmI it le r (i + k) < pa))
              have b1 : Bd 0 719 (overI cn (rdA it le r i) ar) := Bd_over (fun j hj => by have q := hb j (by omega) hj; unfold rdA; omega) har
              have b2 : Bd (-24) 24 (overI cn (rdS cn so tu) rs) := Bd_over (fun j hj => spdI_bd htu) hrs
              refine v_aload_n X dX7_lies_97 rfl ?_
              refine v_get X (fun _ h => List.mem_cons_of_mem _ (List.mem_append_left _ (List.mem_append_left _ (List.mem_append_left _ (List.mem_append_right _ h))))) 0 rfl rfl 8 (by decide) rfl (List.mem_of_getElem? (i := 6) rfl) rfl dX7_lies_98 ?_
              refine v_aload_n X dX7_lies_101 rfl ?_
              refine v_get X (fun _ h => List.mem_cons_of_mem _ (List.mem_append_left _ (List.mem_append_left _ (List.mem_append_left _ (List.mem_append_right _ h))))) 0 rfl rfl 2 (by decide) rfl (List.mem_of_getElem? (i := 1) rfl) rfl dX7_lies_102 ?_
              refine v_aload_n X dX7_lies_105 rfl ?_
              refine v_get X (fun _ h => List.mem_cons_of_mem _ (List.mem_append_left _ (List.mem_append_left _ (List.mem_append_left _ (List.mem_append_right _ h))))) 0 rfl rfl 0 (by decide) rfl (List.mem_of_getElem? (i := 4) rfl) rfl dX7_lies_106 ?_
              refine v_iload_n X dX7_lies_109 rfl ?_
              refine v_iload_n X dX7_lies_110 rfl ?_
              refine v_iload_n X dX7_lies_111 rfl ?_
              refine res_W X (run_V X (c_X4_take (g := g) (by first | assumption | omega) (by first | assumption | omega) (by first | assumption | omega) (by first | assumption | omega) (by first | assumption | omega) (by first | assumption | omega) (by first | assumption | omega) (by first | assumption | omega)) gX7_lies_X4_take rfl hdX4_take ⟨(Nat.le_of_ble_eq_true rfl), (Nat.le_of_ble_eq_true rfl)⟩ ⟨(Nat.le_of_ble_eq_true rfl), (Nat.le_of_ble_eq_true rfl)⟩ 9 rfl rfl rfl [9, 10, 11, 5, 6, 7, 8, 1, 2, 3, 4] rfl rfl rfl rfl (by simp [Value.category]) dX7_lies_112) [9, 10, 11, 5, 6, 7, 8, 1, 2, 3, 4] rfl rfl rfl ?_
              dsimp only [patch, List.set, List.cons_append, List.nil_append, oAH, wClk, wRea, wRow]
              refine v_aload_n X dX7_lies_115 rfl ?_
              refine v_aload_n X dX7_lies_116 rfl ?_
              refine v_iload X dX7_lies_117 rfl ?_
              refine res_E X (run_V X (c_X7_lieOfReading (g := g) (by first | assumption | omega) (by first | assumption | omega) (by first | assumption | omega) (by first | assumption | omega) (by first | assumption | omega)) gX7_lies_X7_lieOfReading rfl hdX7_lieOfReading ⟨(Nat.le_of_ble_eq_true rfl), (Nat.le_of_ble_eq_true rfl)⟩ ⟨(Nat.le_of_ble_eq_true rfl), (Nat.le_of_ble_eq_true rfl)⟩ 0 rfl rfl rfl [0, 9, 10, 11] rfl rfl rfl rfl (by simp [Value.category]) dX7_lies_119) [0, 9, 10, 11] rfl rfl ?_
              refine res_F X (run_V X (c_X7_fine (g := g) ) gX7_lies_X7_fine rfl hdX7_fine ⟨(Nat.le_of_ble_eq_true rfl), (Nat.le_of_ble_eq_true rfl)⟩ ⟨(Nat.le_of_ble_eq_true rfl), (Nat.le_of_ble_eq_true rfl)⟩ 0 rfl rfl rfl [0] rfl rfl rfl rfl (by simp [Value.category]) dX7_lies_122) [0] rfl rfl rfl ?_
              dsimp only [patch, List.set, List.cons_append, List.nil_append, oAH, wClk, wRea, wRow]
              refine v_iret X Y dX7_lies_125 (u := (0, (overI cn (rdA it le r i) ar), (overI cn (rdS cn so tu) rs), cn, pa)) ?_ (by rfl)
              exact Or.inr ⟨by omega, Or.inr ⟨by omega, Or.inr ⟨g3.1, Or.inr ⟨g3.2, Or.inr ⟨hb, rfl, rfl⟩⟩⟩⟩⟩
            · skip
              refine v_ldc X (List.mem_of_getElem? (i := 3) rfl) dX7_lies_94 (n := -1000001) (by decide) ?_
              refine v_iret X Y dX7_lies_96 (u := (fi, ar, rs, rc, pa0)) ?_ (by rfl)
              exact Or.inr ⟨by omega, Or.inr ⟨by omega, Or.inr ⟨g3.1, Or.inr ⟨g3.2, Or.inl ⟨by assumption, rfl, rfl⟩⟩⟩⟩⟩
          · skip
            refine v_aload_n X dX7_lies_67 rfl ?_
            refine v_iload X dX7_lies_68 rfl ?_
            refine res_F X (run_V X (c_X7_found (g := g) ) gX7_lies_X7_found rfl hdX7_found ⟨(Nat.le_of_ble_eq_true rfl), (Nat.le_of_ble_eq_true rfl)⟩ ⟨(Nat.le_of_ble_eq_true rfl), (Nat.le_of_ble_eq_true rfl)⟩ 0 rfl rfl rfl [0] rfl rfl rfl rfl (by simp [Value.category]) dX7_lies_70) [0] rfl rfl rfl ?_
            dsimp only [patch, List.set, List.cons_append, List.nil_append, oAH, wClk, wRea, wRow]
            refine v_iret X Y dX7_lies_73 (u := (wrgI la le r i cn, ar, rs, rc, pa0)) ?_ (by rfl)
            refine Or.inr ⟨by omega, Or.inr ⟨by omega, ?_⟩⟩
            rcases hn2 with q | q | q
            · exact Or.inl ⟨q.1, by omega, by rw [q.2]⟩
            · exact Or.inr ⟨q.1, Or.inl ⟨q.2.1, by omega, by rw [q.2.2]⟩⟩
            · exfalso; omega
        · skip
          refine v_ldc X (List.mem_of_getElem? (i := 3) rfl) dX7_lies_41 (n := -1000001) (by decide) ?_
          refine v_iret X Y dX7_lies_43 (u := (fi, ar, rs, rc, pa0)) ?_ (by rfl)
          exact Or.inr ⟨by omega, Or.inl ⟨by omega, rfl, rfl⟩⟩
  · skip
    refine v_ldc X (List.mem_of_getElem? (i := 2) rfl) dX7_lies_10 (n := -1000002) (by decide) ?_
    refine v_iret X Y dX7_lies_12 (u := (fi, ar, rs, rc, pa0)) ?_ (by rfl)
    exact Or.inl ⟨by omega, rfl, rfl⟩

set_option maxHeartbeats 4000000 in
set_option maxRecDepth 100000 in
theorem c2_X7_firstLieOf {g : Gx} {B : Nat → Nat} {lf fi : Int} {it la le : Nat → Int} {mk cn : Int} {so tu sp : Nat → Int} {ar rs : Nat → Int} {rc pa0 : Int} {r n pa : Int} (hit : Bd (-2147483648) 2147483647 it) (hla : Bd (-1) 2 la) (hle : Bd 0 40 le) (hcn : 0 ≤ cn ∧ cn ≤ 4) (hmk : 0 ≤ mk ∧ mk ≤ 60) (hso : Bd 0 5 so) (htu : Bd 0 12 tu) (hsp : Bd 0 59 sp) (har : Bd 0 719 ar) (hrs : Bd (-24) 24 rs) (hrc : 0 ≤ rc ∧ rc ≤ 4) (hpa : 0 ≤ pa0 ∧ pa0 ≤ 720) (hr : 0 ≤ r ∧ r < 8) (hn : 1 ≤ n ∧ n ≤ 10) (hp : 1 ≤ pa ∧ pa ≤ 720) (hnc : n * cn ≤ 40) (hb : (∀ k : Int, 0 ≤ k → k < n * cn → 0 ≤ itmI it le r (0 + k) ∧ itmI it le r (0 + k) < pa)) : CtI (S := (Nat → Int) × (Nat → Int) × Int × Int) g yX7_firstLieOf wsX7_firstLieOf 5 118 [.ref (B 0), .int (iI r), .int (iI n), .int (iI pa)] (oAH g B (lf) (fi) :: (wRow g (B 1) (B 11) (B 12) (B 13) it la le ++ (wClk g (B 3) (B 15) (B 16) (B 17) mk cn so tu sp ++ (wRea g (B 9) (B 29) (B 30) ar rs rc pa0)))) (fun v u => v = firC it le cn so tu r n pa ∧ (Bd 0 719 u.1 ∧ Bd (-24) 24 u.2.1 ∧ (0 ≤ u.2.2.1 ∧ u.2.2.1 ≤ 4) ∧ (0 ≤ u.2.2.2 ∧ u.2.2.2 ≤ 720))) (fun u => oAH g B (lf) (fi) :: (wRow g (B 1) (B 11) (B 12) (B 13) it la le ++ (wClk g (B 3) (B 15) (B 16) (B 17) mk cn so tu sp ++ (wRea g (B 9) (B 29) (B 30) (u.1) (u.2.1) (u.2.2.1) (u.2.2.2))))) := by
  refine m_go (cc := cX7_firstLieOf) (nL := 5) (by decide +kernel) rfl (Nat.le_of_ble_eq_true rfl) (fun x X Y hnm => ?_)
  refine v_eq (lo2 := [some (.ref (B 0)), some (.int (iI r)), some (.int (iI n)), some (.int (iI pa)), none]) rfl rfl rfl rfl ?_
  refine v_iconst X dX7_firstLieOf_0 ?_
  refine v_istore X dX7_firstLieOf_1 (by decide) rfl ?_
  dsimp only [List.set]
  have L3 : ∀ (nf : Nat) (f1 : Nat → Int) (f2 : Nat → Int) (c : Int) (p : Int) (k : Int) (h1 : 0 ≤ k ∧ k ≤ n) (h2 : firC it le cn so tu r n pa = othS (fun k => !(pB (FitW (rdA it le r (k * cn)) (rdS cn so tu) cn pa (-1)))) (n - k).toNat k) (h3 : Bd 0 719 f1) (h4 : Bd (-24) 24 f2) (h5 : 0 ≤ c ∧ c ≤ 4) (h6 : 0 ≤ p ∧ p ≤ 720) (_ : (n - k).toNat < nf), V g x 0 0 (oAH g B (lf) (fi) :: (wRow g (B 1) (B 11) (B 12) (B 13) it la le ++ (wClk g (B 3) (B 15) (B 16) (B 17) mk cn so tu sp ++ (wRea g (B 9) (B 29) (B 30) (f1) (f2) (c) (p))))) [some (.ref (B 0)), some (.int (iI r)), some (.int (iI n)), some (.int (iI pa)), some (.int (iI k))] 3 [] := by
    intro nf
    induction nf with
    | zero => intro f1 f2 c p k h1 h2 h3 h4 h5 h6 hmu; exact absurd hmu (Nat.not_lt_zero _)
    | succ nf ih3 =>
      intro f1 f2 c p k h1 h2 h3 h4 h5 h6 hmu
      refine v_iload X dX7_firstLieOf_3 rfl ?_
      refine v_iload_n X dX7_firstLieOf_5 rfl ?_
      refine v_icmp_ge (tgt := 56) X dX7_firstLieOf_6 (by decide) (by omega) (by omega) (fun c1 => ?_) (fun c1 => ?_)
      · skip
        refine v_ldc X (List.mem_of_getElem? (i := 5) rfl) dX7_firstLieOf_56 (n := -1000000) (by decide) ?_
        refine v_iret X Y dX7_firstLieOf_58 (u := (f1, f2, c, p)) ?_ (by rfl)
        refine ⟨?_, h3, h4, h5, h6⟩
        rw [h2, show (n - k).toNat = 0 by omega]
        rfl
      · skip
        have q4 := mul_step (show 0 ≤ cn by omega) h1.1 (show k < n by omega)
        have b1 : Bd 0 719 (overI cn (rdA it le r (k * cn)) f1) := Bd_over (fun j hj => by
          have q := hb (k * cn + j) (by omega) (by omega)
          rw [Int.zero_add] at q
          unfold rdA
          omega) h3
        have b2 : Bd (-24) 24 (overI cn (rdS cn so tu) f2) := Bd_over (fun j hj => spdI_bd htu) h4
        have g6 : FitW (overI cn (rdA it le r (k * cn)) f1) (overI cn (rdS cn so tu) f2) cn pa (-1) ↔ FitW (rdA it le r (k * cn)) (rdS cn so tu) cn pa (-1) := FitW_congr (fun h a1 a2 => ⟨over_at a1 a2, over_at a1 a2⟩)
        refine v_aload_n X dX7_firstLieOf_9 rfl ?_
        refine v_get X (fun _ h => List.mem_cons_of_mem _ (List.mem_append_left _ (List.mem_append_left _ (List.mem_append_left _ (List.mem_append_right _ h))))) 0 rfl rfl 8 (by decide) rfl (List.mem_of_getElem? (i := 1) rfl) rfl dX7_firstLieOf_10 ?_
        refine v_aload_n X dX7_firstLieOf_13 rfl ?_
        refine v_get X (fun _ h => List.mem_cons_of_mem _ (List.mem_append_left _ (List.mem_append_left _ (List.mem_append_left _ (List.mem_append_right _ h))))) 0 rfl rfl 2 (by decide) rfl (List.mem_of_getElem? (i := 2) rfl) rfl dX7_firstLieOf_14 ?_
        refine v_aload_n X dX7_firstLieOf_17 rfl ?_
        refine v_get X (fun _ h => List.mem_cons_of_mem _ (List.mem_append_left _ (List.mem_append_left _ (List.mem_append_left _ (List.mem_append_right _ h))))) 0 rfl rfl 0 (by decide) rfl (List.mem_of_getElem? (i := 3) rfl) rfl dX7_firstLieOf_18 ?_
        refine v_iload_n X dX7_firstLieOf_21 rfl ?_
        refine v_iload X dX7_firstLieOf_22 rfl ?_
        refine v_aload_n X dX7_firstLieOf_24 rfl ?_
        refine v_get X (fun _ h => List.mem_cons_of_mem _ (List.mem_append_left _ (List.mem_append_left _ (List.mem_append_left _ (List.mem_append_right _ h))))) 0 rfl rfl 2 (by decide) rfl (List.mem_of_getElem? (i := 2) rfl) rfl dX7_firstLieOf_25 ?_
        refine v_get X (fun _ h => List.mem_cons_of_mem _ (List.mem_append_left _ (List.mem_append_left _ (List.mem_append_right _ h)))) 5 rfl rfl 4 (by decide) rfl (List.mem_of_getElem? (i := 4) rfl) rfl dX7_firstLieOf_28 ?_
        refine v_imul X dX7_firstLieOf_31 ?_
        refine v_iload_n X dX7_firstLieOf_32 rfl ?_
        refine res_W X (run_V X (c_X4_take (g := g) (by first | assumption | omega) (by first | assumption | omega) (by first | assumption | omega) (by first | assumption | omega) (by first | assumption | omega) (by first | assumption | omega) (by first | assumption | omega) (by first | assumption | omega)) gX7_firstLieOf_X4_take rfl hdX4_take ⟨(Nat.le_of_ble_eq_true rfl), (Nat.le_of_ble_eq_true rfl)⟩ ⟨(Nat.le_of_ble_eq_true rfl), (Nat.le_of_ble_eq_true rfl)⟩ 9 rfl rfl rfl [9, 10, 11, 5, 6, 7, 8, 1, 2, 3, 4] rfl rfl rfl rfl (by simp [Value.category]) dX7_firstLieOf_33) [9, 10, 11, 5, 6, 7, 8, 1, 2, 3, 4] rfl rfl rfl ?_
        dsimp only [patch, List.set, List.cons_append, List.nil_append, oAH, wClk, wRea, wRow]
        refine v_aload_n X dX7_firstLieOf_36 rfl ?_
        refine v_get X (fun _ h => List.mem_cons_of_mem _ (List.mem_append_left _ (List.mem_append_left _ (List.mem_append_left _ (List.mem_append_right _ h))))) 0 rfl rfl 8 (by decide) rfl (List.mem_of_getElem? (i := 1) rfl) rfl dX7_firstLieOf_37 ?_
        refine v_iconst X dX7_firstLieOf_40 ?_
        refine res_E X (run_V X (c_X4_fitsWithout (g := g) (by first | assumption | omega) (by first | assumption | omega) (by first | assumption | omega) (by first | assumption | omega) (by first | assumption | omega)) gX7_firstLieOf_X4_fitsWithout rfl hdX4_fitsWithout ⟨(Nat.le_of_ble_eq_true rfl), (Nat.le_of_ble_eq_true rfl)⟩ ⟨(Nat.le_of_ble_eq_true rfl), (Nat.le_of_ble_eq_true rfl)⟩ 9 rfl rfl rfl [9, 10, 11] rfl rfl rfl rfl (by simp [Value.category]) dX7_firstLieOf_41) [9, 10, 11] rfl rfl ?_
        refine v_ifp_ne (tgt := 50) X dX7_firstLieOf_44 (by decide) (fun c2 => ?_) (fun c2 => ?_)
        · skip
          refine v_iinc X dX7_firstLieOf_50 rfl (by decide) rfl ?_
          dsimp only [List.set]
          refine v_goto (tgt := 3) X dX7_firstLieOf_53 (by decide) ?_
          exact ih3 _ _ _ _ _ (by omega) (by rw [h2, othS_s (by omega), if_neg (fun z => absurd (g6.mp (by assumption)) (notB.mp z))]) (by exact b1) (by exact b2) (by omega) (by omega) (by omega)
        · skip
          refine v_iload X dX7_firstLieOf_47 rfl ?_
          refine v_iret X Y dX7_firstLieOf_49 (u := (_, _, _, _)) ?_ (by rfl)
          refine ⟨?_, b1, b2, hcn, ⟨by show 0 ≤ pa; omega, hp.2⟩⟩
          rw [h2, othS_s (by omega), if_pos (notB.mpr (fun z => absurd (g6.mpr z) (by assumption)))]
  exact L3 _ _ _ _ _ _ (by omega) (by unfold firC; rw [Int.sub_zero]) (by assumption) (by assumption) (by omega) (by omega) (Nat.lt_succ_self _)

set_option maxHeartbeats 4000000 in
set_option maxRecDepth 100000 in
theorem c2_X7_firstLie {g : Gx} {B : Nat → Nat} {lf fi : Int} {it la le : Nat → Int} {mk cn : Int} {so tu sp : Nat → Int} {ar rs : Nat → Int} {rc pa0 : Int} {r n pa : Int} (hit : Bd (-2147483648) 2147483647 it) (hla : Bd (-1) 2 la) (hle : Bd 0 40 le) (hcn : 0 ≤ cn ∧ cn ≤ 4) (hmk : 0 ≤ mk ∧ mk ≤ 60) (hso : Bd 0 5 so) (htu : Bd 0 12 tu) (hsp : Bd 0 59 sp) (har : Bd 0 719 ar) (hrs : Bd (-24) 24 rs) (hrc : 0 ≤ rc ∧ rc ≤ 4) (hpa : 0 ≤ pa0 ∧ pa0 ≤ 720) (hr : R32 r) (hn : R32 n) (hpa : R32 pa) : CtI (S := Int × (Nat → Int) × (Nat → Int) × Int × Int) g yX7_firstLie wsX7_firstLie 6 142 [.ref (B 0), .int (iI r), .int (iI n), .int (iI pa)] (oAH g B (lf) (fi) :: (wRow g (B 1) (B 11) (B 12) (B 13) it la le ++ (wClk g (B 3) (B 15) (B 16) (B 17) mk cn so tu sp ++ (wRea g (B 9) (B 29) (B 30) ar rs rc pa0)))) (fun v u => (cn = 0 ∧ v = -1000002 ∧ u = (fi, ar, rs, rc, pa0)) ∨ (cn ≠ 0 ∧ ((¬ ((0 ≤ r ∧ r < 8) ∧ (1 ≤ n ∧ n ≤ 10) ∧ (1 ≤ pa ∧ pa ≤ 720)) ∧ v = -1000001 ∧ u = (fi, ar, rs, rc, pa0)) ∨ (((0 ≤ r ∧ r < 8) ∧ (1 ≤ n ∧ n ≤ 10) ∧ (1 ≤ pa ∧ pa ≤ 720)) ∧ ((la r.toNat = -1 ∧ v = -1000011 ∧ u = (1, ar, rs, rc, pa0)) ∨ (la r.toNat ≠ -1 ∧ ((le r.toNat < n * cn ∧ v = -1000012 ∧ u = (2, ar, rs, rc, pa0)) ∨ (n * cn ≤ le r.toNat ∧ ((¬ (∀ k : Int, 0 ≤ k → k < n * cn → 0 ≤ itmI it le r (0 + k) ∧ itmI it le r (0 + k) < pa) ∧ v = -1000001 ∧ u = (fi, ar, rs, rc, pa0)) ∨ ((∀ k : Int, 0 ≤ k → k < n * cn → 0 ≤ itmI it le r (0 + k) ∧ itmI it le r (0 + k) < pa) ∧ v = firC it le cn so tu r n pa ∧ u.1 = 0 ∧ Bd 0 719 u.2.1 ∧ Bd (-24) 24 u.2.2.1 ∧ (0 ≤ u.2.2.2.1 ∧ u.2.2.2.1 ≤ 4) ∧ (0 ≤ u.2.2.2.2 ∧ u.2.2.2.2 ≤ 720))))))))))) (fun u => oAH g B (lf) (u.1) :: (wRow g (B 1) (B 11) (B 12) (B 13) it la le ++ (wClk g (B 3) (B 15) (B 16) (B 17) mk cn so tu sp ++ (wRea g (B 9) (B 29) (B 30) (u.2.1) (u.2.2.1) (u.2.2.2.1) (u.2.2.2.2))))) := by
  refine m_go (cc := cX7_firstLie) (nL := 5) (by decide +kernel) rfl (Nat.le_of_ble_eq_true rfl) (fun x X Y hnm => ?_)
  refine v_eq (lo2 := [some (.ref (B 0)), some (.int (iI r)), some (.int (iI n)), some (.int (iI pa)), none]) rfl rfl rfl rfl ?_
  refine v_aload_n X dX7_firstLie_0 rfl ?_
  refine v_get X (fun _ h => List.mem_cons_of_mem _ (List.mem_append_left _ (List.mem_append_left _ (List.mem_append_left _ (List.mem_append_right _ h))))) 0 rfl rfl 2 (by decide) rfl (List.mem_of_getElem? (i := 1) rfl) rfl dX7_firstLie_1 ?_
  refine res_E X (run_V X (c_X2_isNone (g := g) (by first | assumption | omega)) gX7_firstLie_X2_isNone rfl hdX2_isNone ⟨(Nat.le_of_ble_eq_true rfl), (Nat.le_of_ble_eq_true rfl)⟩ ⟨(Nat.le_of_ble_eq_true rfl), (Nat.le_of_ble_eq_true rfl)⟩ 5 rfl rfl rfl [5, 6, 7, 8] rfl rfl rfl rfl (by simp [Value.category]) dX7_firstLie_4) [5, 6, 7, 8] rfl rfl ?_
  refine v_ifb_eq (tgt := 13) X dX7_firstLie_7 (by decide) (fun c1 => ?_) (fun c1 => ?_)
  · skip
    refine v_iload_n X dX7_firstLie_13 rfl ?_
    refine res_E X (run_S X (c_X7_isRow (g := g) (by first | assumption | omega)) gX7_firstLie_X7_isRow rfl hdX7_isRow.2 ⟨(Nat.le_of_ble_eq_true rfl), (Nat.le_of_ble_eq_true rfl)⟩ ⟨(Nat.le_of_ble_eq_true rfl), (Nat.le_of_ble_eq_true rfl)⟩ [] rfl rfl rfl rfl (by simp [Value.category]) dX7_firstLie_14) [] rfl rfl ?_
    refine v_ifb_eq (tgt := 41) X dX7_firstLie_17 (by decide) (fun c2 => ?_) (fun c2 => ?_)
    · skip
      refine v_ldc X (List.mem_of_getElem? (i := 3) rfl) dX7_firstLie_41 (n := -1000001) (by decide) ?_
      refine v_iret X Y dX7_firstLie_43 (u := (fi, ar, rs, rc, pa0)) ?_ (by rfl)
      exact Or.inr ⟨by omega, Or.inl ⟨by omega, rfl, rfl⟩⟩
    · skip
      refine v_iload_n X dX7_firstLie_20 rfl ?_
      refine v_iconst X dX7_firstLie_21 ?_
      refine v_bipush X dX7_firstLie_22 (by decide) ?_
      refine res_E X (run_S X (c_X7_isWithin (g := g) (by first | assumption | omega) (by first | assumption | omega) (by first | assumption | omega)) gX7_firstLie_X7_isWithin rfl hdX7_isWithin.2 ⟨(Nat.le_of_ble_eq_true rfl), (Nat.le_of_ble_eq_true rfl)⟩ ⟨(Nat.le_of_ble_eq_true rfl), (Nat.le_of_ble_eq_true rfl)⟩ [] rfl rfl rfl rfl (by simp [Value.category]) dX7_firstLie_24) [] rfl rfl ?_
      refine v_ifb_eq (tgt := 41) X dX7_firstLie_27 (by decide) (fun c3 => ?_) (fun c3 => ?_)
      · skip
        refine v_ldc X (List.mem_of_getElem? (i := 3) rfl) dX7_firstLie_41 (n := -1000001) (by decide) ?_
        refine v_iret X Y dX7_firstLie_43 (u := (fi, ar, rs, rc, pa0)) ?_ (by rfl)
        exact Or.inr ⟨by omega, Or.inl ⟨by omega, rfl, rfl⟩⟩
      · skip
        refine v_iload_n X dX7_firstLie_30 rfl ?_
        refine v_iconst X dX7_firstLie_31 ?_
        refine v_sipush X dX7_firstLie_32 (by decide) ?_
        refine res_E X (run_S X (c_X7_isWithin (g := g) (by first | assumption | omega) (by first | assumption | omega) (by first | assumption | omega)) gX7_firstLie_X7_isWithin rfl hdX7_isWithin.2 ⟨(Nat.le_of_ble_eq_true rfl), (Nat.le_of_ble_eq_true rfl)⟩ ⟨(Nat.le_of_ble_eq_true rfl), (Nat.le_of_ble_eq_true rfl)⟩ [] rfl rfl rfl rfl (by simp [Value.category]) dX7_firstLie_35) [] rfl rfl ?_
        refine v_ifb_ne (tgt := 44) X dX7_firstLie_38 (by decide) (fun c4 => ?_) (fun c4 => ?_)
        · skip
          have q1 := hle r.toNat
          have q0 := hla r.toNat
          have q3 := mul_nn (show 0 ≤ n ∧ n ≤ 10 by omega) hcn
          refine v_aload_n X dX7_firstLie_44 rfl ?_
          refine v_get X (fun _ h => List.mem_cons_of_mem _ (List.mem_append_left _ (List.mem_append_left _ (List.mem_append_left _ (List.mem_append_right _ h))))) 0 rfl rfl 0 (by decide) rfl (List.mem_of_getElem? (i := 4) rfl) rfl dX7_firstLie_45 ?_
          refine v_iload_n X dX7_firstLie_48 rfl ?_
          refine v_iconst X dX7_firstLie_49 ?_
          refine v_iload_n X dX7_firstLie_50 rfl ?_
          refine v_aload_n X dX7_firstLie_51 rfl ?_
          refine v_get X (fun _ h => List.mem_cons_of_mem _ (List.mem_append_left _ (List.mem_append_left _ (List.mem_append_left _ (List.mem_append_right _ h))))) 0 rfl rfl 2 (by decide) rfl (List.mem_of_getElem? (i := 1) rfl) rfl dX7_firstLie_52 ?_
          refine v_get X (fun _ h => List.mem_cons_of_mem _ (List.mem_append_left _ (List.mem_append_left _ (List.mem_append_right _ h)))) 5 rfl rfl 4 (by decide) rfl (List.mem_of_getElem? (i := 5) rfl) rfl dX7_firstLie_55 ?_
          refine v_imul X dX7_firstLie_58 ?_
          refine res_E X (run_V X (c_X5_wrongAt (g := g) (by first | assumption | omega) (by first | assumption | omega) (by first | assumption | omega) (by first | assumption | omega) (by first | assumption | omega)) gX7_firstLie_X5_wrongAt rfl hdX5_wrongAt ⟨(Nat.le_of_ble_eq_true rfl), (Nat.le_of_ble_eq_true rfl)⟩ ⟨(Nat.le_of_ble_eq_true rfl), (Nat.le_of_ble_eq_true rfl)⟩ 1 rfl rfl rfl [1, 2, 3, 4] rfl rfl rfl rfl (by simp [Value.category]) dX7_firstLie_59) [1, 2, 3, 4] rfl rfl ?_
          have hno : wrgI la le r ((0 : Int)) (n * cn) = (if lanI la r = -1 then 1 else if rchI le r (0 : Int) (n * cn) = 1 then 0 else 2) := rfl
          have hr1 : rchI le r (0 : Int) (n * cn) = if 0 ≤ (0 : Int) ∧ 0 ≤ n * cn ∧ (0 : Int) ≤ le r.toNat - n * cn then 1 else 0 := rchI_n (by omega)
          have hl1 : lanI la r = la r.toNat := if_pos (by omega)
          have hn2 : (la r.toNat = -1 ∧ wrgI la le r ((0 : Int)) (n * cn) = 1) ∨ (la r.toNat ≠ -1 ∧ ((0 : Int) < 0 ∨ le r.toNat < (0 : Int) + n * cn) ∧ wrgI la le r ((0 : Int)) (n * cn) = 2) ∨ (la r.toNat ≠ -1 ∧ (0 ≤ (0 : Int) ∧ (0 : Int) + n * cn ≤ le r.toNat) ∧ wrgI la le r ((0 : Int)) (n * cn) = 0) := by rw [hno, hr1, hl1]; (repeat split) <;> omega
          refine v_istore X dX7_firstLie_62 (by decide) rfl ?_
          dsimp only [List.set]
          refine v_iload X dX7_firstLie_64 rfl ?_
          refine v_if_eq (tgt := 76) X dX7_firstLie_66 (by decide) (by first | omega | (rcases hn2 with q | q | q <;> omega)) (fun c5 => ?_) (fun c5 => ?_)
          · skip
            have g3 : la r.toNat ≠ -1 ∧ n * cn ≤ le r.toNat := by rcases hn2 with q | q | q <;> omega
            refine v_aload_n X dX7_firstLie_76 rfl ?_
            refine v_get X (fun _ h => List.mem_cons_of_mem _ (List.mem_append_left _ (List.mem_append_left _ (List.mem_append_left _ (List.mem_append_right _ h))))) 0 rfl rfl 0 (by decide) rfl (List.mem_of_getElem? (i := 4) rfl) rfl dX7_firstLie_77 ?_
            refine v_iload_n X dX7_firstLie_80 rfl ?_
            refine v_iload_n X dX7_firstLie_81 rfl ?_
            refine v_iconst X dX7_firstLie_82 ?_
            refine v_iload_n X dX7_firstLie_83 rfl ?_
            refine v_aload_n X dX7_firstLie_84 rfl ?_
            refine v_get X (fun _ h => List.mem_cons_of_mem _ (List.mem_append_left _ (List.mem_append_left _ (List.mem_append_left _ (List.mem_append_right _ h))))) 0 rfl rfl 2 (by decide) rfl (List.mem_of_getElem? (i := 1) rfl) rfl dX7_firstLie_85 ?_
            refine v_get X (fun _ h => List.mem_cons_of_mem _ (List.mem_append_left _ (List.mem_append_left _ (List.mem_append_right _ h)))) 5 rfl rfl 4 (by decide) rfl (List.mem_of_getElem? (i := 5) rfl) rfl dX7_firstLie_88 ?_
            refine v_imul X dX7_firstLie_91 ?_
            refine res_E X (run_V X (c_X5_areBelow (g := g) (by first | assumption | omega) (by first | assumption | omega) (by first | assumption | omega) (by first | assumption | omega) (by first | assumption | omega) (by first | assumption | omega)) gX7_firstLie_X5_areBelow rfl hdX5_areBelow ⟨(Nat.le_of_ble_eq_true rfl), (Nat.le_of_ble_eq_true rfl)⟩ ⟨(Nat.le_of_ble_eq_true rfl), (Nat.le_of_ble_eq_true rfl)⟩ 1 rfl rfl rfl [1, 2, 3, 4] rfl rfl rfl rfl (by simp [Value.category]) dX7_firstLie_92) [1, 2, 3, 4] rfl rfl ?_
            refine v_ifp_ne (tgt := 101) X dX7_firstLie_95 (by decide) (fun c6 => ?_) (fun c6 => ?_)
            · skip
              refine v_aload_n X dX7_firstLie_101 rfl ?_
              refine v_aload_n X dX7_firstLie_102 rfl ?_
              refine v_iload_n X dX7_firstLie_103 rfl ?_
              refine v_iload_n X dX7_firstLie_104 rfl ?_
              refine v_iload_n X dX7_firstLie_105 rfl ?_
              refine res_I X (run_V X (c2_X7_firstLieOf (g := g) (by first | assumption | omega) (by first | assumption | omega) (by first | assumption | omega) (by first | assumption | omega) (by first | assumption | omega) (by first | assumption | omega) (by first | assumption | omega) (by first | assumption | omega) (by first | assumption | omega) (by first | assumption | omega) (by first | assumption | omega) (by first | assumption | omega) (by first | assumption | omega) (by first | assumption | omega) (by first | assumption | omega) (by first | assumption | omega) (by first | assumption | omega)) gX7_firstLie_X7_firstLieOf rfl hdX7_firstLieOf ⟨(Nat.le_of_ble_eq_true rfl), (Nat.le_of_ble_eq_true rfl)⟩ ⟨(Nat.le_of_ble_eq_true rfl), (Nat.le_of_ble_eq_true rfl)⟩ 0 rfl rfl rfl [0, 1, 2, 3, 4, 5, 6, 7, 8, 9, 10, 11] rfl rfl rfl rfl (by simp [Value.category]) dX7_firstLie_106) [0, 1, 2, 3, 4, 5, 6, 7, 8, 9, 10, 11] rfl rfl (fun _ => rfl) (fun r1 u1 hr1 => ?_)
              obtain ⟨f1, f2, c, p⟩ := u1
              dsimp only [patch, List.set, List.cons_append, List.nil_append, oAH, wClk, wRea, wRow]
              refine res_F X (run_V X (c_X7_fine (g := g) ) gX7_firstLie_X7_fine rfl hdX7_fine ⟨(Nat.le_of_ble_eq_true rfl), (Nat.le_of_ble_eq_true rfl)⟩ ⟨(Nat.le_of_ble_eq_true rfl), (Nat.le_of_ble_eq_true rfl)⟩ 0 rfl rfl rfl [0] rfl rfl rfl rfl (by simp [Value.category]) dX7_firstLie_109) [0] rfl rfl rfl ?_
              dsimp only [patch, List.set, List.cons_append, List.nil_append, oAH, wClk, wRea, wRow]
              refine v_iret X Y dX7_firstLie_112 (u := (0, f1, f2, c, p)) ?_ (by rfl)
              exact Or.inr ⟨by omega, Or.inr ⟨by omega, Or.inr ⟨g3.1, Or.inr ⟨g3.2, Or.inr ⟨by assumption, hr1.1, rfl, hr1.2⟩⟩⟩⟩⟩
            · skip
              refine v_ldc X (List.mem_of_getElem? (i := 3) rfl) dX7_firstLie_98 (n := -1000001) (by decide) ?_
              refine v_iret X Y dX7_firstLie_100 (u := (fi, ar, rs, rc, pa0)) ?_ (by rfl)
              exact Or.inr ⟨by omega, Or.inr ⟨by omega, Or.inr ⟨g3.1, Or.inr ⟨g3.2, Or.inl ⟨by assumption, rfl, rfl⟩⟩⟩⟩⟩
          · skip
            refine v_aload_n X dX7_firstLie_69 rfl ?_
            refine v_iload X dX7_firstLie_70 rfl ?_
            refine res_F X (run_V X (c_X7_found (g := g) ) gX7_firstLie_X7_found rfl hdX7_found ⟨(Nat.le_of_ble_eq_true rfl), (Nat.le_of_ble_eq_true rfl)⟩ ⟨(Nat.le_of_ble_eq_true rfl), (Nat.le_of_ble_eq_true rfl)⟩ 0 rfl rfl rfl [0] rfl rfl rfl rfl (by simp [Value.category]) dX7_firstLie_72) [0] rfl rfl rfl ?_
            dsimp only [patch, List.set, List.cons_append, List.nil_append, oAH, wClk, wRea, wRow]
            refine v_iret X Y dX7_firstLie_75 (u := (wrgI la le r 0 (n * cn), ar, rs, rc, pa0)) ?_ (by rfl)
            refine Or.inr ⟨by omega, Or.inr ⟨by omega, ?_⟩⟩
            rcases hn2 with q | q | q
            · exact Or.inl ⟨q.1, by omega, by rw [q.2]⟩
            · exact Or.inr ⟨q.1, Or.inl ⟨by omega, by omega, by rw [q.2.2]⟩⟩
            · exfalso; omega
        · skip
          refine v_ldc X (List.mem_of_getElem? (i := 3) rfl) dX7_firstLie_41 (n := -1000001) (by decide) ?_
          refine v_iret X Y dX7_firstLie_43 (u := (fi, ar, rs, rc, pa0)) ?_ (by rfl)
          exact Or.inr ⟨by omega, Or.inl ⟨by omega, rfl, rfl⟩⟩
  · skip
    refine v_ldc X (List.mem_of_getElem? (i := 2) rfl) dX7_firstLie_10 (n := -1000002) (by decide) ?_
    refine v_iret X Y dX7_firstLie_12 (u := (fi, ar, rs, rc, pa0)) ?_ (by rfl)
    exact Or.inl ⟨by omega, rfl, rfl⟩

