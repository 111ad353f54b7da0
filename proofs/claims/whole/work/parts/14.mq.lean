theorem hdX7_doubts : yX7_doubts.cls = RX7 ∧ yX7_doubts.cls ≠ "java/lang/invoke/MethodHandle" ∧ yX7_doubts.cls ≠ "java/lang/invoke/VarHandle" ∧ (parseMethodDescriptor yX7_doubts.desc).map (fun d => d.parameters.length) = some 2 := ⟨rfl, by decide +kernel, by decide +kernel, by decide +kernel⟩
set_option maxHeartbeats 4000000 in
set_option maxRecDepth 100000 in
theorem c_X7_doubts {g : Gx} {B : Nat → Nat} {lf fi : Int} {mk cn : Int} {so tu sp : Nat → Int} {wh sh mo fo : Int} {a b : Int} (hcn : 0 ≤ cn ∧ cn ≤ 4) (hmk : 0 ≤ mk ∧ mk ≤ 60) (hso : Bd 0 5 so) (htu : Bd 0 12 tu) (hsp : Bd 0 59 sp) (ha : R32 a) (hb : R32 b) : CtI (S := Int × Int × Int × Int) g yX7_doubts wsX7_doubts 4 88 [.ref (B 0), .int (iI a), .int (iI b)] (oAH g B (lf) (fi) :: (wClk g (B 3) (B 15) (B 16) (B 17) mk cn so tu sp ++ (wDou g (B 8) wh sh mo fo))) (fun v u => (¬ ((0 ≤ a ∧ a < cn) ∧ (0 ≤ b ∧ b < cn) ∧ a ≠ b) ∧ v = -1000001 ∧ u = (wh, sh, mo, fo)) ∨ (((0 ≤ a ∧ a < cn) ∧ (0 ≤ b ∧ b < cn) ∧ a ≠ b) ∧ u.1 = whoI (spdI cn so tu a) (spdI cn so tu b) ∧ u.2.1 = shaI (spdI cn so tu a) (spdI cn so tu b) ∧ u.2.2.1 = momI (spdI cn so tu a) (spdI cn so tu b) ∧ LsO (whoI (spdI cn so tu a) (spdI cn so tu b)) (shaI (spdI cn so tu a) (spdI cn so tu b)) (momI (spdI cn so tu a) (spdI cn so tu b)) (spdI cn so tu a) (spdI cn so tu b) u.2.2.2 ∧ (v = if momI (spdI cn so tu a) (spdI cn so tu b) = 0 then -1000000 else cntN (fun k => decide (0 ≤ othI (momI (spdI cn so tu a) (spdI cn so tu b)) (shaI (spdI cn so tu a) (spdI cn so tu b)) u.2.2.2 k)) (momI (spdI cn so tu a) (spdI cn so tu b)).toNat))) (fun u => oAH g B (lf) (fi) :: (wClk g (B 3) (B 15) (B 16) (B 17) mk cn so tu sp ++ (wDou g (B 8) (u.1) (u.2.1) (u.2.2.1) (u.2.2.2)))) := by
  refine m_go (cc := cX7_doubts) (nL := 3) (by decide +kernel) rfl (Nat.le_of_ble_eq_true rfl) (fun x X Y hnm => ?_)
  refine v_eq (lo2 := [some (.ref (B 0)), some (.int (iI a)), some (.int (iI b))]) rfl rfl rfl rfl ?_
  have qs := fun (i : Int) => spdI_bd (cn := cn) (so := so) (h := i) htu
  have q1 := qs a
  have q2 := qs b
  have q3 := whoI_bd q1 q2
  have q4 : 0 ≤ shaI (spdI cn so tu a) (spdI cn so tu b) ∧ shaI (spdI cn so tu a) (spdI cn so tu b) ≤ 24 := ⟨by unfold shaI; omega, gcd_le (absI_bd q1).1 (absI_bd q2).1 (by omega) (absI_bd q1).2 (absI_bd q2).2⟩
  have q5 := momI_bd q3 q4
  refine v_aload_n X dX7_doubts_0 rfl ?_
  refine v_iload_n X dX7_doubts_1 rfl ?_
  refine v_iload_n X dX7_doubts_2 rfl ?_
  refine res_E X (run_V X (c_X7_isPair (g := g) (by first | assumption | omega) (by first | assumption | omega) (by first | assumption | omega)) gX7_doubts_X7_isPair rfl hdX7_isPair ⟨(Nat.le_of_ble_eq_true rfl), (Nat.le_of_ble_eq_true rfl)⟩ ⟨(Nat.le_of_ble_eq_true rfl), (Nat.le_of_ble_eq_true rfl)⟩ 0 rfl rfl rfl [0, 1, 2, 3, 4] rfl rfl rfl rfl (by simp [Value.category]) dX7_doubts_3) [0, 1, 2, 3, 4] rfl rfl ?_
  refine v_ifb_ne (tgt := 12) X dX7_doubts_6 (by decide) (fun c1 => ?_) (fun c1 => ?_)
  · skip
    refine v_aload_n X dX7_doubts_12 rfl ?_
    refine v_get X (fun _ h => List.mem_cons_of_mem _ (List.mem_append_left _ (List.mem_append_left _ (List.mem_append_right _ h)))) 0 rfl rfl 7 (by decide) rfl (List.mem_of_getElem? (i := 2) rfl) rfl dX7_doubts_13 ?_
    refine v_aload_n X dX7_doubts_16 rfl ?_
    refine v_get X (fun _ h => List.mem_cons_of_mem _ (List.mem_append_left _ (List.mem_append_left _ (List.mem_append_right _ h)))) 0 rfl rfl 2 (by decide) rfl (List.mem_of_getElem? (i := 3) rfl) rfl dX7_doubts_17 ?_
    refine v_iload_n X dX7_doubts_20 rfl ?_
    refine res_E X (run_V X (c_X2_speedOf (g := g) (by first | assumption | omega) (by first | assumption | omega) (by first | assumption | omega) (by first | assumption | omega)) gX7_doubts_X2_speedOf rfl hdX2_speedOf ⟨(Nat.le_of_ble_eq_true rfl), (Nat.le_of_ble_eq_true rfl)⟩ ⟨(Nat.le_of_ble_eq_true rfl), (Nat.le_of_ble_eq_true rfl)⟩ 1 rfl rfl rfl [1, 2, 3, 4] rfl rfl rfl rfl (by simp [Value.category]) dX7_doubts_21) [1, 2, 3, 4] rfl rfl ?_
    refine v_aload_n X dX7_doubts_24 rfl ?_
    refine v_get X (fun _ h => List.mem_cons_of_mem _ (List.mem_append_left _ (List.mem_append_left _ (List.mem_append_right _ h)))) 0 rfl rfl 2 (by decide) rfl (List.mem_of_getElem? (i := 3) rfl) rfl dX7_doubts_25 ?_
    refine v_iload_n X dX7_doubts_28 rfl ?_
    refine res_E X (run_V X (c_X2_speedOf (g := g) (by first | assumption | omega) (by first | assumption | omega) (by first | assumption | omega) (by first | assumption | omega)) gX7_doubts_X2_speedOf rfl hdX2_speedOf ⟨(Nat.le_of_ble_eq_true rfl), (Nat.le_of_ble_eq_true rfl)⟩ ⟨(Nat.le_of_ble_eq_true rfl), (Nat.le_of_ble_eq_true rfl)⟩ 1 rfl rfl rfl [1, 2, 3, 4] rfl rfl rfl rfl (by simp [Value.category]) dX7_doubts_29) [1, 2, 3, 4] rfl rfl ?_
    refine res_V X (run_V X (c_X3_of (g := g) (by first | assumption | omega) (by first | assumption | omega)) gX7_doubts_X3_of rfl hdX3_of ⟨(Nat.le_of_ble_eq_true rfl), (Nat.le_of_ble_eq_true rfl)⟩ ⟨(Nat.le_of_ble_eq_true rfl), (Nat.le_of_ble_eq_true rfl)⟩ 5 rfl rfl rfl [5] rfl rfl rfl rfl (by simp [Value.category]) dX7_doubts_32) [5] rfl rfl (fun _ => rfl) (fun u1 hu1 => ?_)
    dsimp only [patch, List.set, List.cons_append, List.nil_append, oAH, wClk, wDou]
    have q6 := LsO_bd q5 hu1
    refine v_aload_n X dX7_doubts_35 rfl ?_
    refine v_get X (fun _ h => List.mem_cons_of_mem _ (List.mem_append_left _ (List.mem_append_left _ (List.mem_append_right _ h)))) 0 rfl rfl 7 (by decide) rfl (List.mem_of_getElem? (i := 2) rfl) rfl dX7_doubts_36 ?_
    refine res_E X (run_V X (c_X3_isNone (g := g) (by first | assumption | omega)) gX7_doubts_X3_isNone rfl hdX3_isNone ⟨(Nat.le_of_ble_eq_true rfl), (Nat.le_of_ble_eq_true rfl)⟩ ⟨(Nat.le_of_ble_eq_true rfl), (Nat.le_of_ble_eq_true rfl)⟩ 5 rfl rfl rfl [5] rfl rfl rfl rfl (by simp [Value.category]) dX7_doubts_39) [5] rfl rfl ?_
    refine v_ifb_eq (tgt := 50) X dX7_doubts_42 (by decide) (fun c3 => ?_) (fun c3 => ?_)
    · skip
      refine v_aload_n X dX7_doubts_50 rfl ?_
      refine v_get X (fun _ h => List.mem_cons_of_mem _ (List.mem_append_left _ (List.mem_append_left _ (List.mem_append_right _ h)))) 0 rfl rfl 7 (by decide) rfl (List.mem_of_getElem? (i := 2) rfl) rfl dX7_doubts_51 ?_
      refine res_E X (run_V X (c_X3_howMany (g := g) (by first | assumption | omega) (by first | assumption | omega) (by first | assumption | omega)) gX7_doubts_X3_howMany rfl hdX3_howMany ⟨(Nat.le_of_ble_eq_true rfl), (Nat.le_of_ble_eq_true rfl)⟩ ⟨(Nat.le_of_ble_eq_true rfl), (Nat.le_of_ble_eq_true rfl)⟩ 5 rfl rfl rfl [5] rfl rfl rfl rfl (by simp [Value.category]) dX7_doubts_54) [5] rfl rfl ?_
      refine v_iret X Y dX7_doubts_57 (u := (whoI (spdI cn so tu a) (spdI cn so tu b), shaI (spdI cn so tu a) (spdI cn so tu b), momI (spdI cn so tu a) (spdI cn so tu b), u1)) ?_ (by rfl)
      refine Or.inr ⟨by omega, rfl, rfl, rfl, hu1, ?_⟩
      first | rw [if_pos (by assumption)] | rw [if_neg (by assumption)]
    · skip
      refine v_ldc X (List.mem_of_getElem? (i := 4) rfl) dX7_doubts_45 (n := -1000000) (by decide) ?_
      refine v_goto (tgt := 57) X dX7_doubts_47 (by decide) ?_
      refine v_iret X Y dX7_doubts_57 (u := (whoI (spdI cn so tu a) (spdI cn so tu b), shaI (spdI cn so tu a) (spdI cn so tu b), momI (spdI cn so tu a) (spdI cn so tu b), u1)) ?_ (by rfl)
      refine Or.inr ⟨by omega, rfl, rfl, rfl, hu1, ?_⟩
      first | rw [if_pos (by assumption)] | rw [if_neg (by assumption)]
  · skip
    refine v_ldc X (List.mem_of_getElem? (i := 1) rfl) dX7_doubts_9 (n := -1000001) (by decide) ?_
    refine v_iret X Y dX7_doubts_11 (u := (wh, sh, mo, fo)) ?_ (by rfl)
    exact Or.inl ⟨by omega, rfl, rfl⟩

theorem hdX7_doubt : yX7_doubt.cls = RX7 ∧ yX7_doubt.cls ≠ "java/lang/invoke/MethodHandle" ∧ yX7_doubt.cls ≠ "java/lang/invoke/VarHandle" ∧ (parseMethodDescriptor yX7_doubt.desc).map (fun d => d.parameters.length) = some 4 := ⟨rfl, by decide +kernel, by decide +kernel, by decide +kernel⟩
set_option maxHeartbeats 4000000 in
set_option maxRecDepth 100000 in
theorem c_X7_doubt {g : Gx} {B : Nat → Nat} {lf fi : Int} {mk cn : Int} {so tu sp : Nat → Int} {wh sh mo fo : Int} {a b i w : Int} (hcn : 0 ≤ cn ∧ cn ≤ 4) (hmk : 0 ≤ mk ∧ mk ≤ 60) (hso : Bd 0 5 so) (htu : Bd 0 12 tu) (hsp : Bd 0 59 sp) (ha : R32 a) (hb : R32 b) (hi : R32 i) (hw : R32 w) : CtI (S := Int × Int × Int × Int) g yX7_doubt wsX7_doubt 4 88 [.ref (B 0), .int (iI a), .int (iI b), .int (iI i), .int (iI w)] (oAH g B (lf) (fi) :: (wClk g (B 3) (B 15) (B 16) (B 17) mk cn so tu sp ++ (wDou g (B 8) wh sh mo fo))) (fun v u => (¬ (((0 ≤ a ∧ a < cn) ∧ (0 ≤ b ∧ b < cn) ∧ a ≠ b) ∧ 0 ≤ i ∧ 0 ≤ w ∧ w ≤ 3) ∧ v = -1000001 ∧ u = (wh, sh, mo, fo)) ∨ ((((0 ≤ a ∧ a < cn) ∧ (0 ≤ b ∧ b < cn) ∧ a ≠ b) ∧ 0 ≤ i ∧ 0 ≤ w ∧ w ≤ 3) ∧ u.1 = whoI (spdI cn so tu a) (spdI cn so tu b) ∧ u.2.1 = shaI (spdI cn so tu a) (spdI cn so tu b) ∧ u.2.2.1 = momI (spdI cn so tu a) (spdI cn so tu b) ∧ LsO (whoI (spdI cn so tu a) (spdI cn so tu b)) (shaI (spdI cn so tu a) (spdI cn so tu b)) (momI (spdI cn so tu a) (spdI cn so tu b)) (spdI cn so tu a) (spdI cn so tu b) u.2.2.2 ∧ ((∃ k : Int, 0 ≤ k ∧ k < momI (spdI cn so tu a) (spdI cn so tu b) ∧ 0 ≤ othI (momI (spdI cn so tu a) (spdI cn so tu b)) (shaI (spdI cn so tu a) (spdI cn so tu b)) u.2.2.2 k ∧ cntN (fun k => decide (0 ≤ othI (momI (spdI cn so tu a) (spdI cn so tu b)) (shaI (spdI cn so tu a) (spdI cn so tu b)) u.2.2.2 k)) k.toNat = i ∧ v = (if w < 2 then toldI k (momI (spdI cn so tu a) (spdI cn so tu b)) w else toldI (othI (momI (spdI cn so tu a) (spdI cn so tu b)) (shaI (spdI cn so tu a) (spdI cn so tu b)) u.2.2.2 k) (whoI (spdI cn so tu a) (spdI cn so tu b)) (w - 2))) ∨ (cntN (fun k => decide (0 ≤ othI (momI (spdI cn so tu a) (spdI cn so tu b)) (shaI (spdI cn so tu a) (spdI cn so tu b)) u.2.2.2 k)) (momI (spdI cn so tu a) (spdI cn so tu b)).toNat ≤ i ∧ v = -1000000)))) (fun u => oAH g B (lf) (fi) :: (wClk g (B 3) (B 15) (B 16) (B 17) mk cn so tu sp ++ (wDou g (B 8) (u.1) (u.2.1) (u.2.2.1) (u.2.2.2)))) := by
  refine m_go (cc := cX7_doubt) (nL := 6) (by decide +kernel) rfl (Nat.le_of_ble_eq_true rfl) (fun x X Y hnm => ?_)
  refine v_eq (lo2 := [some (.ref (B 0)), some (.int (iI a)), some (.int (iI b)), some (.int (iI i)), some (.int (iI w)), none]) rfl rfl rfl rfl ?_
  have qs := fun (i : Int) => spdI_bd (cn := cn) (so := so) (h := i) htu
  have q1 := qs a
  have q2 := qs b
  have q3 := whoI_bd q1 q2
  have q4 : 0 ≤ shaI (spdI cn so tu a) (spdI cn so tu b) ∧ shaI (spdI cn so tu a) (spdI cn so tu b) ≤ 24 := ⟨by unfold shaI; omega, gcd_le (absI_bd q1).1 (absI_bd q2).1 (by omega) (absI_bd q1).2 (absI_bd q2).2⟩
  have q5 := momI_bd q3 q4
  refine v_aload_n X dX7_doubt_0 rfl ?_
  refine v_iload_n X dX7_doubt_1 rfl ?_
  refine v_iload_n X dX7_doubt_2 rfl ?_
  refine res_E X (run_V X (c_X7_isPair (g := g) (by first | assumption | omega) (by first | assumption | omega) (by first | assumption | omega)) gX7_doubt_X7_isPair rfl hdX7_isPair ⟨(Nat.le_of_ble_eq_true rfl), (Nat.le_of_ble_eq_true rfl)⟩ ⟨(Nat.le_of_ble_eq_true rfl), (Nat.le_of_ble_eq_true rfl)⟩ 0 rfl rfl rfl [0, 1, 2, 3, 4] rfl rfl rfl rfl (by simp [Value.category]) dX7_doubt_3) [0, 1, 2, 3, 4] rfl rfl ?_
  refine v_ifb_eq (tgt := 23) X dX7_doubt_6 (by decide) (fun c1 => ?_) (fun c1 => ?_)
  · skip
    refine v_ldc X (List.mem_of_getElem? (i := 1) rfl) dX7_doubt_23 (n := -1000001) (by decide) ?_
    refine v_iret X Y dX7_doubt_25 (u := (wh, sh, mo, fo)) ?_ (by rfl)
    exact Or.inl ⟨by omega, rfl, rfl⟩
  · skip
    refine v_iload_n X dX7_doubt_9 rfl ?_
    refine v_if_lt (tgt := 23) X dX7_doubt_10 (by decide) (by omega) (fun c2 => ?_) (fun c2 => ?_)
    · skip
      refine v_ldc X (List.mem_of_getElem? (i := 1) rfl) dX7_doubt_23 (n := -1000001) (by decide) ?_
      refine v_iret X Y dX7_doubt_25 (u := (wh, sh, mo, fo)) ?_ (by rfl)
      exact Or.inl ⟨by omega, rfl, rfl⟩
    · skip
      refine v_iload X dX7_doubt_13 rfl ?_
      refine v_iconst X dX7_doubt_15 ?_
      refine v_iconst X dX7_doubt_16 ?_
      refine res_E X (run_S X (c_X7_isWithin (g := g) (by first | assumption | omega) (by first | assumption | omega) (by first | assumption | omega)) gX7_doubt_X7_isWithin rfl hdX7_isWithin.2 ⟨(Nat.le_of_ble_eq_true rfl), (Nat.le_of_ble_eq_true rfl)⟩ ⟨(Nat.le_of_ble_eq_true rfl), (Nat.le_of_ble_eq_true rfl)⟩ [] rfl rfl rfl rfl (by simp [Value.category]) dX7_doubt_17) [] rfl rfl ?_
      refine v_ifb_ne (tgt := 26) X dX7_doubt_20 (by decide) (fun c3 => ?_) (fun c3 => ?_)
      · skip
        refine v_aload_n X dX7_doubt_26 rfl ?_
        refine v_get X (fun _ h => List.mem_cons_of_mem _ (List.mem_append_left _ (List.mem_append_left _ (List.mem_append_right _ h)))) 0 rfl rfl 7 (by decide) rfl (List.mem_of_getElem? (i := 2) rfl) rfl dX7_doubt_27 ?_
        refine v_aload_n X dX7_doubt_30 rfl ?_
        refine v_get X (fun _ h => List.mem_cons_of_mem _ (List.mem_append_left _ (List.mem_append_left _ (List.mem_append_right _ h)))) 0 rfl rfl 2 (by decide) rfl (List.mem_of_getElem? (i := 3) rfl) rfl dX7_doubt_31 ?_
        refine v_iload_n X dX7_doubt_34 rfl ?_
        refine res_E X (run_V X (c_X2_speedOf (g := g) (by first | assumption | omega) (by first | assumption | omega) (by first | assumption | omega) (by first | assumption | omega)) gX7_doubt_X2_speedOf rfl hdX2_speedOf ⟨(Nat.le_of_ble_eq_true rfl), (Nat.le_of_ble_eq_true rfl)⟩ ⟨(Nat.le_of_ble_eq_true rfl), (Nat.le_of_ble_eq_true rfl)⟩ 1 rfl rfl rfl [1, 2, 3, 4] rfl rfl rfl rfl (by simp [Value.category]) dX7_doubt_35) [1, 2, 3, 4] rfl rfl ?_
        refine v_aload_n X dX7_doubt_38 rfl ?_
        refine v_get X (fun _ h => List.mem_cons_of_mem _ (List.mem_append_left _ (List.mem_append_left _ (List.mem_append_right _ h)))) 0 rfl rfl 2 (by decide) rfl (List.mem_of_getElem? (i := 3) rfl) rfl dX7_doubt_39 ?_
        refine v_iload_n X dX7_doubt_42 rfl ?_
        refine res_E X (run_V X (c_X2_speedOf (g := g) (by first | assumption | omega) (by first | assumption | omega) (by first | assumption | omega) (by first | assumption | omega)) gX7_doubt_X2_speedOf rfl hdX2_speedOf ⟨(Nat.le_of_ble_eq_true rfl), (Nat.le_of_ble_eq_true rfl)⟩ ⟨(Nat.le_of_ble_eq_true rfl), (Nat.le_of_ble_eq_true rfl)⟩ 1 rfl rfl rfl [1, 2, 3, 4] rfl rfl rfl rfl (by simp [Value.category]) dX7_doubt_43) [1, 2, 3, 4] rfl rfl ?_
        refine res_V X (run_V X (c_X3_of (g := g) (by first | assumption | omega) (by first | assumption | omega)) gX7_doubt_X3_of rfl hdX3_of ⟨(Nat.le_of_ble_eq_true rfl), (Nat.le_of_ble_eq_true rfl)⟩ ⟨(Nat.le_of_ble_eq_true rfl), (Nat.le_of_ble_eq_true rfl)⟩ 5 rfl rfl rfl [5] rfl rfl rfl rfl (by simp [Value.category]) dX7_doubt_46) [5] rfl rfl (fun _ => rfl) (fun u1 hu1 => ?_)
        dsimp only [patch, List.set, List.cons_append, List.nil_append, oAH, wClk, wDou]
        have q6 := LsO_bd q5 hu1
        refine v_aload_n X dX7_doubt_49 rfl ?_
        refine v_get X (fun _ h => List.mem_cons_of_mem _ (List.mem_append_left _ (List.mem_append_left _ (List.mem_append_right _ h)))) 0 rfl rfl 7 (by decide) rfl (List.mem_of_getElem? (i := 2) rfl) rfl dX7_doubt_50 ?_
        refine v_iload_n X dX7_doubt_53 rfl ?_
        refine res_I X (run_V X (c_X3_number (g := g) (by first | assumption | omega) (by first | assumption | omega) (by first | assumption | omega) (by first | assumption | omega)) gX7_doubt_X3_number rfl hdX3_number ⟨(Nat.le_of_ble_eq_true rfl), (Nat.le_of_ble_eq_true rfl)⟩ ⟨(Nat.le_of_ble_eq_true rfl), (Nat.le_of_ble_eq_true rfl)⟩ 5 rfl rfl rfl [5] rfl rfl rfl rfl (by simp [Value.category]) dX7_doubt_54) [5] rfl rfl (fun _ => rfl) (fun k1 e1 hk1 => ?_)
        dsimp only [patch, List.set, List.cons_append, List.nil_append, oAH, wClk, wDou]
        have q7 := othI_bd (sh := shaI (spdI cn so tu a) (spdI cn so tu b)) (fo := u1) (k := k1) q5
        refine v_istore X dX7_doubt_57 (by decide) rfl ?_
        dsimp only [List.set]
        refine v_iload X dX7_doubt_59 rfl ?_
        refine v_if_ge (tgt := 67) X dX7_doubt_61 (by decide) (by omega) (fun c7 => ?_) (fun c7 => ?_)
        · skip
          refine v_iload X dX7_doubt_67 rfl ?_
          refine v_iconst X dX7_doubt_69 ?_
          refine v_icmp_ge (tgt := 88) X dX7_doubt_70 (by decide) (by omega) (by omega) (fun c8 => ?_) (fun c8 => ?_)
          · skip
            refine v_aload_n X dX7_doubt_88 rfl ?_
            refine v_get X (fun _ h => List.mem_cons_of_mem _ (List.mem_append_left _ (List.mem_append_left _ (List.mem_append_right _ h)))) 0 rfl rfl 7 (by decide) rfl (List.mem_of_getElem? (i := 2) rfl) rfl dX7_doubt_89 ?_
            refine v_iload X dX7_doubt_92 rfl ?_
            refine res_E X (run_V X (c_X3_otherOf (g := g) (by first | assumption | omega) (by first | assumption | omega) (by first | assumption | omega) (by first | assumption | omega)) gX7_doubt_X3_otherOf rfl hdX3_otherOf ⟨(Nat.le_of_ble_eq_true rfl), (Nat.le_of_ble_eq_true rfl)⟩ ⟨(Nat.le_of_ble_eq_true rfl), (Nat.le_of_ble_eq_true rfl)⟩ 5 rfl rfl rfl [5] rfl rfl rfl rfl (by simp [Value.category]) dX7_doubt_94) [5] rfl rfl ?_
            refine v_aload_n X dX7_doubt_97 rfl ?_
            refine v_get X (fun _ h => List.mem_cons_of_mem _ (List.mem_append_left _ (List.mem_append_left _ (List.mem_append_right _ h)))) 0 rfl rfl 7 (by decide) rfl (List.mem_of_getElem? (i := 2) rfl) rfl dX7_doubt_98 ?_
            refine v_get X (fun _ h => List.mem_cons_of_mem _ (List.mem_append_left _ (List.mem_append_right _ h))) 5 rfl rfl 0 (by decide) rfl (List.mem_of_getElem? (i := 6) rfl) rfl dX7_doubt_101 ?_
            refine v_iload X dX7_doubt_104 rfl ?_
            refine v_iconst X dX7_doubt_106 ?_
            refine v_isub X dX7_doubt_107 ?_
            refine res_E X (run_S X (c_X7_part (g := g) (by first | assumption | omega) (by first | assumption | omega) (by first | assumption | omega) (by first | assumption | omega) (by first | assumption | omega)) gX7_doubt_X7_part rfl hdX7_part.2 ⟨(Nat.le_of_ble_eq_true rfl), (Nat.le_of_ble_eq_true rfl)⟩ ⟨(Nat.le_of_ble_eq_true rfl), (Nat.le_of_ble_eq_true rfl)⟩ [] rfl rfl rfl rfl (by simp [Value.category]) dX7_doubt_108) [] rfl rfl ?_
            refine v_iret X Y dX7_doubt_111 (u := (whoI (spdI cn so tu a) (spdI cn so tu b), shaI (spdI cn so tu a) (spdI cn so tu b), momI (spdI cn so tu a) (spdI cn so tu b), u1)) ?_ (by rfl)
            refine Or.inr ⟨by omega, rfl, rfl, rfl, hu1, Or.inl ?_⟩
            rcases hk1 with q | q
            · exact ⟨k1, q.1, q.2.1, q.2.2.1, q.2.2.2, by rw [if_neg (by omega)]⟩
            · exfalso; omega
          · skip
            refine v_iload X dX7_doubt_73 rfl ?_
            refine v_aload_n X dX7_doubt_75 rfl ?_
            refine v_get X (fun _ h => List.mem_cons_of_mem _ (List.mem_append_left _ (List.mem_append_left _ (List.mem_append_right _ h)))) 0 rfl rfl 7 (by decide) rfl (List.mem_of_getElem? (i := 2) rfl) rfl dX7_doubt_76 ?_
            refine v_get X (fun _ h => List.mem_cons_of_mem _ (List.mem_append_left _ (List.mem_append_right _ h))) 5 rfl rfl 2 (by decide) rfl (List.mem_of_getElem? (i := 5) rfl) rfl dX7_doubt_79 ?_
            refine v_iload X dX7_doubt_82 rfl ?_
            refine res_E X (run_S X (c_X7_part (g := g) (by first | assumption | omega) (by first | assumption | omega) (by first | assumption | omega) (by first | assumption | omega) (by first | assumption | omega)) gX7_doubt_X7_part rfl hdX7_part.2 ⟨(Nat.le_of_ble_eq_true rfl), (Nat.le_of_ble_eq_true rfl)⟩ ⟨(Nat.le_of_ble_eq_true rfl), (Nat.le_of_ble_eq_true rfl)⟩ [] rfl rfl rfl rfl (by simp [Value.category]) dX7_doubt_84) [] rfl rfl ?_
            refine v_iret X Y dX7_doubt_87 (u := (whoI (spdI cn so tu a) (spdI cn so tu b), shaI (spdI cn so tu a) (spdI cn so tu b), momI (spdI cn so tu a) (spdI cn so tu b), u1)) ?_ (by rfl)
            refine Or.inr ⟨by omega, rfl, rfl, rfl, hu1, Or.inl ?_⟩
            rcases hk1 with q | q
            · exact ⟨k1, q.1, q.2.1, q.2.2.1, q.2.2.2, by rw [if_pos (by assumption)]⟩
            · exfalso; omega
        · skip
          refine v_ldc X (List.mem_of_getElem? (i := 4) rfl) dX7_doubt_64 (n := -1000000) (by decide) ?_
          refine v_iret X Y dX7_doubt_66 (u := (whoI (spdI cn so tu a) (spdI cn so tu b), shaI (spdI cn so tu a) (spdI cn so tu b), momI (spdI cn so tu a) (spdI cn so tu b), u1)) ?_ (by rfl)
          refine Or.inr ⟨by omega, rfl, rfl, rfl, hu1, Or.inr ⟨?_, rfl⟩⟩
          rcases hk1 with q | q
          · exfalso; omega
          · exact q.2
      · skip
        refine v_ldc X (List.mem_of_getElem? (i := 1) rfl) dX7_doubt_23 (n := -1000001) (by decide) ?_
        refine v_iret X Y dX7_doubt_25 (u := (wh, sh, mo, fo)) ?_ (by rfl)
        exact Or.inl ⟨by omega, rfl, rfl⟩

theorem hdX7_isDoubt : yX7_isDoubt.cls = RX7 ∧ yX7_isDoubt.cls ≠ "java/lang/invoke/MethodHandle" ∧ yX7_isDoubt.cls ≠ "java/lang/invoke/VarHandle" ∧ (parseMethodDescriptor yX7_isDoubt.desc).map (fun d => d.parameters.length) = some 4 := ⟨rfl, by decide +kernel, by decide +kernel, by decide +kernel⟩
set_option maxHeartbeats 4000000 in
set_option maxRecDepth 100000 in
theorem c_X7_isDoubt {g : Gx} {B : Nat → Nat} {lf fi : Int} {mk cn : Int} {so tu sp : Nat → Int} {wh sh mo fo : Int} {a b p q : Int} (hcn : 0 ≤ cn ∧ cn ≤ 4) (hmk : 0 ≤ mk ∧ mk ≤ 60) (hso : Bd 0 5 so) (htu : Bd 0 12 tu) (hsp : Bd 0 59 sp) (ha : R32 a) (hb : R32 b) (hp : R32 p) (hq : R32 q) : CtI (S := Int × Int × Int × Int) g yX7_isDoubt wsX7_isDoubt 4 88 [.ref (B 0), .int (iI a), .int (iI b), .int (iI p), .int (iI q)] (oAH g B (lf) (fi) :: (wClk g (B 3) (B 15) (B 16) (B 17) mk cn so tu sp ++ (wDou g (B 8) wh sh mo fo))) (fun v u => (¬ (((0 ≤ a ∧ a < cn) ∧ (0 ≤ b ∧ b < cn) ∧ a ≠ b) ∧ (1 ≤ q ∧ q ≤ 9999 ∧ 0 ≤ p ∧ p < q)) ∧ v = -1000001 ∧ u = (wh, sh, mo, fo)) ∨ ((((0 ≤ a ∧ a < cn) ∧ (0 ≤ b ∧ b < cn) ∧ a ≠ b) ∧ (1 ≤ q ∧ q ≤ 9999 ∧ 0 ≤ p ∧ p < q)) ∧ u.1 = whoI (spdI cn so tu a) (spdI cn so tu b) ∧ u.2.1 = shaI (spdI cn so tu a) (spdI cn so tu b) ∧ u.2.2.1 = momI (spdI cn so tu a) (spdI cn so tu b) ∧ LsO (whoI (spdI cn so tu a) (spdI cn so tu b)) (shaI (spdI cn so tu a) (spdI cn so tu b)) (momI (spdI cn so tu a) (spdI cn so tu b)) (spdI cn so tu a) (spdI cn so tu b) u.2.2.2 ∧ (v = if momI (spdI cn so tu a) (spdI cn so tu b) = 0 then -1000000 else if (momI (spdI cn so tu a) (spdI cn so tu b) * p) % q = 0 ∧ 0 ≤ othI (momI (spdI cn so tu a) (spdI cn so tu b)) (shaI (spdI cn so tu a) (spdI cn so tu b)) u.2.2.2 (momI (spdI cn so tu a) (spdI cn so tu b) * p / q) then 1 else 0))) (fun u => oAH g B (lf) (fi) :: (wClk g (B 3) (B 15) (B 16) (B 17) mk cn so tu sp ++ (wDou g (B 8) (u.1) (u.2.1) (u.2.2.1) (u.2.2.2)))) := by
  refine m_go (cc := cX7_isDoubt) (nL := 5) (by decide +kernel) rfl (Nat.le_of_ble_eq_true rfl) (fun x X Y hnm => ?_)
  refine v_eq (lo2 := [some (.ref (B 0)), some (.int (iI a)), some (.int (iI b)), some (.int (iI p)), some (.int (iI q))]) rfl rfl rfl rfl ?_
  have qs := fun (i : Int) => spdI_bd (cn := cn) (so := so) (h := i) htu
  have q1 := qs a
  have q2 := qs b
  have q3 := whoI_bd q1 q2
  have q4 : 0 ≤ shaI (spdI cn so tu a) (spdI cn so tu b) ∧ shaI (spdI cn so tu a) (spdI cn so tu b) ≤ 24 := ⟨by unfold shaI; omega, gcd_le (absI_bd q1).1 (absI_bd q2).1 (by omega) (absI_bd q1).2 (absI_bd q2).2⟩
  have q5 := momI_bd q3 q4
  refine v_aload_n X dX7_isDoubt_0 rfl ?_
  refine v_iload_n X dX7_isDoubt_1 rfl ?_
  refine v_iload_n X dX7_isDoubt_2 rfl ?_
  refine res_E X (run_V X (c_X7_isPair (g := g) (by first | assumption | omega) (by first | assumption | omega) (by first | assumption | omega)) gX7_isDoubt_X7_isPair rfl hdX7_isPair ⟨(Nat.le_of_ble_eq_true rfl), (Nat.le_of_ble_eq_true rfl)⟩ ⟨(Nat.le_of_ble_eq_true rfl), (Nat.le_of_ble_eq_true rfl)⟩ 0 rfl rfl rfl [0, 1, 2, 3, 4] rfl rfl rfl rfl (by simp [Value.category]) dX7_isDoubt_3) [0, 1, 2, 3, 4] rfl rfl ?_
  refine v_ifb_eq (tgt := 18) X dX7_isDoubt_6 (by decide) (fun c1 => ?_) (fun c1 => ?_)
  · skip
    refine v_ldc X (List.mem_of_getElem? (i := 1) rfl) dX7_isDoubt_18 (n := -1000001) (by decide) ?_
    refine v_iret X Y dX7_isDoubt_20 (u := (wh, sh, mo, fo)) ?_ (by rfl)
    exact Or.inl ⟨by omega, rfl, rfl⟩
  · skip
    refine v_iload_n X dX7_isDoubt_9 rfl ?_
    refine v_iload X dX7_isDoubt_10 rfl ?_
    refine res_E X (run_S X (c_X7_isMoment (g := g) (by first | assumption | omega) (by first | assumption | omega)) gX7_isDoubt_X7_isMoment rfl hdX7_isMoment.2 ⟨(Nat.le_of_ble_eq_true rfl), (Nat.le_of_ble_eq_true rfl)⟩ ⟨(Nat.le_of_ble_eq_true rfl), (Nat.le_of_ble_eq_true rfl)⟩ [] rfl rfl rfl rfl (by simp [Value.category]) dX7_isDoubt_12) [] rfl rfl ?_
    refine v_ifb_ne (tgt := 21) X dX7_isDoubt_15 (by decide) (fun c2 => ?_) (fun c2 => ?_)
    · skip
      refine v_aload_n X dX7_isDoubt_21 rfl ?_
      refine v_get X (fun _ h => List.mem_cons_of_mem _ (List.mem_append_left _ (List.mem_append_left _ (List.mem_append_right _ h)))) 0 rfl rfl 7 (by decide) rfl (List.mem_of_getElem? (i := 2) rfl) rfl dX7_isDoubt_22 ?_
      refine v_aload_n X dX7_isDoubt_25 rfl ?_
      refine v_get X (fun _ h => List.mem_cons_of_mem _ (List.mem_append_left _ (List.mem_append_left _ (List.mem_append_right _ h)))) 0 rfl rfl 2 (by decide) rfl (List.mem_of_getElem? (i := 3) rfl) rfl dX7_isDoubt_26 ?_
      refine v_iload_n X dX7_isDoubt_29 rfl ?_
      refine res_E X (run_V X (c_X2_speedOf (g := g) (by first | assumption | omega) (by first | assumption | omega) (by first | assumption | omega) (by first | assumption | omega)) gX7_isDoubt_X2_speedOf rfl hdX2_speedOf ⟨(Nat.le_of_ble_eq_true rfl), (Nat.le_of_ble_eq_true rfl)⟩ ⟨(Nat.le_of_ble_eq_true rfl), (Nat.le_of_ble_eq_true rfl)⟩ 1 rfl rfl rfl [1, 2, 3, 4] rfl rfl rfl rfl (by simp [Value.category]) dX7_isDoubt_30) [1, 2, 3, 4] rfl rfl ?_
      refine v_aload_n X dX7_isDoubt_33 rfl ?_
      refine v_get X (fun _ h => List.mem_cons_of_mem _ (List.mem_append_left _ (List.mem_append_left _ (List.mem_append_right _ h)))) 0 rfl rfl 2 (by decide) rfl (List.mem_of_getElem? (i := 3) rfl) rfl dX7_isDoubt_34 ?_
      refine v_iload_n X dX7_isDoubt_37 rfl ?_
      refine res_E X (run_V X (c_X2_speedOf (g := g) (by first | assumption | omega) (by first | assumption | omega) (by first | assumption | omega) (by first | assumption | omega)) gX7_isDoubt_X2_speedOf rfl hdX2_speedOf ⟨(Nat.le_of_ble_eq_true rfl), (Nat.le_of_ble_eq_true rfl)⟩ ⟨(Nat.le_of_ble_eq_true rfl), (Nat.le_of_ble_eq_true rfl)⟩ 1 rfl rfl rfl [1, 2, 3, 4] rfl rfl rfl rfl (by simp [Value.category]) dX7_isDoubt_38) [1, 2, 3, 4] rfl rfl ?_
      refine res_V X (run_V X (c_X3_of (g := g) (by first | assumption | omega) (by first | assumption | omega)) gX7_isDoubt_X3_of rfl hdX3_of ⟨(Nat.le_of_ble_eq_true rfl), (Nat.le_of_ble_eq_true rfl)⟩ ⟨(Nat.le_of_ble_eq_true rfl), (Nat.le_of_ble_eq_true rfl)⟩ 5 rfl rfl rfl [5] rfl rfl rfl rfl (by simp [Value.category]) dX7_isDoubt_41) [5] rfl rfl (fun _ => rfl) (fun u1 hu1 => ?_)
      dsimp only [patch, List.set, List.cons_append, List.nil_append, oAH, wClk, wDou]
      have q6 := LsO_bd q5 hu1
      refine v_aload_n X dX7_isDoubt_44 rfl ?_
      refine v_get X (fun _ h => List.mem_cons_of_mem _ (List.mem_append_left _ (List.mem_append_left _ (List.mem_append_right _ h)))) 0 rfl rfl 7 (by decide) rfl (List.mem_of_getElem? (i := 2) rfl) rfl dX7_isDoubt_45 ?_
      refine res_E X (run_V X (c_X3_isNone (g := g) (by first | assumption | omega)) gX7_isDoubt_X3_isNone rfl hdX3_isNone ⟨(Nat.le_of_ble_eq_true rfl), (Nat.le_of_ble_eq_true rfl)⟩ ⟨(Nat.le_of_ble_eq_true rfl), (Nat.le_of_ble_eq_true rfl)⟩ 5 rfl rfl rfl [5] rfl rfl rfl rfl (by simp [Value.category]) dX7_isDoubt_48) [5] rfl rfl ?_
      refine v_ifb_eq (tgt := 57) X dX7_isDoubt_51 (by decide) (fun c4 => ?_) (fun c4 => ?_)
      · skip
        refine v_aload_n X dX7_isDoubt_57 rfl ?_
        refine v_get X (fun _ h => List.mem_cons_of_mem _ (List.mem_append_left _ (List.mem_append_left _ (List.mem_append_right _ h)))) 0 rfl rfl 7 (by decide) rfl (List.mem_of_getElem? (i := 2) rfl) rfl dX7_isDoubt_58 ?_
        refine v_iload_n X dX7_isDoubt_61 rfl ?_
        refine v_iload X dX7_isDoubt_62 rfl ?_
        refine res_E X (run_V X (c_X3_isAt (g := g) (by first | assumption | omega) (by first | assumption | omega) (by first | assumption | omega) (by first | assumption | omega) (by first | assumption | omega)) gX7_isDoubt_X3_isAt rfl hdX3_isAt ⟨(Nat.le_of_ble_eq_true rfl), (Nat.le_of_ble_eq_true rfl)⟩ ⟨(Nat.le_of_ble_eq_true rfl), (Nat.le_of_ble_eq_true rfl)⟩ 5 rfl rfl rfl [5] rfl rfl rfl rfl (by simp [Value.category]) dX7_isDoubt_64) [5] rfl rfl ?_
        refine v_ifb_eq (tgt := 74) X dX7_isDoubt_67 (by decide) (fun c5 => ?_) (fun c5 => ?_)
        · skip
          refine v_iconst X dX7_isDoubt_74 ?_
          refine v_iret X Y dX7_isDoubt_75 (u := (whoI (spdI cn so tu a) (spdI cn so tu b), shaI (spdI cn so tu a) (spdI cn so tu b), momI (spdI cn so tu a) (spdI cn so tu b), u1)) ?_ (by rfl)
          refine Or.inr ⟨by omega, rfl, rfl, rfl, hu1, ?_⟩
          rw [if_neg (by assumption)]; first | rw [if_pos (by assumption)] | rw [if_neg (by assumption)]
        · skip
          refine v_iconst X dX7_isDoubt_70 ?_
          refine v_goto (tgt := 75) X dX7_isDoubt_71 (by decide) ?_
          refine v_iret X Y dX7_isDoubt_75 (u := (whoI (spdI cn so tu a) (spdI cn so tu b), shaI (spdI cn so tu a) (spdI cn so tu b), momI (spdI cn so tu a) (spdI cn so tu b), u1)) ?_ (by rfl)
          refine Or.inr ⟨by omega, rfl, rfl, rfl, hu1, ?_⟩
          rw [if_neg (by assumption)]; first | rw [if_pos (by assumption)] | rw [if_neg (by assumption)]
      · skip
        refine v_ldc X (List.mem_of_getElem? (i := 4) rfl) dX7_isDoubt_54 (n := -1000000) (by decide) ?_
        refine v_iret X Y dX7_isDoubt_56 (u := (whoI (spdI cn so tu a) (spdI cn so tu b), shaI (spdI cn so tu a) (spdI cn so tu b), momI (spdI cn so tu a) (spdI cn so tu b), u1)) ?_ (by rfl)
        refine Or.inr ⟨by omega, rfl, rfl, rfl, hu1, ?_⟩
        rw [if_pos (by assumption)]
    · skip
      refine v_ldc X (List.mem_of_getElem? (i := 1) rfl) dX7_isDoubt_18 (n := -1000001) (by decide) ?_
      refine v_iret X Y dX7_isDoubt_20 (u := (wh, sh, mo, fo)) ?_ (by rfl)
      exact Or.inl ⟨by omega, rfl, rfl⟩

theorem hdX7_next : yX7_next.cls = RX7 ∧ yX7_next.cls ≠ "java/lang/invoke/MethodHandle" ∧ yX7_next.cls ≠ "java/lang/invoke/VarHandle" ∧ (parseMethodDescriptor yX7_next.desc).map (fun d => d.parameters.length) = some 6 := ⟨rfl, by decide +kernel, by decide +kernel, by decide +kernel⟩
set_option maxHeartbeats 4000000 in
set_option maxRecDepth 100000 in
theorem c_X7_next {g : Gx} {B : Nat → Nat} {lf fi : Int} {mk cn : Int} {so tu sp : Nat → Int} {a b h p q w : Int} (hcn : 0 ≤ cn ∧ cn ≤ 4) (hmk : 0 ≤ mk ∧ mk ≤ 60) (hso : Bd 0 5 so) (htu : Bd 0 12 tu) (hsp : Bd 0 59 sp) (ha : R32 a) (hb : R32 b) (hh : R32 h) (hp : R32 p) (hq : R32 q) (hw : R32 w) : CtE g yX7_next wsX7_next 4 86 [.ref (B 0), .int (iI a), .int (iI b), .int (iI h), .int (iI p), .int (iI q), .int (iI w)] (oAH g B (lf) (fi) :: (wClk g (B 3) (B 15) (B 16) (B 17) mk cn so tu sp)) (if ((0 ≤ a ∧ a < cn) ∧ (0 ≤ b ∧ b < cn) ∧ a ≠ b) ∧ (0 ≤ h ∧ h ≤ 2) ∧ (1 ≤ q ∧ q ≤ 9999 ∧ 0 ≤ p ∧ p < q) ∧ 0 ≤ w ∧ w ≤ 1 then (if absI (spdI cn so tu a - spdI cn so tu b) = 0 then -1000000 else toldI (fmI (belI (absI (spdI cn so tu a - spdI cn so tu b)) h) h p q) (belI (absI (spdI cn so tu a - spdI cn so tu b)) h) w) else -1000001) (oAH g B (lf) (fi) :: (wClk g (B 3) (B 15) (B 16) (B 17) mk cn so tu sp)) := by
  refine m_go (cc := cX7_next) (nL := 9) (by decide +kernel) rfl (Nat.le_of_ble_eq_true rfl) (fun x X Y hnm => ?_)
  refine v_eq (lo2 := [some (.ref (B 0)), some (.int (iI a)), some (.int (iI b)), some (.int (iI h)), some (.int (iI p)), some (.int (iI q)), some (.int (iI w)), none, none]) rfl rfl rfl rfl ?_
  have qs := fun (i : Int) => spdI_bd (cn := cn) (so := so) (h := i) htu
  have q1 := qs a
  have q2 := qs b
  have q5 := absI_bd (a := spdI cn so tu a - spdI cn so tu b) (M := 48) (by omega)
  refine v_aload_n X dX7_next_0 rfl ?_
  refine v_iload_n X dX7_next_1 rfl ?_
  refine v_iload_n X dX7_next_2 rfl ?_
  refine res_E X (run_V X (c_X7_isPair (g := g) (by first | assumption | omega) (by first | assumption | omega) (by first | assumption | omega)) gX7_next_X7_isPair rfl hdX7_isPair ⟨(Nat.le_of_ble_eq_true rfl), (Nat.le_of_ble_eq_true rfl)⟩ ⟨(Nat.le_of_ble_eq_true rfl), (Nat.le_of_ble_eq_true rfl)⟩ 0 rfl rfl rfl [0, 1, 2, 3, 4] rfl rfl rfl rfl (by simp [Value.category]) dX7_next_3) [0, 1, 2, 3, 4] rfl rfl ?_
  refine v_ifb_eq (tgt := 38) X dX7_next_6 (by decide) (fun c1 => ?_) (fun c1 => ?_)
  · skip
    refine v_ldc X (List.mem_of_getElem? (i := 1) rfl) dX7_next_38 (n := -1000001) (by decide) ?_
    exact v_iret X Y dX7_next_40 (u := ()) (by rw [if_neg (by omega)]) (by rfl)
  · skip
    refine v_iload_n X dX7_next_9 rfl ?_
    refine v_iconst X dX7_next_10 ?_
    refine v_iconst X dX7_next_11 ?_
    refine res_E X (run_S X (c_X7_isWithin (g := g) (by first | assumption | omega) (by first | assumption | omega) (by first | assumption | omega)) gX7_next_X7_isWithin rfl hdX7_isWithin.2 ⟨(Nat.le_of_ble_eq_true rfl), (Nat.le_of_ble_eq_true rfl)⟩ ⟨(Nat.le_of_ble_eq_true rfl), (Nat.le_of_ble_eq_true rfl)⟩ [] rfl rfl rfl rfl (by simp [Value.category]) dX7_next_12) [] rfl rfl ?_
    refine v_ifb_eq (tgt := 38) X dX7_next_15 (by decide) (fun c2 => ?_) (fun c2 => ?_)
    · skip
      refine v_ldc X (List.mem_of_getElem? (i := 1) rfl) dX7_next_38 (n := -1000001) (by decide) ?_
      exact v_iret X Y dX7_next_40 (u := ()) (by rw [if_neg (by omega)]) (by rfl)
    · skip
      refine v_iload X dX7_next_18 rfl ?_
      refine v_iload X dX7_next_20 rfl ?_
      refine res_E X (run_S X (c_X7_isMoment (g := g) (by first | assumption | omega) (by first | assumption | omega)) gX7_next_X7_isMoment rfl hdX7_isMoment.2 ⟨(Nat.le_of_ble_eq_true rfl), (Nat.le_of_ble_eq_true rfl)⟩ ⟨(Nat.le_of_ble_eq_true rfl), (Nat.le_of_ble_eq_true rfl)⟩ [] rfl rfl rfl rfl (by simp [Value.category]) dX7_next_22) [] rfl rfl ?_
      refine v_ifb_eq (tgt := 38) X dX7_next_25 (by decide) (fun c3 => ?_) (fun c3 => ?_)
      · skip
        refine v_ldc X (List.mem_of_getElem? (i := 1) rfl) dX7_next_38 (n := -1000001) (by decide) ?_
        exact v_iret X Y dX7_next_40 (u := ()) (by rw [if_neg (by omega)]) (by rfl)
      · skip
        refine v_iload X dX7_next_28 rfl ?_
        refine v_iconst X dX7_next_30 ?_
        refine v_iconst X dX7_next_31 ?_
        refine res_E X (run_S X (c_X7_isWithin (g := g) (by first | assumption | omega) (by first | assumption | omega) (by first | assumption | omega)) gX7_next_X7_isWithin rfl hdX7_isWithin.2 ⟨(Nat.le_of_ble_eq_true rfl), (Nat.le_of_ble_eq_true rfl)⟩ ⟨(Nat.le_of_ble_eq_true rfl), (Nat.le_of_ble_eq_true rfl)⟩ [] rfl rfl rfl rfl (by simp [Value.category]) dX7_next_32) [] rfl rfl ?_
        refine v_ifb_ne (tgt := 41) X dX7_next_35 (by decide) (fun c4 => ?_) (fun c4 => ?_)
        · skip
          refine v_aload_n X dX7_next_41 rfl ?_
          refine v_iload_n X dX7_next_42 rfl ?_
          refine v_iload_n X dX7_next_43 rfl ?_
          refine res_E X (run_V X (c_X7_speedApart (g := g) (by first | assumption | omega) (by first | assumption | omega) (by first | assumption | omega) (by first | assumption | omega) (by first | assumption | omega)) gX7_next_X7_speedApart rfl hdX7_speedApart ⟨(Nat.le_of_ble_eq_true rfl), (Nat.le_of_ble_eq_true rfl)⟩ ⟨(Nat.le_of_ble_eq_true rfl), (Nat.le_of_ble_eq_true rfl)⟩ 0 rfl rfl rfl [0, 1, 2, 3, 4] rfl rfl rfl rfl (by simp [Value.category]) dX7_next_44) [0, 1, 2, 3, 4] rfl rfl ?_
          refine v_istore X dX7_next_47 (by decide) rfl ?_
          dsimp only [List.set]
          refine v_iload X dX7_next_49 rfl ?_
          refine v_if_ne (tgt := 57) X dX7_next_51 (by decide) (by omega) (fun c5 => ?_) (fun c5 => ?_)
          · skip
            refine v_iload X dX7_next_57 rfl ?_
            refine v_iload_n X dX7_next_59 rfl ?_
            refine v_ishl X dX7_next_60 ?_
            have g2 := iShl_bel (d := absI (spdI cn so tu a - spdI cn so tu b)) (h := h) q5 (by omega)
            have g3 : 0 < belI (absI (spdI cn so tu a - spdI cn so tu b)) h ∧ belI (absI (spdI cn so tu a - spdI cn so tu b)) h ≤ 192 := by unfold belI; (repeat split) <;> omega
            have g4 := fmI_bd (h := h) g3 (p := p) (q := q) (by omega) (by omega)
            rw [g2]
            refine v_istore X dX7_next_61 (by decide) rfl ?_
            dsimp only [List.set]
            refine v_iload X dX7_next_63 rfl ?_
            refine v_iload_n X dX7_next_65 rfl ?_
            refine v_iload X dX7_next_66 rfl ?_
            refine v_iload X dX7_next_68 rfl ?_
            refine res_E X (run_S X (c_X7_firstMeeting (g := g) (by first | assumption | omega) (by first | assumption | omega) (by first | assumption | omega) (by first | assumption | omega)) gX7_next_X7_firstMeeting rfl hdX7_firstMeeting.2 ⟨(Nat.le_of_ble_eq_true rfl), (Nat.le_of_ble_eq_true rfl)⟩ ⟨(Nat.le_of_ble_eq_true rfl), (Nat.le_of_ble_eq_true rfl)⟩ [] rfl rfl rfl rfl (by simp [Value.category]) dX7_next_70) [] rfl rfl ?_
            refine v_iload X dX7_next_73 rfl ?_
            refine v_iload X dX7_next_75 rfl ?_
            refine res_E X (run_S X (c_X7_part (g := g) (by first | assumption | omega) (by first | assumption | omega) (by first | assumption | omega) (by first | assumption | omega) (by first | assumption | omega)) gX7_next_X7_part rfl hdX7_part.2 ⟨(Nat.le_of_ble_eq_true rfl), (Nat.le_of_ble_eq_true rfl)⟩ ⟨(Nat.le_of_ble_eq_true rfl), (Nat.le_of_ble_eq_true rfl)⟩ [] rfl rfl rfl rfl (by simp [Value.category]) dX7_next_77) [] rfl rfl ?_
            exact v_iret X Y dX7_next_80 (u := ()) (by rw [if_pos (by omega), if_neg (by assumption)]) (by rfl)
          · skip
            refine v_ldc X (List.mem_of_getElem? (i := 2) rfl) dX7_next_54 (n := -1000000) (by decide) ?_
            exact v_iret X Y dX7_next_56 (u := ()) (by rw [if_pos (by omega), if_pos (by assumption)]) (by rfl)
        · skip
          refine v_ldc X (List.mem_of_getElem? (i := 1) rfl) dX7_next_38 (n := -1000001) (by decide) ?_
          exact v_iret X Y dX7_next_40 (u := ()) (by rw [if_neg (by omega)]) (by rfl)

theorem hdX7_lieOfReading : yX7_lieOfReading.cls = RX7 ∧ yX7_lieOfReading.cls ≠ "java/lang/invoke/MethodHandle" ∧ yX7_lieOfReading.cls ≠ "java/lang/invoke/VarHandle" ∧ (parseMethodDescriptor yX7_lieOfReading.desc).map (fun d => d.parameters.length) = some 1 := ⟨rfl, by decide +kernel, by decide +kernel, by decide +kernel⟩
set_option maxHeartbeats 4000000 in
set_option maxRecDepth 100000 in
theorem c_X7_lieOfReading {g : Gx} {B : Nat → Nat} {lf fi : Int} {ar rs : Nat → Int} {rc pa0 : Int} {w : Int} (har : Bd 0 719 ar) (hrs : Bd (-24) 24 rs) (hrc : 0 ≤ rc ∧ rc ≤ 4) (hpa : 1 ≤ pa0 ∧ pa0 ≤ 720) (hw : 0 ≤ w ∧ w ≤ 3) : CtE g yX7_lieOfReading wsX7_lieOfReading 6 140 [.ref (B 0), .int (iI w)] (oAH g B (lf) (fi) :: (wRea g (B 9) (B 29) (B 30) ar rs rc pa0)) (lieV ar rs rc pa0 w) (oAH g B (lf) (fi) :: (wRea g (B 9) (B 29) (B 30) ar rs rc pa0)) := by
  refine m_go (cc := cX7_lieOfReading) (nL := 3) (by decide +kernel) rfl (Nat.le_of_ble_eq_true rfl) (fun x X Y hnm => ?_)
  refine v_eq (lo2 := [some (.ref (B 0)), some (.int (iI w)), none]) rfl rfl rfl rfl ?_
  have m1 := atI_bd (cn := 4) (h := 0) hrs (by omega) (by omega)
  have m2 := absI_bd m1
  have m3 := mul_nn m2 (show 0 ≤ pa0 ∧ pa0 ≤ 720 by omega)
  have m4 := lmI_bd (ar := ar) (cn := rc) hrs hpa
  have m5 := bitsN_r (fun h => pB (FitW ar rs rc pa0 h)) rc.toNat
  have f1 : (if 1 < absI (atI 4 rs 0) * pa0 then absI (atI 4 rs 0) * pa0 else 1) = whlI rs pa0 := rfl
  have m6 : 0 ≤ whlI rs pa0 ∧ whlI rs pa0 ≤ 17280 := by unfold whlI; split <;> omega
  refine v_iload_n X dX7_lieOfReading_0 rfl ?_
  refine v_if_ne (tgt := 21) X dX7_lieOfReading_1 (by decide) (by omega) (fun c1 => ?_) (fun c1 => ?_)
  · skip
    refine v_iload_n X dX7_lieOfReading_21 rfl ?_
    refine v_iconst X dX7_lieOfReading_22 ?_
    refine v_icmp_ne (tgt := 34) X dX7_lieOfReading_23 (by decide) (by omega) (by omega) (fun c2 => ?_) (fun c2 => ?_)
    · skip
      refine v_aload_n X dX7_lieOfReading_34 rfl ?_
      refine v_get X (fun _ h => List.mem_cons_of_mem _ (List.mem_append_left _ (List.mem_append_right _ h))) 0 rfl rfl 8 (by decide) rfl (List.mem_of_getElem? (i := 1) rfl) rfl dX7_lieOfReading_35 ?_
      refine res_E X (run_V X (c_X4_leastMove (g := g) (by first | assumption | omega) (by first | assumption | omega) (by first | assumption | omega) (by first | assumption | omega)) gX7_lieOfReading_X4_leastMove rfl hdX4_leastMove ⟨(Nat.le_of_ble_eq_true rfl), (Nat.le_of_ble_eq_true rfl)⟩ ⟨(Nat.le_of_ble_eq_true rfl), (Nat.le_of_ble_eq_true rfl)⟩ 1 rfl rfl rfl [1, 2, 3] rfl rfl rfl rfl (by simp [Value.category]) dX7_lieOfReading_38) [1, 2, 3] rfl rfl ?_
      refine v_istore_n X dX7_lieOfReading_41 2 rfl (by decide) rfl ?_
      dsimp only [List.set]
      refine v_iload_n X dX7_lieOfReading_42 rfl ?_
      refine v_if_ge (tgt := 51) X dX7_lieOfReading_43 (by decide) (by omega) (fun c3 => ?_) (fun c3 => ?_)
      · skip
        refine v_iload_n X dX7_lieOfReading_51 rfl ?_
        refine v_aload_n X dX7_lieOfReading_52 rfl ?_
        refine v_get X (fun _ h => List.mem_cons_of_mem _ (List.mem_append_left _ (List.mem_append_right _ h))) 0 rfl rfl 8 (by decide) rfl (List.mem_of_getElem? (i := 1) rfl) rfl dX7_lieOfReading_53 ?_
        refine res_E X (run_V X (c_X4_whole (g := g) (by first | assumption | omega) (by first | assumption | omega)) gX7_lieOfReading_X4_whole rfl hdX4_whole ⟨(Nat.le_of_ble_eq_true rfl), (Nat.le_of_ble_eq_true rfl)⟩ ⟨(Nat.le_of_ble_eq_true rfl), (Nat.le_of_ble_eq_true rfl)⟩ 1 rfl rfl rfl [1, 2, 3] rfl rfl rfl rfl (by simp [Value.category]) dX7_lieOfReading_56) [1, 2, 3] rfl rfl ?_
        rw [f1]
        refine v_iload_n X dX7_lieOfReading_59 rfl ?_
        refine v_iconst X dX7_lieOfReading_60 ?_
        refine v_isub X dX7_lieOfReading_61 ?_
        refine res_E X (run_S X (c_X7_part (g := g) (by first | assumption | omega) (by first | assumption | omega) (by first | assumption | omega) (by first | assumption | omega) (by first | assumption | omega)) gX7_lieOfReading_X7_part rfl hdX7_part.2 ⟨(Nat.le_of_ble_eq_true rfl), (Nat.le_of_ble_eq_true rfl)⟩ ⟨(Nat.le_of_ble_eq_true rfl), (Nat.le_of_ble_eq_true rfl)⟩ [] rfl rfl rfl rfl (by simp [Value.category]) dX7_lieOfReading_62) [] rfl rfl ?_
        exact v_iret X Y dX7_lieOfReading_65 (u := ()) (by unfold lieV; rw [if_neg (by assumption), if_neg (by assumption)]; first | rw [if_pos (by omega)] | rw [if_neg (by omega)]) (by rfl)
      · skip
        refine v_ldc X (List.mem_of_getElem? (i := 2) rfl) dX7_lieOfReading_46 (n := -1000000) (by decide) ?_
        refine v_goto (tgt := 65) X dX7_lieOfReading_48 (by decide) ?_
        exact v_iret X Y dX7_lieOfReading_65 (u := ()) (by unfold lieV; rw [if_neg (by assumption), if_neg (by assumption)]; first | rw [if_pos (by omega)] | rw [if_neg (by omega)]) (by rfl)
    · skip
      refine v_aload_n X dX7_lieOfReading_26 rfl ?_
      refine v_get X (fun _ h => List.mem_cons_of_mem _ (List.mem_append_left _ (List.mem_append_right _ h))) 0 rfl rfl 8 (by decide) rfl (List.mem_of_getElem? (i := 1) rfl) rfl dX7_lieOfReading_27 ?_
      refine res_E X (run_V X (c_X4_moved (g := g) (by first | assumption | omega) (by first | assumption | omega) (by first | assumption | omega) (by first | assumption | omega)) gX7_lieOfReading_X4_moved rfl hdX4_moved ⟨(Nat.le_of_ble_eq_true rfl), (Nat.le_of_ble_eq_true rfl)⟩ ⟨(Nat.le_of_ble_eq_true rfl), (Nat.le_of_ble_eq_true rfl)⟩ 1 rfl rfl rfl [1, 2, 3] rfl rfl rfl rfl (by simp [Value.category]) dX7_lieOfReading_30) [1, 2, 3] rfl rfl ?_
      exact v_iret X Y dX7_lieOfReading_33 (u := ()) (by unfold lieV; rw [if_neg (by assumption), if_pos (by assumption)]) (by rfl)
  · skip
    refine v_aload_n X dX7_lieOfReading_4 rfl ?_
    refine v_get X (fun _ h => List.mem_cons_of_mem _ (List.mem_append_left _ (List.mem_append_right _ h))) 0 rfl rfl 8 (by decide) rfl (List.mem_of_getElem? (i := 1) rfl) rfl dX7_lieOfReading_5 ?_
    refine v_iconst X dX7_lieOfReading_8 ?_
    refine res_E X (run_V X (c_X4_fitsWithout (g := g) (by first | assumption | omega) (by first | assumption | omega) (by first | assumption | omega) (by first | assumption | omega) (by first | assumption | omega)) gX7_lieOfReading_X4_fitsWithout rfl hdX4_fitsWithout ⟨(Nat.le_of_ble_eq_true rfl), (Nat.le_of_ble_eq_true rfl)⟩ ⟨(Nat.le_of_ble_eq_true rfl), (Nat.le_of_ble_eq_true rfl)⟩ 1 rfl rfl rfl [1, 2, 3] rfl rfl rfl rfl (by simp [Value.category]) dX7_lieOfReading_9) [1, 2, 3] rfl rfl ?_
    refine v_ifp_eq (tgt := 19) X dX7_lieOfReading_12 (by decide) (fun c4 => ?_) (fun c4 => ?_)
    · skip
      refine v_iconst X dX7_lieOfReading_19 ?_
      exact v_iret X Y dX7_lieOfReading_20 (u := ()) (by unfold lieV; rw [if_pos (by assumption)]; first | exact (pI_1 (by assumption)).symm | exact (pI_0 (by assumption)).symm) (by rfl)
    · skip
      refine v_iconst X dX7_lieOfReading_15 ?_
      refine v_goto (tgt := 20) X dX7_lieOfReading_16 (by decide) ?_
      exact v_iret X Y dX7_lieOfReading_20 (u := ()) (by unfold lieV; rw [if_pos (by assumption)]; first | exact (pI_1 (by assumption)).symm | exact (pI_0 (by assumption)).symm) (by rfl)

theorem hdX7_trueInGlass : yX7_trueInGlass.cls = RX7 ∧ yX7_trueInGlass.cls ≠ "java/lang/invoke/MethodHandle" ∧ yX7_trueInGlass.cls ≠ "java/lang/invoke/VarHandle" ∧ (parseMethodDescriptor yX7_trueInGlass.desc).map (fun d => d.parameters.length) = some 2 := ⟨rfl, by decide +kernel, by decide +kernel, by decide +kernel⟩
set_option maxHeartbeats 4000000 in
set_option maxRecDepth 100000 in
theorem c_X7_trueInGlass {g : Gx} {B : Nat → Nat} {lf fi : Int} {mk cn : Int} {so tu sp : Nat → Int} {p q : Int} (hcn : 0 ≤ cn ∧ cn ≤ 4) (hmk : 0 ≤ mk ∧ mk ≤ 60) (hso : Bd 0 5 so) (htu : Bd 0 12 tu) (hsp : Bd 0 59 sp) (hp : 0 ≤ p ∧ p ≤ 9998) (hq : 1 ≤ q ∧ q ≤ 9999) : CtE g yX7_trueInGlass wsX7_trueInGlass 4 87 [.ref (B 0), .int (iI p), .int (iI q)] (oAH g B (lf) (fi) :: (wClk g (B 3) (B 15) (B 16) (B 17) mk cn so tu sp)) (trueI cn mk so tu sp p q) (oAH g B (lf) (fi) :: (wClk g (B 3) (B 15) (B 16) (B 17) mk cn so tu sp)) := by
  refine m_go (cc := cX7_trueInGlass) (nL := 5) (by decide +kernel) rfl (Nat.le_of_ble_eq_true rfl) (fun x X Y hnm => ?_)
  refine v_eq (lo2 := [some (.ref (B 0)), some (.int (iI p)), some (.int (iI q)), none, none]) rfl rfl rfl rfl ?_
  have q6 := mul_nn (show 0 ≤ q ∧ q ≤ 9999 by omega) hmk
  have q8 := fun (h : Int) => restI_le (n := spdI cn so tu h * p * mk + atI cn sp h * q) q6.2 (by decide)
  have q9 := fun (h : Int) => restI_bd (n := spdI cn so tu h * p * mk + atI cn sp h * q) (w := q * mk)
  refine v_iconst X dX7_trueInGlass_0 ?_
  refine v_istore_n X dX7_trueInGlass_1 3 rfl (by decide) rfl ?_
  dsimp only [List.set]
  refine v_iconst X dX7_trueInGlass_2 ?_
  refine v_istore X dX7_trueInGlass_3 (by decide) rfl ?_
  dsimp only [List.set]
  have L5 : ∀ (nf : Nat) (b : Int) (h : Int) (h1 : 0 ≤ h ∧ h ≤ cn) (h2 : b = bitsN (fun h => decide (restI (2 * restI (spdI cn so tu h * p * mk + atI cn sp h * q) (q * mk)) (q * mk) = 0)) h.toNat) (_ : (cn - h).toNat < nf), V g x 0 0 (oAH g B (lf) (fi) :: (wClk g (B 3) (B 15) (B 16) (B 17) mk cn so tu sp)) [some (.ref (B 0)), some (.int (iI p)), some (.int (iI q)), some (.int (iI b)), some (.int (iI h))] 5 [] := by
    intro nf
    induction nf with
    | zero => intro b h h1 h2 hmu; exact absurd hmu (Nat.not_lt_zero _)
    | succ nf ih5 =>
      intro b h h1 h2 hmu
      refine v_iload X dX7_trueInGlass_5 rfl ?_
      refine v_aload_n X dX7_trueInGlass_7 rfl ?_
      refine v_get X (fun _ h => List.mem_cons_of_mem _ (List.mem_append_left _ (List.mem_append_right _ h))) 0 rfl rfl 2 (by decide) rfl (List.mem_of_getElem? (i := 1) rfl) rfl dX7_trueInGlass_8 ?_
      refine v_get X (fun _ h => List.mem_cons_of_mem _ (List.mem_append_right _ h)) 1 rfl rfl 4 (by decide) rfl (List.mem_of_getElem? (i := 2) rfl) rfl dX7_trueInGlass_11 ?_
      refine v_icmp_ge (tgt := 57) X dX7_trueInGlass_14 (by decide) (by omega) (by omega) (fun c1 => ?_) (fun c1 => ?_)
      · skip
        refine v_iload_n X dX7_trueInGlass_57 rfl ?_
        exact v_iret X Y dX7_trueInGlass_58 (u := ()) (by
            have e : h = cn := by omega
            unfold trueI; rw [h2, e]) (by rfl)
      · skip
        refine v_iconst X dX7_trueInGlass_17 ?_
        refine v_aload_n X dX7_trueInGlass_18 rfl ?_
        refine v_get X (fun _ h => List.mem_cons_of_mem _ (List.mem_append_left _ (List.mem_append_right _ h))) 0 rfl rfl 2 (by decide) rfl (List.mem_of_getElem? (i := 1) rfl) rfl dX7_trueInGlass_19 ?_
        refine v_iload X dX7_trueInGlass_22 rfl ?_
        refine v_iload_n X dX7_trueInGlass_24 rfl ?_
        refine v_iload_n X dX7_trueInGlass_25 rfl ?_
        refine res_E X (run_V X (c_X2_arcAbove (g := g) (by first | assumption | omega) (by first | assumption | omega) (by first | assumption | omega) (by first | assumption | omega) (by first | assumption | omega) (by first | assumption | omega) (by first | assumption | omega) (by first | assumption | omega)) gX7_trueInGlass_X2_arcAbove rfl hdX2_arcAbove ⟨(Nat.le_of_ble_eq_true rfl), (Nat.le_of_ble_eq_true rfl)⟩ ⟨(Nat.le_of_ble_eq_true rfl), (Nat.le_of_ble_eq_true rfl)⟩ 1 rfl rfl rfl [1, 2, 3, 4] rfl rfl rfl rfl (by simp [Value.category]) dX7_trueInGlass_26) [1, 2, 3, 4] rfl rfl ?_
        refine v_imul X dX7_trueInGlass_29 ?_
        refine v_aload_n X dX7_trueInGlass_30 rfl ?_
        refine v_get X (fun _ h => List.mem_cons_of_mem _ (List.mem_append_left _ (List.mem_append_right _ h))) 0 rfl rfl 2 (by decide) rfl (List.mem_of_getElem? (i := 1) rfl) rfl dX7_trueInGlass_31 ?_
        refine v_iload_n X dX7_trueInGlass_34 rfl ?_
        refine res_E X (run_V X (c_X2_arcBelow (g := g) ) gX7_trueInGlass_X2_arcBelow rfl hdX2_arcBelow ⟨(Nat.le_of_ble_eq_true rfl), (Nat.le_of_ble_eq_true rfl)⟩ ⟨(Nat.le_of_ble_eq_true rfl), (Nat.le_of_ble_eq_true rfl)⟩ 1 rfl rfl rfl [1, 2, 3, 4] rfl rfl rfl rfl (by simp [Value.category]) dX7_trueInGlass_35) [1, 2, 3, 4] rfl rfl ?_
        have g1 := q8 h
        have g2 := q9 h
        refine res_E X (run_S X (c_X7_rest (g := g) (by first | assumption | omega) (by first | assumption | omega)) gX7_trueInGlass_X7_rest rfl hdX7_rest.2 ⟨(Nat.le_of_ble_eq_true rfl), (Nat.le_of_ble_eq_true rfl)⟩ ⟨(Nat.le_of_ble_eq_true rfl), (Nat.le_of_ble_eq_true rfl)⟩ [] rfl rfl rfl rfl (by simp [Value.category]) dX7_trueInGlass_38) [] rfl rfl ?_
        refine v_if_ne (tgt := 51) X dX7_trueInGlass_41 (by decide) (by exact restI_r (by omega)) (fun c2 => ?_) (fun c2 => ?_)
        · skip
          refine v_iinc X dX7_trueInGlass_51 rfl (by decide) rfl ?_
          dsimp only [List.set]
          refine v_goto (tgt := 5) X dX7_trueInGlass_54 (by decide) ?_
          exact ih5 _ _ (by omega) (by rw [bitsN_s h1.1, ← h2]; simp only [show ((h.toNat : Nat) : Int) = h by omega, decide_eq_true_eq]; first | rw [if_pos (by assumption)] | rw [if_neg (by assumption)]) (by omega)
        · skip
          refine v_iload_n X dX7_trueInGlass_44 rfl ?_
          refine v_iconst X dX7_trueInGlass_45 ?_
          refine v_iload X dX7_trueInGlass_46 rfl ?_
          refine v_ishl X dX7_trueInGlass_48 ?_
          refine v_ior X dX7_trueInGlass_49 ?_
          refine v_istore_n X dX7_trueInGlass_50 3 rfl (by decide) rfl ?_
          dsimp only [List.set]
          refine v_iinc X dX7_trueInGlass_51 rfl (by decide) rfl ?_
          dsimp only [List.set]
          refine v_goto (tgt := 5) X dX7_trueInGlass_54 (by decide) ?_
          exact ih5 _ _ (by omega) (by rw [bitsN_s h1.1, ← h2]; simp only [show ((h.toNat : Nat) : Int) = h by omega, decide_eq_true_eq]; first | rw [if_pos (by assumption)] | rw [if_neg (by assumption)]) (by omega)
  exact L5 _ _ _ (by omega) (by rfl) (Nat.lt_succ_self _)

theorem hdX7_glass : yX7_glass.cls = RX7 ∧ yX7_glass.cls ≠ "java/lang/invoke/MethodHandle" ∧ yX7_glass.cls ≠ "java/lang/invoke/VarHandle" ∧ (parseMethodDescriptor yX7_glass.desc).map (fun d => d.parameters.length) = some 3 := ⟨rfl, by decide +kernel, by decide +kernel, by decide +kernel⟩
set_option maxHeartbeats 4000000 in
set_option maxRecDepth 100000 in
theorem c_X7_glass {g : Gx} {B : Nat → Nat} {lf fi : Int} {mk cn : Int} {so tu sp : Nat → Int} {p q w : Int} (hcn : 0 ≤ cn ∧ cn ≤ 4) (hmk : 0 ≤ mk ∧ mk ≤ 60) (hso : Bd 0 5 so) (htu : Bd 0 12 tu) (hsp : Bd 0 59 sp) (hp : R32 p) (hq : R32 q) (hw : R32 w) : CtE g yX7_glass wsX7_glass 5 111 [.ref (B 0), .int (iI p), .int (iI q), .int (iI w)] (oAH g B (lf) (fi) :: (wClk g (B 3) (B 15) (B 16) (B 17) mk cn so tu sp)) (if cn = 0 then -1000002 else if (1 ≤ q ∧ q ≤ 9999 ∧ 0 ≤ p ∧ p < q) ∧ 0 ≤ w ∧ w ≤ 2 then (if w = 2 then trueI cn mk so tu sp p q else toldI (restI (-p) q) q w) else -1000001) (oAH g B (lf) (fi) :: (wClk g (B 3) (B 15) (B 16) (B 17) mk cn so tu sp)) := by
  refine m_go (cc := cX7_glass) (nL := 4) (by decide +kernel) rfl (Nat.le_of_ble_eq_true rfl) (fun x X Y hnm => ?_)
  refine v_eq (lo2 := [some (.ref (B 0)), some (.int (iI p)), some (.int (iI q)), some (.int (iI w))]) rfl rfl rfl rfl ?_
  refine v_aload_n X dX7_glass_0 rfl ?_
  refine v_get X (fun _ h => List.mem_cons_of_mem _ (List.mem_append_left _ (List.mem_append_right _ h))) 0 rfl rfl 2 (by decide) rfl (List.mem_of_getElem? (i := 1) rfl) rfl dX7_glass_1 ?_
  refine res_E X (run_V X (c_X2_isNone (g := g) (by first | assumption | omega)) gX7_glass_X2_isNone rfl hdX2_isNone ⟨(Nat.le_of_ble_eq_true rfl), (Nat.le_of_ble_eq_true rfl)⟩ ⟨(Nat.le_of_ble_eq_true rfl), (Nat.le_of_ble_eq_true rfl)⟩ 1 rfl rfl rfl [1, 2, 3, 4] rfl rfl rfl rfl (by simp [Value.category]) dX7_glass_4) [1, 2, 3, 4] rfl rfl ?_
  refine v_ifb_eq (tgt := 13) X dX7_glass_7 (by decide) (fun c1 => ?_) (fun c1 => ?_)
  · skip
    refine v_iload_n X dX7_glass_13 rfl ?_
    refine v_iload_n X dX7_glass_14 rfl ?_
    refine res_E X (run_S X (c_X7_isMoment (g := g) (by first | assumption | omega) (by first | assumption | omega)) gX7_glass_X7_isMoment rfl hdX7_isMoment.2 ⟨(Nat.le_of_ble_eq_true rfl), (Nat.le_of_ble_eq_true rfl)⟩ ⟨(Nat.le_of_ble_eq_true rfl), (Nat.le_of_ble_eq_true rfl)⟩ [] rfl rfl rfl rfl (by simp [Value.category]) dX7_glass_15) [] rfl rfl ?_
    refine v_ifb_eq (tgt := 30) X dX7_glass_18 (by decide) (fun c2 => ?_) (fun c2 => ?_)
    · skip
      refine v_ldc X (List.mem_of_getElem? (i := 3) rfl) dX7_glass_30 (n := -1000001) (by decide) ?_
      exact v_iret X Y dX7_glass_32 (u := ()) (by rw [if_neg (by assumption), if_neg (by omega)]) (by rfl)
    · skip
      refine v_iload_n X dX7_glass_21 rfl ?_
      refine v_iconst X dX7_glass_22 ?_
      refine v_iconst X dX7_glass_23 ?_
      refine res_E X (run_S X (c_X7_isWithin (g := g) (by first | assumption | omega) (by first | assumption | omega) (by first | assumption | omega)) gX7_glass_X7_isWithin rfl hdX7_isWithin.2 ⟨(Nat.le_of_ble_eq_true rfl), (Nat.le_of_ble_eq_true rfl)⟩ ⟨(Nat.le_of_ble_eq_true rfl), (Nat.le_of_ble_eq_true rfl)⟩ [] rfl rfl rfl rfl (by simp [Value.category]) dX7_glass_24) [] rfl rfl ?_
      refine v_ifb_ne (tgt := 33) X dX7_glass_27 (by decide) (fun c3 => ?_) (fun c3 => ?_)
      · skip
        refine v_iload_n X dX7_glass_33 rfl ?_
        refine v_iconst X dX7_glass_34 ?_
        refine v_icmp_ne (tgt := 45) X dX7_glass_35 (by decide) (by omega) (by omega) (fun c4 => ?_) (fun c4 => ?_)
        · skip
          refine v_iload_n X dX7_glass_45 rfl ?_
          refine v_ineg X dX7_glass_46 ?_
          refine v_iload_n X dX7_glass_47 rfl ?_
          refine res_E X (run_S X (c_X7_rest (g := g) (by first | assumption | omega) (by first | assumption | omega)) gX7_glass_X7_rest rfl hdX7_rest.2 ⟨(Nat.le_of_ble_eq_true rfl), (Nat.le_of_ble_eq_true rfl)⟩ ⟨(Nat.le_of_ble_eq_true rfl), (Nat.le_of_ble_eq_true rfl)⟩ [] rfl rfl rfl rfl (by simp [Value.category]) dX7_glass_48) [] rfl rfl ?_
          have q7 := restI_bd (n := -p) (w := q)
          have q8 : restI (-p) q ≤ 9999 := restI_le (by omega) (by decide)
          refine v_iload_n X dX7_glass_51 rfl ?_
          refine v_iload_n X dX7_glass_52 rfl ?_
          refine res_E X (run_S X (c_X7_part (g := g) (by first | assumption | omega) (by first | assumption | omega) (by first | assumption | omega) (by first | assumption | omega) (by first | assumption | omega)) gX7_glass_X7_part rfl hdX7_part.2 ⟨(Nat.le_of_ble_eq_true rfl), (Nat.le_of_ble_eq_true rfl)⟩ ⟨(Nat.le_of_ble_eq_true rfl), (Nat.le_of_ble_eq_true rfl)⟩ [] rfl rfl rfl rfl (by simp [Value.category]) dX7_glass_53) [] rfl rfl ?_
          exact v_iret X Y dX7_glass_56 (u := ()) (by rw [if_neg (by assumption), if_pos (by omega), if_neg (by assumption)]) (by rfl)
        · skip
          refine v_aload_n X dX7_glass_38 rfl ?_
          refine v_iload_n X dX7_glass_39 rfl ?_
          refine v_iload_n X dX7_glass_40 rfl ?_
          refine res_E X (run_V X (c_X7_trueInGlass (g := g) (by first | assumption | omega) (by first | assumption | omega) (by first | assumption | omega) (by first | assumption | omega) (by first | assumption | omega) (by first | assumption | omega) (by first | assumption | omega)) gX7_glass_X7_trueInGlass rfl hdX7_trueInGlass ⟨(Nat.le_of_ble_eq_true rfl), (Nat.le_of_ble_eq_true rfl)⟩ ⟨(Nat.le_of_ble_eq_true rfl), (Nat.le_of_ble_eq_true rfl)⟩ 0 rfl rfl rfl [0, 1, 2, 3, 4] rfl rfl rfl rfl (by simp [Value.category]) dX7_glass_41) [0, 1, 2, 3, 4] rfl rfl ?_
          exact v_iret X Y dX7_glass_44 (u := ()) (by rw [if_neg (by assumption), if_pos (by omega), if_pos (by assumption)]) (by rfl)
      · skip
        refine v_ldc X (List.mem_of_getElem? (i := 3) rfl) dX7_glass_30 (n := -1000001) (by decide) ?_
        exact v_iret X Y dX7_glass_32 (u := ()) (by rw [if_neg (by assumption), if_neg (by omega)]) (by rfl)
  · skip
    refine v_ldc X (List.mem_of_getElem? (i := 2) rfl) dX7_glass_10 (n := -1000002) (by decide) ?_
    exact v_iret X Y dX7_glass_12 (u := ()) (by rw [if_pos (by assumption)]) (by rfl)

theorem hdX7_ask : yX7_ask.cls = RX7 ∧ yX7_ask.cls ≠ "java/lang/invoke/MethodHandle" ∧ yX7_ask.cls ≠ "java/lang/invoke/VarHandle" ∧ (parseMethodDescriptor yX7_ask.desc).map (fun d => d.parameters.length) = some 2 := ⟨rfl, by decide +kernel, by decide +kernel, by decide +kernel⟩
set_option maxHeartbeats 4000000 in
set_option maxRecDepth 100000 in
theorem c_X7_ask {g : Gx} {B : Nat → Nat} {lf fi : Int} {mk cn : Int} {so tu sp : Nat → Int} {t : TS} {h w : Int} (hcn : 0 ≤ cn ∧ cn ≤ 4) (hmk : 0 ≤ mk ∧ mk ≤ 60) (hso : Bd 0 5 so) (htu : Bd 0 12 tu) (hsp : Bd 0 59 sp) (hh : R32 h) (hw : R32 w) : CtI (S := TS) g yX7_ask wsX7_ask 6 132 [.ref (B 0), .int (iI h), .int (iI w)] (oAH g B (lf) (fi) :: (wClk g (B 3) (B 15) (B 16) (B 17) mk cn so tu sp ++ (wAsk g (B 10) (B 31) (t.1) (t.2)))) (fun v u => (¬ ((0 ≤ h ∧ h < cn) ∧ 0 ≤ w ∧ w ≤ 1) ∧ v = -1000001 ∧ u = t) ∨ (((0 ≤ h ∧ h < cn) ∧ 0 ≤ w ∧ w ≤ 1) ∧ v = askF cn so tu sp h w ∧ u = askT cn so h w t)) (fun u => oAH g B (lf) (fi) :: (wClk g (B 3) (B 15) (B 16) (B 17) mk cn so tu sp ++ (wAsk g (B 10) (B 31) (u.1) (u.2)))) := by
  refine m_go (cc := cX7_ask) (nL := 3) (by decide +kernel) rfl (Nat.le_of_ble_eq_true rfl) (fun x X Y hnm => ?_)
  refine v_eq (lo2 := [some (.ref (B 0)), some (.int (iI h)), some (.int (iI w))]) rfl rfl rfl rfl ?_
  have q1 := atI_bd (cn := cn) (h := h) hso (by omega) (by omega)
  have q0 : 0 ≤ ((t.1, 0) : TS).2 ∧ ((t.1, 0) : TS).2 ≤ 16 := ⟨Int.le_refl _, by show (0 : Int) ≤ 16; decide⟩
  refine v_aload_n X dX7_ask_0 rfl ?_
  refine v_get X (fun _ h => List.mem_cons_of_mem _ (List.mem_append_left _ (List.mem_append_left _ (List.mem_append_right _ h)))) 0 rfl rfl 2 (by decide) rfl (List.mem_of_getElem? (i := 1) rfl) rfl dX7_ask_1 ?_
  refine v_iload_n X dX7_ask_4 rfl ?_
  refine res_E X (run_V X (c_X2_has (g := g) (by first | assumption | omega) (by first | assumption | omega)) gX7_ask_X2_has rfl hdX2_has ⟨(Nat.le_of_ble_eq_true rfl), (Nat.le_of_ble_eq_true rfl)⟩ ⟨(Nat.le_of_ble_eq_true rfl), (Nat.le_of_ble_eq_true rfl)⟩ 1 rfl rfl rfl [1, 2, 3, 4] rfl rfl rfl rfl (by simp [Value.category]) dX7_ask_5) [1, 2, 3, 4] rfl rfl ?_
  refine v_ifb_eq (tgt := 20) X dX7_ask_8 (by decide) (fun c1 => ?_) (fun c1 => ?_)
  · skip
    refine v_ldc X (List.mem_of_getElem? (i := 2) rfl) dX7_ask_20 (n := -1000001) (by decide) ?_
    refine v_iret X Y dX7_ask_22 (u := t) ?_ (by rfl)
    exact Or.inl ⟨by omega, rfl, rfl⟩
  · skip
    refine v_iload_n X dX7_ask_11 rfl ?_
    refine v_iconst X dX7_ask_12 ?_
    refine v_iconst X dX7_ask_13 ?_
    refine res_E X (run_S X (c_X7_isWithin (g := g) (by first | assumption | omega) (by first | assumption | omega) (by first | assumption | omega)) gX7_ask_X7_isWithin rfl hdX7_isWithin.2 ⟨(Nat.le_of_ble_eq_true rfl), (Nat.le_of_ble_eq_true rfl)⟩ ⟨(Nat.le_of_ble_eq_true rfl), (Nat.le_of_ble_eq_true rfl)⟩ [] rfl rfl rfl rfl (by simp [Value.category]) dX7_ask_14) [] rfl rfl ?_
    refine v_ifb_ne (tgt := 23) X dX7_ask_17 (by decide) (fun c2 => ?_) (fun c2 => ?_)
    · skip
      refine v_aload_n X dX7_ask_23 rfl ?_
      refine v_get X (fun _ h => List.mem_cons_of_mem _ (List.mem_append_left _ (List.mem_append_left _ (List.mem_append_right _ h)))) 0 rfl rfl 9 (by decide) rfl (List.mem_of_getElem? (i := 3) rfl) rfl dX7_ask_24 ?_
      refine v_iconst X dX7_ask_27 ?_
      refine v_put X (fun _ h => List.mem_cons_of_mem _ (List.mem_append_left _ (List.mem_append_right _ h))) tyX1 tyX1_ok nmX1 5 rfl rfl 1 (by decide) rfl (List.mem_of_getElem? (i := 4) rfl) rfl rfl rfl (Nat.le_of_ble_eq_true rfl) dX7_ask_28 ?_
      dsimp only [List.set, oAH, wAsk, wClk, List.cons_append, List.nil_append]
      refine v_aload_n X dX7_ask_31 rfl ?_
      refine v_get X (fun _ h => List.mem_cons_of_mem _ (List.mem_append_left _ (List.mem_append_left _ (List.mem_append_right _ h)))) 0 rfl rfl 2 (by decide) rfl (List.mem_of_getElem? (i := 1) rfl) rfl dX7_ask_32 ?_
      refine v_iload_n X dX7_ask_35 rfl ?_
      refine res_E X (run_V X (c_X2_sortOf (g := g) (by first | assumption | omega) (by first | assumption | omega) (by first | assumption | omega)) gX7_ask_X2_sortOf rfl hdX2_sortOf ⟨(Nat.le_of_ble_eq_true rfl), (Nat.le_of_ble_eq_true rfl)⟩ ⟨(Nat.le_of_ble_eq_true rfl), (Nat.le_of_ble_eq_true rfl)⟩ 1 rfl rfl rfl [1, 2, 3, 4] rfl rfl rfl rfl (by simp [Value.category]) dX7_ask_36) [1, 2, 3, 4] rfl rfl ?_
      refine v_iconst X dX7_ask_39 ?_
      refine res_E X (run_S X (c_X7_isOfKind (g := g) (by first | assumption | omega) (by first | assumption | omega)) gX7_ask_X7_isOfKind rfl hdX7_isOfKind.2 ⟨(Nat.le_of_ble_eq_true rfl), (Nat.le_of_ble_eq_true rfl)⟩ ⟨(Nat.le_of_ble_eq_true rfl), (Nat.le_of_ble_eq_true rfl)⟩ [] rfl rfl rfl rfl (by simp [Value.category]) dX7_ask_40) [] rfl rfl ?_
      refine v_ifb_eq (tgt := 78) X dX7_ask_43 (by decide) (fun c3 => ?_) (fun c3 => ?_)
      · skip
        refine v_iload_n X dX7_ask_78 rfl ?_
        refine v_if_ne (tgt := 97) X dX7_ask_79 (by decide) (by omega) (fun c4 => ?_) (fun c4 => ?_)
        · skip
          refine v_aload_n X dX7_ask_97 rfl ?_
          refine v_get X (fun _ h => List.mem_cons_of_mem _ (List.mem_append_left _ (List.mem_append_left _ (List.mem_append_right _ h)))) 0 rfl rfl 9 (by decide) rfl (List.mem_of_getElem? (i := 3) rfl) rfl dX7_ask_98 ?_
          refine v_aload_n X dX7_ask_101 rfl ?_
          refine v_get X (fun _ h => List.mem_cons_of_mem _ (List.mem_append_left _ (List.mem_append_left _ (List.mem_append_right _ h)))) 0 rfl rfl 2 (by decide) rfl (List.mem_of_getElem? (i := 1) rfl) rfl dX7_ask_102 ?_
          refine v_iload_n X dX7_ask_105 rfl ?_
          refine res_F X (run_V X (c_X1_markOfHours (g := g) (t := ((t.1, 0) : TS)) (by exact q0) (by first | assumption | omega) (by first | assumption | omega) (by first | assumption | omega) (by first | assumption | omega)) gX7_ask_X1_markOfHours rfl hdX1_markOfHours ⟨(Nat.le_of_ble_eq_true rfl), (Nat.le_of_ble_eq_true rfl)⟩ ⟨(Nat.le_of_ble_eq_true rfl), (Nat.le_of_ble_eq_true rfl)⟩ 5 rfl rfl rfl [5, 6, 1, 2, 3, 4] rfl rfl rfl rfl (by simp [Value.category]) dX7_ask_106) [5, 6, 1, 2, 3, 4] rfl rfl rfl ?_
          dsimp only [patch, List.set, List.cons_append, List.nil_append, oAH, wAsk, wClk]
          refine v_iret X Y dX7_ask_109 (u := askT cn so h w t) ?_ (by unfold askT; (first | rw [if_pos (by omega)] | rw [if_neg (by omega)]) <;> (first | rw [if_pos (by assumption)] | rw [if_neg (by assumption)]) <;> rfl)
          exact Or.inr ⟨by omega, by unfold askF; (first | rw [if_pos (by omega)] | rw [if_neg (by omega)]) <;> (first | rw [if_pos (by assumption)] | rw [if_neg (by assumption)]), rfl⟩
        · skip
          refine v_aload_n X dX7_ask_82 rfl ?_
          refine v_get X (fun _ h => List.mem_cons_of_mem _ (List.mem_append_left _ (List.mem_append_left _ (List.mem_append_right _ h)))) 0 rfl rfl 9 (by decide) rfl (List.mem_of_getElem? (i := 3) rfl) rfl dX7_ask_83 ?_
          refine v_aload_n X dX7_ask_86 rfl ?_
          refine v_get X (fun _ h => List.mem_cons_of_mem _ (List.mem_append_left _ (List.mem_append_left _ (List.mem_append_right _ h)))) 0 rfl rfl 2 (by decide) rfl (List.mem_of_getElem? (i := 1) rfl) rfl dX7_ask_87 ?_
          refine v_iload_n X dX7_ask_90 rfl ?_
          refine res_F X (run_V X (c_X1_sizeOfHours (g := g) (t := ((t.1, 0) : TS)) (by exact q0) (by first | assumption | omega) (by first | assumption | omega) (by first | assumption | omega) (by first | assumption | omega) (by first | assumption | omega)) gX7_ask_X1_sizeOfHours rfl hdX1_sizeOfHours ⟨(Nat.le_of_ble_eq_true rfl), (Nat.le_of_ble_eq_true rfl)⟩ ⟨(Nat.le_of_ble_eq_true rfl), (Nat.le_of_ble_eq_true rfl)⟩ 5 rfl rfl rfl [5, 6, 1, 2, 3, 4] rfl rfl rfl rfl (by simp [Value.category]) dX7_ask_91) [5, 6, 1, 2, 3, 4] rfl rfl rfl ?_
          dsimp only [patch, List.set, List.cons_append, List.nil_append, oAH, wAsk, wClk]
          refine v_goto (tgt := 109) X dX7_ask_94 (by decide) ?_
          refine v_iret X Y dX7_ask_109 (u := askT cn so h w t) ?_ (by unfold askT; (first | rw [if_pos (by omega)] | rw [if_neg (by omega)]) <;> (first | rw [if_pos (by assumption)] | rw [if_neg (by assumption)]) <;> rfl)
          exact Or.inr ⟨by omega, by unfold askF; (first | rw [if_pos (by omega)] | rw [if_neg (by omega)]) <;> (first | rw [if_pos (by assumption)] | rw [if_neg (by assumption)]), rfl⟩
      · skip
        refine v_iload_n X dX7_ask_46 rfl ?_
        refine v_if_ne (tgt := 65) X dX7_ask_47 (by decide) (by omega) (fun c5 => ?_) (fun c5 => ?_)
        · skip
          refine v_aload_n X dX7_ask_65 rfl ?_
          refine v_get X (fun _ h => List.mem_cons_of_mem _ (List.mem_append_left _ (List.mem_append_left _ (List.mem_append_right _ h)))) 0 rfl rfl 9 (by decide) rfl (List.mem_of_getElem? (i := 3) rfl) rfl dX7_ask_66 ?_
          refine v_aload_n X dX7_ask_69 rfl ?_
          refine v_get X (fun _ h => List.mem_cons_of_mem _ (List.mem_append_left _ (List.mem_append_left _ (List.mem_append_right _ h)))) 0 rfl rfl 2 (by decide) rfl (List.mem_of_getElem? (i := 1) rfl) rfl dX7_ask_70 ?_
          refine v_iload_n X dX7_ask_73 rfl ?_
          refine res_F X (run_V X (c_X1_markOfBacks (g := g) (t := ((t.1, 0) : TS)) (by exact q0) (by first | assumption | omega) (by first | assumption | omega) (by first | assumption | omega) (by first | assumption | omega)) gX7_ask_X1_markOfBacks rfl hdX1_markOfBacks ⟨(Nat.le_of_ble_eq_true rfl), (Nat.le_of_ble_eq_true rfl)⟩ ⟨(Nat.le_of_ble_eq_true rfl), (Nat.le_of_ble_eq_true rfl)⟩ 5 rfl rfl rfl [5, 6, 1, 2, 3, 4] rfl rfl rfl rfl (by simp [Value.category]) dX7_ask_74) [5, 6, 1, 2, 3, 4] rfl rfl rfl ?_
          dsimp only [patch, List.set, List.cons_append, List.nil_append, oAH, wAsk, wClk]
          refine v_iret X Y dX7_ask_77 (u := askT cn so h w t) ?_ (by unfold askT; (first | rw [if_pos (by omega)] | rw [if_neg (by omega)]) <;> (first | rw [if_pos (by assumption)] | rw [if_neg (by assumption)]) <;> rfl)
          exact Or.inr ⟨by omega, by unfold askF; (first | rw [if_pos (by omega)] | rw [if_neg (by omega)]) <;> (first | rw [if_pos (by assumption)] | rw [if_neg (by assumption)]), rfl⟩
        · skip
          refine v_aload_n X dX7_ask_50 rfl ?_
          refine v_get X (fun _ h => List.mem_cons_of_mem _ (List.mem_append_left _ (List.mem_append_left _ (List.mem_append_right _ h)))) 0 rfl rfl 9 (by decide) rfl (List.mem_of_getElem? (i := 3) rfl) rfl dX7_ask_51 ?_
          refine v_aload_n X dX7_ask_54 rfl ?_
          refine v_get X (fun _ h => List.mem_cons_of_mem _ (List.mem_append_left _ (List.mem_append_left _ (List.mem_append_right _ h)))) 0 rfl rfl 2 (by decide) rfl (List.mem_of_getElem? (i := 1) rfl) rfl dX7_ask_55 ?_
          refine v_iload_n X dX7_ask_58 rfl ?_
          refine res_F X (run_V X (c_X1_sizeOfBacks (g := g) (t := ((t.1, 0) : TS)) (by exact q0) (by first | assumption | omega) (by first | assumption | omega) (by first | assumption | omega) (by first | assumption | omega)) gX7_ask_X1_sizeOfBacks rfl hdX1_sizeOfBacks ⟨(Nat.le_of_ble_eq_true rfl), (Nat.le_of_ble_eq_true rfl)⟩ ⟨(Nat.le_of_ble_eq_true rfl), (Nat.le_of_ble_eq_true rfl)⟩ 5 rfl rfl rfl [5, 6, 1, 2, 3, 4] rfl rfl rfl rfl (by simp [Value.category]) dX7_ask_59) [5, 6, 1, 2, 3, 4] rfl rfl rfl ?_
          dsimp only [patch, List.set, List.cons_append, List.nil_append, oAH, wAsk, wClk]
          refine v_goto (tgt := 77) X dX7_ask_62 (by decide) ?_
          refine v_iret X Y dX7_ask_77 (u := askT cn so h w t) ?_ (by unfold askT; (first | rw [if_pos (by omega)] | rw [if_neg (by omega)]) <;> (first | rw [if_pos (by assumption)] | rw [if_neg (by assumption)]) <;> rfl)
          exact Or.inr ⟨by omega, by unfold askF; (first | rw [if_pos (by omega)] | rw [if_neg (by omega)]) <;> (first | rw [if_pos (by assumption)] | rw [if_neg (by assumption)]), rfl⟩
    · skip
      refine v_ldc X (List.mem_of_getElem? (i := 2) rfl) dX7_ask_20 (n := -1000001) (by decide) ?_
      refine v_iret X Y dX7_ask_22 (u := t) ?_ (by rfl)
      exact Or.inl ⟨by omega, rfl, rfl⟩

theorem hdX7_count : yX7_count.cls = RX7 ∧ yX7_count.cls ≠ "java/lang/invoke/MethodHandle" ∧ yX7_count.cls ≠ "java/lang/invoke/VarHandle" ∧ (parseMethodDescriptor yX7_count.desc).map (fun d => d.parameters.length) = some 1 := ⟨rfl, by decide +kernel, by decide +kernel, by decide +kernel⟩
set_option maxHeartbeats 4000000 in
set_option maxRecDepth 100000 in
theorem c_X7_count {g : Gx} {B : Nat → Nat} {lf fi : Int} {it la le : Nat → Int} {bt : Nat → Int} {tln tk fm tt tf : Int} {mk cn : Int} {so tu sp : Nat → Int} {hs ss : Nat → Int} {ln : Int} {w : Int} (hla : Bd (-1) 2 la) (hcn : 0 ≤ cn ∧ cn ≤ 4) (hmk : 0 ≤ mk ∧ mk ≤ 60) (hso : Bd 0 5 so) (htu : Bd 0 12 tu) (hsp : Bd 0 59 sp) (hln : 0 ≤ ln ∧ ln ≤ 24) (htl : 0 ≤ tln ∧ tln ≤ 200) (hw : R32 w) : CtE g yX7_count wsX7_count 4 84 [.ref (B 0), .int (iI w)] (oAH g B (lf) (fi) :: (wRow g (B 1) (B 11) (B 12) (B 13) it la le ++ (wTap g (B 2) (B 14) bt tln tk fm tt tf ++ (wClk g (B 3) (B 15) (B 16) (B 17) mk cn so tu sp ++ (wAct g (B 7) (B 27) (B 28) hs ss ln))))) (if w = 0 then cntN (fun j => decide (la j ≠ -1)) 8 else if w = 1 then cn else if w = 2 then mk else if w = 3 then cntN (fun j => decide (sp j ≠ 0)) cn.toNat else if w = 4 then ln else if w = 5 then tln else -1000001) (oAH g B (lf) (fi) :: (wRow g (B 1) (B 11) (B 12) (B 13) it la le ++ (wTap g (B 2) (B 14) bt tln tk fm tt tf ++ (wClk g (B 3) (B 15) (B 16) (B 17) mk cn so tu sp ++ (wAct g (B 7) (B 27) (B 28) hs ss ln))))) := by
  refine m_go (cc := cX7_count) (nL := 2) (by decide +kernel) rfl (Nat.le_of_ble_eq_true rfl) (fun x X Y hnm => ?_)
  refine v_eq (lo2 := [some (.ref (B 0)), some (.int (iI w))]) rfl rfl rfl rfl ?_
  refine v_iload_n X dX7_count_0 rfl ?_
  by_cases sw0 : w = 0
  · subst sw0
    refine v_tabIn (off := 39) (tgt := 40) X dX7_count_1 (by decide) (by decide) (by decide) rfl (by decide) ?_
    refine v_aload_n X dX7_count_40 rfl ?_
    refine v_get X (fun _ h => List.mem_cons_of_mem _ (List.mem_append_left _ (List.mem_append_left _ (List.mem_append_left _ (List.mem_append_left _ (List.mem_append_right _ h)))))) 0 rfl rfl 0 (by decide) rfl (List.mem_of_getElem? (i := 1) rfl) rfl dX7_count_41 ?_
    refine res_E X (run_V X (c_X5_present (g := g) (by first | assumption | omega)) gX7_count_X5_present rfl hdX5_present ⟨(Nat.le_of_ble_eq_true rfl), (Nat.le_of_ble_eq_true rfl)⟩ ⟨(Nat.le_of_ble_eq_true rfl), (Nat.le_of_ble_eq_true rfl)⟩ 1 rfl rfl rfl [1, 2, 3, 4] rfl rfl rfl rfl (by simp [Value.category]) dX7_count_44) [1, 2, 3, 4] rfl rfl ?_
    exact v_iret X Y dX7_count_47 (u := ()) (by first | rfl | ((repeat split) <;> first | rfl | omega)) (by rfl)
  by_cases sw1 : w = 1
  · subst sw1
    refine v_tabIn (off := 47) (tgt := 48) X dX7_count_1 (by decide) (by decide) (by decide) rfl (by decide) ?_
    refine v_aload_n X dX7_count_48 rfl ?_
    refine v_get X (fun _ h => List.mem_cons_of_mem _ (List.mem_append_left _ (List.mem_append_left _ (List.mem_append_left _ (List.mem_append_left _ (List.mem_append_right _ h)))))) 0 rfl rfl 2 (by decide) rfl (List.mem_of_getElem? (i := 2) rfl) rfl dX7_count_49 ?_
    refine v_get X (fun _ h => List.mem_cons_of_mem _ (List.mem_append_left _ (List.mem_append_left _ (List.mem_append_left _ (List.mem_append_right _ h))))) 7 rfl rfl 4 (by decide) rfl (List.mem_of_getElem? (i := 3) rfl) rfl dX7_count_52 ?_
    exact v_iret X Y dX7_count_55 (u := ()) (by first | rfl | ((repeat split) <;> first | rfl | omega)) (by rfl)
  by_cases sw2 : w = 2
  · subst sw2
    refine v_tabIn (off := 55) (tgt := 56) X dX7_count_1 (by decide) (by decide) (by decide) rfl (by decide) ?_
    refine v_aload_n X dX7_count_56 rfl ?_
    refine v_get X (fun _ h => List.mem_cons_of_mem _ (List.mem_append_left _ (List.mem_append_left _ (List.mem_append_left _ (List.mem_append_left _ (List.mem_append_right _ h)))))) 0 rfl rfl 2 (by decide) rfl (List.mem_of_getElem? (i := 2) rfl) rfl dX7_count_57 ?_
    refine v_get X (fun _ h => List.mem_cons_of_mem _ (List.mem_append_left _ (List.mem_append_left _ (List.mem_append_left _ (List.mem_append_right _ h))))) 7 rfl rfl 3 (by decide) rfl (List.mem_of_getElem? (i := 4) rfl) rfl dX7_count_60 ?_
    exact v_iret X Y dX7_count_63 (u := ()) (by first | rfl | ((repeat split) <;> first | rfl | omega)) (by rfl)
  by_cases sw3 : w = 3
  · subst sw3
    refine v_tabIn (off := 63) (tgt := 64) X dX7_count_1 (by decide) (by decide) (by decide) rfl (by decide) ?_
    refine v_aload_n X dX7_count_64 rfl ?_
    refine v_get X (fun _ h => List.mem_cons_of_mem _ (List.mem_append_left _ (List.mem_append_left _ (List.mem_append_left _ (List.mem_append_left _ (List.mem_append_right _ h)))))) 0 rfl rfl 2 (by decide) rfl (List.mem_of_getElem? (i := 2) rfl) rfl dX7_count_65 ?_
    refine res_E X (run_V X (c_X2_slippedHands (g := g) (by first | assumption | omega) (by first | assumption | omega)) gX7_count_X2_slippedHands rfl hdX2_slippedHands ⟨(Nat.le_of_ble_eq_true rfl), (Nat.le_of_ble_eq_true rfl)⟩ ⟨(Nat.le_of_ble_eq_true rfl), (Nat.le_of_ble_eq_true rfl)⟩ 7 rfl rfl rfl [7, 8, 9, 10] rfl rfl rfl rfl (by simp [Value.category]) dX7_count_68) [7, 8, 9, 10] rfl rfl ?_
    exact v_iret X Y dX7_count_71 (u := ()) (by first | rfl | ((repeat split) <;> first | rfl | omega)) (by rfl)
  by_cases sw4 : w = 4
  · subst sw4
    refine v_tabIn (off := 71) (tgt := 72) X dX7_count_1 (by decide) (by decide) (by decide) rfl (by decide) ?_
    refine v_aload_n X dX7_count_72 rfl ?_
    refine v_get X (fun _ h => List.mem_cons_of_mem _ (List.mem_append_left _ (List.mem_append_left _ (List.mem_append_left _ (List.mem_append_left _ (List.mem_append_right _ h)))))) 0 rfl rfl 6 (by decide) rfl (List.mem_of_getElem? (i := 5) rfl) rfl dX7_count_73 ?_
    refine v_get X (fun _ h => List.mem_cons_of_mem _ (List.mem_append_left _ (List.mem_append_left _ (List.mem_append_right _ h)))) 11 rfl rfl 2 (by decide) rfl (List.mem_of_getElem? (i := 6) rfl) rfl dX7_count_76 ?_
    exact v_iret X Y dX7_count_79 (u := ()) (by first | rfl | ((repeat split) <;> first | rfl | omega)) (by rfl)
  by_cases sw5 : w = 5
  · subst sw5
    refine v_tabIn (off := 79) (tgt := 80) X dX7_count_1 (by decide) (by decide) (by decide) rfl (by decide) ?_
    refine v_aload_n X dX7_count_80 rfl ?_
    refine v_get X (fun _ h => List.mem_cons_of_mem _ (List.mem_append_left _ (List.mem_append_left _ (List.mem_append_left _ (List.mem_append_left _ (List.mem_append_right _ h)))))) 0 rfl rfl 1 (by decide) rfl (List.mem_of_getElem? (i := 7) rfl) rfl dX7_count_81 ?_
    refine v_get X (fun _ h => List.mem_cons_of_mem _ (List.mem_append_left _ (List.mem_append_right _ h))) 5 rfl rfl 1 (by decide) rfl (List.mem_of_getElem? (i := 8) rfl) rfl dX7_count_84 ?_
    exact v_iret X Y dX7_count_87 (u := ()) (by first | rfl | ((repeat split) <;> first | rfl | omega)) (by rfl)
  refine v_tabOut (tgt := 88) X dX7_count_1 (by omega) (by omega) (by decide) ?_
  refine v_ldc X (List.mem_of_getElem? (i := 9) rfl) dX7_count_88 (n := -1000001) (by decide) ?_
  exact v_iret X Y dX7_count_90 (u := ()) (by first | rfl | ((repeat split) <;> first | rfl | omega)) (by rfl)

theorem hdX8_slip : yX8_slip.cls = RX8 ∧ yX8_slip.cls ≠ "java/lang/invoke/MethodHandle" ∧ yX8_slip.cls ≠ "java/lang/invoke/VarHandle" ∧ (parseMethodDescriptor yX8_slip.desc).map (fun d => d.parameters.length) = some 2 := ⟨rfl, by decide +kernel, by decide +kernel, by decide +kernel⟩
set_option maxHeartbeats 4000000 in
set_option maxRecDepth 100000 in
theorem c_X8_slip {g : Gx} {A : Nat → Nat} {th sq ac td lt ln cu tk sa ti ft fp le lf tr : Int} {fl fm fi fc ff fw ftp fk fe fr : Nat → Int} {h m : Int} (hfc : Bd 0 60 fc) (hc1 : 0 ≤ fc 1 ∧ fc 1 ≤ 4) (ht3 : Bd 0 12 (tM fc)) (hfw : Bd 0 60 fw) (hac : 0 ≤ ac ∧ ac ≤ 24) (h0 : 0 < fc 1 → 0 < fc 0) (hh : R32 h) (hm : R32 m) : CtI (S := (Nat → Int) × (Nat → Int) × Int) g yX8_slip wsX8_slip 2 46 [.ref (A 0), .int (iI h), .int (iI m)] (wMod g A th sq ac td lt ln cu tk sa ti ft fp le lf tr fl fm fi fc ff fw ftp fk fe fr) (fun v u => (¬ ((0 ≤ h ∧ h < fc 1) ∧ -60 ≤ m ∧ m ≤ 60) ∧ v = -1000001 ∧ u = (fc, fw, ac)) ∨ (((0 ≤ h ∧ h < fc 1) ∧ -60 ≤ m ∧ m ≤ 60) ∧ v = (sM fc h.toNat + m) % fc 0 ∧ u = (updI fc (4 + 3 * h.toNat) ((sM fc h.toNat + m) % fc 0), kpW fc fw ac, acN ac + 1))) (fun u => wMod g A (0) sq (u.2.2) td lt ln cu tk sa ti ft fp le lf tr fl fm fi (u.1) ff (u.2.1) ftp fk fe fr) := by
  refine m_go (cc := cX8_slip) (nL := 4) (by decide +kernel) rfl (Nat.le_of_ble_eq_true rfl) (fun x X Y hnm => ?_)
  refine v_eq (lo2 := [some (.ref (A 0)), some (.int (iI h)), some (.int (iI m)), none]) rfl rfl rfl rfl ?_
  refine v_aload_n X dX8_slip_0 rfl ?_
  refine v_iconst X dX8_slip_1 ?_
  refine v_put X (fun _ h => List.mem_cons_of_mem _ (List.mem_append_right _ h)) tyX8 tyX8_ok nmX8 0 rfl rfl 0 (by decide) rfl (List.mem_of_getElem? (i := 1) rfl) rfl rfl rfl (Nat.le_of_ble_eq_true rfl) dX8_slip_2 ?_
  dsimp only [List.set, wMod]
  refine v_aload_n X dX8_slip_5 rfl ?_
  refine v_iload_n X dX8_slip_6 rfl ?_
  refine res_E X (run_V X (c_X8_isHand (g := g) (by first | assumption | omega) (by first | assumption | omega)) gX8_slip_X8_isHand rfl hdX8_isHand ⟨(Nat.le_of_ble_eq_true rfl), (Nat.le_of_ble_eq_true rfl)⟩ ⟨(Nat.le_of_ble_eq_true rfl), (Nat.le_of_ble_eq_true rfl)⟩ 0 rfl rfl rfl [0, 1, 2, 3, 4, 5, 6, 7, 8, 9, 10] rfl rfl rfl rfl (by simp [Value.category]) dX8_slip_7) [0, 1, 2, 3, 4, 5, 6, 7, 8, 9, 10] rfl rfl ?_
  refine v_ifb_eq (tgt := 27) X dX8_slip_10 (by decide) (fun c1 => ?_) (fun c1 => ?_)
  · skip
    refine v_ldc X (List.mem_of_getElem? (i := 4) rfl) dX8_slip_27 (n := -1000001) (by decide) ?_
    refine v_iret X Y dX8_slip_29 (u := (fc, fw, ac)) ?_ (by rfl)
    exact Or.inl ⟨by omega, rfl, rfl⟩
  · skip
    refine v_iload_n X dX8_slip_13 rfl ?_
    refine v_i2l X dX8_slip_14 (by omega) ?_
    refine v_ldc2 X (List.mem_of_getElem? (i := 2) rfl) dX8_slip_15 (n := -60) (by decide) ?_
    refine v_ldc2 X (List.mem_of_getElem? (i := 3) rfl) dX8_slip_18 (n := 60) (by decide) ?_
    refine res_E X (run_S X (c_X8_in (g := g) (by first | assumption | omega) (by first | assumption | omega) (by first | assumption | omega)) gX8_slip_X8_in rfl hdX8_in.2 ⟨(Nat.le_of_ble_eq_true rfl), (Nat.le_of_ble_eq_true rfl)⟩ ⟨(Nat.le_of_ble_eq_true rfl), (Nat.le_of_ble_eq_true rfl)⟩ [] rfl rfl rfl rfl (by simp [Value.category]) dX8_slip_21) [] rfl rfl ?_
    refine v_ifb_ne (tgt := 30) X dX8_slip_24 (by decide) (fun c2 => ?_) (fun c2 => ?_)
    · skip
      have g0 : (0 ≤ h ∧ h < fc 1) ∧ -60 ≤ m ∧ m ≤ 60 := by omega
      refine v_aload_n X dX8_slip_30 rfl ?_
      refine v_get X (fun _ h => List.mem_cons_of_mem _ (List.mem_append_right _ h)) 0 rfl rfl 8 (by decide) rfl (List.mem_of_getElem? (i := 5) rfl) rfl dX8_slip_31 ?_
      refine v_bipush X dX8_slip_34 (by decide) ?_
      refine v_icmp_ne (tgt := 79) X dX8_slip_36 (by decide) (by omega) (by omega) (fun c3 => ?_) (fun c3 => ?_)
      · skip
        refine v_iconst X dX8_slip_79 ?_
        refine v_istore_n X dX8_slip_80 3 rfl (by decide) rfl ?_
        dsimp only [List.set]
        have L81 : ∀ (nf : Nat) (f2 : Nat → Int) (aq : Int) (k2 : Int) (g1 : 0 ≤ k2 ∧ k2 ≤ 14) (g2 : aq = acN ac) (g3 : ∀ j : Nat, f2 j = if 14 * acN ac ≤ (j : Int) ∧ (j : Int) < 14 * acN ac + k2 then fc (j - (14 * acN ac).toNat) else shW fw ac j) (_ : (14 - k2).toNat < nf), V g x 0 0 (wMod g A (0) sq (aq) td lt ln cu tk sa ti ft fp le lf tr fl fm fi fc ff (f2) ftp fk fe fr) [some (.ref (A 0)), some (.int (iI h)), some (.int (iI m)), some (.int (iI k2))] 81 [] := by
          intro nf
          induction nf with
          | zero => intro f2 aq k2 g1 g2 g3 hmu; exact absurd hmu (Nat.not_lt_zero _)
          | succ nf ih81 =>
            intro f2 aq k2 g1 g2 g3 hmu
            refine v_iload_n X dX8_slip_81 rfl ?_
            refine v_bipush X dX8_slip_82 (by decide) ?_
            refine v_icmp_ge (tgt := 113) X dX8_slip_84 (by decide) (by omega) (by omega) (fun c4 => ?_) (fun c4 => ?_)
            · skip
              have e7 : k2 = 14 := by omega
              have q8 := hfc 0
              have q7 := hfc (4 + 3 * h.toNat)
              have e9 : (2 + 3 * h + 2).toNat = 4 + 3 * h.toNat := by omega
              have q6 := Int.emod_nonneg (sM fc h.toNat + m) (show fc 0 ≠ 0 by omega)
              have q5 := Int.emod_lt_of_pos (sM fc h.toNat + m) (show 0 < fc 0 by omega)
              have q4 : restI (fc (4 + 3 * h.toNat) + m) (fc 0) = (sM fc h.toNat + m) % fc 0 := if_neg (by omega)
              refine v_aload_n X dX8_slip_113 rfl ?_
              refine v_dup X dX8_slip_114 rfl ?_
              refine v_get X (fun _ h => List.mem_cons_of_mem _ (List.mem_append_right _ h)) 0 rfl rfl 8 (by decide) rfl (List.mem_of_getElem? (i := 5) rfl) rfl dX8_slip_115 ?_
              refine v_iconst X dX8_slip_118 ?_
              refine v_iadd X dX8_slip_119 ?_
              refine v_put X (fun _ h => List.mem_cons_of_mem _ (List.mem_append_right _ h)) tyX8 tyX8_ok nmX8 0 rfl rfl 8 (by decide) rfl (List.mem_of_getElem? (i := 5) rfl) rfl rfl rfl (Nat.le_of_ble_eq_true rfl) dX8_slip_120 ?_
              dsimp only [List.set, wMod]
              refine v_aload_n X dX8_slip_123 rfl ?_
              refine v_get X (fun _ h => List.mem_cons_of_mem _ (List.mem_append_right _ h)) 0 rfl rfl 5 (by decide) rfl (List.mem_of_getElem? (i := 7) rfl) rfl dX8_slip_124 ?_
              refine v_iconst X dX8_slip_127 ?_
              refine v_iconst X dX8_slip_128 ?_
              refine v_iload_n X dX8_slip_129 rfl ?_
              refine v_imul X dX8_slip_130 ?_
              refine v_iadd X dX8_slip_131 ?_
              refine v_iconst X dX8_slip_132 ?_
              refine v_iadd X dX8_slip_133 ?_
              refine v_aload_n X dX8_slip_134 rfl ?_
              refine v_iload_n X dX8_slip_135 rfl ?_
              refine v_iconst X dX8_slip_136 ?_
              refine res_E X (run_V X (c_X8_of (g := g) (by first | assumption | omega) (by first | assumption | omega) (by first | assumption | omega)) gX8_slip_X8_of rfl hdX8_of ⟨(Nat.le_of_ble_eq_true rfl), (Nat.le_of_ble_eq_true rfl)⟩ ⟨(Nat.le_of_ble_eq_true rfl), (Nat.le_of_ble_eq_true rfl)⟩ 0 rfl rfl rfl [0, 1, 2, 3, 4, 5, 6, 7, 8, 9, 10] rfl rfl rfl rfl (by simp [Value.category]) dX8_slip_137) [0, 1, 2, 3, 4, 5, 6, 7, 8, 9, 10] rfl rfl ?_
              rw [e9]
              refine v_iload_n X dX8_slip_140 rfl ?_
              refine v_iadd X dX8_slip_141 ?_
              refine v_aload_n X dX8_slip_142 rfl ?_
              refine v_get X (fun _ h => List.mem_cons_of_mem _ (List.mem_append_right _ h)) 0 rfl rfl 5 (by decide) rfl (List.mem_of_getElem? (i := 7) rfl) rfl dX8_slip_143 ?_
              refine v_iconst X dX8_slip_146 ?_
              refine v_iald X 4 rfl (by omega) (by omega) (by omega) dX8_slip_147 hfc (fun z0 ez0 lz0 uz0 => ?_)
              rw [show z0 = fc 0 from ez0]
              refine res_E X (run_S X (c_X8_rest (g := g) (by first | assumption | omega) (by first | assumption | omega) (by first | assumption | omega)) gX8_slip_X8_rest rfl hdX8_rest.2 ⟨(Nat.le_of_ble_eq_true rfl), (Nat.le_of_ble_eq_true rfl)⟩ ⟨(Nat.le_of_ble_eq_true rfl), (Nat.le_of_ble_eq_true rfl)⟩ [] rfl rfl rfl rfl (by simp [Value.category]) dX8_slip_148) [] rfl rfl ?_
              rw [q4]
              refine v_iast X 4 rfl (by omega) (by omega) (by omega) dX8_slip_151 ?_
              dsimp only [List.set, wMod]
              refine v_aload_n X dX8_slip_152 rfl ?_
              refine v_iload_n X dX8_slip_153 rfl ?_
              refine v_iconst X dX8_slip_154 ?_
              refine res_E X (run_V X (c_X8_of (g := g) (by exact Bd_up hfc (by omega) (by omega)) (by first | assumption | omega) (by first | assumption | omega)) gX8_slip_X8_of rfl hdX8_of ⟨(Nat.le_of_ble_eq_true rfl), (Nat.le_of_ble_eq_true rfl)⟩ ⟨(Nat.le_of_ble_eq_true rfl), (Nat.le_of_ble_eq_true rfl)⟩ 0 rfl rfl rfl [0, 1, 2, 3, 4, 5, 6, 7, 8, 9, 10] rfl rfl rfl rfl (by simp [Value.category]) dX8_slip_155) [0, 1, 2, 3, 4, 5, 6, 7, 8, 9, 10] rfl rfl ?_
              rw [show updI fc (2 + 3 * h + 2).toNat ((sM fc h.toNat + m) % fc 0) (2 + 3 * h + 2).toNat = (sM fc h.toNat + m) % fc 0 from updI_s _ _ _]
              refine v_iret X Y dX8_slip_158 (u := (updI fc (4 + 3 * h.toNat) ((sM fc h.toNat + m) % fc 0), kpW fc fw ac, acN ac + 1)) ?_ (by rw [e9, g2, show f2 = kpW fc fw ac from funext (fun j => by rw [g3 j, e7]; rfl)])
              exact Or.inr ⟨g0, rfl, rfl⟩
            · skip
              have q9 : 0 ≤ acN ac ∧ acN ac ≤ 23 := by unfold acN; split <;> omega
              refine v_aload_n X dX8_slip_87 rfl ?_
              refine v_get X (fun _ h => List.mem_cons_of_mem _ (List.mem_append_right _ h)) 0 rfl rfl 7 (by decide) rfl (List.mem_of_getElem? (i := 6) rfl) rfl dX8_slip_88 ?_
              refine v_bipush X dX8_slip_91 (by decide) ?_
              refine v_aload_n X dX8_slip_93 rfl ?_
              refine v_get X (fun _ h => List.mem_cons_of_mem _ (List.mem_append_right _ h)) 0 rfl rfl 8 (by decide) rfl (List.mem_of_getElem? (i := 5) rfl) rfl dX8_slip_94 ?_
              refine v_imul X dX8_slip_97 ?_
              refine v_iload_n X dX8_slip_98 rfl ?_
              refine v_iadd X dX8_slip_99 ?_
              refine v_aload_n X dX8_slip_100 rfl ?_
              refine v_get X (fun _ h => List.mem_cons_of_mem _ (List.mem_append_right _ h)) 0 rfl rfl 5 (by decide) rfl (List.mem_of_getElem? (i := 7) rfl) rfl dX8_slip_101 ?_
              refine v_iload_n X dX8_slip_104 rfl ?_
              refine v_iald X 4 rfl (by omega) (by omega) (by omega) dX8_slip_105 hfc (fun zy ezy lzy uzy => ?_)
              refine v_iast X 6 rfl (by omega) (by omega) (by omega) dX8_slip_106 ?_
              dsimp only [List.set, wMod]
              refine v_iinc X dX8_slip_107 rfl (by decide) rfl ?_
              dsimp only [List.set]
              refine v_goto (tgt := 81) X dX8_slip_110 (by decide) ?_
              exact ih81 _ _ _ (by omega) (by assumption) (by
                  intro j
                  have q := g3 j
                  have q9 : 0 ≤ acN ac ∧ acN ac ≤ 23 := by unfold acN; split <;> omega
                  rw [updI_e]
                  by_cases e : j = (14 * aq + k2).toNat
                  · rw [if_pos e, if_pos (by omega), ezy]; congr 1; omega
                  · rw [if_neg e, q]
                    by_cases e2 : 14 * acN ac ≤ (j : Int) ∧ (j : Int) < 14 * acN ac + k2
                    · rw [if_pos e2, if_pos (by omega)]
                    · rw [if_neg e2, if_neg (by omega)]) (by omega)
        exact L81 _ _ _ _ (by omega) (by unfold acN; split <;> omega) (by
            first
            | (intro j; rw [if_neg (by omega)]; unfold shW; rw [if_pos (by omega)])
            | (intro j; rw [if_neg (by omega)]; exact shW_of (by omega) (by omega) h2 j)) (Nat.lt_succ_self _)
      · skip
        refine v_iconst X dX8_slip_39 ?_
        refine v_istore_n X dX8_slip_40 3 rfl (by decide) rfl ?_
        dsimp only [List.set]
        have L41 : ∀ (nf : Nat) (f : Nat → Int) (k : Int) (h1 : 0 ≤ k ∧ k ≤ 322) (h2 : ∀ j : Nat, f j = if (j : Int) < k then fw (j + 14) else fw j) (h3 : Bd 0 60 f) (_ : (322 - k).toNat < nf), V g x 0 0 (wMod g A (0) sq ac td lt ln cu tk sa ti ft fp le lf tr fl fm fi fc ff (f) ftp fk fe fr) [some (.ref (A 0)), some (.int (iI h)), some (.int (iI m)), some (.int (iI k))] 41 [] := by
          intro nf
          induction nf with
          | zero => intro f k h1 h2 h3 hmu; exact absurd hmu (Nat.not_lt_zero _)
          | succ nf ih41 =>
            intro f k h1 h2 h3 hmu
            refine v_iload_n X dX8_slip_41 rfl ?_
            refine v_sipush X dX8_slip_42 (by decide) ?_
            refine v_icmp_ge (tgt := 69) X dX8_slip_45 (by decide) (by omega) (by omega) (fun c7 => ?_) (fun c7 => ?_)
            · skip
              refine v_aload_n X dX8_slip_69 rfl ?_
              refine v_dup X dX8_slip_70 rfl ?_
              refine v_get X (fun _ h => List.mem_cons_of_mem _ (List.mem_append_right _ h)) 0 rfl rfl 8 (by decide) rfl (List.mem_of_getElem? (i := 5) rfl) rfl dX8_slip_71 ?_
              refine v_iconst X dX8_slip_74 ?_
              refine v_isub X dX8_slip_75 ?_
              refine v_put X (fun _ h => List.mem_cons_of_mem _ (List.mem_append_right _ h)) tyX8 tyX8_ok nmX8 0 rfl rfl 8 (by decide) rfl (List.mem_of_getElem? (i := 5) rfl) rfl rfl rfl (Nat.le_of_ble_eq_true rfl) dX8_slip_76 ?_
              dsimp only [List.set, wMod]
              refine v_iconst X dX8_slip_79 ?_
              refine v_istore_n X dX8_slip_80 3 rfl (by decide) rfl ?_
              dsimp only [List.set]
              have L81 : ∀ (nf : Nat) (f2 : Nat → Int) (aq : Int) (k2 : Int) (g1 : 0 ≤ k2 ∧ k2 ≤ 14) (g2 : aq = acN ac) (g3 : ∀ j : Nat, f2 j = if 14 * acN ac ≤ (j : Int) ∧ (j : Int) < 14 * acN ac + k2 then fc (j - (14 * acN ac).toNat) else shW fw ac j) (_ : (14 - k2).toNat < nf), V g x 0 0 (wMod g A (0) sq (aq) td lt ln cu tk sa ti ft fp le lf tr fl fm fi fc ff (f2) ftp fk fe fr) [some (.ref (A 0)), some (.int (iI h)), some (.int (iI m)), some (.int (iI k2))] 81 [] := by
                intro nf
                induction nf with
                | zero => intro f2 aq k2 g1 g2 g3 hmu; exact absurd hmu (Nat.not_lt_zero _)
                | succ nf ih81 =>
                  intro f2 aq k2 g1 g2 g3 hmu
                  refine v_iload_n X dX8_slip_81 rfl ?_
                  refine v_bipush X dX8_slip_82 (by decide) ?_
                  refine v_icmp_ge (tgt := 113) X dX8_slip_84 (by decide) (by omega) (by omega) (fun c8 => ?_) (fun c8 => ?_)
                  · skip
                    have e7 : k2 = 14 := by omega
                    have q8 := hfc 0
                    have q7 := hfc (4 + 3 * h.toNat)
                    have e9 : (2 + 3 * h + 2).toNat = 4 + 3 * h.toNat := by omega
                    have q6 := Int.emod_nonneg (sM fc h.toNat + m) (show fc 0 ≠ 0 by omega)
                    have q5 := Int.emod_lt_of_pos (sM fc h.toNat + m) (show 0 < fc 0 by omega)
                    have q4 : restI (fc (4 + 3 * h.toNat) + m) (fc 0) = (sM fc h.toNat + m) % fc 0 := if_neg (by omega)
                    refine v_aload_n X dX8_slip_113 rfl ?_
                    refine v_dup X dX8_slip_114 rfl ?_
                    refine v_get X (fun _ h => List.mem_cons_of_mem _ (List.mem_append_right _ h)) 0 rfl rfl 8 (by decide) rfl (List.mem_of_getElem? (i := 5) rfl) rfl dX8_slip_115 ?_
                    refine v_iconst X dX8_slip_118 ?_
                    refine v_iadd X dX8_slip_119 ?_
                    refine v_put X (fun _ h => List.mem_cons_of_mem _ (List.mem_append_right _ h)) tyX8 tyX8_ok nmX8 0 rfl rfl 8 (by decide) rfl (List.mem_of_getElem? (i := 5) rfl) rfl rfl rfl (Nat.le_of_ble_eq_true rfl) dX8_slip_120 ?_
                    dsimp only [List.set, wMod]
                    refine v_aload_n X dX8_slip_123 rfl ?_
                    refine v_get X (fun _ h => List.mem_cons_of_mem _ (List.mem_append_right _ h)) 0 rfl rfl 5 (by decide) rfl (List.mem_of_getElem? (i := 7) rfl) rfl dX8_slip_124 ?_
                    refine v_iconst X dX8_slip_127 ?_
                    refine v_iconst X dX8_slip_128 ?_
                    refine v_iload_n X dX8_slip_129 rfl ?_
                    refine v_imul X dX8_slip_130 ?_
                    refine v_iadd X dX8_slip_131 ?_
                    refine v_iconst X dX8_slip_132 ?_
                    refine v_iadd X dX8_slip_133 ?_
                    refine v_aload_n X dX8_slip_134 rfl ?_
                    refine v_iload_n X dX8_slip_135 rfl ?_
                    refine v_iconst X dX8_slip_136 ?_
                    refine res_E X (run_V X (c_X8_of (g := g) (by first | assumption | omega) (by first | assumption | omega) (by first | assumption | omega)) gX8_slip_X8_of rfl hdX8_of ⟨(Nat.le_of_ble_eq_true rfl), (Nat.le_of_ble_eq_true rfl)⟩ ⟨(Nat.le_of_ble_eq_true rfl), (Nat.le_of_ble_eq_true rfl)⟩ 0 rfl rfl rfl [0, 1, 2, 3, 4, 5, 6, 7, 8, 9, 10] rfl rfl rfl rfl (by simp [Value.category]) dX8_slip_137) [0, 1, 2, 3, 4, 5, 6, 7, 8, 9, 10] rfl rfl ?_
                    rw [e9]
                    refine v_iload_n X dX8_slip_140 rfl ?_
                    refine v_iadd X dX8_slip_141 ?_
                    refine v_aload_n X dX8_slip_142 rfl ?_
                    refine v_get X (fun _ h => List.mem_cons_of_mem _ (List.mem_append_right _ h)) 0 rfl rfl 5 (by decide) rfl (List.mem_of_getElem? (i := 7) rfl) rfl dX8_slip_143 ?_
                    refine v_iconst X dX8_slip_146 ?_
                    refine v_iald X 4 rfl (by omega) (by omega) (by omega) dX8_slip_147 hfc (fun z0 ez0 lz0 uz0 => ?_)
                    rw [show z0 = fc 0 from ez0]
                    refine res_E X (run_S X (c_X8_rest (g := g) (by first | assumption | omega) (by first | assumption | omega) (by first | assumption | omega)) gX8_slip_X8_rest rfl hdX8_rest.2 ⟨(Nat.le_of_ble_eq_true rfl), (Nat.le_of_ble_eq_true rfl)⟩ ⟨(Nat.le_of_ble_eq_true rfl), (Nat.le_of_ble_eq_true rfl)⟩ [] rfl rfl rfl rfl (by simp [Value.category]) dX8_slip_148) [] rfl rfl ?_
                    rw [q4]
                    refine v_iast X 4 rfl (by omega) (by omega) (by omega) dX8_slip_151 ?_
                    dsimp only [List.set, wMod]
                    refine v_aload_n X dX8_slip_152 rfl ?_
                    refine v_iload_n X dX8_slip_153 rfl ?_
                    refine v_iconst X dX8_slip_154 ?_
                    refine res_E X (run_V X (c_X8_of (g := g) (by exact Bd_up hfc (by omega) (by omega)) (by first | assumption | omega) (by first | assumption | omega)) gX8_slip_X8_of rfl hdX8_of ⟨(Nat.le_of_ble_eq_true rfl), (Nat.le_of_ble_eq_true rfl)⟩ ⟨(Nat.le_of_ble_eq_true rfl), (Nat.le_of_ble_eq_true rfl)⟩ 0 rfl rfl rfl [0, 1, 2, 3, 4, 5, 6, 7, 8, 9, 10] rfl rfl rfl rfl (by simp [Value.category]) dX8_slip_155) [0, 1, 2, 3, 4, 5, 6, 7, 8, 9, 10] rfl rfl ?_
                    rw [show updI fc (2 + 3 * h + 2).toNat ((sM fc h.toNat + m) % fc 0) (2 + 3 * h + 2).toNat = (sM fc h.toNat + m) % fc 0 from updI_s _ _ _]
                    refine v_iret X Y dX8_slip_158 (u := (updI fc (4 + 3 * h.toNat) ((sM fc h.toNat + m) % fc 0), kpW fc fw ac, acN ac + 1)) ?_ (by rw [e9, g2, show f2 = kpW fc fw ac from funext (fun j => by rw [g3 j, e7]; rfl)])
                    exact Or.inr ⟨g0, rfl, rfl⟩
                  · skip
                    have q9 : 0 ≤ acN ac ∧ acN ac ≤ 23 := by unfold acN; split <;> omega
                    refine v_aload_n X dX8_slip_87 rfl ?_
                    refine v_get X (fun _ h => List.mem_cons_of_mem _ (List.mem_append_right _ h)) 0 rfl rfl 7 (by decide) rfl (List.mem_of_getElem? (i := 6) rfl) rfl dX8_slip_88 ?_
                    refine v_bipush X dX8_slip_91 (by decide) ?_
                    refine v_aload_n X dX8_slip_93 rfl ?_
                    refine v_get X (fun _ h => List.mem_cons_of_mem _ (List.mem_append_right _ h)) 0 rfl rfl 8 (by decide) rfl (List.mem_of_getElem? (i := 5) rfl) rfl dX8_slip_94 ?_
                    refine v_imul X dX8_slip_97 ?_
                    refine v_iload_n X dX8_slip_98 rfl ?_
                    refine v_iadd X dX8_slip_99 ?_
                    refine v_aload_n X dX8_slip_100 rfl ?_
                    refine v_get X (fun _ h => List.mem_cons_of_mem _ (List.mem_append_right _ h)) 0 rfl rfl 5 (by decide) rfl (List.mem_of_getElem? (i := 7) rfl) rfl dX8_slip_101 ?_
                    refine v_iload_n X dX8_slip_104 rfl ?_
                    refine v_iald X 4 rfl (by omega) (by omega) (by omega) dX8_slip_105 hfc (fun zy ezy lzy uzy => ?_)
                    refine v_iast X 6 rfl (by omega) (by omega) (by omega) dX8_slip_106 ?_
                    dsimp only [List.set, wMod]
                    refine v_iinc X dX8_slip_107 rfl (by decide) rfl ?_
                    dsimp only [List.set]
                    refine v_goto (tgt := 81) X dX8_slip_110 (by decide) ?_
                    exact ih81 _ _ _ (by omega) (by assumption) (by
                        intro j
                        have q := g3 j
                        have q9 : 0 ≤ acN ac ∧ acN ac ≤ 23 := by unfold acN; split <;> omega
                        rw [updI_e]
                        by_cases e : j = (14 * aq + k2).toNat
                        · rw [if_pos e, if_pos (by omega), ezy]; congr 1; omega
                        · rw [if_neg e, q]
                          by_cases e2 : 14 * acN ac ≤ (j : Int) ∧ (j : Int) < 14 * acN ac + k2
                          · rw [if_pos e2, if_pos (by omega)]
                          · rw [if_neg e2, if_neg (by omega)]) (by omega)
              exact L81 _ _ _ _ (by omega) (by unfold acN; split <;> omega) (by
                  first
                  | (intro j; rw [if_neg (by omega)]; unfold shW; rw [if_pos (by omega)])
                  | (intro j; rw [if_neg (by omega)]; exact shW_of (by omega) (by omega) h2 j)) (Nat.lt_succ_self _)
            · skip
              refine v_aload_n X dX8_slip_48 rfl ?_
              refine v_get X (fun _ h => List.mem_cons_of_mem _ (List.mem_append_right _ h)) 0 rfl rfl 7 (by decide) rfl (List.mem_of_getElem? (i := 6) rfl) rfl dX8_slip_49 ?_
              refine v_iload_n X dX8_slip_52 rfl ?_
              refine v_aload_n X dX8_slip_53 rfl ?_
              refine v_get X (fun _ h => List.mem_cons_of_mem _ (List.mem_append_right _ h)) 0 rfl rfl 7 (by decide) rfl (List.mem_of_getElem? (i := 6) rfl) rfl dX8_slip_54 ?_
              refine v_iload_n X dX8_slip_57 rfl ?_
              refine v_bipush X dX8_slip_58 (by decide) ?_
              refine v_iadd X dX8_slip_60 ?_
              refine v_iald X 6 rfl (by omega) (by omega) (by omega) dX8_slip_61 h3 (fun zz ezz lzz uzz => ?_)
              refine v_iast X 6 rfl (by omega) (by omega) (by omega) dX8_slip_62 ?_
              dsimp only [List.set, wMod]
              refine v_iinc X dX8_slip_63 rfl (by decide) rfl ?_
              dsimp only [List.set]
              refine v_goto (tgt := 41) X dX8_slip_66 (by decide) ?_
              exact ih41 _ _ (by omega) (by
                  intro j
                  have q := h2 j
                  have q2 := h2 (k + 14).toNat
                  rw [if_neg (by omega)] at q2
                  rw [updI_e]
                  by_cases e : j = k.toNat
                  · rw [if_pos e, if_pos (by omega), ezz, q2]; congr 1; omega
                  · rw [if_neg e, q]
                    by_cases e2 : (j : Int) < k
                    · rw [if_pos e2, if_pos (by omega)]
                    · rw [if_neg e2, if_neg (by omega)]) (by exact Bd_up h3 (by omega) (by omega)) (by omega)
        exact L41 _ _ _ (by omega) (by intro j; rw [if_neg (by omega)]) (by assumption) (Nat.lt_succ_self _)
    · skip
      refine v_ldc X (List.mem_of_getElem? (i := 4) rfl) dX8_slip_27 (n := -1000001) (by decide) ?_
      refine v_iret X Y dX8_slip_29 (u := (fc, fw, ac)) ?_ (by rfl)
      exact Or.inl ⟨by omega, rfl, rfl⟩

theorem hdX8_undo : yX8_undo.cls = RX8 ∧ yX8_undo.cls ≠ "java/lang/invoke/MethodHandle" ∧ yX8_undo.cls ≠ "java/lang/invoke/VarHandle" ∧ (parseMethodDescriptor yX8_undo.desc).map (fun d => d.parameters.length) = some 0 := ⟨rfl, by decide +kernel, by decide +kernel, by decide +kernel⟩
set_option maxHeartbeats 4000000 in
set_option maxRecDepth 100000 in
theorem c_X8_undo {g : Gx} {A : Nat → Nat} {th sq ac td lt ln cu tk sa ti ft fp le lf tr : Int} {fl fm fi fc ff fw ftp fk fe fr : Nat → Int}  (hfc : Bd 0 60 fc) (hfw : Bd 0 60 fw) (hac : 0 ≤ ac ∧ ac ≤ 24) : CtE g yX8_undo wsX8_undo 0 0 [.ref (A 0)] (wMod g A th sq ac td lt ln cu tk sa ti ft fp le lf tr fl fm fi fc ff fw ftp fk fe fr) (if ac = 0 then -1000002 else ac - 1) (wMod g A (0) sq (if ac = 0 then ac else ac - 1) td lt ln cu tk sa ti ft fp le lf tr fl fm fi (if ac = 0 then fc else unC fc fw ac) ff fw ftp fk fe fr) := by
  refine m_go (cc := cX8_undo) (nL := 2) (by decide +kernel) rfl (Nat.le_of_ble_eq_true rfl) (fun x X Y hnm => ?_)
  refine v_eq (lo2 := [some (.ref (A 0)), none]) rfl rfl rfl rfl ?_
  refine v_aload_n X dX8_undo_0 rfl ?_
  refine v_iconst X dX8_undo_1 ?_
  refine v_put X (fun _ h => List.mem_cons_of_mem _ (List.mem_append_right _ h)) tyX8 tyX8_ok nmX8 0 rfl rfl 0 (by decide) rfl (List.mem_of_getElem? (i := 1) rfl) rfl rfl rfl (Nat.le_of_ble_eq_true rfl) dX8_undo_2 ?_
  dsimp only [List.set, wMod]
  refine v_aload_n X dX8_undo_5 rfl ?_
  refine v_get X (fun _ h => List.mem_cons_of_mem _ (List.mem_append_right _ h)) 0 rfl rfl 8 (by decide) rfl (List.mem_of_getElem? (i := 2) rfl) rfl dX8_undo_6 ?_
  refine v_if_ne (tgt := 15) X dX8_undo_9 (by decide) (by omega) (fun c1 => ?_) (fun c1 => ?_)
  · skip
    refine v_aload_n X dX8_undo_15 rfl ?_
    refine v_dup X dX8_undo_16 rfl ?_
    refine v_get X (fun _ h => List.mem_cons_of_mem _ (List.mem_append_right _ h)) 0 rfl rfl 8 (by decide) rfl (List.mem_of_getElem? (i := 2) rfl) rfl dX8_undo_17 ?_
    refine v_iconst X dX8_undo_20 ?_
    refine v_isub X dX8_undo_21 ?_
    refine v_put X (fun _ h => List.mem_cons_of_mem _ (List.mem_append_right _ h)) tyX8 tyX8_ok nmX8 0 rfl rfl 8 (by decide) rfl (List.mem_of_getElem? (i := 2) rfl) rfl rfl rfl (Nat.le_of_ble_eq_true rfl) dX8_undo_22 ?_
    dsimp only [List.set, wMod]
    refine v_iconst X dX8_undo_25 ?_
    refine v_istore_n X dX8_undo_26 1 rfl (by decide) rfl ?_
    dsimp only [List.set]
    have L27 : ∀ (nf : Nat) (f : Nat → Int) (k : Int) (h1 : 0 ≤ k ∧ k ≤ 14) (h2 : ∀ j : Nat, f j = if (j : Int) < k then fw ((14 * (ac - 1)).toNat + j) else fc j) (_ : (14 - k).toNat < nf), V g x 0 0 (wMod g A (0) sq (ac - 1) td lt ln cu tk sa ti ft fp le lf tr fl fm fi (f) ff fw ftp fk fe fr) [some (.ref (A 0)), some (.int (iI k))] 27 [] := by
      intro nf
      induction nf with
      | zero => intro f k h1 h2 hmu; exact absurd hmu (Nat.not_lt_zero _)
      | succ nf ih27 =>
        intro f k h1 h2 hmu
        refine v_iload_n X dX8_undo_27 rfl ?_
        refine v_bipush X dX8_undo_28 (by decide) ?_
        refine v_icmp_ge (tgt := 59) X dX8_undo_30 (by decide) (by omega) (by omega) (fun c2 => ?_) (fun c2 => ?_)
        · skip
          refine v_aload_n X dX8_undo_59 rfl ?_
          refine v_get X (fun _ h => List.mem_cons_of_mem _ (List.mem_append_right _ h)) 0 rfl rfl 8 (by decide) rfl (List.mem_of_getElem? (i := 2) rfl) rfl dX8_undo_60 ?_
          exact v_iret X Y dX8_undo_63 (u := ()) (by rw [if_neg (by omega)]) (by
              have e : k = 14 := by omega
              rw [if_neg (by omega), if_neg (by omega), show f = unC fc fw ac from funext (fun j => unC_of (e ▸ h2 j))])
        · skip
          refine v_aload_n X dX8_undo_33 rfl ?_
          refine v_get X (fun _ h => List.mem_cons_of_mem _ (List.mem_append_right _ h)) 0 rfl rfl 5 (by decide) rfl (List.mem_of_getElem? (i := 4) rfl) rfl dX8_undo_34 ?_
          refine v_iload_n X dX8_undo_37 rfl ?_
          refine v_aload_n X dX8_undo_38 rfl ?_
          refine v_get X (fun _ h => List.mem_cons_of_mem _ (List.mem_append_right _ h)) 0 rfl rfl 7 (by decide) rfl (List.mem_of_getElem? (i := 5) rfl) rfl dX8_undo_39 ?_
          refine v_bipush X dX8_undo_42 (by decide) ?_
          refine v_aload_n X dX8_undo_44 rfl ?_
          refine v_get X (fun _ h => List.mem_cons_of_mem _ (List.mem_append_right _ h)) 0 rfl rfl 8 (by decide) rfl (List.mem_of_getElem? (i := 2) rfl) rfl dX8_undo_45 ?_
          refine v_imul X dX8_undo_48 ?_
          refine v_iload_n X dX8_undo_49 rfl ?_
          refine v_iadd X dX8_undo_50 ?_
          refine v_iald X 6 rfl (by omega) (by omega) (by omega) dX8_undo_51 hfw (fun zz ezz lzz uzz => ?_)
          refine v_iast X 4 rfl (by omega) (by omega) (by omega) dX8_undo_52 ?_
          dsimp only [List.set, wMod]
          refine v_iinc X dX8_undo_53 rfl (by decide) rfl ?_
          dsimp only [List.set]
          refine v_goto (tgt := 27) X dX8_undo_56 (by decide) ?_
          exact ih27 _ _ (by omega) (by
              intro j
              have q := h2 j
              rw [updI_e]
              by_cases e : j = k.toNat
              · rw [if_pos e, if_pos (by omega), ezz]; congr 1; omega
              · rw [if_neg e, q]
                by_cases e2 : (j : Int) < k
                · rw [if_pos e2, if_pos (by omega)]
                · rw [if_neg e2, if_neg (by omega)]) (by omega)
    exact L27 _ _ _ (by omega) (by intro j; rw [if_neg (by omega)]) (Nat.lt_succ_self _)
  · skip
    refine v_ldc X (List.mem_of_getElem? (i := 3) rfl) dX8_undo_12 (n := -1000002) (by decide) ?_
    exact v_iret X Y dX8_undo_14 (u := ()) (by rw [if_pos (by assumption)]) (by rw [if_pos (by assumption), if_pos (by assumption)])

theorem hdX8_lacks : yX8_lacks.cls = RX8 ∧ yX8_lacks.cls ≠ "java/lang/invoke/MethodHandle" ∧ yX8_lacks.cls ≠ "java/lang/invoke/VarHandle" ∧ (parseMethodDescriptor yX8_lacks.desc).map (fun d => d.parameters.length) = some 3 := ⟨rfl, by decide +kernel, by decide +kernel, by decide +kernel⟩
set_option maxHeartbeats 4000000 in
set_option maxRecDepth 100000 in
theorem c_X8_lacks {g : Gx} {A : Nat → Nat} {th sq ac td lt ln cu tk sa ti ft fp le lf tr : Int} {fl fm fi fc ff fw ftp fk fe fr : Nat → Int} {r i n : Int} (hfl : Bd (-1) 2 fl) (hfm : Bd 0 40 fm) (hr : 0 ≤ r ∧ r < 8) (hi : R32 i) (hn : R32 n) : CtE g yX8_lacks wsX8_lacks 0 0 [.ref (A 0), .int (iI r), .int (iI i), .int (iI n)] (wMod g A th sq ac td lt ln cu tk sa ti ft fp le lf tr fl fm fi fc ff fw ftp fk fe fr) (if fl r.toNat < 0 then 1 else if i < 0 ∨ fm r.toNat < i + n then 2 else 0) (wMod g A th sq ac td lt ln cu tk sa ti ft fp le lf tr fl fm fi fc ff fw ftp fk fe fr) := by
  refine m_go (cc := cX8_lacks) (nL := 4) (by decide +kernel) rfl (Nat.le_of_ble_eq_true rfl) (fun x X Y hnm => ?_)
  refine v_eq (lo2 := [some (.ref (A 0)), some (.int (iI r)), some (.int (iI i)), some (.int (iI n))]) rfl rfl rfl rfl ?_
  refine v_aload_n X dX8_lacks_0 rfl ?_
  refine v_get X (fun _ h => List.mem_cons_of_mem _ (List.mem_append_right _ h)) 0 rfl rfl 2 (by decide) rfl (List.mem_of_getElem? (i := 1) rfl) rfl dX8_lacks_1 ?_
  refine v_iload_n X dX8_lacks_4 rfl ?_
  refine v_iald X 1 rfl (by omega) (by omega) (by omega) dX8_lacks_5 hfl (fun z1 ez1 lz1 uz1 => ?_)
  refine v_if_ge (tgt := 13) X dX8_lacks_6 (by decide) (by omega) (fun c2 => ?_) (fun c2 => ?_)
  · skip
    refine v_iload_n X dX8_lacks_13 rfl ?_
    refine v_if_lt (tgt := 33) X dX8_lacks_14 (by decide) (by omega) (fun c3 => ?_) (fun c3 => ?_)
    · skip
      refine v_iconst X dX8_lacks_33 ?_
      refine v_goto (tgt := 38) X dX8_lacks_34 (by decide) ?_
      exact v_iret X Y dX8_lacks_38 (u := ()) (by (repeat split) <;> first | rfl | omega) (by rfl)
    · skip
      refine v_iload_n X dX8_lacks_17 rfl ?_
      refine v_i2l X dX8_lacks_18 (by omega) ?_
      refine v_iload_n X dX8_lacks_19 rfl ?_
      refine v_i2l X dX8_lacks_20 (by omega) ?_
      refine v_ladd X dX8_lacks_21 ?_
      refine v_aload_n X dX8_lacks_22 rfl ?_
      refine v_get X (fun _ h => List.mem_cons_of_mem _ (List.mem_append_right _ h)) 0 rfl rfl 3 (by decide) rfl (List.mem_of_getElem? (i := 2) rfl) rfl dX8_lacks_23 ?_
      refine v_iload_n X dX8_lacks_26 rfl ?_
      refine v_iald X 2 rfl (by omega) (by omega) (by omega) dX8_lacks_27 hfm (fun z4 ez4 lz4 uz4 => ?_)
      refine v_i2l X dX8_lacks_28 (by omega) ?_
      refine v_lcmp X dX8_lacks_29 (by omega) (by omega) (fun c5 => ?_) (fun c5 => ?_) (fun c5 => ?_)
      · skip
        refine v_if_le (tgt := 37) X dX8_lacks_30 (by decide) (by decide) (fun hh => ?_) (fun hh => ?_)
        · skip
          exfalso; omega
        · skip
          refine v_iconst X dX8_lacks_33 ?_
          refine v_goto (tgt := 38) X dX8_lacks_34 (by decide) ?_
          exact v_iret X Y dX8_lacks_38 (u := ()) (by (repeat split) <;> first | rfl | omega) (by rfl)
      · skip
        refine v_if_le (tgt := 37) X dX8_lacks_30 (by decide) (by decide) (fun hh => ?_) (fun hh => ?_)
        · skip
          refine v_iconst X dX8_lacks_37 ?_
          exact v_iret X Y dX8_lacks_38 (u := ()) (by (repeat split) <;> first | rfl | omega) (by rfl)
        · skip
          exfalso; omega
      · skip
        refine v_if_le (tgt := 37) X dX8_lacks_30 (by decide) (by decide) (fun hh => ?_) (fun hh => ?_)
        · skip
          refine v_iconst X dX8_lacks_37 ?_
          exact v_iret X Y dX8_lacks_38 (u := ()) (by (repeat split) <;> first | rfl | omega) (by rfl)
        · skip
          exfalso; omega
  · skip
    refine v_iconst X dX8_lacks_9 ?_
    refine v_goto (tgt := 38) X dX8_lacks_10 (by decide) ?_
    exact v_iret X Y dX8_lacks_38 (u := ()) (by (repeat split) <;> first | rfl | omega) (by rfl)

theorem hdX8_areArcs : yX8_areArcs.cls = RX8 ∧ yX8_areArcs.cls ≠ "java/lang/invoke/MethodHandle" ∧ yX8_areArcs.cls ≠ "java/lang/invoke/VarHandle" ∧ (parseMethodDescriptor yX8_areArcs.desc).map (fun d => d.parameters.length) = some 3 := ⟨rfl, by decide +kernel, by decide +kernel, by decide +kernel⟩
set_option maxHeartbeats 4000000 in
set_option maxRecDepth 100000 in
theorem c_X8_areArcs {g : Gx} {A : Nat → Nat} {th sq ac td lt ln cu tk sa ti ft fp le lf tr : Int} {fl fm fi fc ff fw ftp fk fe fr : Nat → Int} {fo n pa : Int} (hfi : Bd (-2147483648) 2147483647 fi) (hf : 0 ≤ fo) (hn : R32 n ∧ fo + n ≤ 320) (hp : 1 ≤ pa ∧ pa ≤ 720) : CtE g yX8_areArcs wsX8_areArcs 1 25 [.ref (A 0), .int (iI fo), .int (iI n), .int (iI pa)] (wMod g A th sq ac td lt ln cu tk sa ti ft fp le lf tr fl fm fi fc ff fw ftp fk fe fr) (pI (∀ k : Int, 0 ≤ k → k < n → 0 ≤ fi (fo + k).toNat ∧ fi (fo + k).toNat < pa)) (wMod g A th sq ac td lt ln cu tk sa ti ft fp le lf tr fl fm fi fc ff fw ftp fk fe fr) := by
  refine m_go (cc := cX8_areArcs) (nL := 6) (by decide +kernel) rfl (Nat.le_of_ble_eq_true rfl) (fun x X Y hnm => ?_)
  refine v_eq (lo2 := [some (.ref (A 0)), some (.int (iI fo)), some (.int (iI n)), some (.int (iI pa)), none, none]) rfl rfl rfl rfl ?_
  refine v_iconst X dX8_areArcs_0 ?_
  refine v_istore X dX8_areArcs_1 (by decide) rfl ?_
  dsimp only [List.set]
  refine v_iconst X dX8_areArcs_3 ?_
  refine v_istore X dX8_areArcs_4 (by decide) rfl ?_
  dsimp only [List.set]
  have L6 : ∀ (nf : Nat) (u : Int) (k : Int) (h1 : 0 ≤ k ∧ (k ≤ n ∨ k = 0)) (h2 : (u = 1 ∧ ∀ q : Int, 0 ≤ q → q < k → 0 ≤ fi (fo + q).toNat ∧ fi (fo + q).toNat < pa) ∨ (u = 0 ∧ ∃ q : Int, 0 ≤ q ∧ q < k ∧ ¬ (0 ≤ fi (fo + q).toNat ∧ fi (fo + q).toNat < pa))) (_ : (n - k).toNat < nf), V g x 0 0 (wMod g A th sq ac td lt ln cu tk sa ti ft fp le lf tr fl fm fi fc ff fw ftp fk fe fr) [some (.ref (A 0)), some (.int (iI fo)), some (.int (iI n)), some (.int (iI pa)), some (.int (iI u)), some (.int (iI k))] 6 [] := by
    intro nf
    induction nf with
    | zero => intro u k h1 h2 hmu; exact absurd hmu (Nat.not_lt_zero _)
    | succ nf ih6 =>
      intro u k h1 h2 hmu
      refine v_iload X dX8_areArcs_6 rfl ?_
      refine v_iload_n X dX8_areArcs_8 rfl ?_
      refine v_icmp_ge (tgt := 51) X dX8_areArcs_9 (by decide) (by omega) (by omega) (fun c1 => ?_) (fun c1 => ?_)
      · skip
        refine v_iload X dX8_areArcs_51 rfl ?_
        exact v_zret X Y dX8_areArcs_53 (by first | decide | omega | (split <;> omega)) (u := ()) (by
            rcases h2 with h2 | h2
            · rw [h2.1]; exact (pI_1 (fun q g1 g2 => h2.2 q g1 (by omega))).symm
            · obtain ⟨e0, q, g1, g2, g3⟩ := h2
              rw [e0]; exact (pI_0 (fun z => g3 (z q g1 (by omega)))).symm) (by rfl)
      · skip
        refine v_iload X dX8_areArcs_12 rfl ?_
        refine v_if_eq (tgt := 42) X dX8_areArcs_14 (by decide) (by omega) (fun c2 => ?_) (fun c2 => ?_)
        · skip
          refine v_iconst X dX8_areArcs_42 ?_
          refine v_istore X dX8_areArcs_43 (by decide) rfl ?_
          dsimp only [List.set]
          refine v_iinc X dX8_areArcs_45 rfl (by decide) rfl ?_
          dsimp only [List.set]
          refine v_goto (tgt := 6) X dX8_areArcs_48 (by decide) ?_
          exact ih6 _ _ (by omega) (by
              rcases h2 with h2 | h2
              · first
                | exact Or.inl ⟨rfl, fun q g1 g2 => by
                    by_cases e : q = k
                    · subst e; omega
                    · exact h2.2 q g1 (by omega)⟩
                | exact Or.inr ⟨rfl, k, h1.1, by omega, by omega⟩
                | (exfalso; omega)
              · obtain ⟨e0, q, g1, g2, g3⟩ := h2
                first
                | exact Or.inr ⟨rfl, q, g1, by omega, g3⟩
                | (exfalso; omega)) (by omega)
        · skip
          refine v_aload_n X dX8_areArcs_17 rfl ?_
          refine v_get X (fun _ h => List.mem_cons_of_mem _ (List.mem_append_right _ h)) 0 rfl rfl 4 (by decide) rfl (List.mem_of_getElem? (i := 1) rfl) rfl dX8_areArcs_18 ?_
          refine v_iload_n X dX8_areArcs_21 rfl ?_
          refine v_iload X dX8_areArcs_22 rfl ?_
          refine v_iadd X dX8_areArcs_24 ?_
          refine v_iald X 3 rfl (by omega) (by omega) (by omega) dX8_areArcs_25 hfi (fun z3 ez3 lz3 uz3 => ?_)
          refine v_i2l X dX8_areArcs_26 (by omega) ?_
          refine v_lconst0 X dX8_areArcs_27 ?_
          refine v_iload_n X dX8_areArcs_28 rfl ?_
          refine v_iconst X dX8_areArcs_29 ?_
          refine v_isub X dX8_areArcs_30 ?_
          refine v_i2l X dX8_areArcs_31 (by omega) ?_
          refine res_E X (run_S X (c_X8_in (g := g) (by first | assumption | omega) (by first | assumption | omega) (by first | assumption | omega)) gX8_areArcs_X8_in rfl hdX8_in.2 ⟨(Nat.le_of_ble_eq_true rfl), (Nat.le_of_ble_eq_true rfl)⟩ ⟨(Nat.le_of_ble_eq_true rfl), (Nat.le_of_ble_eq_true rfl)⟩ [] rfl rfl rfl rfl (by simp [Value.category]) dX8_areArcs_32) [] rfl rfl ?_
          refine v_ifb_eq (tgt := 42) X dX8_areArcs_35 (by decide) (fun c4 => ?_) (fun c4 => ?_)
          · skip
            refine v_iconst X dX8_areArcs_42 ?_
            refine v_istore X dX8_areArcs_43 (by decide) rfl ?_
            dsimp only [List.set]
            refine v_iinc X dX8_areArcs_45 rfl (by decide) rfl ?_
            dsimp only [List.set]
            refine v_goto (tgt := 6) X dX8_areArcs_48 (by decide) ?_
            exact ih6 _ _ (by omega) (by
                rcases h2 with h2 | h2
                · first
                  | exact Or.inl ⟨rfl, fun q g1 g2 => by
                      by_cases e : q = k
                      · subst e; omega
                      · exact h2.2 q g1 (by omega)⟩
                  | exact Or.inr ⟨rfl, k, h1.1, by omega, by omega⟩
                  | (exfalso; omega)
                · obtain ⟨e0, q, g1, g2, g3⟩ := h2
                  first
                  | exact Or.inr ⟨rfl, q, g1, by omega, g3⟩
                  | (exfalso; omega)) (by omega)
          · skip
            refine v_iconst X dX8_areArcs_38 ?_
            refine v_goto (tgt := 43) X dX8_areArcs_39 (by decide) ?_
            refine v_istore X dX8_areArcs_43 (by decide) rfl ?_
            dsimp only [List.set]
            refine v_iinc X dX8_areArcs_45 rfl (by decide) rfl ?_
            dsimp only [List.set]
            refine v_goto (tgt := 6) X dX8_areArcs_48 (by decide) ?_
            exact ih6 _ _ (by omega) (by
                rcases h2 with h2 | h2
                · first
                  | exact Or.inl ⟨rfl, fun q g1 g2 => by
                      by_cases e : q = k
                      · subst e; omega
                      · exact h2.2 q g1 (by omega)⟩
                  | exact Or.inr ⟨rfl, k, h1.1, by omega, by omega⟩
                  | (exfalso; omega)
                · obtain ⟨e0, q, g1, g2, g3⟩ := h2
                  first
                  | exact Or.inr ⟨rfl, q, g1, by omega, g3⟩
                  | (exfalso; omega)) (by omega)
  exact L6 _ _ _ (by omega) (by exact Or.inl ⟨rfl, fun q g1 g2 => by exfalso; omega⟩) (Nat.lt_succ_self _)

theorem hdX8_isTrue : yX8_isTrue.cls = RX8 ∧ yX8_isTrue.cls ≠ "java/lang/invoke/MethodHandle" ∧ yX8_isTrue.cls ≠ "java/lang/invoke/VarHandle" ∧ (parseMethodDescriptor yX8_isTrue.desc).map (fun d => d.parameters.length) = some 3 := ⟨rfl, by decide +kernel, by decide +kernel, by decide +kernel⟩
set_option maxHeartbeats 4000000 in
set_option maxRecDepth 100000 in
theorem c_X8_isTrue {g : Gx} {A : Nat → Nat} {th sq ac td lt ln cu tk sa ti ft fp le lf tr : Int} {fl fm fi fc ff fw ftp fk fe fr : Nat → Int} {fo pa bu : Int} (hfc : Bd 0 60 fc) (hc1 : 0 ≤ fc 1 ∧ fc 1 ≤ 4) (ht3 : Bd 0 12 (tM fc)) (hfi : Bd (-2147483648) 2147483647 fi) (hf : 0 ≤ fo ∧ fo + fc 1 ≤ 320) (hp : 1 ≤ pa ∧ pa ≤ 720) (hb : R32 bu) (h1c : 1 ≤ fc 1) (hai : ∀ h : Int, 0 ≤ h → h < fc 1 → 0 ≤ fi (fo + h).toNat ∧ fi (fo + h).toNat < pa) : CtI (S := Int × Int) g yX8_isTrue wsX8_isTrue 2 43 [.ref (A 0), .int (iI fo), .int (iI pa), .int (iI bu)] (wMod g A th sq ac td lt ln cu tk sa ti ft fp le lf tr fl fm fi fc ff fw ftp fk fe fr) (fun v u => v = pI (mFitW fc fi fo pa bu) ∧ u.1 = mLs fc fi fo pa bu ∧ (v = 1 → u.2 = mLo fc pa bu)) (fun u => wMod g A th sq ac td lt ln cu tk sa ti ft fp (u.1) (u.2) tr fl fm fi fc ff fw ftp fk fe fr) := by
  refine m_go (cc := cX8_isTrue) (nL := 14) (by decide +kernel) rfl (Nat.le_of_ble_eq_true rfl) (fun x X Y hnm => ?_)
  refine v_eq (lo2 := [some (.ref (A 0)), some (.int (iI fo)), some (.int (iI pa)), some (.int (iI bu)), none, none, none, none, none, none, none, none, none, none]) rfl rfl rfl rfl ?_
  have b0 := basI_bd bu
  have s0 := spdM_bd (fc := fc) (h := basI bu) ht3
  have t0 := absI_bd s0
  have w0 := mul_nn (show 0 ≤ pa ∧ pa ≤ 720 by omega) t0
  have wb : 0 ≤ mWh fc pa bu ∧ mWh fc pa bu ≤ 17280 := w0
  have ftu : absI (spdM fc (basI bu)) = mTu fc bu := rfl
  have fw2 : pa * mTu fc bu = mWh fc pa bu := rfl
  have J11 : V g x 0 0 (wMod g A th sq ac td lt ln cu tk sa ti ft fp le lf tr fl fm fi fc ff fw ftp fk fe fr) [some (.ref (A 0)), some (.int (iI fo)), some (.int (iI pa)), some (.int (iI bu)), some (.int (iI (basI bu))), none, none, none, none, none, none, none, none, none] 11 [] := by
    refine v_aload_n X dX8_isTrue_11 rfl ?_
    refine v_ldc X (List.mem_of_getElem? (i := 1) rfl) dX8_isTrue_12 (n := -1000000) (by decide) ?_
    refine v_put X (fun _ h => List.mem_cons_of_mem _ (List.mem_append_right _ h)) tyX8 tyX8_ok nmX8 0 rfl rfl 19 (by decide) rfl (List.mem_of_getElem? (i := 2) rfl) rfl rfl rfl (Nat.le_of_ble_eq_true rfl) dX8_isTrue_14 ?_
    dsimp only [List.set, wMod]
    refine v_aload_n X dX8_isTrue_17 rfl ?_
    refine v_iconst X dX8_isTrue_18 ?_
    refine v_put X (fun _ h => List.mem_cons_of_mem _ (List.mem_append_right _ h)) tyX8 tyX8_ok nmX8 0 rfl rfl 20 (by decide) rfl (List.mem_of_getElem? (i := 3) rfl) rfl rfl rfl (Nat.le_of_ble_eq_true rfl) dX8_isTrue_19 ?_
    dsimp only [List.set, wMod]
    refine v_iload X dX8_isTrue_22 rfl ?_
    refine v_aload_n X dX8_isTrue_24 rfl ?_
    refine v_get X (fun _ h => List.mem_cons_of_mem _ (List.mem_append_right _ h)) 0 rfl rfl 5 (by decide) rfl (List.mem_of_getElem? (i := 4) rfl) rfl dX8_isTrue_25 ?_
    refine v_iconst X dX8_isTrue_28 ?_
    refine v_iald X 4 rfl (by omega) (by omega) (by omega) dX8_isTrue_29 hfc (fun zq ezq lzq uzq => ?_)
    rw [show zq = fc 1 from ezq]
    refine v_icmp_ne (tgt := 40) X dX8_isTrue_30 (by decide) (by omega) (by omega) (fun c2 => ?_) (fun c2 => ?_)
    · skip
      refine v_aload_n X dX8_isTrue_40 rfl ?_
      refine v_iload X dX8_isTrue_41 rfl ?_
      refine res_E X (run_V X (c_X8_speed (g := g) (by first | assumption | omega) (by first | assumption | omega) (by first | assumption | omega)) gX8_isTrue_X8_speed rfl hdX8_speed ⟨(Nat.le_of_ble_eq_true rfl), (Nat.le_of_ble_eq_true rfl)⟩ ⟨(Nat.le_of_ble_eq_true rfl), (Nat.le_of_ble_eq_true rfl)⟩ 0 rfl rfl rfl [0, 1, 2, 3, 4, 5, 6, 7, 8, 9, 10] rfl rfl rfl rfl (by simp [Value.category]) dX8_isTrue_43) [0, 1, 2, 3, 4, 5, 6, 7, 8, 9, 10] rfl rfl ?_
      refine res_E X (run_S X (c_X8_size (g := g) (by first | assumption | omega)) gX8_isTrue_X8_size rfl hdX8_size.2 ⟨(Nat.le_of_ble_eq_true rfl), (Nat.le_of_ble_eq_true rfl)⟩ ⟨(Nat.le_of_ble_eq_true rfl), (Nat.le_of_ble_eq_true rfl)⟩ [] rfl rfl rfl rfl (by simp [Value.category]) dX8_isTrue_46) [] rfl rfl ?_
      rw [ftu]
      refine v_istore X dX8_isTrue_49 (by decide) rfl ?_
      dsimp only [List.set]
      refine v_iload_n X dX8_isTrue_51 rfl ?_
      refine v_iload X dX8_isTrue_52 rfl ?_
      refine v_imul X dX8_isTrue_54 ?_
      rw [fw2]
      refine v_istore X dX8_isTrue_55 (by decide) rfl ?_
      dsimp only [List.set]
      refine v_iconst X dX8_isTrue_57 ?_
      refine v_istore X dX8_isTrue_58 (by decide) rfl ?_
      dsimp only [List.set]
      refine v_iconst X dX8_isTrue_60 ?_
      refine v_istore X dX8_isTrue_61 (by decide) rfl ?_
      dsimp only [List.set]
      have L63 : ∀ (nf : Nat) (ls : Int) (lo2 : Int) (v : Int) (t : Int) (h1 : 0 ≤ t ∧ t ≤ mTu fc bu) (h2 : ls = lnN (fun t => pB (mFit fc fi fo pa bu t)) (fun t => mBy fc fi fo pa bu t) t.toNat) (h3 : mIV fc fi fo pa bu t v ls lo2) (_ : (mTu fc bu - t).toNat < nf), V g x 0 0 (wMod g A th sq ac td lt ln cu tk sa ti ft fp (ls) (lo2) tr fl fm fi fc ff fw ftp fk fe fr) [some (.ref (A 0)), some (.int (iI fo)), some (.int (iI pa)), some (.int (iI bu)), some (.int (iI (basI bu))), some (.int (iI (mTu fc bu))), some (.int (iI (mWh fc pa bu))), some (.int (iI v)), some (.int (iI t)), none, none, none, none, none] 63 [] := by
        intro nf
        induction nf with
        | zero => intro ls lo2 v t h1 h2 h3 hmu; exact absurd hmu (Nat.not_lt_zero _)
        | succ nf ih63 =>
          intro ls lo2 v t h1 h2 h3 hmu
          refine v_iload X dX8_isTrue_63 rfl ?_
          refine v_iload X dX8_isTrue_65 rfl ?_
          refine v_icmp_ge (tgt := 289) X dX8_isTrue_67 (by decide) (by omega) (by omega) (fun c3 => ?_) (fun c3 => ?_)
          · skip
            have hv := mIV_b h3
            refine v_iload X dX8_isTrue_289 rfl ?_
            refine v_zret X Y dX8_isTrue_291 (by first | decide | omega | (split <;> omega)) (u := (ls, lo2)) ?_ (by rfl)
            exact mIV_end h3 (by omega) (by omega) h2
          · skip
            have a1 : 0 ≤ mAr fi fo (basI bu) ∧ mAr fi fo (basI bu) < pa := hai _ (by omega) (by omega)
            have a2 := mul_nn (show 0 ≤ t ∧ t ≤ 24 by omega) (show 0 ≤ pa ∧ pa ≤ 720 by omega)
            have a3 : 0 ≤ mAt fi fo pa bu t ∧ mAt fi fo pa bu t ≤ 17999 := by unfold mAt; omega
            have a4 := mX_bd wb a3
            have a5 : 0 < mWh fc pa bu := Int.mul_pos (by omega) (by omega)
            refine v_aload_n X dX8_isTrue_70 rfl ?_
            refine v_get X (fun _ h => List.mem_cons_of_mem _ (List.mem_append_right _ h)) 0 rfl rfl 4 (by decide) rfl (List.mem_of_getElem? (i := 5) rfl) rfl dX8_isTrue_71 ?_
            refine v_iload_n X dX8_isTrue_74 rfl ?_
            refine v_iload X dX8_isTrue_75 rfl ?_
            refine v_iadd X dX8_isTrue_77 ?_
            refine v_iald X 3 rfl (by omega) (by omega) (by omega) dX8_isTrue_78 hfi (fun zb ezb lzb uzb => ?_)
            rw [show zb = mAr fi fo (basI bu) from ezb]
            refine v_iload X dX8_isTrue_79 rfl ?_
            refine v_iload_n X dX8_isTrue_81 rfl ?_
            refine v_imul X dX8_isTrue_82 ?_
            refine v_iadd X dX8_isTrue_83 ?_
            rw [show mAr fi fo (basI bu) + t * pa = mAt fi fo pa bu t from rfl]
            refine v_istore X dX8_isTrue_84 (by decide) rfl ?_
            dsimp only [List.set]
            refine v_aload_n X dX8_isTrue_86 rfl ?_
            refine v_iload X dX8_isTrue_87 rfl ?_
            refine res_E X (run_V X (c_X8_speed (g := g) (by first | assumption | omega) (by first | assumption | omega) (by first | assumption | omega)) gX8_isTrue_X8_speed rfl hdX8_speed ⟨(Nat.le_of_ble_eq_true rfl), (Nat.le_of_ble_eq_true rfl)⟩ ⟨(Nat.le_of_ble_eq_true rfl), (Nat.le_of_ble_eq_true rfl)⟩ 0 rfl rfl rfl [0, 1, 2, 3, 4, 5, 6, 7, 8, 9, 10] rfl rfl rfl rfl (by simp [Value.category]) dX8_isTrue_89) [0, 1, 2, 3, 4, 5, 6, 7, 8, 9, 10] rfl rfl ?_
            refine v_if_ge (tgt := 106) X dX8_isTrue_92 (by decide) (by omega) (fun c5 => ?_) (fun c5 => ?_)
            · skip
              refine v_iload X dX8_isTrue_106 rfl ?_
              refine v_istore X dX8_isTrue_108 (by decide) rfl ?_
              dsimp only [List.set]
              refine v_iconst X dX8_isTrue_110 ?_
              refine v_istore X dX8_isTrue_111 (by decide) rfl ?_
              dsimp only [List.set]
              refine v_iconst X dX8_isTrue_113 ?_
              refine v_istore X dX8_isTrue_114 (by decide) rfl ?_
              dsimp only [List.set]
              have L116 : ∀ (nf : Nat) (xx : Int) (u : Int) (h : Int) (hxx : xx = mX fc fi fo pa bu t) (k1 : 0 ≤ h ∧ h ≤ fc 1) (k2 : mIU fc fi fo pa bu t h u) (_ : (fc 1 - h).toNat < nf), V g x 0 0 (wMod g A th sq ac td lt ln cu tk sa ti ft fp (ls) (lo2) tr fl fm fi fc ff fw ftp fk fe fr) [some (.ref (A 0)), some (.int (iI fo)), some (.int (iI pa)), some (.int (iI bu)), some (.int (iI (basI bu))), some (.int (iI (mTu fc bu))), some (.int (iI (mWh fc pa bu))), some (.int (iI v)), some (.int (iI t)), some (.int (iI (mAt fi fo pa bu t))), some (.int (iI xx)), some (.int (iI u)), some (.int (iI h)), none] 116 [] := by
                intro nf
                induction nf with
                | zero => intro xx u h hxx k1 k2 hmu; exact absurd hmu (Nat.not_lt_zero _)
                | succ nf ih116 =>
                  intro xx u h hxx k1 k2 hmu
                  subst hxx
                  refine v_iload X dX8_isTrue_116 rfl ?_
                  refine v_aload_n X dX8_isTrue_118 rfl ?_
                  refine v_get X (fun _ h => List.mem_cons_of_mem _ (List.mem_append_right _ h)) 0 rfl rfl 5 (by decide) rfl (List.mem_of_getElem? (i := 4) rfl) rfl dX8_isTrue_119 ?_
                  refine v_iconst X dX8_isTrue_122 ?_
                  refine v_iald X 4 rfl (by omega) (by omega) (by omega) dX8_isTrue_123 hfc (fun zc ezc lzc uzc => ?_)
                  rw [show zc = fc 1 from ezc]
                  refine v_icmp_ge (tgt := 181) X dX8_isTrue_124 (by decide) (by omega) (by omega) (fun c7 => ?_) (fun c7 => ?_)
                  · skip
                    have f1 := mIU_end k2 (by assumption)
                    refine v_iload X dX8_isTrue_181 rfl ?_
                    refine v_if_eq (tgt := 283) X dX8_isTrue_183 (by decide) (by omega) (fun c8 => ?_) (fun c8 => ?_)
                    · skip
                      refine v_iinc X dX8_isTrue_283 rfl (by decide) rfl ?_
                      dsimp only [List.set]
                      refine v_goto (tgt := 63) X dX8_isTrue_286 (by decide) ?_
                      refine v_drop 9 ?_
                      dsimp only [List.set]
                      refine v_drop 10 ?_
                      dsimp only [List.set]
                      refine v_drop 11 ?_
                      dsimp only [List.set]
                      refine v_drop 12 ?_
                      dsimp only [List.set]
                      exact ih63 _ _ _ _ (by omega) (by
                          rw [lnN_s h1.1, ← h2]; simp only [show ((t.toNat : Nat) : Int) = t by omega]
                          rcases f1 with f1 | f1
                          · first
                            | (exfalso; omega)
                            | (rw [if_pos (pB_iff.mpr f1.2)]; first | (rw [if_pos (by omega)]; omega) | (rw [if_neg (by omega)]))
                          · first
                            | (exfalso; omega)
                            | rw [if_neg (fun z => f1.2 (pB_iff.mp z))]) (by
                          first
                          | (rcases f1 with f1 | f1
                             · first
                               | exact mIV_y h1.1 f1.2 (by omega)
                               | (exfalso; omega)
                             · first
                               | exact mIV_n h3 f1.2
                               | (exfalso; omega))) (by omega)
                    · skip
                      have hv := mIV_b h3
                      have l1 := spdM_bd (fc := fc) (h := fc 1 - 1) ht3
                      have l2 : 0 ≤ mAr fi fo (fc 1 - 1) ∧ mAr fi fo (fc 1 - 1) < pa := hai _ (by omega) (by omega)
                      have l3 := mul_bd l1 a4
                      have l4 := mul_nn (show 0 ≤ mAr fi fo (fc 1 - 1) ∧ mAr fi fo (fc 1 - 1) ≤ 720 by omega) (show 0 ≤ mTu fc bu ∧ mTu fc bu ≤ 24 from t0)
                      have l5 := mTm_bd (fi := fi) (fr := fo) (h := fc 1 - 1) (x := mX fc fi fo pa bu t) wb
                      have l6 : mWh fc pa bu - mTm fc fi fo pa bu (fc 1 - 1) (mX fc fi fo pa bu t) < mTm fc fi fo pa bu (fc 1 - 1) (mX fc fi fo pa bu t) → mBy fc fi fo pa bu t = mWh fc pa bu - mTm fc fi fo pa bu (fc 1 - 1) (mX fc fi fo pa bu t) := fun q => if_pos q
                      have l7 : ¬ mWh fc pa bu - mTm fc fi fo pa bu (fc 1 - 1) (mX fc fi fo pa bu t) < mTm fc fi fo pa bu (fc 1 - 1) (mX fc fi fo pa bu t) → mBy fc fi fo pa bu t = mTm fc fi fo pa bu (fc 1 - 1) (mX fc fi fo pa bu t) := fun q => if_neg q
                      refine v_aload_n X dX8_isTrue_186 rfl ?_
                      refine v_get X (fun _ h => List.mem_cons_of_mem _ (List.mem_append_right _ h)) 0 rfl rfl 5 (by decide) rfl (List.mem_of_getElem? (i := 4) rfl) rfl dX8_isTrue_187 ?_
                      refine v_iconst X dX8_isTrue_190 ?_
                      refine v_iald X 4 rfl (by omega) (by omega) (by omega) dX8_isTrue_191 hfc (fun zl ezl lzl uzl => ?_)
                      rw [show zl = fc 1 from ezl]
                      refine v_iconst X dX8_isTrue_192 ?_
                      refine v_isub X dX8_isTrue_193 ?_
                      refine v_istore X dX8_isTrue_194 (by decide) rfl ?_
                      dsimp only [List.set]
                      refine v_aload_n X dX8_isTrue_196 rfl ?_
                      refine v_iload X dX8_isTrue_197 rfl ?_
                      refine res_E X (run_V X (c_X8_speed (g := g) (by first | assumption | omega) (by first | assumption | omega) (by first | assumption | omega)) gX8_isTrue_X8_speed rfl hdX8_speed ⟨(Nat.le_of_ble_eq_true rfl), (Nat.le_of_ble_eq_true rfl)⟩ ⟨(Nat.le_of_ble_eq_true rfl), (Nat.le_of_ble_eq_true rfl)⟩ 0 rfl rfl rfl [0, 1, 2, 3, 4, 5, 6, 7, 8, 9, 10] rfl rfl rfl rfl (by simp [Value.category]) dX8_isTrue_199) [0, 1, 2, 3, 4, 5, 6, 7, 8, 9, 10] rfl rfl ?_
                      refine v_iload X dX8_isTrue_202 rfl ?_
                      refine v_imul X dX8_isTrue_204 ?_
                      refine v_aload_n X dX8_isTrue_205 rfl ?_
                      refine v_get X (fun _ h => List.mem_cons_of_mem _ (List.mem_append_right _ h)) 0 rfl rfl 4 (by decide) rfl (List.mem_of_getElem? (i := 5) rfl) rfl dX8_isTrue_206 ?_
                      refine v_iload_n X dX8_isTrue_209 rfl ?_
                      refine v_iload X dX8_isTrue_210 rfl ?_
                      refine v_iadd X dX8_isTrue_212 ?_
                      refine v_iald X 3 rfl (by omega) (by omega) (by omega) dX8_isTrue_213 hfi (fun zj ezj lzj uzj => ?_)
                      rw [show zj = mAr fi fo (fc 1 - 1) from ezj]
                      refine v_iload X dX8_isTrue_214 rfl ?_
                      refine v_imul X dX8_isTrue_216 ?_
                      refine v_isub X dX8_isTrue_217 ?_
                      refine v_iload X dX8_isTrue_218 rfl ?_
                      refine res_E X (run_S X (c_X8_rest (g := g) (by first | assumption | omega) (by first | assumption | omega) (by first | assumption | omega)) gX8_isTrue_X8_rest rfl hdX8_rest.2 ⟨(Nat.le_of_ble_eq_true rfl), (Nat.le_of_ble_eq_true rfl)⟩ ⟨(Nat.le_of_ble_eq_true rfl), (Nat.le_of_ble_eq_true rfl)⟩ [] rfl rfl rfl rfl (by simp [Value.category]) dX8_isTrue_220) [] rfl rfl ?_
                      rw [show restI (spdM fc (fc 1 - 1) * mX fc fi fo pa bu t - mAr fi fo (fc 1 - 1) * mTu fc bu) (mWh fc pa bu) = mTm fc fi fo pa bu (fc 1 - 1) (mX fc fi fo pa bu t) from rfl]
                      refine v_istore X dX8_isTrue_223 (by decide) rfl ?_
                      dsimp only [List.set]
                      refine v_iload X dX8_isTrue_225 rfl ?_
                      refine v_iload X dX8_isTrue_227 rfl ?_
                      refine v_iload X dX8_isTrue_229 rfl ?_
                      refine v_isub X dX8_isTrue_231 ?_
                      refine v_icmp_le (tgt := 243) X dX8_isTrue_232 (by decide) (by omega) (by omega) (fun c11 => ?_) (fun c11 => ?_)
                      · skip
                        refine v_iload X dX8_isTrue_243 rfl ?_
                        refine v_istore X dX8_isTrue_245 (by decide) rfl ?_
                        dsimp only [List.set]
                        refine v_aload_n X dX8_isTrue_247 rfl ?_
                        refine v_iload X dX8_isTrue_248 rfl ?_
                        refine v_if_eq (tgt := 262) X dX8_isTrue_250 (by decide) (by omega) (fun c12 => ?_) (fun c12 => ?_)
                        · skip
                          refine v_iload X dX8_isTrue_262 rfl ?_
                          refine v_goto (tgt := 271) X dX8_isTrue_264 (by decide) ?_
                          refine v_put X (fun _ h => List.mem_cons_of_mem _ (List.mem_append_right _ h)) tyX8 tyX8_ok nmX8 0 rfl rfl 19 (by decide) rfl (List.mem_of_getElem? (i := 2) rfl) rfl rfl rfl (Nat.le_of_ble_eq_true rfl) dX8_isTrue_271 ?_
                          dsimp only [List.set, wMod]
                          refine v_aload_n X dX8_isTrue_274 rfl ?_
                          refine v_iload X dX8_isTrue_275 rfl ?_
                          refine v_put X (fun _ h => List.mem_cons_of_mem _ (List.mem_append_right _ h)) tyX8 tyX8_ok nmX8 0 rfl rfl 20 (by decide) rfl (List.mem_of_getElem? (i := 3) rfl) rfl rfl rfl (Nat.le_of_ble_eq_true rfl) dX8_isTrue_277 ?_
                          dsimp only [List.set, wMod]
                          refine v_iconst X dX8_isTrue_280 ?_
                          refine v_istore X dX8_isTrue_281 (by decide) rfl ?_
                          dsimp only [List.set]
                          refine v_iinc X dX8_isTrue_283 rfl (by decide) rfl ?_
                          dsimp only [List.set]
                          refine v_goto (tgt := 63) X dX8_isTrue_286 (by decide) ?_
                          refine v_drop 9 ?_
                          dsimp only [List.set]
                          refine v_drop 10 ?_
                          dsimp only [List.set]
                          refine v_drop 11 ?_
                          dsimp only [List.set]
                          refine v_drop 12 ?_
                          dsimp only [List.set]
                          refine v_drop 13 ?_
                          dsimp only [List.set]
                          exact ih63 _ _ _ _ (by omega) (by
                              rw [lnN_s h1.1, ← h2]; simp only [show ((t.toNat : Nat) : Int) = t by omega]
                              rcases f1 with f1 | f1
                              · first
                                | (exfalso; omega)
                                | (rw [if_pos (pB_iff.mpr f1.2)]; first | (rw [if_pos (by omega)]; omega) | (rw [if_neg (by omega)]))
                              · first
                                | (exfalso; omega)
                                | rw [if_neg (fun z => f1.2 (pB_iff.mp z))]) (by
                              first
                              | (rcases f1 with f1 | f1
                                 · first
                                   | exact mIV_y h1.1 f1.2 (by omega)
                                   | (exfalso; omega)
                                 · first
                                   | exact mIV_n h3 f1.2
                                   | (exfalso; omega))) (by omega)
                        · skip
                          refine v_iload X dX8_isTrue_253 rfl ?_
                          refine v_aload_n X dX8_isTrue_255 rfl ?_
                          refine v_get X (fun _ h => List.mem_cons_of_mem _ (List.mem_append_right _ h)) 0 rfl rfl 19 (by decide) rfl (List.mem_of_getElem? (i := 2) rfl) rfl dX8_isTrue_256 ?_
                          refine v_icmp_ge (tgt := 267) X dX8_isTrue_259 (by decide) (by omega) (by omega) (fun c13 => ?_) (fun c13 => ?_)
                          · skip
                            refine v_aload_n X dX8_isTrue_267 rfl ?_
                            refine v_get X (fun _ h => List.mem_cons_of_mem _ (List.mem_append_right _ h)) 0 rfl rfl 19 (by decide) rfl (List.mem_of_getElem? (i := 2) rfl) rfl dX8_isTrue_268 ?_
                            refine v_put X (fun _ h => List.mem_cons_of_mem _ (List.mem_append_right _ h)) tyX8 tyX8_ok nmX8 0 rfl rfl 19 (by decide) rfl (List.mem_of_getElem? (i := 2) rfl) rfl rfl rfl (Nat.le_of_ble_eq_true rfl) dX8_isTrue_271 ?_
                            dsimp only [List.set, wMod]
                            refine v_aload_n X dX8_isTrue_274 rfl ?_
                            refine v_iload X dX8_isTrue_275 rfl ?_
                            refine v_put X (fun _ h => List.mem_cons_of_mem _ (List.mem_append_right _ h)) tyX8 tyX8_ok nmX8 0 rfl rfl 20 (by decide) rfl (List.mem_of_getElem? (i := 3) rfl) rfl rfl rfl (Nat.le_of_ble_eq_true rfl) dX8_isTrue_277 ?_
                            dsimp only [List.set, wMod]
                            refine v_iconst X dX8_isTrue_280 ?_
                            refine v_istore X dX8_isTrue_281 (by decide) rfl ?_
                            dsimp only [List.set]
                            refine v_iinc X dX8_isTrue_283 rfl (by decide) rfl ?_
                            dsimp only [List.set]
                            refine v_goto (tgt := 63) X dX8_isTrue_286 (by decide) ?_
                            refine v_drop 9 ?_
                            dsimp only [List.set]
                            refine v_drop 10 ?_
                            dsimp only [List.set]
                            refine v_drop 11 ?_
                            dsimp only [List.set]
                            refine v_drop 12 ?_
                            dsimp only [List.set]
                            refine v_drop 13 ?_
                            dsimp only [List.set]
                            exact ih63 _ _ _ _ (by omega) (by
                                rw [lnN_s h1.1, ← h2]; simp only [show ((t.toNat : Nat) : Int) = t by omega]
                                rcases f1 with f1 | f1
                                · first
                                  | (exfalso; omega)
                                  | (rw [if_pos (pB_iff.mpr f1.2)]; first | (rw [if_pos (by omega)]; omega) | (rw [if_neg (by omega)]))
                                · first
                                  | (exfalso; omega)
                                  | rw [if_neg (fun z => f1.2 (pB_iff.mp z))]) (by
                                first
                                | (rcases f1 with f1 | f1
                                   · first
                                     | exact mIV_y h1.1 f1.2 (by omega)
                                     | (exfalso; omega)
                                   · first
                                     | exact mIV_n h3 f1.2
                                     | (exfalso; omega))) (by omega)
                          · skip
                            refine v_iload X dX8_isTrue_262 rfl ?_
                            refine v_goto (tgt := 271) X dX8_isTrue_264 (by decide) ?_
                            refine v_put X (fun _ h => List.mem_cons_of_mem _ (List.mem_append_right _ h)) tyX8 tyX8_ok nmX8 0 rfl rfl 19 (by decide) rfl (List.mem_of_getElem? (i := 2) rfl) rfl rfl rfl (Nat.le_of_ble_eq_true rfl) dX8_isTrue_271 ?_
                            dsimp only [List.set, wMod]
                            refine v_aload_n X dX8_isTrue_274 rfl ?_
                            refine v_iload X dX8_isTrue_275 rfl ?_
                            refine v_put X (fun _ h => List.mem_cons_of_mem _ (List.mem_append_right _ h)) tyX8 tyX8_ok nmX8 0 rfl rfl 20 (by decide) rfl (List.mem_of_getElem? (i := 3) rfl) rfl rfl rfl (Nat.le_of_ble_eq_true rfl) dX8_isTrue_277 ?_
                            dsimp only [List.set, wMod]
                            refine v_iconst X dX8_isTrue_280 ?_
                            refine v_istore X dX8_isTrue_281 (by decide) rfl ?_
                            dsimp only [List.set]
                            refine v_iinc X dX8_isTrue_283 rfl (by decide) rfl ?_
                            dsimp only [List.set]
                            refine v_goto (tgt := 63) X dX8_isTrue_286 (by decide) ?_
                            refine v_drop 9 ?_
                            dsimp only [List.set]
                            refine v_drop 10 ?_
                            dsimp only [List.set]
                            refine v_drop 11 ?_
                            dsimp only [List.set]
                            refine v_drop 12 ?_
                            dsimp only [List.set]
                            refine v_drop 13 ?_
                            dsimp only [List.set]
                            exact ih63 _ _ _ _ (by omega) (by
                                rw [lnN_s h1.1, ← h2]; simp only [show ((t.toNat : Nat) : Int) = t by omega]
                                rcases f1 with f1 | f1
                                · first
                                  | (exfalso; omega)
                                  | (rw [if_pos (pB_iff.mpr f1.2)]; first | (rw [if_pos (by omega)]; omega) | (rw [if_neg (by omega)]))
                                · first
                                  | (exfalso; omega)
                                  | rw [if_neg (fun z => f1.2 (pB_iff.mp z))]) (by
                                first
                                | (rcases f1 with f1 | f1
                                   · first
                                     | exact mIV_y h1.1 f1.2 (by omega)
                                     | (exfalso; omega)
                                   · first
                                     | exact mIV_n h3 f1.2
                                     | (exfalso; omega))) (by omega)
                      · skip
                        refine v_iload X dX8_isTrue_235 rfl ?_
                        refine v_iload X dX8_isTrue_237 rfl ?_
                        refine v_isub X dX8_isTrue_239 ?_
                        refine v_goto (tgt := 245) X dX8_isTrue_240 (by decide) ?_
                        refine v_istore X dX8_isTrue_245 (by decide) rfl ?_
                        dsimp only [List.set]
                        refine v_aload_n X dX8_isTrue_247 rfl ?_
                        refine v_iload X dX8_isTrue_248 rfl ?_
                        refine v_if_eq (tgt := 262) X dX8_isTrue_250 (by decide) (by omega) (fun c14 => ?_) (fun c14 => ?_)
                        · skip
                          refine v_iload X dX8_isTrue_262 rfl ?_
                          refine v_goto (tgt := 271) X dX8_isTrue_264 (by decide) ?_
                          refine v_put X (fun _ h => List.mem_cons_of_mem _ (List.mem_append_right _ h)) tyX8 tyX8_ok nmX8 0 rfl rfl 19 (by decide) rfl (List.mem_of_getElem? (i := 2) rfl) rfl rfl rfl (Nat.le_of_ble_eq_true rfl) dX8_isTrue_271 ?_
                          dsimp only [List.set, wMod]
                          refine v_aload_n X dX8_isTrue_274 rfl ?_
                          refine v_iload X dX8_isTrue_275 rfl ?_
                          refine v_put X (fun _ h => List.mem_cons_of_mem _ (List.mem_append_right _ h)) tyX8 tyX8_ok nmX8 0 rfl rfl 20 (by decide) rfl (List.mem_of_getElem? (i := 3) rfl) rfl rfl rfl (Nat.le_of_ble_eq_true rfl) dX8_isTrue_277 ?_
                          dsimp only [List.set, wMod]
                          refine v_iconst X dX8_isTrue_280 ?_
                          refine v_istore X dX8_isTrue_281 (by decide) rfl ?_
                          dsimp only [List.set]
                          refine v_iinc X dX8_isTrue_283 rfl (by decide) rfl ?_
                          dsimp only [List.set]
                          refine v_goto (tgt := 63) X dX8_isTrue_286 (by decide) ?_
                          refine v_drop 9 ?_
                          dsimp only [List.set]
                          refine v_drop 10 ?_
                          dsimp only [List.set]
                          refine v_drop 11 ?_
                          dsimp only [List.set]
                          refine v_drop 12 ?_
                          dsimp only [List.set]
                          refine v_drop 13 ?_
                          dsimp only [List.set]
                          exact ih63 _ _ _ _ (by omega) (by
                              rw [lnN_s h1.1, ← h2]; simp only [show ((t.toNat : Nat) : Int) = t by omega]
                              rcases f1 with f1 | f1
                              · first
                                | (exfalso; omega)
                                | (rw [if_pos (pB_iff.mpr f1.2)]; first | (rw [if_pos (by omega)]; omega) | (rw [if_neg (by omega)]))
                              · first
                                | (exfalso; omega)
                                | rw [if_neg (fun z => f1.2 (pB_iff.mp z))]) (by
                              first
                              | (rcases f1 with f1 | f1
                                 · first
                                   | exact mIV_y h1.1 f1.2 (by omega)
                                   | (exfalso; omega)
                                 · first
                                   | exact mIV_n h3 f1.2
                                   | (exfalso; omega))) (by omega)
                        · skip
                          refine v_iload X dX8_isTrue_253 rfl ?_
                          refine v_aload_n X dX8_isTrue_255 rfl ?_
                          refine v_get X (fun _ h => List.mem_cons_of_mem _ (List.mem_append_right _ h)) 0 rfl rfl 19 (by decide) rfl (List.mem_of_getElem? (i := 2) rfl) rfl dX8_isTrue_256 ?_
                          refine v_icmp_ge (tgt := 267) X dX8_isTrue_259 (by decide) (by omega) (by omega) (fun c15 => ?_) (fun c15 => ?_)
                          · skip
                            refine v_aload_n X dX8_isTrue_267 rfl ?_
                            refine v_get X (fun _ h => List.mem_cons_of_mem _ (List.mem_append_right _ h)) 0 rfl rfl 19 (by decide) rfl (List.mem_of_getElem? (i := 2) rfl) rfl dX8_isTrue_268 ?_
                            refine v_put X (fun _ h => List.mem_cons_of_mem _ (List.mem_append_right _ h)) tyX8 tyX8_ok nmX8 0 rfl rfl 19 (by decide) rfl (List.mem_of_getElem? (i := 2) rfl) rfl rfl rfl (Nat.le_of_ble_eq_true rfl) dX8_isTrue_271 ?_
                            dsimp only [List.set, wMod]
                            refine v_aload_n X dX8_isTrue_274 rfl ?_
                            refine v_iload X dX8_isTrue_275 rfl ?_
                            refine v_put X (fun _ h => List.mem_cons_of_mem _ (List.mem_append_right _ h)) tyX8 tyX8_ok nmX8 0 rfl rfl 20 (by decide) rfl (List.mem_of_getElem? (i := 3) rfl) rfl rfl rfl (Nat.le_of_ble_eq_true rfl) dX8_isTrue_277 ?_
                            dsimp only [List.set, wMod]
                            refine v_iconst X dX8_isTrue_280 ?_
                            refine v_istore X dX8_isTrue_281 (by decide) rfl ?_
                            dsimp only [List.set]
                            refine v_iinc X dX8_isTrue_283 rfl (by decide) rfl ?_
                            dsimp only [List.set]
                            refine v_goto (tgt := 63) X dX8_isTrue_286 (by decide) ?_
                            refine v_drop 9 ?_
                            dsimp only [List.set]
                            refine v_drop 10 ?_
                            dsimp only [List.set]
                            refine v_drop 11 ?_
                            dsimp only [List.set]
                            refine v_drop 12 ?_
                            dsimp only [List.set]
                            refine v_drop 13 ?_
                            dsimp only [List.set]
                            exact ih63 _ _ _ _ (by omega) (by
                                rw [lnN_s h1.1, ← h2]; simp only [show ((t.toNat : Nat) : Int) = t by omega]
                                rcases f1 with f1 | f1
                                · first
                                  | (exfalso; omega)
                                  | (rw [if_pos (pB_iff.mpr f1.2)]; first | (rw [if_pos (by omega)]; omega) | (rw [if_neg (by omega)]))
                                · first
                                  | (exfalso; omega)
                                  | rw [if_neg (fun z => f1.2 (pB_iff.mp z))]) (by
                                first
                                | (rcases f1 with f1 | f1
                                   · first
                                     | exact mIV_y h1.1 f1.2 (by omega)
                                     | (exfalso; omega)
                                   · first
                                     | exact mIV_n h3 f1.2
                                     | (exfalso; omega))) (by omega)
                          · skip
                            refine v_iload X dX8_isTrue_262 rfl ?_
                            refine v_goto (tgt := 271) X dX8_isTrue_264 (by decide) ?_
                            refine v_put X (fun _ h => List.mem_cons_of_mem _ (List.mem_append_right _ h)) tyX8 tyX8_ok nmX8 0 rfl rfl 19 (by decide) rfl (List.mem_of_getElem? (i := 2) rfl) rfl rfl rfl (Nat.le_of_ble_eq_true rfl) dX8_isTrue_271 ?_
                            dsimp only [List.set, wMod]
                            refine v_aload_n X dX8_isTrue_274 rfl ?_
                            refine v_iload X dX8_isTrue_275 rfl ?_
                            refine v_put X (fun _ h => List.mem_cons_of_mem _ (List.mem_append_right _ h)) tyX8 tyX8_ok nmX8 0 rfl rfl 20 (by decide) rfl (List.mem_of_getElem? (i := 3) rfl) rfl rfl rfl (Nat.le_of_ble_eq_true rfl) dX8_isTrue_277 ?_
                            dsimp only [List.set, wMod]
                            refine v_iconst X dX8_isTrue_280 ?_
                            refine v_istore X dX8_isTrue_281 (by decide) rfl ?_
                            dsimp only [List.set]
                            refine v_iinc X dX8_isTrue_283 rfl (by decide) rfl ?_
                            dsimp only [List.set]
                            refine v_goto (tgt := 63) X dX8_isTrue_286 (by decide) ?_
                            refine v_drop 9 ?_
                            dsimp only [List.set]
                            refine v_drop 10 ?_
                            dsimp only [List.set]
                            refine v_drop 11 ?_
                            dsimp only [List.set]
                            refine v_drop 12 ?_
                            dsimp only [List.set]
                            refine v_drop 13 ?_
                            dsimp only [List.set]
                            exact ih63 _ _ _ _ (by omega) (by
                                rw [lnN_s h1.1, ← h2]; simp only [show ((t.toNat : Nat) : Int) = t by omega]
                                rcases f1 with f1 | f1
                                · first
                                  | (exfalso; omega)
                                  | (rw [if_pos (pB_iff.mpr f1.2)]; first | (rw [if_pos (by omega)]; omega) | (rw [if_neg (by omega)]))
                                · first
                                  | (exfalso; omega)
                                  | rw [if_neg (fun z => f1.2 (pB_iff.mp z))]) (by
                                first
                                | (rcases f1 with f1 | f1
                                   · first
                                     | exact mIV_y h1.1 f1.2 (by omega)
                                     | (exfalso; omega)
                                   · first
                                     | exact mIV_n h3 f1.2
                                     | (exfalso; omega))) (by omega)
                  · skip
                    have ku := mIU_b k2
                    refine v_iload X dX8_isTrue_127 rfl ?_
                    refine v_if_eq (tgt := 172) X dX8_isTrue_129 (by decide) (by omega) (fun c16 => ?_) (fun c16 => ?_)
                    · skip
                      refine v_iconst X dX8_isTrue_172 ?_
                      refine v_istore X dX8_isTrue_173 (by decide) rfl ?_
                      dsimp only [List.set]
                      refine v_iinc X dX8_isTrue_175 rfl (by decide) rfl ?_
                      dsimp only [List.set]
                      refine v_goto (tgt := 116) X dX8_isTrue_178 (by decide) ?_
                      exact ih116 _ _ _ (by rfl) (by omega) (by
                          first
                          | exact mIU_no k2 (by assumption)
                          | exact mIU_y k2 (by assumption) (Or.inl (by assumption))
                          | exact mIU_y k2 (by assumption) (Or.inr (by assumption))
                          | exact mIU_n k1.1 (by assumption) (by assumption) (by assumption)) (by omega)
                    · skip
                      refine v_iload X dX8_isTrue_132 rfl ?_
                      refine v_iload_n X dX8_isTrue_134 rfl ?_
                      refine v_icmp_eq (tgt := 168) X dX8_isTrue_135 (by decide) (by omega) (by omega) (fun c17 => ?_) (fun c17 => ?_)
                      · skip
                        refine v_iconst X dX8_isTrue_168 ?_
                        refine v_goto (tgt := 173) X dX8_isTrue_169 (by decide) ?_
                        refine v_istore X dX8_isTrue_173 (by decide) rfl ?_
                        dsimp only [List.set]
                        refine v_iinc X dX8_isTrue_175 rfl (by decide) rfl ?_
                        dsimp only [List.set]
                        refine v_goto (tgt := 116) X dX8_isTrue_178 (by decide) ?_
                        exact ih116 _ _ _ (by rfl) (by omega) (by
                            first
                            | exact mIU_no k2 (by assumption)
                            | exact mIU_y k2 (by assumption) (Or.inl (by assumption))
                            | exact mIU_y k2 (by assumption) (Or.inr (by assumption))
                            | exact mIU_n k1.1 (by assumption) (by assumption) (by assumption)) (by omega)
                      · skip
                        have d1 := spdM_bd (fc := fc) (h := h) ht3
                        have d2 : 0 ≤ mAr fi fo h ∧ mAr fi fo h < pa := hai h (by omega) (by omega)
                        have d3 := mul_bd d1 a4
                        have d4 := mul_nn (show 0 ≤ mAr fi fo h ∧ mAr fi fo h ≤ 720 by omega) (show 0 ≤ mTu fc bu ∧ mTu fc bu ≤ 24 from t0)
                        refine v_aload_n X dX8_isTrue_138 rfl ?_
                        refine v_iload X dX8_isTrue_139 rfl ?_
                        refine res_E X (run_V X (c_X8_speed (g := g) (by first | assumption | omega) (by first | assumption | omega) (by first | assumption | omega)) gX8_isTrue_X8_speed rfl hdX8_speed ⟨(Nat.le_of_ble_eq_true rfl), (Nat.le_of_ble_eq_true rfl)⟩ ⟨(Nat.le_of_ble_eq_true rfl), (Nat.le_of_ble_eq_true rfl)⟩ 0 rfl rfl rfl [0, 1, 2, 3, 4, 5, 6, 7, 8, 9, 10] rfl rfl rfl rfl (by simp [Value.category]) dX8_isTrue_141) [0, 1, 2, 3, 4, 5, 6, 7, 8, 9, 10] rfl rfl ?_
                        refine v_iload X dX8_isTrue_144 rfl ?_
                        refine v_imul X dX8_isTrue_146 ?_
                        refine v_aload_n X dX8_isTrue_147 rfl ?_
                        refine v_get X (fun _ h => List.mem_cons_of_mem _ (List.mem_append_right _ h)) 0 rfl rfl 4 (by decide) rfl (List.mem_of_getElem? (i := 5) rfl) rfl dX8_isTrue_148 ?_
                        refine v_iload_n X dX8_isTrue_151 rfl ?_
                        refine v_iload X dX8_isTrue_152 rfl ?_
                        refine v_iadd X dX8_isTrue_154 ?_
                        refine v_iald X 3 rfl (by omega) (by omega) (by omega) dX8_isTrue_155 hfi (fun zi ezi lzi uzi => ?_)
                        rw [show zi = mAr fi fo h from ezi]
                        refine v_iload X dX8_isTrue_156 rfl ?_
                        refine v_imul X dX8_isTrue_158 ?_
                        refine v_isub X dX8_isTrue_159 ?_
                        refine v_iload X dX8_isTrue_160 rfl ?_
                        refine res_E X (run_S X (c_X8_rest (g := g) (by first | assumption | omega) (by first | assumption | omega) (by first | assumption | omega)) gX8_isTrue_X8_rest rfl hdX8_rest.2 ⟨(Nat.le_of_ble_eq_true rfl), (Nat.le_of_ble_eq_true rfl)⟩ ⟨(Nat.le_of_ble_eq_true rfl), (Nat.le_of_ble_eq_true rfl)⟩ [] rfl rfl rfl rfl (by simp [Value.category]) dX8_isTrue_162) [] rfl rfl ?_
                        rw [show restI (spdM fc h * mX fc fi fo pa bu t - mAr fi fo h * mTu fc bu) (mWh fc pa bu) = mTm fc fi fo pa bu h (mX fc fi fo pa bu t) from rfl]
                        refine v_if_ne (tgt := 172) X dX8_isTrue_165 (by decide) (by have := mTm_bd (fi := fi) (fr := fo) (h := h) (x := mX fc fi fo pa bu t) wb; omega) (fun c19 => ?_) (fun c19 => ?_)
                        · skip
                          refine v_iconst X dX8_isTrue_172 ?_
                          refine v_istore X dX8_isTrue_173 (by decide) rfl ?_
                          dsimp only [List.set]
                          refine v_iinc X dX8_isTrue_175 rfl (by decide) rfl ?_
                          dsimp only [List.set]
                          refine v_goto (tgt := 116) X dX8_isTrue_178 (by decide) ?_
                          exact ih116 _ _ _ (by rfl) (by omega) (by
                              first
                              | exact mIU_no k2 (by assumption)
                              | exact mIU_y k2 (by assumption) (Or.inl (by assumption))
                              | exact mIU_y k2 (by assumption) (Or.inr (by assumption))
                              | exact mIU_n k1.1 (by assumption) (by assumption) (by assumption)) (by omega)
                        · skip
                          refine v_iconst X dX8_isTrue_168 ?_
                          refine v_goto (tgt := 173) X dX8_isTrue_169 (by decide) ?_
                          refine v_istore X dX8_isTrue_173 (by decide) rfl ?_
                          dsimp only [List.set]
                          refine v_iinc X dX8_isTrue_175 rfl (by decide) rfl ?_
                          dsimp only [List.set]
                          refine v_goto (tgt := 116) X dX8_isTrue_178 (by decide) ?_
                          exact ih116 _ _ _ (by rfl) (by omega) (by
                              first
                              | exact mIU_no k2 (by assumption)
                              | exact mIU_y k2 (by assumption) (Or.inl (by assumption))
                              | exact mIU_y k2 (by assumption) (Or.inr (by assumption))
                              | exact mIU_n k1.1 (by assumption) (by assumption) (by assumption)) (by omega)
              exact L116 _ _ _ _ (by unfold mX; (first | rw [if_pos (by assumption)] | rw [if_neg (by omega)]) <;> rfl) (by omega) (by exact mIU_0) (Nat.lt_succ_self _)
            · skip
              refine v_iload X dX8_isTrue_95 rfl ?_
              refine v_ineg X dX8_isTrue_97 ?_
              refine v_iload X dX8_isTrue_98 rfl ?_
              refine res_E X (run_S X (c_X8_rest (g := g) (by first | assumption | omega) (by first | assumption | omega) (by first | assumption | omega)) gX8_isTrue_X8_rest rfl hdX8_rest.2 ⟨(Nat.le_of_ble_eq_true rfl), (Nat.le_of_ble_eq_true rfl)⟩ ⟨(Nat.le_of_ble_eq_true rfl), (Nat.le_of_ble_eq_true rfl)⟩ [] rfl rfl rfl rfl (by simp [Value.category]) dX8_isTrue_100) [] rfl rfl ?_
              refine v_goto (tgt := 108) X dX8_isTrue_103 (by decide) ?_
              refine v_istore X dX8_isTrue_108 (by decide) rfl ?_
              dsimp only [List.set]
              refine v_iconst X dX8_isTrue_110 ?_
              refine v_istore X dX8_isTrue_111 (by decide) rfl ?_
              dsimp only [List.set]
              refine v_iconst X dX8_isTrue_113 ?_
              refine v_istore X dX8_isTrue_114 (by decide) rfl ?_
              dsimp only [List.set]
              have L116 : ∀ (nf : Nat) (xx : Int) (u : Int) (h : Int) (hxx : xx = mX fc fi fo pa bu t) (k1 : 0 ≤ h ∧ h ≤ fc 1) (k2 : mIU fc fi fo pa bu t h u) (_ : (fc 1 - h).toNat < nf), V g x 0 0 (wMod g A th sq ac td lt ln cu tk sa ti ft fp (ls) (lo2) tr fl fm fi fc ff fw ftp fk fe fr) [some (.ref (A 0)), some (.int (iI fo)), some (.int (iI pa)), some (.int (iI bu)), some (.int (iI (basI bu))), some (.int (iI (mTu fc bu))), some (.int (iI (mWh fc pa bu))), some (.int (iI v)), some (.int (iI t)), some (.int (iI (mAt fi fo pa bu t))), some (.int (iI xx)), some (.int (iI u)), some (.int (iI h)), none] 116 [] := by
                intro nf
                induction nf with
                | zero => intro xx u h hxx k1 k2 hmu; exact absurd hmu (Nat.not_lt_zero _)
                | succ nf ih116 =>
                  intro xx u h hxx k1 k2 hmu
                  subst hxx
                  refine v_iload X dX8_isTrue_116 rfl ?_
                  refine v_aload_n X dX8_isTrue_118 rfl ?_
                  refine v_get X (fun _ h => List.mem_cons_of_mem _ (List.mem_append_right _ h)) 0 rfl rfl 5 (by decide) rfl (List.mem_of_getElem? (i := 4) rfl) rfl dX8_isTrue_119 ?_
                  refine v_iconst X dX8_isTrue_122 ?_
                  refine v_iald X 4 rfl (by omega) (by omega) (by omega) dX8_isTrue_123 hfc (fun zc ezc lzc uzc => ?_)
                  rw [show zc = fc 1 from ezc]
                  refine v_icmp_ge (tgt := 181) X dX8_isTrue_124 (by decide) (by omega) (by omega) (fun c21 => ?_) (fun c21 => ?_)
                  · skip
                    have f1 := mIU_end k2 (by assumption)
                    refine v_iload X dX8_isTrue_181 rfl ?_
                    refine v_if_eq (tgt := 283) X dX8_isTrue_183 (by decide) (by omega) (fun c22 => ?_) (fun c22 => ?_)
                    · skip
                      refine v_iinc X dX8_isTrue_283 rfl (by decide) rfl ?_
                      dsimp only [List.set]
                      refine v_goto (tgt := 63) X dX8_isTrue_286 (by decide) ?_
                      refine v_drop 9 ?_
                      dsimp only [List.set]
                      refine v_drop 10 ?_
                      dsimp only [List.set]
                      refine v_drop 11 ?_
                      dsimp only [List.set]
                      refine v_drop 12 ?_
                      dsimp only [List.set]
                      exact ih63 _ _ _ _ (by omega) (by
                          rw [lnN_s h1.1, ← h2]; simp only [show ((t.toNat : Nat) : Int) = t by omega]
                          rcases f1 with f1 | f1
                          · first
                            | (exfalso; omega)
                            | (rw [if_pos (pB_iff.mpr f1.2)]; first | (rw [if_pos (by omega)]; omega) | (rw [if_neg (by omega)]))
                          · first
                            | (exfalso; omega)
                            | rw [if_neg (fun z => f1.2 (pB_iff.mp z))]) (by
                          first
                          | (rcases f1 with f1 | f1
                             · first
                               | exact mIV_y h1.1 f1.2 (by omega)
                               | (exfalso; omega)
                             · first
                               | exact mIV_n h3 f1.2
                               | (exfalso; omega))) (by omega)
                    · skip
                      have hv := mIV_b h3
                      have l1 := spdM_bd (fc := fc) (h := fc 1 - 1) ht3
                      have l2 : 0 ≤ mAr fi fo (fc 1 - 1) ∧ mAr fi fo (fc 1 - 1) < pa := hai _ (by omega) (by omega)
                      have l3 := mul_bd l1 a4
                      have l4 := mul_nn (show 0 ≤ mAr fi fo (fc 1 - 1) ∧ mAr fi fo (fc 1 - 1) ≤ 720 by omega) (show 0 ≤ mTu fc bu ∧ mTu fc bu ≤ 24 from t0)
                      have l5 := mTm_bd (fi := fi) (fr := fo) (h := fc 1 - 1) (x := mX fc fi fo pa bu t) wb
                      have l6 : mWh fc pa bu - mTm fc fi fo pa bu (fc 1 - 1) (mX fc fi fo pa bu t) < mTm fc fi fo pa bu (fc 1 - 1) (mX fc fi fo pa bu t) → mBy fc fi fo pa bu t = mWh fc pa bu - mTm fc fi fo pa bu (fc 1 - 1) (mX fc fi fo pa bu t) := fun q => if_pos q
                      have l7 : ¬ mWh fc pa bu - mTm fc fi fo pa bu (fc 1 - 1) (mX fc fi fo pa bu t) < mTm fc fi fo pa bu (fc 1 - 1) (mX fc fi fo pa bu t) → mBy fc fi fo pa bu t = mTm fc fi fo pa bu (fc 1 - 1) (mX fc fi fo pa bu t) := fun q => if_neg q
                      refine v_aload_n X dX8_isTrue_186 rfl ?_
                      refine v_get X (fun _ h => List.mem_cons_of_mem _ (List.mem_append_right _ h)) 0 rfl rfl 5 (by decide) rfl (List.mem_of_getElem? (i := 4) rfl) rfl dX8_isTrue_187 ?_
                      refine v_iconst X dX8_isTrue_190 ?_
                      refine v_iald X 4 rfl (by omega) (by omega) (by omega) dX8_isTrue_191 hfc (fun zl ezl lzl uzl => ?_)
                      rw [show zl = fc 1 from ezl]
                      refine v_iconst X dX8_isTrue_192 ?_
                      refine v_isub X dX8_isTrue_193 ?_
                      refine v_istore X dX8_isTrue_194 (by decide) rfl ?_
                      dsimp only [List.set]
                      refine v_aload_n X dX8_isTrue_196 rfl ?_
                      refine v_iload X dX8_isTrue_197 rfl ?_
                      refine res_E X (run_V X (c_X8_speed (g := g) (by first | assumption | omega) (by first | assumption | omega) (by first | assumption | omega)) gX8_isTrue_X8_speed rfl hdX8_speed ⟨(Nat.le_of_ble_eq_true rfl), (Nat.le_of_ble_eq_true rfl)⟩ ⟨(Nat.le_of_ble_eq_true rfl), (Nat.le_of_ble_eq_true rfl)⟩ 0 rfl rfl rfl [0, 1, 2, 3, 4, 5, 6, 7, 8, 9, 10] rfl rfl rfl rfl (by simp [Value.category]) dX8_isTrue_199) [0, 1, 2, 3, 4, 5, 6, 7, 8, 9, 10] rfl rfl ?_
                      refine v_iload X dX8_isTrue_202 rfl ?_
                      refine v_imul X dX8_isTrue_204 ?_
                      refine v_aload_n X dX8_isTrue_205 rfl ?_
                      refine v_get X (fun _ h => List.mem_cons_of_mem _ (List.mem_append_right _ h)) 0 rfl rfl 4 (by decide) rfl (List.mem_of_getElem? (i := 5) rfl) rfl dX8_isTrue_206 ?_
                      refine v_iload_n X dX8_isTrue_209 rfl ?_
                      refine v_iload X dX8_isTrue_210 rfl ?_
                      refine v_iadd X dX8_isTrue_212 ?_
                      refine v_iald X 3 rfl (by omega) (by omega) (by omega) dX8_isTrue_213 hfi (fun zj ezj lzj uzj => ?_)
                      rw [show zj = mAr fi fo (fc 1 - 1) from ezj]
                      refine v_iload X dX8_isTrue_214 rfl ?_
                      refine v_imul X dX8_isTrue_216 ?_
                      refine v_isub X dX8_isTrue_217 ?_
                      refine v_iload X dX8_isTrue_218 rfl ?_
                      refine res_E X (run_S X (c_X8_rest (g := g) (by first | assumption | omega) (by first | assumption | omega) (by first | assumption | omega)) gX8_isTrue_X8_rest rfl hdX8_rest.2 ⟨(Nat.le_of_ble_eq_true rfl), (Nat.le_of_ble_eq_true rfl)⟩ ⟨(Nat.le_of_ble_eq_true rfl), (Nat.le_of_ble_eq_true rfl)⟩ [] rfl rfl rfl rfl (by simp [Value.category]) dX8_isTrue_220) [] rfl rfl ?_
                      rw [show restI (spdM fc (fc 1 - 1) * mX fc fi fo pa bu t - mAr fi fo (fc 1 - 1) * mTu fc bu) (mWh fc pa bu) = mTm fc fi fo pa bu (fc 1 - 1) (mX fc fi fo pa bu t) from rfl]
                      refine v_istore X dX8_isTrue_223 (by decide) rfl ?_
                      dsimp only [List.set]
                      refine v_iload X dX8_isTrue_225 rfl ?_
                      refine v_iload X dX8_isTrue_227 rfl ?_
                      refine v_iload X dX8_isTrue_229 rfl ?_
                      refine v_isub X dX8_isTrue_231 ?_
                      refine v_icmp_le (tgt := 243) X dX8_isTrue_232 (by decide) (by omega) (by omega) (fun c25 => ?_) (fun c25 => ?_)
                      · skip
                        refine v_iload X dX8_isTrue_243 rfl ?_
                        refine v_istore X dX8_isTrue_245 (by decide) rfl ?_
                        dsimp only [List.set]
                        refine v_aload_n X dX8_isTrue_247 rfl ?_
                        refine v_iload X dX8_isTrue_248 rfl ?_
                        refine v_if_eq (tgt := 262) X dX8_isTrue_250 (by decide) (by omega) (fun c26 => ?_) (fun c26 => ?_)
                        · skip
                          refine v_iload X dX8_isTrue_262 rfl ?_
                          refine v_goto (tgt := 271) X dX8_isTrue_264 (by decide) ?_
                          refine v_put X (fun _ h => List.mem_cons_of_mem _ (List.mem_append_right _ h)) tyX8 tyX8_ok nmX8 0 rfl rfl 19 (by decide) rfl (List.mem_of_getElem? (i := 2) rfl) rfl rfl rfl (Nat.le_of_ble_eq_true rfl) dX8_isTrue_271 ?_
                          dsimp only [List.set, wMod]
                          refine v_aload_n X dX8_isTrue_274 rfl ?_
                          refine v_iload X dX8_isTrue_275 rfl ?_
                          refine v_put X (fun _ h => List.mem_cons_of_mem _ (List.mem_append_right _ h)) tyX8 tyX8_ok nmX8 0 rfl rfl 20 (by decide) rfl (List.mem_of_getElem? (i := 3) rfl) rfl rfl rfl (Nat.le_of_ble_eq_true rfl) dX8_isTrue_277 ?_
                          dsimp only [List.set, wMod]
                          refine v_iconst X dX8_isTrue_280 ?_
                          refine v_istore X dX8_isTrue_281 (by decide) rfl ?_
                          dsimp only [List.set]
                          refine v_iinc X dX8_isTrue_283 rfl (by decide) rfl ?_
                          dsimp only [List.set]
                          refine v_goto (tgt := 63) X dX8_isTrue_286 (by decide) ?_
                          refine v_drop 9 ?_
                          dsimp only [List.set]
                          refine v_drop 10 ?_
                          dsimp only [List.set]
                          refine v_drop 11 ?_
                          dsimp only [List.set]
                          refine v_drop 12 ?_
                          dsimp only [List.set]
                          refine v_drop 13 ?_
                          dsimp only [List.set]
                          exact ih63 _ _ _ _ (by omega) (by
                              rw [lnN_s h1.1, ← h2]; simp only [show ((t.toNat : Nat) : Int) = t by omega]
                              rcases f1 with f1 | f1
                              · first
                                | (exfalso; omega)
                                | (rw [if_pos (pB_iff.mpr f1.2)]; first | (rw [if_pos (by omega)]; omega) | (rw [if_neg (by omega)]))
                              · first
                                | (exfalso; omega)
                                | rw [if_neg (fun z => f1.2 (pB_iff.mp z))]) (by
                              first
                              | (rcases f1 with f1 | f1
                                 · first
                                   | exact mIV_y h1.1 f1.2 (by omega)
                                   | (exfalso; omega)
                                 · first
                                   | exact mIV_n h3 f1.2
                                   | (exfalso; omega))) (by omega)
                        · skip
                          refine v_iload X dX8_isTrue_253 rfl ?_
                          refine v_aload_n X dX8_isTrue_255 rfl ?_
                          refine v_get X (fun _ h => List.mem_cons_of_mem _ (List.mem_append_right _ h)) 0 rfl rfl 19 (by decide) rfl (List.mem_of_getElem? (i := 2) rfl) rfl dX8_isTrue_256 ?_
                          refine v_icmp_ge (tgt := 267) X dX8_isTrue_259 (by decide) (by omega) (by omega) (fun c27 => ?_) (fun c27 => ?_)
                          · skip
                            refine v_aload_n X dX8_isTrue_267 rfl ?_
                            refine v_get X (fun _ h => List.mem_cons_of_mem _ (List.mem_append_right _ h)) 0 rfl rfl 19 (by decide) rfl (List.mem_of_getElem? (i := 2) rfl) rfl dX8_isTrue_268 ?_
                            refine v_put X (fun _ h => List.mem_cons_of_mem _ (List.mem_append_right _ h)) tyX8 tyX8_ok nmX8 0 rfl rfl 19 (by decide) rfl (List.mem_of_getElem? (i := 2) rfl) rfl rfl rfl (Nat.le_of_ble_eq_true rfl) dX8_isTrue_271 ?_
                            dsimp only [List.set, wMod]
                            refine v_aload_n X dX8_isTrue_274 rfl ?_
                            refine v_iload X dX8_isTrue_275 rfl ?_
                            refine v_put X (fun _ h => List.mem_cons_of_mem _ (List.mem_append_right _ h)) tyX8 tyX8_ok nmX8 0 rfl rfl 20 (by decide) rfl (List.mem_of_getElem? (i := 3) rfl) rfl rfl rfl (Nat.le_of_ble_eq_true rfl) dX8_isTrue_277 ?_
                            dsimp only [List.set, wMod]
                            refine v_iconst X dX8_isTrue_280 ?_
                            refine v_istore X dX8_isTrue_281 (by decide) rfl ?_
                            dsimp only [List.set]
                            refine v_iinc X dX8_isTrue_283 rfl (by decide) rfl ?_
                            dsimp only [List.set]
                            refine v_goto (tgt := 63) X dX8_isTrue_286 (by decide) ?_
                            refine v_drop 9 ?_
                            dsimp only [List.set]
                            refine v_drop 10 ?_
                            dsimp only [List.set]
                            refine v_drop 11 ?_
                            dsimp only [List.set]
                            refine v_drop 12 ?_
                            dsimp only [List.set]
                            refine v_drop 13 ?_
                            dsimp only [List.set]
                            exact ih63 _ _ _ _ (by omega) (by
                                rw [lnN_s h1.1, ← h2]; simp only [show ((t.toNat : Nat) : Int) = t by omega]
                                rcases f1 with f1 | f1
                                · first
                                  | (exfalso; omega)
                                  | (rw [if_pos (pB_iff.mpr f1.2)]; first | (rw [if_pos (by omega)]; omega) | (rw [if_neg (by omega)]))
                                · first
                                  | (exfalso; omega)
                                  | rw [if_neg (fun z => f1.2 (pB_iff.mp z))]) (by
                                first
                                | (rcases f1 with f1 | f1
                                   · first
                                     | exact mIV_y h1.1 f1.2 (by omega)
                                     | (exfalso; omega)
                                   · first
                                     | exact mIV_n h3 f1.2
                                     | (exfalso; omega))) (by omega)
                          · skip
                            refine v_iload X dX8_isTrue_262 rfl ?_
                            refine v_goto (tgt := 271) X dX8_isTrue_264 (by decide) ?_
                            refine v_put X (fun _ h => List.mem_cons_of_mem _ (List.mem_append_right _ h)) tyX8 tyX8_ok nmX8 0 rfl rfl 19 (by decide) rfl (List.mem_of_getElem? (i := 2) rfl) rfl rfl rfl (Nat.le_of_ble_eq_true rfl) dX8_isTrue_271 ?_
                            dsimp only [List.set, wMod]
                            refine v_aload_n X dX8_isTrue_274 rfl ?_
                            refine v_iload X dX8_isTrue_275 rfl ?_
                            refine v_put X (fun _ h => List.mem_cons_of_mem _ (List.mem_append_right _ h)) tyX8 tyX8_ok nmX8 0 rfl rfl 20 (by decide) rfl (List.mem_of_getElem? (i := 3) rfl) rfl rfl rfl (Nat.le_of_ble_eq_true rfl) dX8_isTrue_277 ?_
                            dsimp only [List.set, wMod]
                            refine v_iconst X dX8_isTrue_280 ?_
                            refine v_istore X dX8_isTrue_281 (by decide) rfl ?_
                            dsimp only [List.set]
                            refine v_iinc X dX8_isTrue_283 rfl (by decide) rfl ?_
                            dsimp only [List.set]
                            refine v_goto (tgt := 63) X dX8_isTrue_286 (by decide) ?_
                            refine v_drop 9 ?_
                            dsimp only [List.set]
                            refine v_drop 10 ?_
                            dsimp only [List.set]
                            refine v_drop 11 ?_
                            dsimp only [List.set]
                            refine v_drop 12 ?_
                            dsimp only [List.set]
                            refine v_drop 13 ?_
                            dsimp only [List.set]
                            exact ih63 _ _ _ _ (by omega) (by
                                rw [lnN_s h1.1, ← h2]; simp only [show ((t.toNat : Nat) : Int) = t by omega]
                                rcases f1 with f1 | f1
                                · first
                                  | (exfalso; omega)
                                  | (rw [if_pos (pB_iff.mpr f1.2)]; first | (rw [if_pos (by omega)]; omega) | (rw [if_neg (by omega)]))
                                · first
                                  | (exfalso; omega)
                                  | rw [if_neg (fun z => f1.2 (pB_iff.mp z))]) (by
                                first
                                | (rcases f1 with f1 | f1
                                   · first
                                     | exact mIV_y h1.1 f1.2 (by omega)
                                     | (exfalso; omega)
                                   · first
                                     | exact mIV_n h3 f1.2
                                     | (exfalso; omega))) (by omega)
                      · skip
                        refine v_iload X dX8_isTrue_235 rfl ?_
                        refine v_iload X dX8_isTrue_237 rfl ?_
                        refine v_isub X dX8_isTrue_239 ?_
                        refine v_goto (tgt := 245) X dX8_isTrue_240 (by decide) ?_
                        refine v_istore X dX8_isTrue_245 (by decide) rfl ?_
                        dsimp only [List.set]
                        refine v_aload_n X dX8_isTrue_247 rfl ?_
                        refine v_iload X dX8_isTrue_248 rfl ?_
                        refine v_if_eq (tgt := 262) X dX8_isTrue_250 (by decide) (by omega) (fun c28 => ?_) (fun c28 => ?_)
                        · skip
                          refine v_iload X dX8_isTrue_262 rfl ?_
                          refine v_goto (tgt := 271) X dX8_isTrue_264 (by decide) ?_
                          refine v_put X (fun _ h => List.mem_cons_of_mem _ (List.mem_append_right _ h)) tyX8 tyX8_ok nmX8 0 rfl rfl 19 (by decide) rfl (List.mem_of_getElem? (i := 2) rfl) rfl rfl rfl (Nat.le_of_ble_eq_true rfl) dX8_isTrue_271 ?_
                          dsimp only [List.set, wMod]
                          refine v_aload_n X dX8_isTrue_274 rfl ?_
                          refine v_iload X dX8_isTrue_275 rfl ?_
                          refine v_put X (fun _ h => List.mem_cons_of_mem _ (List.mem_append_right _ h)) tyX8 tyX8_ok nmX8 0 rfl rfl 20 (by decide) rfl (List.mem_of_getElem? (i := 3) rfl) rfl rfl rfl (Nat.le_of_ble_eq_true rfl) dX8_isTrue_277 ?_
                          dsimp only [List.set, wMod]
                          refine v_iconst X dX8_isTrue_280 ?_
                          refine v_istore X dX8_isTrue_281 (by decide) rfl ?_
                          dsimp only [List.set]
                          refine v_iinc X dX8_isTrue_283 rfl (by decide) rfl ?_
                          dsimp only [List.set]
                          refine v_goto (tgt := 63) X dX8_isTrue_286 (by decide) ?_
                          refine v_drop 9 ?_
                          dsimp only [List.set]
                          refine v_drop 10 ?_
                          dsimp only [List.set]
                          refine v_drop 11 ?_
                          dsimp only [List.set]
                          refine v_drop 12 ?_
                          dsimp only [List.set]
                          refine v_drop 13 ?_
                          dsimp only [List.set]
                          exact ih63 _ _ _ _ (by omega) (by
                              rw [lnN_s h1.1, ← h2]; simp only [show ((t.toNat : Nat) : Int) = t by omega]
                              rcases f1 with f1 | f1
                              · first
                                | (exfalso; omega)
                                | (rw [if_pos (pB_iff.mpr f1.2)]; first | (rw [if_pos (by omega)]; omega) | (rw [if_neg (by omega)]))
                              · first
                                | (exfalso; omega)
                                | rw [if_neg (fun z => f1.2 (pB_iff.mp z))]) (by
                              first
                              | (rcases f1 with f1 | f1
                                 · first
                                   | exact mIV_y h1.1 f1.2 (by omega)
                                   | (exfalso; omega)
                                 · first
                                   | exact mIV_n h3 f1.2
                                   | (exfalso; omega))) (by omega)
                        · skip
                          refine v_iload X dX8_isTrue_253 rfl ?_
                          refine v_aload_n X dX8_isTrue_255 rfl ?_
                          refine v_get X (fun _ h => List.mem_cons_of_mem _ (List.mem_append_right _ h)) 0 rfl rfl 19 (by decide) rfl (List.mem_of_getElem? (i := 2) rfl) rfl dX8_isTrue_256 ?_
                          refine v_icmp_ge (tgt := 267) X dX8_isTrue_259 (by decide) (by omega) (by omega) (fun c29 => ?_) (fun c29 => ?_)
                          · skip
                            refine v_aload_n X dX8_isTrue_267 rfl ?_
                            refine v_get X (fun _ h => List.mem_cons_of_mem _ (List.mem_append_right _ h)) 0 rfl rfl 19 (by decide) rfl (List.mem_of_getElem? (i := 2) rfl) rfl dX8_isTrue_268 ?_
                            refine v_put X (fun _ h => List.mem_cons_of_mem _ (List.mem_append_right _ h)) tyX8 tyX8_ok nmX8 0 rfl rfl 19 (by decide) rfl (List.mem_of_getElem? (i := 2) rfl) rfl rfl rfl (Nat.le_of_ble_eq_true rfl) dX8_isTrue_271 ?_
                            dsimp only [List.set, wMod]
                            refine v_aload_n X dX8_isTrue_274 rfl ?_
                            refine v_iload X dX8_isTrue_275 rfl ?_
                            refine v_put X (fun _ h => List.mem_cons_of_mem _ (List.mem_append_right _ h)) tyX8 tyX8_ok nmX8 0 rfl rfl 20 (by decide) rfl (List.mem_of_getElem? (i := 3) rfl) rfl rfl rfl (Nat.le_of_ble_eq_true rfl) dX8_isTrue_277 ?_
                            dsimp only [List.set, wMod]
                            refine v_iconst X dX8_isTrue_280 ?_
                            refine v_istore X dX8_isTrue_281 (by decide) rfl ?_
                            dsimp only [List.set]
                            refine v_iinc X dX8_isTrue_283 rfl (by decide) rfl ?_
                            dsimp only [List.set]
                            refine v_goto (tgt := 63) X dX8_isTrue_286 (by decide) ?_
                            refine v_drop 9 ?_
                            dsimp only [List.set]
                            refine v_drop 10 ?_
                            dsimp only [List.set]
                            refine v_drop 11 ?_
                            dsimp only [List.set]
                            refine v_drop 12 ?_
                            dsimp only [List.set]
                            refine v_drop 13 ?_
                            dsimp only [List.set]
                            exact ih63 _ _ _ _ (by omega) (by
                                rw [lnN_s h1.1, ← h2]; simp only [show ((t.toNat : Nat) : Int) = t by omega]
                                rcases f1 with f1 | f1
                                · first
                                  | (exfalso; omega)
                                  | (rw [if_pos (pB_iff.mpr f1.2)]; first | (rw [if_pos (by omega)]; omega) | (rw [if_neg (by omega)]))
                                · first
                                  | (exfalso; omega)
                                  | rw [if_neg (fun z => f1.2 (pB_iff.mp z))]) (by
                                first
                                | (rcases f1 with f1 | f1
                                   · first
                                     | exact mIV_y h1.1 f1.2 (by omega)
                                     | (exfalso; omega)
                                   · first
                                     | exact mIV_n h3 f1.2
                                     | (exfalso; omega))) (by omega)
                          · skip
                            refine v_iload X dX8_isTrue_262 rfl ?_
                            refine v_goto (tgt := 271) X dX8_isTrue_264 (by decide) ?_
                            refine v_put X (fun _ h => List.mem_cons_of_mem _ (List.mem_append_right _ h)) tyX8 tyX8_ok nmX8 0 rfl rfl 19 (by decide) rfl (List.mem_of_getElem? (i := 2) rfl) rfl rfl rfl (Nat.le_of_ble_eq_true rfl) dX8_isTrue_271 ?_
                            dsimp only [List.set, wMod]
                            refine v_aload_n X dX8_isTrue_274 rfl ?_
                            refine v_iload X dX8_isTrue_275 rfl ?_
                            refine v_put X (fun _ h => List.mem_cons_of_mem _ (List.mem_append_right _ h)) tyX8 tyX8_ok nmX8 0 rfl rfl 20 (by decide) rfl (List.mem_of_getElem? (i := 3) rfl) rfl rfl rfl (Nat.le_of_ble_eq_true rfl) dX8_isTrue_277 ?_
                            dsimp only [List.set, wMod]
                            refine v_iconst X dX8_isTrue_280 ?_
                            refine v_istore X dX8_isTrue_281 (by decide) rfl ?_
                            dsimp only [List.set]
                            refine v_iinc X dX8_isTrue_283 rfl (by decide) rfl ?_
                            dsimp only [List.set]
                            refine v_goto (tgt := 63) X dX8_isTrue_286 (by decide) ?_
                            refine v_drop 9 ?_
                            dsimp only [List.set]
                            refine v_drop 10 ?_
                            dsimp only [List.set]
                            refine v_drop 11 ?_
                            dsimp only [List.set]
                            refine v_drop 12 ?_
                            dsimp only [List.set]
                            refine v_drop 13 ?_
                            dsimp only [List.set]
                            exact ih63 _ _ _ _ (by omega) (by
                                rw [lnN_s h1.1, ← h2]; simp only [show ((t.toNat : Nat) : Int) = t by omega]
                                rcases f1 with f1 | f1
                                · first
                                  | (exfalso; omega)
                                  | (rw [if_pos (pB_iff.mpr f1.2)]; first | (rw [if_pos (by omega)]; omega) | (rw [if_neg (by omega)]))
                                · first
                                  | (exfalso; omega)
                                  | rw [if_neg (fun z => f1.2 (pB_iff.mp z))]) (by
                                first
                                | (rcases f1 with f1 | f1
                                   · first
                                     | exact mIV_y h1.1 f1.2 (by omega)
                                     | (exfalso; omega)
                                   · first
                                     | exact mIV_n h3 f1.2
                                     | (exfalso; omega))) (by omega)
                  · skip
                    have ku := mIU_b k2
                    refine v_iload X dX8_isTrue_127 rfl ?_
                    refine v_if_eq (tgt := 172) X dX8_isTrue_129 (by decide) (by omega) (fun c30 => ?_) (fun c30 => ?_)
                    · skip
                      refine v_iconst X dX8_isTrue_172 ?_
                      refine v_istore X dX8_isTrue_173 (by decide) rfl ?_
                      dsimp only [List.set]
                      refine v_iinc X dX8_isTrue_175 rfl (by decide) rfl ?_
                      dsimp only [List.set]
                      refine v_goto (tgt := 116) X dX8_isTrue_178 (by decide) ?_
                      exact ih116 _ _ _ (by rfl) (by omega) (by
                          first
                          | exact mIU_no k2 (by assumption)
                          | exact mIU_y k2 (by assumption) (Or.inl (by assumption))
                          | exact mIU_y k2 (by assumption) (Or.inr (by assumption))
                          | exact mIU_n k1.1 (by assumption) (by assumption) (by assumption)) (by omega)
                    · skip
                      refine v_iload X dX8_isTrue_132 rfl ?_
                      refine v_iload_n X dX8_isTrue_134 rfl ?_
                      refine v_icmp_eq (tgt := 168) X dX8_isTrue_135 (by decide) (by omega) (by omega) (fun c31 => ?_) (fun c31 => ?_)
                      · skip
                        refine v_iconst X dX8_isTrue_168 ?_
                        refine v_goto (tgt := 173) X dX8_isTrue_169 (by decide) ?_
                        refine v_istore X dX8_isTrue_173 (by decide) rfl ?_
                        dsimp only [List.set]
                        refine v_iinc X dX8_isTrue_175 rfl (by decide) rfl ?_
                        dsimp only [List.set]
                        refine v_goto (tgt := 116) X dX8_isTrue_178 (by decide) ?_
                        exact ih116 _ _ _ (by rfl) (by omega) (by
                            first
                            | exact mIU_no k2 (by assumption)
                            | exact mIU_y k2 (by assumption) (Or.inl (by assumption))
                            | exact mIU_y k2 (by assumption) (Or.inr (by assumption))
                            | exact mIU_n k1.1 (by assumption) (by assumption) (by assumption)) (by omega)
                      · skip
                        have d1 := spdM_bd (fc := fc) (h := h) ht3
                        have d2 : 0 ≤ mAr fi fo h ∧ mAr fi fo h < pa := hai h (by omega) (by omega)
                        have d3 := mul_bd d1 a4
                        have d4 := mul_nn (show 0 ≤ mAr fi fo h ∧ mAr fi fo h ≤ 720 by omega) (show 0 ≤ mTu fc bu ∧ mTu fc bu ≤ 24 from t0)
                        refine v_aload_n X dX8_isTrue_138 rfl ?_
                        refine v_iload X dX8_isTrue_139 rfl ?_
                        refine res_E X (run_V X (c_X8_speed (g := g) (by first | assumption | omega) (by first | assumption | omega) (by first | assumption | omega)) gX8_isTrue_X8_speed rfl hdX8_speed ⟨(Nat.le_of_ble_eq_true rfl), (Nat.le_of_ble_eq_true rfl)⟩ ⟨(Nat.le_of_ble_eq_true rfl), (Nat.le_of_ble_eq_true rfl)⟩ 0 rfl rfl rfl [0, 1, 2, 3, 4, 5, 6, 7, 8, 9, 10] rfl rfl rfl rfl (by simp [Value.category]) dX8_isTrue_141) [0, 1, 2, 3, 4, 5, 6, 7, 8, 9, 10] rfl rfl ?_
                        refine v_iload X dX8_isTrue_144 rfl ?_
                        refine v_imul X dX8_isTrue_146 ?_
                        refine v_aload_n X dX8_isTrue_147 rfl ?_
                        refine v_get X (fun _ h => List.mem_cons_of_mem _ (List.mem_append_right _ h)) 0 rfl rfl 4 (by decide) rfl (List.mem_of_getElem? (i := 5) rfl) rfl dX8_isTrue_148 ?_
                        refine v_iload_n X dX8_isTrue_151 rfl ?_
                        refine v_iload X dX8_isTrue_152 rfl ?_
                        refine v_iadd X dX8_isTrue_154 ?_
                        refine v_iald X 3 rfl (by omega) (by omega) (by omega) dX8_isTrue_155 hfi (fun zi ezi lzi uzi => ?_)
                        rw [show zi = mAr fi fo h from ezi]
                        refine v_iload X dX8_isTrue_156 rfl ?_
                        refine v_imul X dX8_isTrue_158 ?_
                        refine v_isub X dX8_isTrue_159 ?_
                        refine v_iload X dX8_isTrue_160 rfl ?_
                        refine res_E X (run_S X (c_X8_rest (g := g) (by first | assumption | omega) (by first | assumption | omega) (by first | assumption | omega)) gX8_isTrue_X8_rest rfl hdX8_rest.2 ⟨(Nat.le_of_ble_eq_true rfl), (Nat.le_of_ble_eq_true rfl)⟩ ⟨(Nat.le_of_ble_eq_true rfl), (Nat.le_of_ble_eq_true rfl)⟩ [] rfl rfl rfl rfl (by simp [Value.category]) dX8_isTrue_162) [] rfl rfl ?_
                        rw [show restI (spdM fc h * mX fc fi fo pa bu t - mAr fi fo h * mTu fc bu) (mWh fc pa bu) = mTm fc fi fo pa bu h (mX fc fi fo pa bu t) from rfl]
                        refine v_if_ne (tgt := 172) X dX8_isTrue_165 (by decide) (by have := mTm_bd (fi := fi) (fr := fo) (h := h) (x := mX fc fi fo pa bu t) wb; omega) (fun c33 => ?_) (fun c33 => ?_)
                        · skip
                          refine v_iconst X dX8_isTrue_172 ?_
                          refine v_istore X dX8_isTrue_173 (by decide) rfl ?_
                          dsimp only [List.set]
                          refine v_iinc X dX8_isTrue_175 rfl (by decide) rfl ?_
                          dsimp only [List.set]
                          refine v_goto (tgt := 116) X dX8_isTrue_178 (by decide) ?_
                          exact ih116 _ _ _ (by rfl) (by omega) (by
                              first
                              | exact mIU_no k2 (by assumption)
                              | exact mIU_y k2 (by assumption) (Or.inl (by assumption))
                              | exact mIU_y k2 (by assumption) (Or.inr (by assumption))
                              | exact mIU_n k1.1 (by assumption) (by assumption) (by assumption)) (by omega)
                        · skip
                          refine v_iconst X dX8_isTrue_168 ?_
                          refine v_goto (tgt := 173) X dX8_isTrue_169 (by decide) ?_
                          refine v_istore X dX8_isTrue_173 (by decide) rfl ?_
                          dsimp only [List.set]
                          refine v_iinc X dX8_isTrue_175 rfl (by decide) rfl ?_
                          dsimp only [List.set]
                          refine v_goto (tgt := 116) X dX8_isTrue_178 (by decide) ?_
                          exact ih116 _ _ _ (by rfl) (by omega) (by
                              first
                              | exact mIU_no k2 (by assumption)
                              | exact mIU_y k2 (by assumption) (Or.inl (by assumption))
                              | exact mIU_y k2 (by assumption) (Or.inr (by assumption))
                              | exact mIU_n k1.1 (by assumption) (by assumption) (by assumption)) (by omega)
              exact L116 _ _ _ _ (by unfold mX; (first | rw [if_pos (by assumption)] | rw [if_neg (by omega)]) <;> rfl) (by omega) (by exact mIU_0) (Nat.lt_succ_self _)
      exact L63 _ _ _ _ _ (by omega) (by rfl) (by exact mIV_0) (Nat.lt_succ_self _)
    · skip
      refine v_aload_n X dX8_isTrue_33 rfl ?_
      refine v_iconst X dX8_isTrue_34 ?_
      refine v_put X (fun _ h => List.mem_cons_of_mem _ (List.mem_append_right _ h)) tyX8 tyX8_ok nmX8 0 rfl rfl 19 (by decide) rfl (List.mem_of_getElem? (i := 2) rfl) rfl rfl rfl (Nat.le_of_ble_eq_true rfl) dX8_isTrue_35 ?_
      dsimp only [List.set, wMod]
      refine v_iconst X dX8_isTrue_38 ?_
      refine v_zret X Y dX8_isTrue_39 (by first | decide | omega | (split <;> omega)) (u := (0, 1)) ?_ (by rfl)
      exact ⟨(pI_1 (Or.inl (by omega))).symm, by unfold mLs; rw [if_pos (by omega)], fun _ => by unfold mLo; rw [if_pos (by omega)]⟩
  refine v_iload_n X dX8_isTrue_0 rfl ?_
  refine v_if_ne (tgt := 8) X dX8_isTrue_1 (by decide) (by omega) (fun c34 => ?_) (fun c34 => ?_)
  · skip
    have e0 : (0 : Int) = basI bu := (if_neg (by assumption)).symm
    refine v_iconst X dX8_isTrue_8 ?_
    rw [e0]
    refine v_istore X dX8_isTrue_9 (by decide) rfl ?_
    dsimp only [List.set]
    exact J11
  · skip
    have e0 : (1 : Int) = basI bu := (if_pos (by assumption)).symm
    refine v_iconst X dX8_isTrue_4 ?_
    refine v_goto (tgt := 9) X dX8_isTrue_5 (by decide) ?_
    rw [e0]
    refine v_istore X dX8_isTrue_9 (by decide) rfl ?_
    dsimp only [List.set]
    exact J11

