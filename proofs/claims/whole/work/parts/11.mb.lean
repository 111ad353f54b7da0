theorem hdX0_forgetOldest : yX0_forgetOldest.cls = RX0 ∧ yX0_forgetOldest.cls ≠ "java/lang/invoke/MethodHandle" ∧ yX0_forgetOldest.cls ≠ "java/lang/invoke/VarHandle" ∧ (parseMethodDescriptor yX0_forgetOldest.desc).map (fun d => d.parameters.length) = some 0 := ⟨rfl, by decide +kernel, by decide +kernel, by decide +kernel⟩
set_option maxHeartbeats 4000000 in
set_option maxRecDepth 100000 in
theorem c_X0_forgetOldest {g : Gx} {a a1 a2 : Nat} {hs ss : Nat → Int} {ln : Int}   : CtW g yX0_forgetOldest wsX0_forgetOldest 1 60 [.ref a] (wAct g a a1 a2 hs ss ln) (wAct g a a1 a2 (cpyI hs hs 1 0 23) (cpyI ss ss 1 0 23) 23) := by
  refine m_go (cc := cX0_forgetOldest) (nL := 1) (by decide +kernel) rfl (Nat.le_of_ble_eq_true rfl) (fun x X Y hnm => ?_)
  refine v_eq (lo2 := [some (.ref a)]) rfl rfl rfl rfl ?_
  refine v_aload_n X dX0_forgetOldest_0 rfl ?_
  refine v_get X (fun _ h => List.mem_cons_of_mem _ (List.mem_append_right _ h)) 0 rfl rfl 0 (by decide) rfl (List.mem_of_getElem? (i := 1) rfl) rfl dX0_forgetOldest_1 ?_
  refine v_iconst X dX0_forgetOldest_4 ?_
  refine v_aload_n X dX0_forgetOldest_5 rfl ?_
  refine v_get X (fun _ h => List.mem_cons_of_mem _ (List.mem_append_right _ h)) 0 rfl rfl 0 (by decide) rfl (List.mem_of_getElem? (i := 1) rfl) rfl dX0_forgetOldest_6 ?_
  refine v_iconst X dX0_forgetOldest_9 ?_
  refine v_bipush X dX0_forgetOldest_10 (by decide) ?_
  refine v_copy X (List.mem_of_getElem? (i := 2) rfl) (List.mem_of_getElem? (i := 3) rfl) (List.mem_of_getElem? (i := 4) rfl) (List.mem_of_getElem? (i := 5) rfl) 1 1 rfl rfl (by omega) (by omega) (by omega) (by omega) (by omega) ⟨(Nat.le_of_ble_eq_true rfl), (Nat.le_of_ble_eq_true rfl)⟩ dX0_forgetOldest_12 ?_
  dsimp only [List.set, wAct]
  refine v_aload_n X dX0_forgetOldest_15 rfl ?_
  refine v_get X (fun _ h => List.mem_cons_of_mem _ (List.mem_append_right _ h)) 0 rfl rfl 1 (by decide) rfl (List.mem_of_getElem? (i := 6) rfl) rfl dX0_forgetOldest_16 ?_
  refine v_iconst X dX0_forgetOldest_19 ?_
  refine v_aload_n X dX0_forgetOldest_20 rfl ?_
  refine v_get X (fun _ h => List.mem_cons_of_mem _ (List.mem_append_right _ h)) 0 rfl rfl 1 (by decide) rfl (List.mem_of_getElem? (i := 6) rfl) rfl dX0_forgetOldest_21 ?_
  refine v_iconst X dX0_forgetOldest_24 ?_
  refine v_bipush X dX0_forgetOldest_25 (by decide) ?_
  refine v_copy X (List.mem_of_getElem? (i := 2) rfl) (List.mem_of_getElem? (i := 3) rfl) (List.mem_of_getElem? (i := 4) rfl) (List.mem_of_getElem? (i := 5) rfl) 2 2 rfl rfl (by omega) (by omega) (by omega) (by omega) (by omega) ⟨(Nat.le_of_ble_eq_true rfl), (Nat.le_of_ble_eq_true rfl)⟩ dX0_forgetOldest_27 ?_
  dsimp only [List.set, wAct]
  refine v_aload_n X dX0_forgetOldest_30 rfl ?_
  refine v_bipush X dX0_forgetOldest_31 (by decide) ?_
  refine v_put X (fun _ h => List.mem_cons_of_mem _ (List.mem_append_right _ h)) tyX0 tyX0_ok nmX0 0 rfl rfl 2 (by decide) rfl (List.mem_of_getElem? (i := 7) rfl) rfl rfl rfl (Nat.le_of_ble_eq_true rfl) dX0_forgetOldest_33 ?_
  dsimp only [List.set, wAct]
  exact v_vret X Y dX0_forgetOldest_36 (u := ()) trivial (by rfl)

theorem hdX0_keep : yX0_keep.cls = RX0 ∧ yX0_keep.cls ≠ "java/lang/invoke/MethodHandle" ∧ yX0_keep.cls ≠ "java/lang/invoke/VarHandle" ∧ (parseMethodDescriptor yX0_keep.desc).map (fun d => d.parameters.length) = some 2 := ⟨rfl, by decide +kernel, by decide +kernel, by decide +kernel⟩
set_option maxHeartbeats 4000000 in
set_option maxRecDepth 100000 in
theorem c_X0_keep {g : Gx} {a a1 a2 : Nat} {hs ss : Nat → Int} {ln : Int} {h v : Int} (hln : 0 ≤ ln ∧ ln ≤ 24) : CtW g yX0_keep wsX0_keep 2 80 [.ref a, .int (iI h), .int (iI v)] (wAct g a a1 a2 hs ss ln) (wAct g a a1 a2 (updI (if ln < 24 then hs else cpyI hs hs 1 0 23) (if ln < 24 then ln else 23).toNat h) (updI (if ln < 24 then ss else cpyI ss ss 1 0 23) (if ln < 24 then ln else 23).toNat v) ((if ln < 24 then ln else 23) + 1)) := by
  refine m_go (cc := cX0_keep) (nL := 3) (by decide +kernel) rfl (Nat.le_of_ble_eq_true rfl) (fun x X Y hnm => ?_)
  refine v_eq (lo2 := [some (.ref a), some (.int (iI h)), some (.int (iI v))]) rfl rfl rfl rfl ?_
  refine v_aload_n X dX0_keep_0 rfl ?_
  refine v_get X (fun _ h => List.mem_cons_of_mem _ (List.mem_append_right _ h)) 0 rfl rfl 2 (by decide) rfl (List.mem_of_getElem? (i := 1) rfl) rfl dX0_keep_1 ?_
  refine v_bipush X dX0_keep_4 (by decide) ?_
  refine v_icmp_lt (tgt := 13) X dX0_keep_6 (by decide) (by omega) (by omega) (fun c1 => ?_) (fun c1 => ?_)
  · skip
    refine v_aload_n X dX0_keep_13 rfl ?_
    refine v_get X (fun _ h => List.mem_cons_of_mem _ (List.mem_append_right _ h)) 0 rfl rfl 2 (by decide) rfl (List.mem_of_getElem? (i := 1) rfl) rfl dX0_keep_14 ?_
    refine v_if_lt (tgt := 59) X dX0_keep_17 (by decide) (by omega) (fun c2 => ?_) (fun c2 => ?_)
    · skip
      exfalso; omega
    · skip
      refine v_aload_n X dX0_keep_20 rfl ?_
      refine v_get X (fun _ h => List.mem_cons_of_mem _ (List.mem_append_right _ h)) 0 rfl rfl 2 (by decide) rfl (List.mem_of_getElem? (i := 1) rfl) rfl dX0_keep_21 ?_
      refine v_bipush X dX0_keep_24 (by decide) ?_
      refine v_icmp_ge (tgt := 59) X dX0_keep_26 (by decide) (by omega) (by omega) (fun c3 => ?_) (fun c3 => ?_)
      · skip
        exfalso; omega
      · skip
        refine v_aload_n X dX0_keep_29 rfl ?_
        refine v_get X (fun _ h => List.mem_cons_of_mem _ (List.mem_append_right _ h)) 0 rfl rfl 0 (by decide) rfl (List.mem_of_getElem? (i := 2) rfl) rfl dX0_keep_30 ?_
        refine v_aload_n X dX0_keep_33 rfl ?_
        refine v_get X (fun _ h => List.mem_cons_of_mem _ (List.mem_append_right _ h)) 0 rfl rfl 2 (by decide) rfl (List.mem_of_getElem? (i := 1) rfl) rfl dX0_keep_34 ?_
        refine v_iload_n X dX0_keep_37 rfl ?_
        refine v_iast X 1 rfl (by omega) (by omega) (by omega) dX0_keep_38 ?_
        dsimp only [List.set, wAct]
        refine v_aload_n X dX0_keep_39 rfl ?_
        refine v_get X (fun _ h => List.mem_cons_of_mem _ (List.mem_append_right _ h)) 0 rfl rfl 1 (by decide) rfl (List.mem_of_getElem? (i := 3) rfl) rfl dX0_keep_40 ?_
        refine v_aload_n X dX0_keep_43 rfl ?_
        refine v_get X (fun _ h => List.mem_cons_of_mem _ (List.mem_append_right _ h)) 0 rfl rfl 2 (by decide) rfl (List.mem_of_getElem? (i := 1) rfl) rfl dX0_keep_44 ?_
        refine v_iload_n X dX0_keep_47 rfl ?_
        refine v_iast X 2 rfl (by omega) (by omega) (by omega) dX0_keep_48 ?_
        dsimp only [List.set, wAct]
        refine v_aload_n X dX0_keep_49 rfl ?_
        refine v_dup X dX0_keep_50 rfl ?_
        refine v_get X (fun _ h => List.mem_cons_of_mem _ (List.mem_append_right _ h)) 0 rfl rfl 2 (by decide) rfl (List.mem_of_getElem? (i := 1) rfl) rfl dX0_keep_51 ?_
        refine v_iconst X dX0_keep_54 ?_
        refine v_iadd X dX0_keep_55 ?_
        refine v_put X (fun _ h => List.mem_cons_of_mem _ (List.mem_append_right _ h)) tyX0 tyX0_ok nmX0 0 rfl rfl 2 (by decide) rfl (List.mem_of_getElem? (i := 1) rfl) rfl rfl rfl (Nat.le_of_ble_eq_true rfl) dX0_keep_56 ?_
        dsimp only [List.set, wAct]
        exact v_vret X Y dX0_keep_59 (u := ()) trivial (by by_cases e : ln < 24 <;> simp only [e, if_true, if_false] <;> first | rfl | (exfalso; omega))
  · skip
    refine v_aload_n X dX0_keep_9 rfl ?_
    refine res_W X (run_V X (c_X0_forgetOldest (g := g) ) gX0_keep_X0_forgetOldest rfl hdX0_forgetOldest ⟨(Nat.le_of_ble_eq_true rfl), (Nat.le_of_ble_eq_true rfl)⟩ ⟨(Nat.le_of_ble_eq_true rfl), (Nat.le_of_ble_eq_true rfl)⟩ 0 rfl rfl rfl [0, 1, 2] rfl rfl rfl rfl (by simp [Value.category]) dX0_keep_10) [0, 1, 2] rfl rfl rfl ?_
    dsimp only [patch, List.set, wAct]
    refine v_aload_n X dX0_keep_13 rfl ?_
    refine v_get X (fun _ h => List.mem_cons_of_mem _ (List.mem_append_right _ h)) 0 rfl rfl 2 (by decide) rfl (List.mem_of_getElem? (i := 1) rfl) rfl dX0_keep_14 ?_
    refine v_if_lt (tgt := 59) X dX0_keep_17 (by decide) (by omega) (fun c4 => ?_) (fun c4 => ?_)
    · skip
      exfalso; omega
    · skip
      refine v_aload_n X dX0_keep_20 rfl ?_
      refine v_get X (fun _ h => List.mem_cons_of_mem _ (List.mem_append_right _ h)) 0 rfl rfl 2 (by decide) rfl (List.mem_of_getElem? (i := 1) rfl) rfl dX0_keep_21 ?_
      refine v_bipush X dX0_keep_24 (by decide) ?_
      refine v_icmp_ge (tgt := 59) X dX0_keep_26 (by decide) (by omega) (by omega) (fun c5 => ?_) (fun c5 => ?_)
      · skip
        exfalso; omega
      · skip
        refine v_aload_n X dX0_keep_29 rfl ?_
        refine v_get X (fun _ h => List.mem_cons_of_mem _ (List.mem_append_right _ h)) 0 rfl rfl 0 (by decide) rfl (List.mem_of_getElem? (i := 2) rfl) rfl dX0_keep_30 ?_
        refine v_aload_n X dX0_keep_33 rfl ?_
        refine v_get X (fun _ h => List.mem_cons_of_mem _ (List.mem_append_right _ h)) 0 rfl rfl 2 (by decide) rfl (List.mem_of_getElem? (i := 1) rfl) rfl dX0_keep_34 ?_
        refine v_iload_n X dX0_keep_37 rfl ?_
        refine v_iast X 1 rfl (by omega) (by omega) (by omega) dX0_keep_38 ?_
        dsimp only [List.set, wAct]
        refine v_aload_n X dX0_keep_39 rfl ?_
        refine v_get X (fun _ h => List.mem_cons_of_mem _ (List.mem_append_right _ h)) 0 rfl rfl 1 (by decide) rfl (List.mem_of_getElem? (i := 3) rfl) rfl dX0_keep_40 ?_
        refine v_aload_n X dX0_keep_43 rfl ?_
        refine v_get X (fun _ h => List.mem_cons_of_mem _ (List.mem_append_right _ h)) 0 rfl rfl 2 (by decide) rfl (List.mem_of_getElem? (i := 1) rfl) rfl dX0_keep_44 ?_
        refine v_iload_n X dX0_keep_47 rfl ?_
        refine v_iast X 2 rfl (by omega) (by omega) (by omega) dX0_keep_48 ?_
        dsimp only [List.set, wAct]
        refine v_aload_n X dX0_keep_49 rfl ?_
        refine v_dup X dX0_keep_50 rfl ?_
        refine v_get X (fun _ h => List.mem_cons_of_mem _ (List.mem_append_right _ h)) 0 rfl rfl 2 (by decide) rfl (List.mem_of_getElem? (i := 1) rfl) rfl dX0_keep_51 ?_
        refine v_iconst X dX0_keep_54 ?_
        refine v_iadd X dX0_keep_55 ?_
        refine v_put X (fun _ h => List.mem_cons_of_mem _ (List.mem_append_right _ h)) tyX0 tyX0_ok nmX0 0 rfl rfl 2 (by decide) rfl (List.mem_of_getElem? (i := 1) rfl) rfl rfl rfl (Nat.le_of_ble_eq_true rfl) dX0_keep_56 ?_
        dsimp only [List.set, wAct]
        exact v_vret X Y dX0_keep_59 (u := ()) trivial (by by_cases e : ln < 24 <;> simp only [e, if_true, if_false] <;> first | rfl | (exfalso; omega))

theorem hdX0_lastHand : yX0_lastHand.cls = RX0 ∧ yX0_lastHand.cls ≠ "java/lang/invoke/MethodHandle" ∧ yX0_lastHand.cls ≠ "java/lang/invoke/VarHandle" ∧ (parseMethodDescriptor yX0_lastHand.desc).map (fun d => d.parameters.length) = some 0 := ⟨rfl, by decide +kernel, by decide +kernel, by decide +kernel⟩
set_option maxHeartbeats 4000000 in
set_option maxRecDepth 100000 in
theorem c_X0_lastHand {g : Gx} {a a1 a2 : Nat} {hs ss : Nat → Int} {ln : Int}  (hln : 0 ≤ ln ∧ ln ≤ 24) (hh : Bd 0 59 hs) : CtE g yX0_lastHand wsX0_lastHand 1 22 [.ref a] (wAct g a a1 a2 hs ss ln) (if 1 ≤ ln then hs (ln - 1).toNat else 0) (wAct g a a1 a2 hs ss ln) := by
  refine m_go (cc := cX0_lastHand) (nL := 1) (by decide +kernel) rfl (Nat.le_of_ble_eq_true rfl) (fun x X Y hnm => ?_)
  refine v_eq (lo2 := [some (.ref a)]) rfl rfl rfl rfl ?_
  refine v_aload_n X dX0_lastHand_0 rfl ?_
  refine v_get X (fun _ h => List.mem_cons_of_mem _ (List.mem_append_right _ h)) 0 rfl rfl 2 (by decide) rfl (List.mem_of_getElem? (i := 1) rfl) rfl dX0_lastHand_1 ?_
  refine v_iconst X dX0_lastHand_4 ?_
  refine v_bipush X dX0_lastHand_5 (by decide) ?_
  refine res_E X (run_SN X (c_X7_isWithin (g := g) (by first | assumption | omega) (by first | assumption | omega) (by first | assumption | omega)) gX0_lastHand_X7_isWithin_n29 rfl (List.mem_of_getElem? (i := 9) rfl) (List.mem_of_getElem? (i := 4) rfl) (List.mem_of_getElem? (i := 3) rfl) hdX7_isWithin.2 ⟨(Nat.le_of_ble_eq_true rfl), (Nat.le_of_ble_eq_true rfl)⟩ ⟨(Nat.le_of_ble_eq_true rfl), (Nat.le_of_ble_eq_true rfl)⟩ [] rfl rfl rfl rfl (by simp [Value.category]) dX0_lastHand_7) [] rfl rfl ?_
  refine v_ifb_eq (tgt := 27) X dX0_lastHand_10 (by decide) (fun c1 => ?_) (fun c1 => ?_)
  · skip
    refine v_iconst X dX0_lastHand_27 ?_
    exact v_iret X Y dX0_lastHand_28 (u := ()) (by split <;> omega) (by rfl)
  · skip
    refine v_aload_n X dX0_lastHand_13 rfl ?_
    refine v_get X (fun _ h => List.mem_cons_of_mem _ (List.mem_append_right _ h)) 0 rfl rfl 0 (by decide) rfl (List.mem_of_getElem? (i := 2) rfl) rfl dX0_lastHand_14 ?_
    refine v_aload_n X dX0_lastHand_17 rfl ?_
    refine v_get X (fun _ h => List.mem_cons_of_mem _ (List.mem_append_right _ h)) 0 rfl rfl 2 (by decide) rfl (List.mem_of_getElem? (i := 1) rfl) rfl dX0_lastHand_18 ?_
    refine v_iconst X dX0_lastHand_21 ?_
    refine v_isub X dX0_lastHand_22 ?_
    refine v_iald X 1 rfl (by first | omega | (split <;> omega)) (by first | omega | (split <;> omega)) (by first | omega | (split <;> omega)) dX0_lastHand_23 hh (fun z2 ez2 lz2 uz2 => ?_)
    refine v_goto (tgt := 28) X dX0_lastHand_24 (by decide) ?_
    exact v_iret X Y dX0_lastHand_28 (u := ()) (by split <;> omega) (by rfl)

theorem hdX0_lastSlip : yX0_lastSlip.cls = RX0 ∧ yX0_lastSlip.cls ≠ "java/lang/invoke/MethodHandle" ∧ yX0_lastSlip.cls ≠ "java/lang/invoke/VarHandle" ∧ (parseMethodDescriptor yX0_lastSlip.desc).map (fun d => d.parameters.length) = some 0 := ⟨rfl, by decide +kernel, by decide +kernel, by decide +kernel⟩
set_option maxHeartbeats 4000000 in
set_option maxRecDepth 100000 in
theorem c_X0_lastSlip {g : Gx} {a a1 a2 : Nat} {hs ss : Nat → Int} {ln : Int}  (hln : 0 ≤ ln ∧ ln ≤ 24) (hss : Bd 0 59 ss) : CtE g yX0_lastSlip wsX0_lastSlip 1 22 [.ref a] (wAct g a a1 a2 hs ss ln) (if 1 ≤ ln then ss (ln - 1).toNat else 0) (wAct g a a1 a2 hs ss ln) := by
  refine m_go (cc := cX0_lastSlip) (nL := 1) (by decide +kernel) rfl (Nat.le_of_ble_eq_true rfl) (fun x X Y hnm => ?_)
  refine v_eq (lo2 := [some (.ref a)]) rfl rfl rfl rfl ?_
  refine v_aload_n X dX0_lastSlip_0 rfl ?_
  refine v_get X (fun _ h => List.mem_cons_of_mem _ (List.mem_append_right _ h)) 0 rfl rfl 2 (by decide) rfl (List.mem_of_getElem? (i := 1) rfl) rfl dX0_lastSlip_1 ?_
  refine v_iconst X dX0_lastSlip_4 ?_
  refine v_bipush X dX0_lastSlip_5 (by decide) ?_
  refine res_E X (run_SN X (c_X7_isWithin (g := g) (by first | assumption | omega) (by first | assumption | omega) (by first | assumption | omega)) gX0_lastSlip_X7_isWithin_n29 rfl (List.mem_of_getElem? (i := 9) rfl) (List.mem_of_getElem? (i := 4) rfl) (List.mem_of_getElem? (i := 3) rfl) hdX7_isWithin.2 ⟨(Nat.le_of_ble_eq_true rfl), (Nat.le_of_ble_eq_true rfl)⟩ ⟨(Nat.le_of_ble_eq_true rfl), (Nat.le_of_ble_eq_true rfl)⟩ [] rfl rfl rfl rfl (by simp [Value.category]) dX0_lastSlip_7) [] rfl rfl ?_
  refine v_ifb_eq (tgt := 27) X dX0_lastSlip_10 (by decide) (fun c1 => ?_) (fun c1 => ?_)
  · skip
    refine v_iconst X dX0_lastSlip_27 ?_
    exact v_iret X Y dX0_lastSlip_28 (u := ()) (by split <;> omega) (by rfl)
  · skip
    refine v_aload_n X dX0_lastSlip_13 rfl ?_
    refine v_get X (fun _ h => List.mem_cons_of_mem _ (List.mem_append_right _ h)) 0 rfl rfl 1 (by decide) rfl (List.mem_of_getElem? (i := 2) rfl) rfl dX0_lastSlip_14 ?_
    refine v_aload_n X dX0_lastSlip_17 rfl ?_
    refine v_get X (fun _ h => List.mem_cons_of_mem _ (List.mem_append_right _ h)) 0 rfl rfl 2 (by decide) rfl (List.mem_of_getElem? (i := 1) rfl) rfl dX0_lastSlip_18 ?_
    refine v_iconst X dX0_lastSlip_21 ?_
    refine v_isub X dX0_lastSlip_22 ?_
    refine v_iald X 2 rfl (by first | omega | (split <;> omega)) (by first | omega | (split <;> omega)) (by first | omega | (split <;> omega)) dX0_lastSlip_23 hss (fun z2 ez2 lz2 uz2 => ?_)
    refine v_goto (tgt := 28) X dX0_lastSlip_24 (by decide) ?_
    exact v_iret X Y dX0_lastSlip_28 (u := ()) (by split <;> omega) (by rfl)

theorem hdX1_leave : yX1_leave.cls = RX1 ∧ yX1_leave.cls ≠ "java/lang/invoke/MethodHandle" ∧ yX1_leave.cls ≠ "java/lang/invoke/VarHandle" ∧ (parseMethodDescriptor yX1_leave.desc).map (fun d => d.parameters.length) = some 1 := ⟨rfl, by decide +kernel, by decide +kernel, by decide +kernel⟩
set_option maxHeartbeats 4000000 in
set_option maxRecDepth 100000 in
theorem c_X1_leave {g : Gx} {a a1 : Nat} {t : TS} {b : Int} (ht : 0 ≤ t.2 ∧ t.2 ≤ 16) : CtW g yX1_leave wsX1_leave 0 0 [.ref a, .int (iI b)] (wAsk g a a1 t.1 t.2) (wAsk g a a1 (lvT t b).1 (lvT t b).2) := by
  refine m_go (cc := cX1_leave) (nL := 2) (by decide +kernel) rfl (Nat.le_of_ble_eq_true rfl) (fun x X Y hnm => ?_)
  refine v_eq (lo2 := [some (.ref a), some (.int (iI b))]) rfl rfl rfl rfl ?_
  refine v_aload_n X dX1_leave_0 rfl ?_
  refine v_get X (fun _ h => List.mem_cons_of_mem _ (List.mem_append_right _ h)) 0 rfl rfl 1 (by decide) rfl (List.mem_of_getElem? (i := 1) rfl) rfl dX1_leave_1 ?_
  refine v_if_lt (tgt := 36) X dX1_leave_4 (by decide) (by omega) (fun c1 => ?_) (fun c1 => ?_)
  · skip
    exfalso; omega
  · skip
    refine v_aload_n X dX1_leave_7 rfl ?_
    refine v_get X (fun _ h => List.mem_cons_of_mem _ (List.mem_append_right _ h)) 0 rfl rfl 1 (by decide) rfl (List.mem_of_getElem? (i := 1) rfl) rfl dX1_leave_8 ?_
    refine v_bipush X dX1_leave_11 (by decide) ?_
    refine v_icmp_ge (tgt := 36) X dX1_leave_13 (by decide) (by omega) (by omega) (fun c2 => ?_) (fun c2 => ?_)
    · skip
      exact v_vret X Y dX1_leave_36 (u := ()) trivial (by unfold lvT; (first | rw [if_pos (by omega)] | rw [if_neg (by omega)]) <;> rfl)
    · skip
      refine v_aload_n X dX1_leave_16 rfl ?_
      refine v_get X (fun _ h => List.mem_cons_of_mem _ (List.mem_append_right _ h)) 0 rfl rfl 0 (by decide) rfl (List.mem_of_getElem? (i := 2) rfl) rfl dX1_leave_17 ?_
      refine v_aload_n X dX1_leave_20 rfl ?_
      refine v_get X (fun _ h => List.mem_cons_of_mem _ (List.mem_append_right _ h)) 0 rfl rfl 1 (by decide) rfl (List.mem_of_getElem? (i := 1) rfl) rfl dX1_leave_21 ?_
      refine v_iload_n X dX1_leave_24 rfl ?_
      refine v_iast X 1 rfl (by omega) (by omega) (by omega) dX1_leave_25 ?_
      dsimp only [List.set, wAsk]
      refine v_aload_n X dX1_leave_26 rfl ?_
      refine v_dup X dX1_leave_27 rfl ?_
      refine v_get X (fun _ h => List.mem_cons_of_mem _ (List.mem_append_right _ h)) 0 rfl rfl 1 (by decide) rfl (List.mem_of_getElem? (i := 1) rfl) rfl dX1_leave_28 ?_
      refine v_iconst X dX1_leave_31 ?_
      refine v_iadd X dX1_leave_32 ?_
      refine v_put X (fun _ h => List.mem_cons_of_mem _ (List.mem_append_right _ h)) tyX1 tyX1_ok nmX1 0 rfl rfl 1 (by decide) rfl (List.mem_of_getElem? (i := 1) rfl) rfl rfl rfl (Nat.le_of_ble_eq_true rfl) dX1_leave_33 ?_
      dsimp only [List.set, wAsk]
      exact v_vret X Y dX1_leave_36 (u := ()) trivial (by unfold lvT; (first | rw [if_pos (by omega)] | rw [if_neg (by omega)]) <;> rfl)

theorem hdX1_numberAt : yX1_numberAt.cls = RX1 ∧ yX1_numberAt.cls ≠ "java/lang/invoke/MethodHandle" ∧ yX1_numberAt.cls ≠ "java/lang/invoke/VarHandle" ∧ (parseMethodDescriptor yX1_numberAt.desc).map (fun d => d.parameters.length) = some 1 := ⟨rfl, by decide +kernel, by decide +kernel, by decide +kernel⟩
set_option maxHeartbeats 4000000 in
set_option maxRecDepth 100000 in
theorem c_X1_numberAt {g : Gx} {a a1 : Nat} {t : TS} {i : Int} (ht : 0 ≤ t.2 ∧ t.2 ≤ 16) (hbo : Bd 0 24 t.1) (hi : R32 i) : CtE g yX1_numberAt wsX1_numberAt 0 0 [.ref a, .int (iI i)] (wAsk g a a1 t.1 t.2) (if 0 ≤ i ∧ i < t.2 then t.1 i.toNat else -1000000) (wAsk g a a1 t.1 t.2) := by
  refine m_go (cc := cX1_numberAt) (nL := 2) (by decide +kernel) rfl (Nat.le_of_ble_eq_true rfl) (fun x X Y hnm => ?_)
  refine v_eq (lo2 := [some (.ref a), some (.int (iI i))]) rfl rfl rfl rfl ?_
  refine v_iload_n X dX1_numberAt_0 rfl ?_
  refine v_if_lt (tgt := 27) X dX1_numberAt_1 (by decide) (by omega) (fun c1 => ?_) (fun c1 => ?_)
  · skip
    refine v_ldc X (List.mem_of_getElem? (i := 3) rfl) dX1_numberAt_27 (n := -1000000) (by decide) ?_
    exact v_iret X Y dX1_numberAt_29 (u := ()) (by first | rfl | omega | (split <;> omega) | (simp [*]; done)) (by rfl)
  · skip
    refine v_iload_n X dX1_numberAt_4 rfl ?_
    refine v_aload_n X dX1_numberAt_5 rfl ?_
    refine v_get X (fun _ h => List.mem_cons_of_mem _ (List.mem_append_right _ h)) 0 rfl rfl 1 (by decide) rfl (List.mem_of_getElem? (i := 1) rfl) rfl dX1_numberAt_6 ?_
    refine v_icmp_ge (tgt := 27) X dX1_numberAt_9 (by decide) (by omega) (by omega) (fun c2 => ?_) (fun c2 => ?_)
    · skip
      refine v_ldc X (List.mem_of_getElem? (i := 3) rfl) dX1_numberAt_27 (n := -1000000) (by decide) ?_
      exact v_iret X Y dX1_numberAt_29 (u := ()) (by first | rfl | omega | (split <;> omega) | (simp [*]; done)) (by rfl)
    · skip
      refine v_iload_n X dX1_numberAt_12 rfl ?_
      refine v_bipush X dX1_numberAt_13 (by decide) ?_
      refine v_icmp_ge (tgt := 27) X dX1_numberAt_15 (by decide) (by omega) (by omega) (fun c3 => ?_) (fun c3 => ?_)
      · skip
        refine v_ldc X (List.mem_of_getElem? (i := 3) rfl) dX1_numberAt_27 (n := -1000000) (by decide) ?_
        exact v_iret X Y dX1_numberAt_29 (u := ()) (by first | rfl | omega | (split <;> omega) | (simp [*]; done)) (by rfl)
      · skip
        refine v_aload_n X dX1_numberAt_18 rfl ?_
        refine v_get X (fun _ h => List.mem_cons_of_mem _ (List.mem_append_right _ h)) 0 rfl rfl 0 (by decide) rfl (List.mem_of_getElem? (i := 2) rfl) rfl dX1_numberAt_19 ?_
        refine v_iload_n X dX1_numberAt_22 rfl ?_
        refine v_iald X 1 rfl (by omega) (by omega) (by omega) dX1_numberAt_23 hbo (fun z4 ez4 lz4 uz4 => ?_)
        refine v_goto (tgt := 29) X dX1_numberAt_24 (by decide) ?_
        exact v_iret X Y dX1_numberAt_29 (u := ()) (by first | rfl | omega | (split <;> omega) | (simp [*]; done)) (by rfl)

theorem hdX1_lentSize : yX1_lentSize.cls = RX1 ∧ yX1_lentSize.cls ≠ "java/lang/invoke/MethodHandle" ∧ yX1_lentSize.cls ≠ "java/lang/invoke/VarHandle" ∧ (parseMethodDescriptor yX1_lentSize.desc).map (fun d => d.parameters.length) = some 2 := ⟨rfl, by decide +kernel, by decide +kernel, by decide +kernel⟩
set_option maxHeartbeats 4000000 in
set_option maxRecDepth 100000 in
theorem c_X1_lentSize {g : Gx} {a a1 : Nat} {t : TS} {b b1 b2 b3 : Nat} {mk cn : Int} {so tu sp : Nat → Int} {h : Int} (ht : 0 ≤ t.2 ∧ t.2 ≤ 16) (hcn : 0 ≤ cn ∧ cn ≤ 4) (htu : Bd 0 12 tu) (hh : R32 h) : CtE g yX1_lentSize wsX1_lentSize 2 42 [.ref a, .ref b, .int (iI h)] (wAsk g a a1 t.1 t.2 ++ wClk g b b1 b2 b3 mk cn so tu sp) (atI cn tu h) (wAsk g a a1 (lvT t 10).1 (lvT t 10).2 ++ wClk g b b1 b2 b3 mk cn so tu sp) := by
  refine m_go (cc := cX1_lentSize) (nL := 3) (by decide +kernel) rfl (Nat.le_of_ble_eq_true rfl) (fun x X Y hnm => ?_)
  refine v_eq (lo2 := [some (.ref a), some (.ref b), some (.int (iI h))]) rfl rfl rfl rfl ?_
  refine v_aload_n X dX1_lentSize_0 rfl ?_
  refine v_bipush X dX1_lentSize_1 (by decide) ?_
  refine res_W X (run_V X (c_X1_leave (g := g) (by first | assumption | (apply lvT_bd; assumption) | (apply lvT_bd; apply lvT_bd; assumption) | (apply lvT_bd; apply lvT_bd; apply lvT_bd; assumption))) gX1_lentSize_X1_leave rfl hdX1_leave ⟨(Nat.le_of_ble_eq_true rfl), (Nat.le_of_ble_eq_true rfl)⟩ ⟨(Nat.le_of_ble_eq_true rfl), (Nat.le_of_ble_eq_true rfl)⟩ 0 rfl rfl rfl [0, 1] rfl rfl rfl rfl (by simp [Value.category]) dX1_lentSize_3) [0, 1] rfl rfl rfl ?_
  dsimp only [patch, List.set, List.cons_append, List.nil_append, wAsk, wClk]
  refine v_aload_n X dX1_lentSize_6 rfl ?_
  refine v_iload_n X dX1_lentSize_7 rfl ?_
  refine res_E X (run_V X (c_X2_turnsOf (g := g) (by first | assumption | omega) (by first | assumption | omega) (by first | assumption | omega)) gX1_lentSize_X2_turnsOf rfl hdX2_turnsOf ⟨(Nat.le_of_ble_eq_true rfl), (Nat.le_of_ble_eq_true rfl)⟩ ⟨(Nat.le_of_ble_eq_true rfl), (Nat.le_of_ble_eq_true rfl)⟩ 2 rfl rfl rfl [2, 3, 4, 5] rfl rfl rfl rfl (by simp [Value.category]) dX1_lentSize_8) [2, 3, 4, 5] rfl rfl ?_
  exact v_iret X Y dX1_lentSize_11 (u := ()) (by first | rfl | omega | (split <;> omega) | (simp [*]; done)) (by rfl)

theorem hdX1_lentMark : yX1_lentMark.cls = RX1 ∧ yX1_lentMark.cls ≠ "java/lang/invoke/MethodHandle" ∧ yX1_lentMark.cls ≠ "java/lang/invoke/VarHandle" ∧ (parseMethodDescriptor yX1_lentMark.desc).map (fun d => d.parameters.length) = some 1 := ⟨rfl, by decide +kernel, by decide +kernel, by decide +kernel⟩
set_option maxHeartbeats 4000000 in
set_option maxRecDepth 100000 in
theorem c_X1_lentMark {g : Gx} {a a1 : Nat} {t : TS} {h : Int} (ht : 0 ≤ t.2 ∧ t.2 ≤ 16) : CtE g yX1_lentMark wsX1_lentMark 1 21 [.ref a, .int (iI h)] (wAsk g a a1 t.1 t.2) (h) (wAsk g a a1 (lvT t 20).1 (lvT t 20).2) := by
  refine m_go (cc := cX1_lentMark) (nL := 2) (by decide +kernel) rfl (Nat.le_of_ble_eq_true rfl) (fun x X Y hnm => ?_)
  refine v_eq (lo2 := [some (.ref a), some (.int (iI h))]) rfl rfl rfl rfl ?_
  refine v_aload_n X dX1_lentMark_0 rfl ?_
  refine v_bipush X dX1_lentMark_1 (by decide) ?_
  refine res_W X (run_V X (c_X1_leave (g := g) (by first | assumption | (apply lvT_bd; assumption) | (apply lvT_bd; apply lvT_bd; assumption) | (apply lvT_bd; apply lvT_bd; apply lvT_bd; assumption))) gX1_lentMark_X1_leave rfl hdX1_leave ⟨(Nat.le_of_ble_eq_true rfl), (Nat.le_of_ble_eq_true rfl)⟩ ⟨(Nat.le_of_ble_eq_true rfl), (Nat.le_of_ble_eq_true rfl)⟩ 0 rfl rfl rfl [0, 1] rfl rfl rfl rfl (by simp [Value.category]) dX1_lentMark_3) [0, 1] rfl rfl rfl ?_
  dsimp only [patch, List.set, wAsk]
  refine v_iload_n X dX1_lentMark_6 rfl ?_
  exact v_iret X Y dX1_lentMark_7 (u := ()) (by first | rfl | omega | (split <;> omega) | (simp [*]; done)) (by rfl)

theorem hdX1_hourMark : yX1_hourMark.cls = RX1 ∧ yX1_hourMark.cls ≠ "java/lang/invoke/MethodHandle" ∧ yX1_hourMark.cls ≠ "java/lang/invoke/VarHandle" ∧ (parseMethodDescriptor yX1_hourMark.desc).map (fun d => d.parameters.length) = some 2 := ⟨rfl, by decide +kernel, by decide +kernel, by decide +kernel⟩
set_option maxHeartbeats 4000000 in
set_option maxRecDepth 100000 in
theorem c_X1_hourMark {g : Gx} {a a1 : Nat} {t : TS} {b b1 b2 b3 : Nat} {mk cn : Int} {so tu sp : Nat → Int} {h : Int} (ht : 0 ≤ t.2 ∧ t.2 ≤ 16) (hcn : 0 ≤ cn ∧ cn ≤ 4) (hsp : Bd 0 59 sp) (hh : R32 h) : CtE g yX1_hourMark wsX1_hourMark 2 42 [.ref a, .ref b, .int (iI h)] (wAsk g a a1 t.1 t.2 ++ wClk g b b1 b2 b3 mk cn so tu sp) (h + atI cn sp h) (wAsk g a a1 (lvT (lvT t 21) 20).1 (lvT (lvT t 21) 20).2 ++ wClk g b b1 b2 b3 mk cn so tu sp) := by
  refine m_go (cc := cX1_hourMark) (nL := 3) (by decide +kernel) rfl (Nat.le_of_ble_eq_true rfl) (fun x X Y hnm => ?_)
  refine v_eq (lo2 := [some (.ref a), some (.ref b), some (.int (iI h))]) rfl rfl rfl rfl ?_
  refine v_aload_n X dX1_hourMark_0 rfl ?_
  refine v_bipush X dX1_hourMark_1 (by decide) ?_
  refine res_W X (run_V X (c_X1_leave (g := g) (by first | assumption | (apply lvT_bd; assumption) | (apply lvT_bd; apply lvT_bd; assumption) | (apply lvT_bd; apply lvT_bd; apply lvT_bd; assumption))) gX1_hourMark_X1_leave rfl hdX1_leave ⟨(Nat.le_of_ble_eq_true rfl), (Nat.le_of_ble_eq_true rfl)⟩ ⟨(Nat.le_of_ble_eq_true rfl), (Nat.le_of_ble_eq_true rfl)⟩ 0 rfl rfl rfl [0, 1] rfl rfl rfl rfl (by simp [Value.category]) dX1_hourMark_3) [0, 1] rfl rfl rfl ?_
  dsimp only [patch, List.set, List.cons_append, List.nil_append, wAsk, wClk]
  refine v_aload_n X dX1_hourMark_6 rfl ?_
  refine v_iload_n X dX1_hourMark_7 rfl ?_
  refine res_F X (run_V X (c_X1_lentMark (g := g) (by first | assumption | (apply lvT_bd; assumption) | (apply lvT_bd; apply lvT_bd; assumption) | (apply lvT_bd; apply lvT_bd; apply lvT_bd; assumption))) gX1_hourMark_X1_lentMark rfl hdX1_lentMark ⟨(Nat.le_of_ble_eq_true rfl), (Nat.le_of_ble_eq_true rfl)⟩ ⟨(Nat.le_of_ble_eq_true rfl), (Nat.le_of_ble_eq_true rfl)⟩ 0 rfl rfl rfl [0, 1] rfl rfl rfl rfl (by simp [Value.category]) dX1_hourMark_8) [0, 1] rfl rfl rfl ?_
  dsimp only [patch, List.set, List.cons_append, List.nil_append, wAsk, wClk]
  refine v_aload_n X dX1_hourMark_11 rfl ?_
  refine v_iload_n X dX1_hourMark_12 rfl ?_
  refine res_E X (run_V X (c_X2_slipOf (g := g) (by first | assumption | omega) (by first | assumption | omega) (by first | assumption | omega)) gX1_hourMark_X2_slipOf rfl hdX2_slipOf ⟨(Nat.le_of_ble_eq_true rfl), (Nat.le_of_ble_eq_true rfl)⟩ ⟨(Nat.le_of_ble_eq_true rfl), (Nat.le_of_ble_eq_true rfl)⟩ 2 rfl rfl rfl [2, 3, 4, 5] rfl rfl rfl rfl (by simp [Value.category]) dX1_hourMark_13) [2, 3, 4, 5] rfl rfl ?_
  refine v_iadd X dX1_hourMark_16 ?_
  exact v_iret X Y dX1_hourMark_17 (u := ()) (by first | rfl | omega | (split <;> omega) | (simp [*]; done)) (by rfl)

theorem hdX1_markOfHours : yX1_markOfHours.cls = RX1 ∧ yX1_markOfHours.cls ≠ "java/lang/invoke/MethodHandle" ∧ yX1_markOfHours.cls ≠ "java/lang/invoke/VarHandle" ∧ (parseMethodDescriptor yX1_markOfHours.desc).map (fun d => d.parameters.length) = some 2 := ⟨rfl, by decide +kernel, by decide +kernel, by decide +kernel⟩
set_option maxHeartbeats 4000000 in
set_option maxRecDepth 100000 in
theorem c_X1_markOfHours {g : Gx} {a a1 : Nat} {t : TS} {b b1 b2 b3 : Nat} {mk cn : Int} {so tu sp : Nat → Int} {h : Int} (ht : 0 ≤ t.2 ∧ t.2 ≤ 16) (hcn : 0 ≤ cn ∧ cn ≤ 4) (hso : Bd 0 5 so) (hsp : Bd 0 59 sp) (hh : R32 h) : CtE g yX1_markOfHours wsX1_markOfHours 3 64 [.ref a, .ref b, .int (iI h)] (wAsk g a a1 t.1 t.2 ++ wClk g b b1 b2 b3 mk cn so tu sp) (hMk cn so sp h) (wAsk g a a1 (hMkT cn so h t).1 (hMkT cn so h t).2 ++ wClk g b b1 b2 b3 mk cn so tu sp) := by
  refine m_go (cc := cX1_markOfHours) (nL := 4) (by decide +kernel) rfl (Nat.le_of_ble_eq_true rfl) (fun x X Y hnm => ?_)
  refine v_eq (lo2 := [some (.ref a), some (.ref b), some (.int (iI h)), none]) rfl rfl rfl rfl ?_
  have q1 := atI_bd (cn := cn) (h := h) hso (by omega) (by omega)
  refine v_aload_n X dX1_markOfHours_0 rfl ?_
  refine v_iload_n X dX1_markOfHours_1 rfl ?_
  refine res_E X (run_V X (c_X2_sortOf (g := g) (by first | assumption | omega) (by first | assumption | omega) (by first | assumption | omega)) gX1_markOfHours_X2_sortOf rfl hdX2_sortOf ⟨(Nat.le_of_ble_eq_true rfl), (Nat.le_of_ble_eq_true rfl)⟩ ⟨(Nat.le_of_ble_eq_true rfl), (Nat.le_of_ble_eq_true rfl)⟩ 2 rfl rfl rfl [2, 3, 4, 5] rfl rfl rfl rfl (by simp [Value.category]) dX1_markOfHours_2) [2, 3, 4, 5] rfl rfl ?_
  refine v_istore_n X dX1_markOfHours_5 3 rfl (by decide) rfl ?_
  dsimp only [List.set]
  refine v_iload_n X dX1_markOfHours_6 rfl ?_
  refine v_iconst X dX1_markOfHours_7 ?_
  refine v_icmp_ne (tgt := 28) X dX1_markOfHours_8 (by decide) (by omega) (by omega) (fun c1 => ?_) (fun c1 => ?_)
  · skip
    refine v_iload_n X dX1_markOfHours_28 rfl ?_
    refine v_iconst X dX1_markOfHours_29 ?_
    refine v_icmp_ne (tgt := 48) X dX1_markOfHours_30 (by decide) (by omega) (by omega) (fun c2 => ?_) (fun c2 => ?_)
    · skip
      refine v_aload_n X dX1_markOfHours_48 rfl ?_
      refine v_aload_n X dX1_markOfHours_49 rfl ?_
      refine v_iload_n X dX1_markOfHours_50 rfl ?_
      refine res_F X (run_V X (c_X1_hourMark (g := g) (by first | assumption | (apply lvT_bd; assumption) | (apply lvT_bd; apply lvT_bd; assumption) | (apply lvT_bd; apply lvT_bd; apply lvT_bd; assumption)) (by first | assumption | omega) (by first | assumption | omega) (by first | assumption | omega)) gX1_markOfHours_X1_hourMark rfl hdX1_hourMark ⟨(Nat.le_of_ble_eq_true rfl), (Nat.le_of_ble_eq_true rfl)⟩ ⟨(Nat.le_of_ble_eq_true rfl), (Nat.le_of_ble_eq_true rfl)⟩ 0 rfl rfl rfl [0, 1, 2, 3, 4, 5] rfl rfl rfl rfl (by simp [Value.category]) dX1_markOfHours_51) [0, 1, 2, 3, 4, 5] rfl rfl rfl ?_
      dsimp only [patch, List.set, List.cons_append, List.nil_append, wAsk, wClk]
      exact v_iret X Y dX1_markOfHours_54 (u := ()) (by unfold hMk; first | rfl | (rw [if_pos (by omega)]) | (rw [if_neg (by omega), if_pos (by omega)]) | (rw [if_neg (by omega), if_neg (by omega)]) | (rw [if_neg (by omega)])) (by (unfold hMkT; first | rfl | (rw [if_pos (by omega)]) | (rw [if_neg (by omega), if_pos (by omega)]) | (rw [if_neg (by omega), if_neg (by omega)]) | (rw [if_neg (by omega)])) <;> rfl)
    · skip
      refine v_aload_n X dX1_markOfHours_33 rfl ?_
      refine v_bipush X dX1_markOfHours_34 (by decide) ?_
      refine res_W X (run_V X (c_X1_leave (g := g) (by first | assumption | (apply lvT_bd; assumption) | (apply lvT_bd; apply lvT_bd; assumption) | (apply lvT_bd; apply lvT_bd; apply lvT_bd; assumption))) gX1_markOfHours_X1_leave rfl hdX1_leave ⟨(Nat.le_of_ble_eq_true rfl), (Nat.le_of_ble_eq_true rfl)⟩ ⟨(Nat.le_of_ble_eq_true rfl), (Nat.le_of_ble_eq_true rfl)⟩ 0 rfl rfl rfl [0, 1] rfl rfl rfl rfl (by simp [Value.category]) dX1_markOfHours_36) [0, 1] rfl rfl rfl ?_
      dsimp only [patch, List.set, List.cons_append, List.nil_append, wAsk, wClk]
      refine v_iconst X dX1_markOfHours_39 ?_
      refine v_aload_n X dX1_markOfHours_40 rfl ?_
      refine v_aload_n X dX1_markOfHours_41 rfl ?_
      refine v_iload_n X dX1_markOfHours_42 rfl ?_
      refine res_F X (run_V X (c_X1_hourMark (g := g) (by first | assumption | (apply lvT_bd; assumption) | (apply lvT_bd; apply lvT_bd; assumption) | (apply lvT_bd; apply lvT_bd; apply lvT_bd; assumption)) (by first | assumption | omega) (by first | assumption | omega) (by first | assumption | omega)) gX1_markOfHours_X1_hourMark rfl hdX1_hourMark ⟨(Nat.le_of_ble_eq_true rfl), (Nat.le_of_ble_eq_true rfl)⟩ ⟨(Nat.le_of_ble_eq_true rfl), (Nat.le_of_ble_eq_true rfl)⟩ 0 rfl rfl rfl [0, 1, 2, 3, 4, 5] rfl rfl rfl rfl (by simp [Value.category]) dX1_markOfHours_43) [0, 1, 2, 3, 4, 5] rfl rfl rfl ?_
      dsimp only [patch, List.set, List.cons_append, List.nil_append, wAsk, wClk]
      refine v_imul X dX1_markOfHours_46 ?_
      exact v_iret X Y dX1_markOfHours_47 (u := ()) (by unfold hMk; first | rfl | (rw [if_pos (by omega)]) | (rw [if_neg (by omega), if_pos (by omega)]) | (rw [if_neg (by omega), if_neg (by omega)]) | (rw [if_neg (by omega)])) (by (unfold hMkT; first | rfl | (rw [if_pos (by omega)]) | (rw [if_neg (by omega), if_pos (by omega)]) | (rw [if_neg (by omega), if_neg (by omega)]) | (rw [if_neg (by omega)])) <;> rfl)
  · skip
    refine v_aload_n X dX1_markOfHours_11 rfl ?_
    refine v_bipush X dX1_markOfHours_12 (by decide) ?_
    refine res_W X (run_V X (c_X1_leave (g := g) (by first | assumption | (apply lvT_bd; assumption) | (apply lvT_bd; apply lvT_bd; assumption) | (apply lvT_bd; apply lvT_bd; apply lvT_bd; assumption))) gX1_markOfHours_X1_leave rfl hdX1_leave ⟨(Nat.le_of_ble_eq_true rfl), (Nat.le_of_ble_eq_true rfl)⟩ ⟨(Nat.le_of_ble_eq_true rfl), (Nat.le_of_ble_eq_true rfl)⟩ 0 rfl rfl rfl [0, 1] rfl rfl rfl rfl (by simp [Value.category]) dX1_markOfHours_14) [0, 1] rfl rfl rfl ?_
    dsimp only [patch, List.set, List.cons_append, List.nil_append, wAsk, wClk]
    refine v_aload_n X dX1_markOfHours_17 rfl ?_
    refine v_aload_n X dX1_markOfHours_18 rfl ?_
    refine v_iload_n X dX1_markOfHours_19 rfl ?_
    refine res_F X (run_V X (c_X1_hourMark (g := g) (by first | assumption | (apply lvT_bd; assumption) | (apply lvT_bd; apply lvT_bd; assumption) | (apply lvT_bd; apply lvT_bd; apply lvT_bd; assumption)) (by first | assumption | omega) (by first | assumption | omega) (by first | assumption | omega)) gX1_markOfHours_X1_hourMark rfl hdX1_hourMark ⟨(Nat.le_of_ble_eq_true rfl), (Nat.le_of_ble_eq_true rfl)⟩ ⟨(Nat.le_of_ble_eq_true rfl), (Nat.le_of_ble_eq_true rfl)⟩ 0 rfl rfl rfl [0, 1, 2, 3, 4, 5] rfl rfl rfl rfl (by simp [Value.category]) dX1_markOfHours_20) [0, 1, 2, 3, 4, 5] rfl rfl rfl ?_
    dsimp only [patch, List.set, List.cons_append, List.nil_append, wAsk, wClk]
    refine v_sipush X dX1_markOfHours_23 (by decide) ?_
    refine v_isub X dX1_markOfHours_26 ?_
    exact v_iret X Y dX1_markOfHours_27 (u := ()) (by unfold hMk; first | rfl | (rw [if_pos (by omega)]) | (rw [if_neg (by omega), if_pos (by omega)]) | (rw [if_neg (by omega), if_neg (by omega)]) | (rw [if_neg (by omega)])) (by (unfold hMkT; first | rfl | (rw [if_pos (by omega)]) | (rw [if_neg (by omega), if_pos (by omega)]) | (rw [if_neg (by omega), if_neg (by omega)]) | (rw [if_neg (by omega)])) <;> rfl)

theorem hdX1_hourSize : yX1_hourSize.cls = RX1 ∧ yX1_hourSize.cls ≠ "java/lang/invoke/MethodHandle" ∧ yX1_hourSize.cls ≠ "java/lang/invoke/VarHandle" ∧ (parseMethodDescriptor yX1_hourSize.desc).map (fun d => d.parameters.length) = some 2 := ⟨rfl, by decide +kernel, by decide +kernel, by decide +kernel⟩
set_option maxHeartbeats 4000000 in
set_option maxRecDepth 100000 in
theorem c_X1_hourSize {g : Gx} {a a1 : Nat} {t : TS} {b b1 b2 b3 : Nat} {mk cn : Int} {so tu sp : Nat → Int} {h : Int} (ht : 0 ≤ t.2 ∧ t.2 ≤ 16) (hcn : 0 ≤ cn ∧ cn ≤ 4) (hso : Bd 0 5 so) (htu : Bd 0 12 tu) (hsp : Bd 0 59 sp) (hh : R32 h) : CtE g yX1_hourSize wsX1_hourSize 4 87 [.ref a, .ref b, .int (iI h)] (wAsk g a a1 t.1 t.2 ++ wClk g b b1 b2 b3 mk cn so tu sp) (atI cn tu h + hMk cn so sp h) (wAsk g a a1 (hMkT cn so h (lvT (lvT t 11) 10)).1 (hMkT cn so h (lvT (lvT t 11) 10)).2 ++ wClk g b b1 b2 b3 mk cn so tu sp) := by
  refine m_go (cc := cX1_hourSize) (nL := 4) (by decide +kernel) rfl (Nat.le_of_ble_eq_true rfl) (fun x X Y hnm => ?_)
  refine v_eq (lo2 := [some (.ref a), some (.ref b), some (.int (iI h)), none]) rfl rfl rfl rfl ?_
  refine v_aload_n X dX1_hourSize_0 rfl ?_
  refine v_bipush X dX1_hourSize_1 (by decide) ?_
  refine res_W X (run_V X (c_X1_leave (g := g) (by first | assumption | (apply lvT_bd; assumption) | (apply lvT_bd; apply lvT_bd; assumption) | (apply lvT_bd; apply lvT_bd; apply lvT_bd; assumption))) gX1_hourSize_X1_leave rfl hdX1_leave ⟨(Nat.le_of_ble_eq_true rfl), (Nat.le_of_ble_eq_true rfl)⟩ ⟨(Nat.le_of_ble_eq_true rfl), (Nat.le_of_ble_eq_true rfl)⟩ 0 rfl rfl rfl [0, 1] rfl rfl rfl rfl (by simp [Value.category]) dX1_hourSize_3) [0, 1] rfl rfl rfl ?_
  dsimp only [patch, List.set, List.cons_append, List.nil_append, wAsk, wClk]
  refine v_aload_n X dX1_hourSize_6 rfl ?_
  refine v_aload_n X dX1_hourSize_7 rfl ?_
  refine v_iload_n X dX1_hourSize_8 rfl ?_
  refine res_F X (run_V X (c_X1_lentSize (g := g) (by first | assumption | (apply lvT_bd; assumption) | (apply lvT_bd; apply lvT_bd; assumption) | (apply lvT_bd; apply lvT_bd; apply lvT_bd; assumption)) (by first | assumption | omega) (by first | assumption | omega) (by first | assumption | omega)) gX1_hourSize_X1_lentSize rfl hdX1_lentSize ⟨(Nat.le_of_ble_eq_true rfl), (Nat.le_of_ble_eq_true rfl)⟩ ⟨(Nat.le_of_ble_eq_true rfl), (Nat.le_of_ble_eq_true rfl)⟩ 0 rfl rfl rfl [0, 1, 2, 3, 4, 5] rfl rfl rfl rfl (by simp [Value.category]) dX1_hourSize_9) [0, 1, 2, 3, 4, 5] rfl rfl rfl ?_
  dsimp only [patch, List.set, List.cons_append, List.nil_append, wAsk, wClk]
  refine v_istore_n X dX1_hourSize_12 3 rfl (by decide) rfl ?_
  dsimp only [List.set]
  refine v_iload_n X dX1_hourSize_13 rfl ?_
  refine v_aload_n X dX1_hourSize_14 rfl ?_
  refine v_aload_n X dX1_hourSize_15 rfl ?_
  refine v_iload_n X dX1_hourSize_16 rfl ?_
  refine res_F X (run_V X (c_X1_markOfHours (g := g) (by first | assumption | (apply lvT_bd; assumption) | (apply lvT_bd; apply lvT_bd; assumption) | (apply lvT_bd; apply lvT_bd; apply lvT_bd; assumption)) (by first | assumption | omega) (by first | assumption | omega) (by first | assumption | omega) (by first | assumption | omega)) gX1_hourSize_X1_markOfHours rfl hdX1_markOfHours ⟨(Nat.le_of_ble_eq_true rfl), (Nat.le_of_ble_eq_true rfl)⟩ ⟨(Nat.le_of_ble_eq_true rfl), (Nat.le_of_ble_eq_true rfl)⟩ 0 rfl rfl rfl [0, 1, 2, 3, 4, 5] rfl rfl rfl rfl (by simp [Value.category]) dX1_hourSize_17) [0, 1, 2, 3, 4, 5] rfl rfl rfl ?_
  dsimp only [patch, List.set, List.cons_append, List.nil_append, wAsk, wClk]
  refine v_iadd X dX1_hourSize_20 ?_
  exact v_iret X Y dX1_hourSize_21 (u := ()) (by first | rfl | omega | (split <;> omega) | (simp [*]; done)) (by rfl)

theorem hdX1_backSize : yX1_backSize.cls = RX1 ∧ yX1_backSize.cls ≠ "java/lang/invoke/MethodHandle" ∧ yX1_backSize.cls ≠ "java/lang/invoke/VarHandle" ∧ (parseMethodDescriptor yX1_backSize.desc).map (fun d => d.parameters.length) = some 2 := ⟨rfl, by decide +kernel, by decide +kernel, by decide +kernel⟩
set_option maxHeartbeats 4000000 in
set_option maxRecDepth 100000 in
theorem c_X1_backSize {g : Gx} {a a1 : Nat} {t : TS} {b b1 b2 b3 : Nat} {mk cn : Int} {so tu sp : Nat → Int} {h : Int} (ht : 0 ≤ t.2 ∧ t.2 ≤ 16) (hcn : 0 ≤ cn ∧ cn ≤ 4) (htu : Bd 0 12 tu) (hh : R32 h) : CtE g yX1_backSize wsX1_backSize 3 64 [.ref a, .ref b, .int (iI h)] (wAsk g a a1 t.1 t.2 ++ wClk g b b1 b2 b3 mk cn so tu sp) (atI cn tu h - 100) (wAsk g a a1 (lvT (lvT t 13) 10).1 (lvT (lvT t 13) 10).2 ++ wClk g b b1 b2 b3 mk cn so tu sp) := by
  refine m_go (cc := cX1_backSize) (nL := 3) (by decide +kernel) rfl (Nat.le_of_ble_eq_true rfl) (fun x X Y hnm => ?_)
  refine v_eq (lo2 := [some (.ref a), some (.ref b), some (.int (iI h))]) rfl rfl rfl rfl ?_
  refine v_aload_n X dX1_backSize_0 rfl ?_
  refine v_bipush X dX1_backSize_1 (by decide) ?_
  refine res_W X (run_V X (c_X1_leave (g := g) (by first | assumption | (apply lvT_bd; assumption) | (apply lvT_bd; apply lvT_bd; assumption) | (apply lvT_bd; apply lvT_bd; apply lvT_bd; assumption))) gX1_backSize_X1_leave rfl hdX1_leave ⟨(Nat.le_of_ble_eq_true rfl), (Nat.le_of_ble_eq_true rfl)⟩ ⟨(Nat.le_of_ble_eq_true rfl), (Nat.le_of_ble_eq_true rfl)⟩ 0 rfl rfl rfl [0, 1] rfl rfl rfl rfl (by simp [Value.category]) dX1_backSize_3) [0, 1] rfl rfl rfl ?_
  dsimp only [patch, List.set, List.cons_append, List.nil_append, wAsk, wClk]
  refine v_aload_n X dX1_backSize_6 rfl ?_
  refine v_aload_n X dX1_backSize_7 rfl ?_
  refine v_iload_n X dX1_backSize_8 rfl ?_
  refine res_F X (run_V X (c_X1_lentSize (g := g) (by first | assumption | (apply lvT_bd; assumption) | (apply lvT_bd; apply lvT_bd; assumption) | (apply lvT_bd; apply lvT_bd; apply lvT_bd; assumption)) (by first | assumption | omega) (by first | assumption | omega) (by first | assumption | omega)) gX1_backSize_X1_lentSize rfl hdX1_lentSize ⟨(Nat.le_of_ble_eq_true rfl), (Nat.le_of_ble_eq_true rfl)⟩ ⟨(Nat.le_of_ble_eq_true rfl), (Nat.le_of_ble_eq_true rfl)⟩ 0 rfl rfl rfl [0, 1, 2, 3, 4, 5] rfl rfl rfl rfl (by simp [Value.category]) dX1_backSize_9) [0, 1, 2, 3, 4, 5] rfl rfl rfl ?_
  dsimp only [patch, List.set, List.cons_append, List.nil_append, wAsk, wClk]
  refine v_bipush X dX1_backSize_12 (by decide) ?_
  refine v_isub X dX1_backSize_14 ?_
  exact v_iret X Y dX1_backSize_15 (u := ()) (by first | rfl | omega | (split <;> omega) | (simp [*]; done)) (by rfl)

theorem hdX1_sizeOfHours : yX1_sizeOfHours.cls = RX1 ∧ yX1_sizeOfHours.cls ≠ "java/lang/invoke/MethodHandle" ∧ yX1_sizeOfHours.cls ≠ "java/lang/invoke/VarHandle" ∧ (parseMethodDescriptor yX1_sizeOfHours.desc).map (fun d => d.parameters.length) = some 2 := ⟨rfl, by decide +kernel, by decide +kernel, by decide +kernel⟩
set_option maxHeartbeats 4000000 in
set_option maxRecDepth 100000 in
theorem c_X1_sizeOfHours {g : Gx} {a a1 : Nat} {t : TS} {b b1 b2 b3 : Nat} {mk cn : Int} {so tu sp : Nat → Int} {h : Int} (ht : 0 ≤ t.2 ∧ t.2 ≤ 16) (hcn : 0 ≤ cn ∧ cn ≤ 4) (hso : Bd 0 5 so) (htu : Bd 0 12 tu) (hsp : Bd 0 59 sp) (hh : R32 h) : CtE g yX1_sizeOfHours wsX1_sizeOfHours 5 110 [.ref a, .ref b, .int (iI h)] (wAsk g a a1 t.1 t.2 ++ wClk g b b1 b2 b3 mk cn so tu sp) (hSz cn so tu sp h) (wAsk g a a1 (hSzT cn so h t).1 (hSzT cn so h t).2 ++ wClk g b b1 b2 b3 mk cn so tu sp) := by
  refine m_go (cc := cX1_sizeOfHours) (nL := 3) (by decide +kernel) rfl (Nat.le_of_ble_eq_true rfl) (fun x X Y hnm => ?_)
  refine v_eq (lo2 := [some (.ref a), some (.ref b), some (.int (iI h))]) rfl rfl rfl rfl ?_
  have q1 := atI_bd (cn := cn) (h := h) hso (by omega) (by omega)
  refine v_aload_n X dX1_sizeOfHours_0 rfl ?_
  refine v_iload_n X dX1_sizeOfHours_1 rfl ?_
  refine res_E X (run_V X (c_X2_sortOf (g := g) (by first | assumption | omega) (by first | assumption | omega) (by first | assumption | omega)) gX1_sizeOfHours_X2_sortOf rfl hdX2_sortOf ⟨(Nat.le_of_ble_eq_true rfl), (Nat.le_of_ble_eq_true rfl)⟩ ⟨(Nat.le_of_ble_eq_true rfl), (Nat.le_of_ble_eq_true rfl)⟩ 2 rfl rfl rfl [2, 3, 4, 5] rfl rfl rfl rfl (by simp [Value.category]) dX1_sizeOfHours_2) [2, 3, 4, 5] rfl rfl ?_
  refine v_iconst X dX1_sizeOfHours_5 ?_
  refine v_icmp_ne (tgt := 23) X dX1_sizeOfHours_6 (by decide) (by omega) (by omega) (fun c1 => ?_) (fun c1 => ?_)
  · skip
    refine v_aload_n X dX1_sizeOfHours_23 rfl ?_
    refine v_aload_n X dX1_sizeOfHours_24 rfl ?_
    refine v_iload_n X dX1_sizeOfHours_25 rfl ?_
    refine res_F X (run_V X (c_X1_hourSize (g := g) (by first | assumption | (apply lvT_bd; assumption) | (apply lvT_bd; apply lvT_bd; assumption) | (apply lvT_bd; apply lvT_bd; apply lvT_bd; assumption)) (by first | assumption | omega) (by first | assumption | omega) (by first | assumption | omega) (by first | assumption | omega) (by first | assumption | omega)) gX1_sizeOfHours_X1_hourSize rfl hdX1_hourSize ⟨(Nat.le_of_ble_eq_true rfl), (Nat.le_of_ble_eq_true rfl)⟩ ⟨(Nat.le_of_ble_eq_true rfl), (Nat.le_of_ble_eq_true rfl)⟩ 0 rfl rfl rfl [0, 1, 2, 3, 4, 5] rfl rfl rfl rfl (by simp [Value.category]) dX1_sizeOfHours_26) [0, 1, 2, 3, 4, 5] rfl rfl rfl ?_
    dsimp only [patch, List.set, List.cons_append, List.nil_append, wAsk, wClk]
    exact v_iret X Y dX1_sizeOfHours_29 (u := ()) (by unfold hSz; first | rfl | (rw [if_pos (by omega)]) | (rw [if_neg (by omega), if_pos (by omega)]) | (rw [if_neg (by omega), if_neg (by omega)]) | (rw [if_neg (by omega)])) (by (unfold hSzT; first | rfl | (rw [if_pos (by omega)]) | (rw [if_neg (by omega), if_pos (by omega)]) | (rw [if_neg (by omega), if_neg (by omega)]) | (rw [if_neg (by omega)])) <;> rfl)
  · skip
    refine v_aload_n X dX1_sizeOfHours_9 rfl ?_
    refine v_bipush X dX1_sizeOfHours_10 (by decide) ?_
    refine res_W X (run_V X (c_X1_leave (g := g) (by first | assumption | (apply lvT_bd; assumption) | (apply lvT_bd; apply lvT_bd; assumption) | (apply lvT_bd; apply lvT_bd; apply lvT_bd; assumption))) gX1_sizeOfHours_X1_leave rfl hdX1_leave ⟨(Nat.le_of_ble_eq_true rfl), (Nat.le_of_ble_eq_true rfl)⟩ ⟨(Nat.le_of_ble_eq_true rfl), (Nat.le_of_ble_eq_true rfl)⟩ 0 rfl rfl rfl [0, 1] rfl rfl rfl rfl (by simp [Value.category]) dX1_sizeOfHours_12) [0, 1] rfl rfl rfl ?_
    dsimp only [patch, List.set, List.cons_append, List.nil_append, wAsk, wClk]
    refine v_aload_n X dX1_sizeOfHours_15 rfl ?_
    refine v_aload_n X dX1_sizeOfHours_16 rfl ?_
    refine v_iload_n X dX1_sizeOfHours_17 rfl ?_
    refine res_F X (run_V X (c_X1_hourSize (g := g) (by first | assumption | (apply lvT_bd; assumption) | (apply lvT_bd; apply lvT_bd; assumption) | (apply lvT_bd; apply lvT_bd; apply lvT_bd; assumption)) (by first | assumption | omega) (by first | assumption | omega) (by first | assumption | omega) (by first | assumption | omega) (by first | assumption | omega)) gX1_sizeOfHours_X1_hourSize rfl hdX1_hourSize ⟨(Nat.le_of_ble_eq_true rfl), (Nat.le_of_ble_eq_true rfl)⟩ ⟨(Nat.le_of_ble_eq_true rfl), (Nat.le_of_ble_eq_true rfl)⟩ 0 rfl rfl rfl [0, 1, 2, 3, 4, 5] rfl rfl rfl rfl (by simp [Value.category]) dX1_sizeOfHours_18) [0, 1, 2, 3, 4, 5] rfl rfl rfl ?_
    dsimp only [patch, List.set, List.cons_append, List.nil_append, wAsk, wClk]
    refine v_ineg X dX1_sizeOfHours_21 ?_
    exact v_iret X Y dX1_sizeOfHours_22 (u := ()) (by unfold hSz; first | rfl | (rw [if_pos (by omega)]) | (rw [if_neg (by omega), if_pos (by omega)]) | (rw [if_neg (by omega), if_neg (by omega)]) | (rw [if_neg (by omega)])) (by (unfold hSzT; first | rfl | (rw [if_pos (by omega)]) | (rw [if_neg (by omega), if_pos (by omega)]) | (rw [if_neg (by omega), if_neg (by omega)]) | (rw [if_neg (by omega)])) <;> rfl)

theorem hdX1_sizeOfBacks : yX1_sizeOfBacks.cls = RX1 ∧ yX1_sizeOfBacks.cls ≠ "java/lang/invoke/MethodHandle" ∧ yX1_sizeOfBacks.cls ≠ "java/lang/invoke/VarHandle" ∧ (parseMethodDescriptor yX1_sizeOfBacks.desc).map (fun d => d.parameters.length) = some 2 := ⟨rfl, by decide +kernel, by decide +kernel, by decide +kernel⟩
set_option maxHeartbeats 4000000 in
set_option maxRecDepth 100000 in
theorem c_X1_sizeOfBacks {g : Gx} {a a1 : Nat} {t : TS} {b b1 b2 b3 : Nat} {mk cn : Int} {so tu sp : Nat → Int} {h : Int} (ht : 0 ≤ t.2 ∧ t.2 ≤ 16) (hcn : 0 ≤ cn ∧ cn ≤ 4) (hso : Bd 0 5 so) (htu : Bd 0 12 tu) (hh : R32 h) : CtE g yX1_sizeOfBacks wsX1_sizeOfBacks 4 86 [.ref a, .ref b, .int (iI h)] (wAsk g a a1 t.1 t.2 ++ wClk g b b1 b2 b3 mk cn so tu sp) (bSz cn so tu h) (wAsk g a a1 (bSzT cn so h t).1 (bSzT cn so h t).2 ++ wClk g b b1 b2 b3 mk cn so tu sp) := by
  refine m_go (cc := cX1_sizeOfBacks) (nL := 3) (by decide +kernel) rfl (Nat.le_of_ble_eq_true rfl) (fun x X Y hnm => ?_)
  refine v_eq (lo2 := [some (.ref a), some (.ref b), some (.int (iI h))]) rfl rfl rfl rfl ?_
  have q1 := atI_bd (cn := cn) (h := h) hso (by omega) (by omega)
  refine v_aload_n X dX1_sizeOfBacks_0 rfl ?_
  refine v_iload_n X dX1_sizeOfBacks_1 rfl ?_
  refine res_E X (run_V X (c_X2_sortOf (g := g) (by first | assumption | omega) (by first | assumption | omega) (by first | assumption | omega)) gX1_sizeOfBacks_X2_sortOf rfl hdX2_sortOf ⟨(Nat.le_of_ble_eq_true rfl), (Nat.le_of_ble_eq_true rfl)⟩ ⟨(Nat.le_of_ble_eq_true rfl), (Nat.le_of_ble_eq_true rfl)⟩ 2 rfl rfl rfl [2, 3, 4, 5] rfl rfl rfl rfl (by simp [Value.category]) dX1_sizeOfBacks_2) [2, 3, 4, 5] rfl rfl ?_
  refine v_iconst X dX1_sizeOfBacks_5 ?_
  refine v_icmp_ne (tgt := 24) X dX1_sizeOfBacks_6 (by decide) (by omega) (by omega) (fun c1 => ?_) (fun c1 => ?_)
  · skip
    refine v_aload_n X dX1_sizeOfBacks_24 rfl ?_
    refine v_aload_n X dX1_sizeOfBacks_25 rfl ?_
    refine v_iload_n X dX1_sizeOfBacks_26 rfl ?_
    refine res_F X (run_V X (c_X1_backSize (g := g) (by first | assumption | (apply lvT_bd; assumption) | (apply lvT_bd; apply lvT_bd; assumption) | (apply lvT_bd; apply lvT_bd; apply lvT_bd; assumption)) (by first | assumption | omega) (by first | assumption | omega) (by first | assumption | omega)) gX1_sizeOfBacks_X1_backSize rfl hdX1_backSize ⟨(Nat.le_of_ble_eq_true rfl), (Nat.le_of_ble_eq_true rfl)⟩ ⟨(Nat.le_of_ble_eq_true rfl), (Nat.le_of_ble_eq_true rfl)⟩ 0 rfl rfl rfl [0, 1, 2, 3, 4, 5] rfl rfl rfl rfl (by simp [Value.category]) dX1_sizeOfBacks_27) [0, 1, 2, 3, 4, 5] rfl rfl rfl ?_
    dsimp only [patch, List.set, List.cons_append, List.nil_append, wAsk, wClk]
    exact v_iret X Y dX1_sizeOfBacks_30 (u := ()) (by unfold bSz; first | rfl | (rw [if_pos (by omega)]) | (rw [if_neg (by omega), if_pos (by omega)]) | (rw [if_neg (by omega), if_neg (by omega)]) | (rw [if_neg (by omega)])) (by (unfold bSzT; first | rfl | (rw [if_pos (by omega)]) | (rw [if_neg (by omega), if_pos (by omega)]) | (rw [if_neg (by omega), if_neg (by omega)]) | (rw [if_neg (by omega)])) <;> rfl)
  · skip
    refine v_aload_n X dX1_sizeOfBacks_9 rfl ?_
    refine v_bipush X dX1_sizeOfBacks_10 (by decide) ?_
    refine res_W X (run_V X (c_X1_leave (g := g) (by first | assumption | (apply lvT_bd; assumption) | (apply lvT_bd; apply lvT_bd; assumption) | (apply lvT_bd; apply lvT_bd; apply lvT_bd; assumption))) gX1_sizeOfBacks_X1_leave rfl hdX1_leave ⟨(Nat.le_of_ble_eq_true rfl), (Nat.le_of_ble_eq_true rfl)⟩ ⟨(Nat.le_of_ble_eq_true rfl), (Nat.le_of_ble_eq_true rfl)⟩ 0 rfl rfl rfl [0, 1] rfl rfl rfl rfl (by simp [Value.category]) dX1_sizeOfBacks_12) [0, 1] rfl rfl rfl ?_
    dsimp only [patch, List.set, List.cons_append, List.nil_append, wAsk, wClk]
    refine v_iconst X dX1_sizeOfBacks_15 ?_
    refine v_aload_n X dX1_sizeOfBacks_16 rfl ?_
    refine v_aload_n X dX1_sizeOfBacks_17 rfl ?_
    refine v_iload_n X dX1_sizeOfBacks_18 rfl ?_
    refine res_F X (run_V X (c_X1_backSize (g := g) (by first | assumption | (apply lvT_bd; assumption) | (apply lvT_bd; apply lvT_bd; assumption) | (apply lvT_bd; apply lvT_bd; apply lvT_bd; assumption)) (by first | assumption | omega) (by first | assumption | omega) (by first | assumption | omega)) gX1_sizeOfBacks_X1_backSize rfl hdX1_backSize ⟨(Nat.le_of_ble_eq_true rfl), (Nat.le_of_ble_eq_true rfl)⟩ ⟨(Nat.le_of_ble_eq_true rfl), (Nat.le_of_ble_eq_true rfl)⟩ 0 rfl rfl rfl [0, 1, 2, 3, 4, 5] rfl rfl rfl rfl (by simp [Value.category]) dX1_sizeOfBacks_19) [0, 1, 2, 3, 4, 5] rfl rfl rfl ?_
    dsimp only [patch, List.set, List.cons_append, List.nil_append, wAsk, wClk]
    refine v_imul X dX1_sizeOfBacks_22 ?_
    exact v_iret X Y dX1_sizeOfBacks_23 (u := ()) (by unfold bSz; first | rfl | (rw [if_pos (by omega)]) | (rw [if_neg (by omega), if_pos (by omega)]) | (rw [if_neg (by omega), if_neg (by omega)]) | (rw [if_neg (by omega)])) (by (unfold bSzT; first | rfl | (rw [if_pos (by omega)]) | (rw [if_neg (by omega), if_pos (by omega)]) | (rw [if_neg (by omega), if_neg (by omega)]) | (rw [if_neg (by omega)])) <;> rfl)

theorem hdX1_markOfBacks : yX1_markOfBacks.cls = RX1 ∧ yX1_markOfBacks.cls ≠ "java/lang/invoke/MethodHandle" ∧ yX1_markOfBacks.cls ≠ "java/lang/invoke/VarHandle" ∧ (parseMethodDescriptor yX1_markOfBacks.desc).map (fun d => d.parameters.length) = some 2 := ⟨rfl, by decide +kernel, by decide +kernel, by decide +kernel⟩
set_option maxHeartbeats 4000000 in
set_option maxRecDepth 100000 in
theorem c_X1_markOfBacks {g : Gx} {a a1 : Nat} {t : TS} {b b1 b2 b3 : Nat} {mk cn : Int} {so tu sp : Nat → Int} {h : Int} (ht : 0 ≤ t.2 ∧ t.2 ≤ 16) (hcn : 0 ≤ cn ∧ cn ≤ 4) (hso : Bd 0 5 so) (htu : Bd 0 12 tu) (hh : R32 h) : CtE g yX1_markOfBacks wsX1_markOfBacks 5 108 [.ref a, .ref b, .int (iI h)] (wAsk g a a1 t.1 t.2 ++ wClk g b b1 b2 b3 mk cn so tu sp) (h - bSz cn so tu h) (wAsk g a a1 (bSzT cn so h (lvT (lvT t 23) 20)).1 (bSzT cn so h (lvT (lvT t 23) 20)).2 ++ wClk g b b1 b2 b3 mk cn so tu sp) := by
  refine m_go (cc := cX1_markOfBacks) (nL := 4) (by decide +kernel) rfl (Nat.le_of_ble_eq_true rfl) (fun x X Y hnm => ?_)
  refine v_eq (lo2 := [some (.ref a), some (.ref b), some (.int (iI h)), none]) rfl rfl rfl rfl ?_
  refine v_aload_n X dX1_markOfBacks_0 rfl ?_
  refine v_bipush X dX1_markOfBacks_1 (by decide) ?_
  refine res_W X (run_V X (c_X1_leave (g := g) (by first | assumption | (apply lvT_bd; assumption) | (apply lvT_bd; apply lvT_bd; assumption) | (apply lvT_bd; apply lvT_bd; apply lvT_bd; assumption))) gX1_markOfBacks_X1_leave rfl hdX1_leave ⟨(Nat.le_of_ble_eq_true rfl), (Nat.le_of_ble_eq_true rfl)⟩ ⟨(Nat.le_of_ble_eq_true rfl), (Nat.le_of_ble_eq_true rfl)⟩ 0 rfl rfl rfl [0, 1] rfl rfl rfl rfl (by simp [Value.category]) dX1_markOfBacks_3) [0, 1] rfl rfl rfl ?_
  dsimp only [patch, List.set, List.cons_append, List.nil_append, wAsk, wClk]
  refine v_aload_n X dX1_markOfBacks_6 rfl ?_
  refine v_iload_n X dX1_markOfBacks_7 rfl ?_
  refine res_F X (run_V X (c_X1_lentMark (g := g) (by first | assumption | (apply lvT_bd; assumption) | (apply lvT_bd; apply lvT_bd; assumption) | (apply lvT_bd; apply lvT_bd; apply lvT_bd; assumption))) gX1_markOfBacks_X1_lentMark rfl hdX1_lentMark ⟨(Nat.le_of_ble_eq_true rfl), (Nat.le_of_ble_eq_true rfl)⟩ ⟨(Nat.le_of_ble_eq_true rfl), (Nat.le_of_ble_eq_true rfl)⟩ 0 rfl rfl rfl [0, 1] rfl rfl rfl rfl (by simp [Value.category]) dX1_markOfBacks_8) [0, 1] rfl rfl rfl ?_
  dsimp only [patch, List.set, List.cons_append, List.nil_append, wAsk, wClk]
  refine v_istore_n X dX1_markOfBacks_11 3 rfl (by decide) rfl ?_
  dsimp only [List.set]
  refine v_iload_n X dX1_markOfBacks_12 rfl ?_
  refine v_aload_n X dX1_markOfBacks_13 rfl ?_
  refine v_aload_n X dX1_markOfBacks_14 rfl ?_
  refine v_iload_n X dX1_markOfBacks_15 rfl ?_
  refine res_F X (run_V X (c_X1_sizeOfBacks (g := g) (by first | assumption | (apply lvT_bd; assumption) | (apply lvT_bd; apply lvT_bd; assumption) | (apply lvT_bd; apply lvT_bd; apply lvT_bd; assumption)) (by first | assumption | omega) (by first | assumption | omega) (by first | assumption | omega) (by first | assumption | omega)) gX1_markOfBacks_X1_sizeOfBacks rfl hdX1_sizeOfBacks ⟨(Nat.le_of_ble_eq_true rfl), (Nat.le_of_ble_eq_true rfl)⟩ ⟨(Nat.le_of_ble_eq_true rfl), (Nat.le_of_ble_eq_true rfl)⟩ 0 rfl rfl rfl [0, 1, 2, 3, 4, 5] rfl rfl rfl rfl (by simp [Value.category]) dX1_markOfBacks_16) [0, 1, 2, 3, 4, 5] rfl rfl rfl ?_
  dsimp only [patch, List.set, List.cons_append, List.nil_append, wAsk, wClk]
  refine v_isub X dX1_markOfBacks_19 ?_
  exact v_iret X Y dX1_markOfBacks_20 (u := ()) (by first | rfl | omega | (split <;> omega) | (simp [*]; done)) (by rfl)

theorem hdX3_isNone : yX3_isNone.cls = RX3 ∧ yX3_isNone.cls ≠ "java/lang/invoke/MethodHandle" ∧ yX3_isNone.cls ≠ "java/lang/invoke/VarHandle" ∧ (parseMethodDescriptor yX3_isNone.desc).map (fun d => d.parameters.length) = some 0 := ⟨rfl, by decide +kernel, by decide +kernel, by decide +kernel⟩
set_option maxHeartbeats 4000000 in
set_option maxRecDepth 100000 in
theorem c_X3_isNone {g : Gx} {a : Nat} {wh sh mo fo : Int}  (hmo : 0 ≤ mo ∧ mo ≤ 576) : CtE g yX3_isNone wsX3_isNone 0 0 [.ref a] (wDou g a wh sh mo fo) (if mo = 0 then 1 else 0) (wDou g a wh sh mo fo) := by
  refine m_go (cc := cX3_isNone) (nL := 1) (by decide +kernel) rfl (Nat.le_of_ble_eq_true rfl) (fun x X Y hnm => ?_)
  refine v_eq (lo2 := [some (.ref a)]) rfl rfl rfl rfl ?_
  refine v_aload_n X dX3_isNone_0 rfl ?_
  refine v_get X (fun _ h => List.mem_cons_of_mem _ (List.mem_append_right _ h)) 0 rfl rfl 2 (by decide) rfl (List.mem_of_getElem? (i := 1) rfl) rfl dX3_isNone_1 ?_
  refine v_if_ne (tgt := 11) X dX3_isNone_4 (by decide) (by omega) (fun c1 => ?_) (fun c1 => ?_)
  · skip
    refine v_iconst X dX3_isNone_11 ?_
    exact v_zret X Y dX3_isNone_12 (by first | decide | omega | (split <;> omega)) (u := ()) (by first | rfl | omega | (split <;> omega) | (simp [*]; done)) (by rfl)
  · skip
    refine v_iconst X dX3_isNone_7 ?_
    refine v_goto (tgt := 12) X dX3_isNone_8 (by decide) ?_
    exact v_zret X Y dX3_isNone_12 (by first | decide | omega | (split <;> omega)) (u := ()) (by first | rfl | omega | (split <;> omega) | (simp [*]; done)) (by rfl)

theorem hdX3_leastOther : yX3_leastOther.cls = RX3 ∧ yX3_leastOther.cls ≠ "java/lang/invoke/MethodHandle" ∧ yX3_leastOther.cls ≠ "java/lang/invoke/VarHandle" ∧ (parseMethodDescriptor yX3_leastOther.desc).map (fun d => d.parameters.length) = some 2 := ⟨rfl, by decide +kernel, by decide +kernel, by decide +kernel⟩
set_option maxHeartbeats 4000000 in
set_option maxRecDepth 100000 in
theorem c_X3_leastOther {g : Gx} {a : Nat} {wh sh mo fo : Int} {p q : Int} (hwh : 0 ≤ wh ∧ wh ≤ 576) (hsh : 0 ≤ sh ∧ sh ≤ 24) (hmo : 0 ≤ mo ∧ mo ≤ 576) (hp : -24 ≤ p ∧ p ≤ 24) (hq : -24 ≤ q ∧ q ≤ 24) : CtI (S := Unit) g yX3_leastOther wsX3_leastOther 2 43 [.ref a, .int (iI p), .int (iI q)] (wDou g a wh sh mo fo) (fun r _ => LsO wh sh mo p q r) (fun _ => wDou g a wh sh mo fo) := by
  refine m_go (cc := cX3_leastOther) (nL := 4) (by decide +kernel) rfl (Nat.le_of_ble_eq_true rfl) (fun x X Y hnm => ?_)
  refine v_eq (lo2 := [some (.ref a), some (.int (iI p)), some (.int (iI q)), none]) rfl rfl rfl rfl ?_
  have m1 := mul_bd hp hsh
  have m2 := mul_bd hq hsh
  refine v_iconst X dX3_leastOther_0 ?_
  refine v_istore_n X dX3_leastOther_1 3 rfl (by decide) rfl ?_
  dsimp only [List.set]
  have L2 : ∀ (nf : Nat) (j : Int) (h1 : 0 ≤ j ∧ j ≤ mo) (h2 : ∀ i : Int, 0 ≤ i → i < j → ¬ lsQ wh sh p q i) (_ : (mo - j).toNat < nf), V g x 0 0 (wDou g a wh sh mo fo) [some (.ref a), some (.int (iI p)), some (.int (iI q)), some (.int (iI j))] 2 [] := by
    intro nf
    induction nf with
    | zero => intro j h1 h2 hmu; exact absurd hmu (Nat.not_lt_zero _)
    | succ nf ih2 =>
      intro j h1 h2 hmu
      refine v_iload_n X dX3_leastOther_2 rfl ?_
      refine v_aload_n X dX3_leastOther_3 rfl ?_
      refine v_get X (fun _ h => List.mem_cons_of_mem _ (List.mem_append_right _ h)) 0 rfl rfl 2 (by decide) rfl (List.mem_of_getElem? (i := 1) rfl) rfl dX3_leastOther_4 ?_
      refine v_icmp_ge (tgt := 58) X dX3_leastOther_7 (by decide) (by omega) (by omega) (fun c1 => ?_) (fun c1 => ?_)
      · skip
        refine v_iconst X dX3_leastOther_58 ?_
        refine v_iret X Y dX3_leastOther_59 (u := ()) ?_ (by rfl)
        exact Or.inr ⟨rfl, fun i g1 g2 => h2 i g1 (by omega)⟩
      · skip
        refine v_iload_n X dX3_leastOther_10 rfl ?_
        refine v_iload_n X dX3_leastOther_11 rfl ?_
        have m3 := mul_bd hq (show 0 ≤ j ∧ j ≤ 576 by omega)
        have m4 := mul_bd hp (show 0 ≤ j ∧ j ≤ 576 by omega)
        refine v_imul X dX3_leastOther_12 ?_
        refine v_iload_n X dX3_leastOther_13 rfl ?_
        refine v_aload_n X dX3_leastOther_14 rfl ?_
        refine v_get X (fun _ h => List.mem_cons_of_mem _ (List.mem_append_right _ h)) 0 rfl rfl 1 (by decide) rfl (List.mem_of_getElem? (i := 2) rfl) rfl dX3_leastOther_15 ?_
        refine v_imul X dX3_leastOther_18 ?_
        refine v_isub X dX3_leastOther_19 ?_
        refine v_aload_n X dX3_leastOther_20 rfl ?_
        refine v_get X (fun _ h => List.mem_cons_of_mem _ (List.mem_append_right _ h)) 0 rfl rfl 0 (by decide) rfl (List.mem_of_getElem? (i := 3) rfl) rfl dX3_leastOther_21 ?_
        refine res_E X (run_SN X (c_X7_rest (g := g) (by first | assumption | omega) (by first | assumption | omega)) gX3_leastOther_X7_rest_n37 rfl (List.mem_of_getElem? (i := 12) rfl) (List.mem_of_getElem? (i := 5) rfl) (List.mem_of_getElem? (i := 4) rfl) hdX7_rest.2 ⟨(Nat.le_of_ble_eq_true rfl), (Nat.le_of_ble_eq_true rfl)⟩ ⟨(Nat.le_of_ble_eq_true rfl), (Nat.le_of_ble_eq_true rfl)⟩ [] rfl rfl rfl rfl (by simp [Value.category]) dX3_leastOther_24) [] rfl rfl ?_
        refine v_if_ne (tgt := 52) X dX3_leastOther_27 (by decide) (by exact restI_r (by omega)) (fun c2 => ?_) (fun c2 => ?_)
        · skip
          refine v_iinc X dX3_leastOther_52 rfl (by decide) rfl ?_
          dsimp only [List.set]
          refine v_goto (tgt := 2) X dX3_leastOther_55 (by decide) ?_
          exact ih2 _ (by omega) (by
              intro i g1 g2; by_cases e : i = j
              · subst e; intro z; first | exact c2 z.1 | exact c3 z.2
              · exact h2 i g1 (by omega)) (by omega)
        · skip
          refine v_iload_n X dX3_leastOther_30 rfl ?_
          refine v_iload_n X dX3_leastOther_31 rfl ?_
          refine v_imul X dX3_leastOther_32 ?_
          refine v_iload_n X dX3_leastOther_33 rfl ?_
          refine v_aload_n X dX3_leastOther_34 rfl ?_
          refine v_get X (fun _ h => List.mem_cons_of_mem _ (List.mem_append_right _ h)) 0 rfl rfl 1 (by decide) rfl (List.mem_of_getElem? (i := 2) rfl) rfl dX3_leastOther_35 ?_
          refine v_imul X dX3_leastOther_38 ?_
          refine v_isub X dX3_leastOther_39 ?_
          refine v_aload_n X dX3_leastOther_40 rfl ?_
          refine v_get X (fun _ h => List.mem_cons_of_mem _ (List.mem_append_right _ h)) 0 rfl rfl 0 (by decide) rfl (List.mem_of_getElem? (i := 3) rfl) rfl dX3_leastOther_41 ?_
          refine res_E X (run_SN X (c_X7_rest (g := g) (by first | assumption | omega) (by first | assumption | omega)) gX3_leastOther_X7_rest_n37 rfl (List.mem_of_getElem? (i := 12) rfl) (List.mem_of_getElem? (i := 5) rfl) (List.mem_of_getElem? (i := 4) rfl) hdX7_rest.2 ⟨(Nat.le_of_ble_eq_true rfl), (Nat.le_of_ble_eq_true rfl)⟩ ⟨(Nat.le_of_ble_eq_true rfl), (Nat.le_of_ble_eq_true rfl)⟩ [] rfl rfl rfl rfl (by simp [Value.category]) dX3_leastOther_44) [] rfl rfl ?_
          refine v_if_ne (tgt := 52) X dX3_leastOther_47 (by decide) (by exact restI_r (by omega)) (fun c3 => ?_) (fun c3 => ?_)
          · skip
            refine v_iinc X dX3_leastOther_52 rfl (by decide) rfl ?_
            dsimp only [List.set]
            refine v_goto (tgt := 2) X dX3_leastOther_55 (by decide) ?_
            exact ih2 _ (by omega) (by
                intro i g1 g2; by_cases e : i = j
                · subst e; intro z; first | exact c2 z.1 | exact c3 z.2
                · exact h2 i g1 (by omega)) (by omega)
          · skip
            refine v_iload_n X dX3_leastOther_50 rfl ?_
            refine v_iret X Y dX3_leastOther_51 (u := ()) ?_ (by rfl)
            exact Or.inl ⟨h1.1, by omega, ⟨c2, c3⟩, h2⟩
  exact L2 _ _ (by omega) (by intro i g1 g2; exfalso; omega) (Nat.lt_succ_self _)

theorem hdX3_of : yX3_of.cls = RX3 ∧ yX3_of.cls ≠ "java/lang/invoke/MethodHandle" ∧ yX3_of.cls ≠ "java/lang/invoke/VarHandle" ∧ (parseMethodDescriptor yX3_of.desc).map (fun d => d.parameters.length) = some 2 := ⟨rfl, by decide +kernel, by decide +kernel, by decide +kernel⟩
set_option maxHeartbeats 4000000 in
set_option maxRecDepth 100000 in
theorem c_X3_of {g : Gx} {a : Nat} {wh sh mo fo : Int} {p q : Int} (hp : -24 ≤ p ∧ p ≤ 24) (hq : -24 ≤ q ∧ q ≤ 24) : CtV (S := Int) g yX3_of wsX3_of 3 66 [.ref a, .int (iI p), .int (iI q)] (wDou g a wh sh mo fo) (fun r => LsO (whoI p q) (shaI p q) (momI p q) p q r) (fun r => wDou g a (whoI p q) (shaI p q) (momI p q) r) := by
  refine m_go (cc := cX3_of) (nL := 3) (by decide +kernel) rfl (Nat.le_of_ble_eq_true rfl) (fun x X Y hnm => ?_)
  refine v_eq (lo2 := [some (.ref a), some (.int (iI p)), some (.int (iI q))]) rfl rfl rfl rfl ?_
  have m1 := sq_bd hp
  have m2 := sq_bd hq
  have m3 := absI_bd hp
  have m4 := absI_bd hq
  have m5 : 0 ≤ whoI p q ∧ whoI p q ≤ 576 := absI_bd (M := 576) (by omega)
  have m6 : 0 ≤ shaI p q ∧ shaI p q ≤ 24 := ⟨by unfold shaI; omega, gcd_le m3.1 m4.1 (by omega) m3.2 m4.2⟩
  have m7 := momI_bd m5 m6
  have f1 : (if 0 ≤ p * p - q * q then p * p - q * q else -(p * p - q * q)) = whoI p q := rfl
  have f2 : (if 0 ≤ p then p else -p) = absI p := rfl
  have f3 : (if 0 ≤ q then q else -q) = absI q := rfl
  have f4 : ((Int.gcd (absI p) (absI q) : Nat) : Int) = shaI p q := rfl
  have f5 : shaI p q < 1 → (0 : Int) = momI p q := fun h => by unfold momI; rw [show shaI p q = 0 by omega]; simp
  have f6 : (whoI p q).tdiv (shaI p q) = momI p q := tdiv_of_nn m5.1
  refine v_aload_n X dX3_of_0 rfl ?_
  refine v_iload_n X dX3_of_1 rfl ?_
  refine v_iload_n X dX3_of_2 rfl ?_
  refine v_imul X dX3_of_3 ?_
  refine v_iload_n X dX3_of_4 rfl ?_
  refine v_iload_n X dX3_of_5 rfl ?_
  refine v_imul X dX3_of_6 ?_
  refine v_isub X dX3_of_7 ?_
  refine v_abs X (List.mem_of_getElem? (i := 1) rfl) (List.mem_of_getElem? (i := 2) rfl) (List.mem_of_getElem? (i := 3) rfl) (List.mem_of_getElem? (i := 4) rfl) ⟨(Nat.le_of_ble_eq_true rfl), (Nat.le_of_ble_eq_true rfl), (Nat.le_of_ble_eq_true rfl), (Nat.le_of_ble_eq_true rfl)⟩ (by omega) dX3_of_8 ?_
  rw [f1]
  refine v_put X (fun _ h => List.mem_cons_of_mem _ (List.mem_append_right _ h)) tyX3 tyX3_ok nmX3 0 rfl rfl 0 (by decide) rfl (List.mem_of_getElem? (i := 5) rfl) rfl rfl rfl (Nat.le_of_ble_eq_true rfl) dX3_of_11 ?_
  dsimp only [List.set, wDou]
  refine v_aload_n X dX3_of_14 rfl ?_
  refine v_iload_n X dX3_of_15 rfl ?_
  refine v_abs X (List.mem_of_getElem? (i := 1) rfl) (List.mem_of_getElem? (i := 2) rfl) (List.mem_of_getElem? (i := 3) rfl) (List.mem_of_getElem? (i := 4) rfl) ⟨(Nat.le_of_ble_eq_true rfl), (Nat.le_of_ble_eq_true rfl), (Nat.le_of_ble_eq_true rfl), (Nat.le_of_ble_eq_true rfl)⟩ (by omega) dX3_of_16 ?_
  rw [f2]
  refine v_iload_n X dX3_of_19 rfl ?_
  refine v_abs X (List.mem_of_getElem? (i := 1) rfl) (List.mem_of_getElem? (i := 2) rfl) (List.mem_of_getElem? (i := 3) rfl) (List.mem_of_getElem? (i := 4) rfl) ⟨(Nat.le_of_ble_eq_true rfl), (Nat.le_of_ble_eq_true rfl), (Nat.le_of_ble_eq_true rfl), (Nat.le_of_ble_eq_true rfl)⟩ (by omega) dX3_of_20 ?_
  rw [f3]
  refine res_E X (run_SN X (c_X7_common (g := g) (by first | assumption | omega) (by first | assumption | omega) (by first | assumption | omega) (by first | assumption | omega)) gX3_of_X7_common_n19 rfl (List.mem_of_getElem? (i := 11) rfl) (List.mem_of_getElem? (i := 10) rfl) (List.mem_of_getElem? (i := 9) rfl) hdX7_common.2 ⟨(Nat.le_of_ble_eq_true rfl), (Nat.le_of_ble_eq_true rfl)⟩ ⟨(Nat.le_of_ble_eq_true rfl), (Nat.le_of_ble_eq_true rfl)⟩ [] rfl rfl rfl rfl (by simp [Value.category]) dX3_of_23) [] rfl rfl ?_
  rw [f4]
  refine v_put X (fun _ h => List.mem_cons_of_mem _ (List.mem_append_right _ h)) tyX3 tyX3_ok nmX3 0 rfl rfl 1 (by decide) rfl (List.mem_of_getElem? (i := 6) rfl) rfl rfl rfl (Nat.le_of_ble_eq_true rfl) dX3_of_26 ?_
  dsimp only [List.set, wDou]
  refine v_aload_n X dX3_of_29 rfl ?_
  refine v_aload_n X dX3_of_30 rfl ?_
  refine v_get X (fun _ h => List.mem_cons_of_mem _ (List.mem_append_right _ h)) 0 rfl rfl 1 (by decide) rfl (List.mem_of_getElem? (i := 6) rfl) rfl dX3_of_31 ?_
  refine v_iconst X dX3_of_34 ?_
  refine v_icmp_ge (tgt := 42) X dX3_of_35 (by decide) (by omega) (by omega) (fun c1 => ?_) (fun c1 => ?_)
  · skip
    refine v_aload_n X dX3_of_42 rfl ?_
    refine v_get X (fun _ h => List.mem_cons_of_mem _ (List.mem_append_right _ h)) 0 rfl rfl 0 (by decide) rfl (List.mem_of_getElem? (i := 5) rfl) rfl dX3_of_43 ?_
    refine v_aload_n X dX3_of_46 rfl ?_
    refine v_get X (fun _ h => List.mem_cons_of_mem _ (List.mem_append_right _ h)) 0 rfl rfl 1 (by decide) rfl (List.mem_of_getElem? (i := 6) rfl) rfl dX3_of_47 ?_
    refine v_idiv X dX3_of_50 (by omega) (by omega) (by omega) ?_
    rw [f6]
    refine v_put X (fun _ h => List.mem_cons_of_mem _ (List.mem_append_right _ h)) tyX3 tyX3_ok nmX3 0 rfl rfl 2 (by decide) rfl (List.mem_of_getElem? (i := 7) rfl) rfl rfl rfl (Nat.le_of_ble_eq_true rfl) dX3_of_51 ?_
    dsimp only [List.set, wDou]
    refine v_aload_n X dX3_of_54 rfl ?_
    refine v_aload_n X dX3_of_55 rfl ?_
    refine v_iload_n X dX3_of_56 rfl ?_
    refine v_iload_n X dX3_of_57 rfl ?_
    refine res_I X (run_V X (c_X3_leastOther (g := g) (by first | assumption | omega) (by first | assumption | omega) (by first | assumption | omega) (by first | assumption | omega) (by first | assumption | omega)) gX3_of_X3_leastOther rfl hdX3_leastOther ⟨(Nat.le_of_ble_eq_true rfl), (Nat.le_of_ble_eq_true rfl)⟩ ⟨(Nat.le_of_ble_eq_true rfl), (Nat.le_of_ble_eq_true rfl)⟩ 0 rfl rfl rfl [0] rfl rfl rfl rfl (by simp [Value.category]) dX3_of_58) [0] rfl rfl (fun _ => rfl) (fun r1 u3 hr1 => ?_)
    dsimp only [patch, List.set, wDou]
    refine v_put X (fun _ h => List.mem_cons_of_mem _ (List.mem_append_right _ h)) tyX3 tyX3_ok nmX3 0 rfl rfl 3 (by decide) rfl (List.mem_of_getElem? (i := 8) rfl) rfl rfl rfl (Nat.le_of_ble_eq_true rfl) dX3_of_61 ?_
    dsimp only [List.set, wDou]
    refine v_vret X Y dX3_of_64 (u := r1) ?_ (by rfl)
    assumption
  · skip
    refine v_iconst X dX3_of_38 ?_
    rw [f5 (by omega)]
    refine v_goto (tgt := 51) X dX3_of_39 (by decide) ?_
    refine v_put X (fun _ h => List.mem_cons_of_mem _ (List.mem_append_right _ h)) tyX3 tyX3_ok nmX3 0 rfl rfl 2 (by decide) rfl (List.mem_of_getElem? (i := 7) rfl) rfl rfl rfl (Nat.le_of_ble_eq_true rfl) dX3_of_51 ?_
    dsimp only [List.set, wDou]
    refine v_aload_n X dX3_of_54 rfl ?_
    refine v_aload_n X dX3_of_55 rfl ?_
    refine v_iload_n X dX3_of_56 rfl ?_
    refine v_iload_n X dX3_of_57 rfl ?_
    refine res_I X (run_V X (c_X3_leastOther (g := g) (by first | assumption | omega) (by first | assumption | omega) (by first | assumption | omega) (by first | assumption | omega) (by first | assumption | omega)) gX3_of_X3_leastOther rfl hdX3_leastOther ⟨(Nat.le_of_ble_eq_true rfl), (Nat.le_of_ble_eq_true rfl)⟩ ⟨(Nat.le_of_ble_eq_true rfl), (Nat.le_of_ble_eq_true rfl)⟩ 0 rfl rfl rfl [0] rfl rfl rfl rfl (by simp [Value.category]) dX3_of_58) [0] rfl rfl (fun _ => rfl) (fun r1 u5 hr1 => ?_)
    dsimp only [patch, List.set, wDou]
    refine v_put X (fun _ h => List.mem_cons_of_mem _ (List.mem_append_right _ h)) tyX3 tyX3_ok nmX3 0 rfl rfl 3 (by decide) rfl (List.mem_of_getElem? (i := 8) rfl) rfl rfl rfl (Nat.le_of_ble_eq_true rfl) dX3_of_61 ?_
    dsimp only [List.set, wDou]
    refine v_vret X Y dX3_of_64 (u := r1) ?_ (by rfl)
    assumption

theorem hdX3_otherOf : yX3_otherOf.cls = RX3 ∧ yX3_otherOf.cls ≠ "java/lang/invoke/MethodHandle" ∧ yX3_otherOf.cls ≠ "java/lang/invoke/VarHandle" ∧ (parseMethodDescriptor yX3_otherOf.desc).map (fun d => d.parameters.length) = some 1 := ⟨rfl, by decide +kernel, by decide +kernel, by decide +kernel⟩
set_option maxHeartbeats 4000000 in
set_option maxRecDepth 100000 in
theorem c_X3_otherOf {g : Gx} {a : Nat} {wh sh mo fo : Int} {k : Int} (hsh : 0 ≤ sh ∧ sh ≤ 24) (hmo : 0 ≤ mo ∧ mo ≤ 576) (hfo : 0 ≤ fo ∧ fo ≤ 576) (hk : 0 ≤ k ∧ k ≤ 576) : CtE g yX3_otherOf wsX3_otherOf 2 43 [.ref a, .int (iI k)] (wDou g a wh sh mo fo) (othI mo sh fo k) (wDou g a wh sh mo fo) := by
  refine m_go (cc := cX3_otherOf) (nL := 3) (by decide +kernel) rfl (Nat.le_of_ble_eq_true rfl) (fun x X Y hnm => ?_)
  refine v_eq (lo2 := [some (.ref a), some (.int (iI k)), none]) rfl rfl rfl rfl ?_
  have m1 := mul_nn hk hfo
  have m2 := mul_nn hk hsh
  have m3 := restI_bd (n := k * fo) (w := mo)
  have m4 : R32 (restI (k * fo) mo) := restI_r (by omega)
  have m5 : restI (k * fo) mo ≤ 576 := restI_le (by omega) (by omega)
  refine v_iload_n X dX3_otherOf_0 rfl ?_
  refine v_aload_n X dX3_otherOf_1 rfl ?_
  refine v_get X (fun _ h => List.mem_cons_of_mem _ (List.mem_append_right _ h)) 0 rfl rfl 3 (by decide) rfl (List.mem_of_getElem? (i := 1) rfl) rfl dX3_otherOf_2 ?_
  refine v_imul X dX3_otherOf_5 ?_
  refine v_aload_n X dX3_otherOf_6 rfl ?_
  refine v_get X (fun _ h => List.mem_cons_of_mem _ (List.mem_append_right _ h)) 0 rfl rfl 2 (by decide) rfl (List.mem_of_getElem? (i := 2) rfl) rfl dX3_otherOf_7 ?_
  refine res_E X (run_SN X (c_X7_rest (g := g) (by first | assumption | omega) (by first | assumption | omega)) gX3_otherOf_X7_rest_n37 rfl (List.mem_of_getElem? (i := 12) rfl) (List.mem_of_getElem? (i := 5) rfl) (List.mem_of_getElem? (i := 4) rfl) hdX7_rest.2 ⟨(Nat.le_of_ble_eq_true rfl), (Nat.le_of_ble_eq_true rfl)⟩ ⟨(Nat.le_of_ble_eq_true rfl), (Nat.le_of_ble_eq_true rfl)⟩ [] rfl rfl rfl rfl (by simp [Value.category]) dX3_otherOf_10) [] rfl rfl ?_
  refine v_istore_n X dX3_otherOf_13 2 rfl (by decide) rfl ?_
  dsimp only [List.set]
  refine v_iload_n X dX3_otherOf_14 rfl ?_
  refine v_iload_n X dX3_otherOf_15 rfl ?_
  refine v_aload_n X dX3_otherOf_16 rfl ?_
  refine v_get X (fun _ h => List.mem_cons_of_mem _ (List.mem_append_right _ h)) 0 rfl rfl 1 (by decide) rfl (List.mem_of_getElem? (i := 3) rfl) rfl dX3_otherOf_17 ?_
  refine v_imul X dX3_otherOf_20 ?_
  refine v_icmp_eq (tgt := 26) X dX3_otherOf_21 (by decide) (by omega) (by omega) (fun c1 => ?_) (fun c1 => ?_)
  · skip
    refine v_aload_n X dX3_otherOf_26 rfl ?_
    refine v_get X (fun _ h => List.mem_cons_of_mem _ (List.mem_append_right _ h)) 0 rfl rfl 1 (by decide) rfl (List.mem_of_getElem? (i := 3) rfl) rfl dX3_otherOf_27 ?_
    refine v_iconst X dX3_otherOf_30 ?_
    refine v_icmp_le (tgt := 43) X dX3_otherOf_31 (by decide) (by omega) (by omega) (fun c2 => ?_) (fun c2 => ?_)
    · skip
      refine v_iconst X dX3_otherOf_43 ?_
      exact v_iret X Y dX3_otherOf_44 (u := ()) (by unfold othI; first | rw [if_pos (by omega)] | (rw [if_neg (by omega)]; first | rw [if_pos (by omega)] | rw [if_neg (by omega)])) (by rfl)
    · skip
      refine v_iload_n X dX3_otherOf_34 rfl ?_
      refine v_aload_n X dX3_otherOf_35 rfl ?_
      refine v_get X (fun _ h => List.mem_cons_of_mem _ (List.mem_append_right _ h)) 0 rfl rfl 2 (by decide) rfl (List.mem_of_getElem? (i := 2) rfl) rfl dX3_otherOf_36 ?_
      refine v_iadd X dX3_otherOf_39 ?_
      refine v_goto (tgt := 44) X dX3_otherOf_40 (by decide) ?_
      exact v_iret X Y dX3_otherOf_44 (u := ()) (by unfold othI; first | rw [if_pos (by omega)] | (rw [if_neg (by omega)]; first | rw [if_pos (by omega)] | rw [if_neg (by omega)])) (by rfl)
  · skip
    refine v_iload_n X dX3_otherOf_24 rfl ?_
    exact v_iret X Y dX3_otherOf_25 (u := ()) (by unfold othI; first | rw [if_pos (by omega)] | (rw [if_neg (by omega)]; first | rw [if_pos (by omega)] | rw [if_neg (by omega)])) (by rfl)

theorem hdX3_howMany : yX3_howMany.cls = RX3 ∧ yX3_howMany.cls ≠ "java/lang/invoke/MethodHandle" ∧ yX3_howMany.cls ≠ "java/lang/invoke/VarHandle" ∧ (parseMethodDescriptor yX3_howMany.desc).map (fun d => d.parameters.length) = some 0 := ⟨rfl, by decide +kernel, by decide +kernel, by decide +kernel⟩
set_option maxHeartbeats 4000000 in
set_option maxRecDepth 100000 in
theorem c_X3_howMany {g : Gx} {a : Nat} {wh sh mo fo : Int}  (hsh : 0 ≤ sh ∧ sh ≤ 24) (hmo : 0 ≤ mo ∧ mo ≤ 576) (hfo : 0 ≤ fo ∧ fo ≤ 576) : CtE g yX3_howMany wsX3_howMany 3 65 [.ref a] (wDou g a wh sh mo fo) (cntN (fun k => decide (0 ≤ othI mo sh fo k)) mo.toNat) (wDou g a wh sh mo fo) := by
  refine m_go (cc := cX3_howMany) (nL := 3) (by decide +kernel) rfl (Nat.le_of_ble_eq_true rfl) (fun x X Y hnm => ?_)
  refine v_eq (lo2 := [some (.ref a), none, none]) rfl rfl rfl rfl ?_
  refine v_iconst X dX3_howMany_0 ?_
  refine v_istore_n X dX3_howMany_1 1 rfl (by decide) rfl ?_
  dsimp only [List.set]
  refine v_iconst X dX3_howMany_2 ?_
  refine v_istore_n X dX3_howMany_3 2 rfl (by decide) rfl ?_
  dsimp only [List.set]
  have L4 : ∀ (nf : Nat) (k : Int) (i : Int) (h1 : 0 ≤ i ∧ i ≤ mo) (h2 : k = cntN (fun k => decide (0 ≤ othI mo sh fo k)) i.toNat) (h3 : 0 ≤ k ∧ k ≤ i) (_ : (mo - i).toNat < nf), V g x 0 0 (wDou g a wh sh mo fo) [some (.ref a), some (.int (iI k)), some (.int (iI i))] 4 [] := by
    intro nf
    induction nf with
    | zero => intro k i h1 h2 h3 hmu; exact absurd hmu (Nat.not_lt_zero _)
    | succ nf ih4 =>
      intro k i h1 h2 h3 hmu
      refine v_iload_n X dX3_howMany_4 rfl ?_
      refine v_aload_n X dX3_howMany_5 rfl ?_
      refine v_get X (fun _ h => List.mem_cons_of_mem _ (List.mem_append_right _ h)) 0 rfl rfl 2 (by decide) rfl (List.mem_of_getElem? (i := 1) rfl) rfl dX3_howMany_6 ?_
      refine v_icmp_ge (tgt := 29) X dX3_howMany_9 (by decide) (by omega) (by omega) (fun c1 => ?_) (fun c1 => ?_)
      · skip
        refine v_iload_n X dX3_howMany_29 rfl ?_
        exact v_iret X Y dX3_howMany_30 (u := ()) (by
            have e : i = mo := by omega
            rw [h2, e]) (by rfl)
      · skip
        refine v_aload_n X dX3_howMany_12 rfl ?_
        refine v_iload_n X dX3_howMany_13 rfl ?_
        refine res_E X (run_V X (c_X3_otherOf (g := g) (by first | assumption | omega) (by first | assumption | omega) (by first | assumption | omega) (by first | assumption | omega)) gX3_howMany_X3_otherOf rfl hdX3_otherOf ⟨(Nat.le_of_ble_eq_true rfl), (Nat.le_of_ble_eq_true rfl)⟩ ⟨(Nat.le_of_ble_eq_true rfl), (Nat.le_of_ble_eq_true rfl)⟩ 0 rfl rfl rfl [0] rfl rfl rfl rfl (by simp [Value.category]) dX3_howMany_14) [0] rfl rfl ?_
        have m1 := othI_bd (sh := sh) (fo := fo) (k := i) hmo
        refine v_if_lt (tgt := 23) X dX3_howMany_17 (by decide) (by omega) (fun c2 => ?_) (fun c2 => ?_)
        · skip
          refine v_iinc X dX3_howMany_23 rfl (by decide) rfl ?_
          dsimp only [List.set]
          refine v_goto (tgt := 4) X dX3_howMany_26 (by decide) ?_
          exact ih4 _ _ (by omega) (by rw [cntN_s h1.1]; simp only [decide_eq_true_eq]; rw [show ((i.toNat : Nat) : Int) = i by omega]; split <;> omega) (by omega) (by omega)
        · skip
          refine v_iinc X dX3_howMany_20 rfl (by decide) rfl ?_
          dsimp only [List.set]
          refine v_iinc X dX3_howMany_23 rfl (by decide) rfl ?_
          dsimp only [List.set]
          refine v_goto (tgt := 4) X dX3_howMany_26 (by decide) ?_
          exact ih4 _ _ (by omega) (by rw [cntN_s h1.1]; simp only [decide_eq_true_eq]; rw [show ((i.toNat : Nat) : Int) = i by omega]; split <;> omega) (by omega) (by omega)
  exact L4 _ _ _ (by omega) (by rfl) (by omega) (Nat.lt_succ_self _)

theorem hdX3_number : yX3_number.cls = RX3 ∧ yX3_number.cls ≠ "java/lang/invoke/MethodHandle" ∧ yX3_number.cls ≠ "java/lang/invoke/VarHandle" ∧ (parseMethodDescriptor yX3_number.desc).map (fun d => d.parameters.length) = some 1 := ⟨rfl, by decide +kernel, by decide +kernel, by decide +kernel⟩
set_option maxHeartbeats 4000000 in
set_option maxRecDepth 100000 in
theorem c_X3_number {g : Gx} {a : Nat} {wh sh mo fo : Int} {n : Int} (hsh : 0 ≤ sh ∧ sh ≤ 24) (hmo : 0 ≤ mo ∧ mo ≤ 576) (hfo : 0 ≤ fo ∧ fo ≤ 576) (hn : 0 ≤ n ∧ R32 n) : CtI (S := Unit) g yX3_number wsX3_number 3 65 [.ref a, .int (iI n)] (wDou g a wh sh mo fo) (fun r _ => (0 ≤ r ∧ r < mo ∧ 0 ≤ othI mo sh fo r ∧ cntN (fun k => decide (0 ≤ othI mo sh fo k)) r.toNat = n) ∨ (r = -1 ∧ cntN (fun k => decide (0 ≤ othI mo sh fo k)) mo.toNat ≤ n)) (fun _ => wDou g a wh sh mo fo) := by
  refine m_go (cc := cX3_number) (nL := 4) (by decide +kernel) rfl (Nat.le_of_ble_eq_true rfl) (fun x X Y hnm => ?_)
  refine v_eq (lo2 := [some (.ref a), some (.int (iI n)), none, none]) rfl rfl rfl rfl ?_
  refine v_iconst X dX3_number_0 ?_
  refine v_istore_n X dX3_number_1 2 rfl (by decide) rfl ?_
  dsimp only [List.set]
  refine v_iconst X dX3_number_2 ?_
  refine v_istore_n X dX3_number_3 3 rfl (by decide) rfl ?_
  dsimp only [List.set]
  have L4 : ∀ (nf : Nat) (k : Int) (i : Int) (h1 : 0 ≤ i ∧ i ≤ mo) (h2 : k = cntN (fun k => decide (0 ≤ othI mo sh fo k)) i.toNat) (h3 : 0 ≤ k ∧ k ≤ i ∧ k ≤ n) (_ : (mo - i).toNat < nf), V g x 0 0 (wDou g a wh sh mo fo) [some (.ref a), some (.int (iI n)), some (.int (iI k)), some (.int (iI i))] 4 [] := by
    intro nf
    induction nf with
    | zero => intro k i h1 h2 h3 hmu; exact absurd hmu (Nat.not_lt_zero _)
    | succ nf ih4 =>
      intro k i h1 h2 h3 hmu
      refine v_iload_n X dX3_number_4 rfl ?_
      refine v_aload_n X dX3_number_5 rfl ?_
      refine v_get X (fun _ h => List.mem_cons_of_mem _ (List.mem_append_right _ h)) 0 rfl rfl 2 (by decide) rfl (List.mem_of_getElem? (i := 1) rfl) rfl dX3_number_6 ?_
      refine v_icmp_ge (tgt := 36) X dX3_number_9 (by decide) (by omega) (by omega) (fun c1 => ?_) (fun c1 => ?_)
      · skip
        refine v_iconst X dX3_number_36 ?_
        refine v_iret X Y dX3_number_37 (u := ()) ?_ (by rfl)
        have e : i = mo := by omega
        subst e; exact Or.inr ⟨rfl, by omega⟩
      · skip
        refine v_aload_n X dX3_number_12 rfl ?_
        refine v_iload_n X dX3_number_13 rfl ?_
        refine res_E X (run_V X (c_X3_otherOf (g := g) (by first | assumption | omega) (by first | assumption | omega) (by first | assumption | omega) (by first | assumption | omega)) gX3_number_X3_otherOf rfl hdX3_otherOf ⟨(Nat.le_of_ble_eq_true rfl), (Nat.le_of_ble_eq_true rfl)⟩ ⟨(Nat.le_of_ble_eq_true rfl), (Nat.le_of_ble_eq_true rfl)⟩ 0 rfl rfl rfl [0] rfl rfl rfl rfl (by simp [Value.category]) dX3_number_14) [0] rfl rfl ?_
        have m1 := othI_bd (sh := sh) (fo := fo) (k := i) hmo
        refine v_if_lt (tgt := 30) X dX3_number_17 (by decide) (by omega) (fun c2 => ?_) (fun c2 => ?_)
        · skip
          refine v_iinc X dX3_number_30 rfl (by decide) rfl ?_
          dsimp only [List.set]
          refine v_goto (tgt := 4) X dX3_number_33 (by decide) ?_
          exact ih4 _ _ (by omega) (by rw [cntN_s h1.1]; simp only [decide_eq_true_eq]; rw [show ((i.toNat : Nat) : Int) = i by omega]; split <;> omega) (by omega) (by omega)
        · skip
          refine v_iload_n X dX3_number_20 rfl ?_
          refine v_iload_n X dX3_number_21 rfl ?_
          refine v_icmp_ne (tgt := 27) X dX3_number_22 (by decide) (by omega) (by omega) (fun c3 => ?_) (fun c3 => ?_)
          · skip
            refine v_iinc X dX3_number_27 rfl (by decide) rfl ?_
            dsimp only [List.set]
            refine v_iinc X dX3_number_30 rfl (by decide) rfl ?_
            dsimp only [List.set]
            refine v_goto (tgt := 4) X dX3_number_33 (by decide) ?_
            exact ih4 _ _ (by omega) (by rw [cntN_s h1.1]; simp only [decide_eq_true_eq]; rw [show ((i.toNat : Nat) : Int) = i by omega]; split <;> omega) (by omega) (by omega)
          · skip
            refine v_iload_n X dX3_number_25 rfl ?_
            refine v_iret X Y dX3_number_26 (u := ()) ?_ (by rfl)
            exact Or.inl ⟨h1.1, by omega, by omega, by omega⟩
  exact L4 _ _ _ (by omega) (by rfl) (by omega) (Nat.lt_succ_self _)

theorem hdX3_isAt : yX3_isAt.cls = RX3 ∧ yX3_isAt.cls ≠ "java/lang/invoke/MethodHandle" ∧ yX3_isAt.cls ≠ "java/lang/invoke/VarHandle" ∧ (parseMethodDescriptor yX3_isAt.desc).map (fun d => d.parameters.length) = some 2 := ⟨rfl, by decide +kernel, by decide +kernel, by decide +kernel⟩
set_option maxHeartbeats 4000000 in
set_option maxRecDepth 100000 in
theorem c_X3_isAt {g : Gx} {a : Nat} {wh sh mo fo : Int} {p q : Int} (hsh : 0 ≤ sh ∧ sh ≤ 24) (hmo : 0 ≤ mo ∧ mo ≤ 576) (hfo : 0 ≤ fo ∧ fo ≤ 576) (hp : 0 ≤ p ∧ p < q) (hq : 1 ≤ q ∧ q ≤ 9999) : CtE g yX3_isAt wsX3_isAt 3 65 [.ref a, .int (iI p), .int (iI q)] (wDou g a wh sh mo fo) (if (mo * p) % q = 0 ∧ 0 ≤ othI mo sh fo (mo * p / q) then 1 else 0) (wDou g a wh sh mo fo) := by
  refine m_go (cc := cX3_isAt) (nL := 3) (by decide +kernel) rfl (Nat.le_of_ble_eq_true rfl) (fun x X Y hnm => ?_)
  refine v_eq (lo2 := [some (.ref a), some (.int (iI p)), some (.int (iI q))]) rfl rfl rfl rfl ?_
  have m1 := mul_nn hmo (show 0 ≤ p ∧ p ≤ 9998 by omega)
  have m2 : (mo * p).tmod q = (mo * p) % q := Int.tmod_eq_emod_of_nonneg m1.1
  have m3 : (mo * p).tdiv q = mo * p / q := tdiv_of_nn m1.1
  have m4 : 0 ≤ mo * p / q := Int.ediv_nonneg m1.1 (by omega)
  have m5 : mo * p / q ≤ mo := Int.ediv_le_of_le_mul (by omega) (Int.mul_le_mul_of_nonneg_left (by omega) hmo.1)
  have m6 := Int.emod_nonneg (mo * p) (show q ≠ 0 by omega)
  have m7 := Int.emod_lt_of_pos (mo * p) (show 0 < q by omega)
  have m8 := othI_bd (sh := sh) (fo := fo) (k := mo * p / q) hmo
  refine v_iload_n X dX3_isAt_0 rfl ?_
  refine v_if_le (tgt := 34) X dX3_isAt_1 (by decide) (by omega) (fun c1 => ?_) (fun c1 => ?_)
  · skip
    exfalso; omega
  · skip
    refine v_aload_n X dX3_isAt_4 rfl ?_
    refine v_get X (fun _ h => List.mem_cons_of_mem _ (List.mem_append_right _ h)) 0 rfl rfl 2 (by decide) rfl (List.mem_of_getElem? (i := 1) rfl) rfl dX3_isAt_5 ?_
    refine v_iload_n X dX3_isAt_8 rfl ?_
    refine v_imul X dX3_isAt_9 ?_
    refine v_iload_n X dX3_isAt_10 rfl ?_
    refine v_irem X dX3_isAt_11 (by omega) (by omega) (by omega) ?_
    rw [m2]
    refine v_if_ne (tgt := 34) X dX3_isAt_12 (by decide) (by omega) (fun c2 => ?_) (fun c2 => ?_)
    · skip
      refine v_iconst X dX3_isAt_34 ?_
      exact v_zret X Y dX3_isAt_35 (by first | decide | omega | (split <;> omega)) (u := ()) (by first | rfl | omega | (split <;> omega) | (simp [*]; done)) (by rfl)
    · skip
      refine v_aload_n X dX3_isAt_15 rfl ?_
      refine v_aload_n X dX3_isAt_16 rfl ?_
      refine v_get X (fun _ h => List.mem_cons_of_mem _ (List.mem_append_right _ h)) 0 rfl rfl 2 (by decide) rfl (List.mem_of_getElem? (i := 1) rfl) rfl dX3_isAt_17 ?_
      refine v_iload_n X dX3_isAt_20 rfl ?_
      refine v_imul X dX3_isAt_21 ?_
      refine v_iload_n X dX3_isAt_22 rfl ?_
      refine v_idiv X dX3_isAt_23 (by omega) (by omega) (by omega) ?_
      rw [m3]
      refine res_E X (run_V X (c_X3_otherOf (g := g) (by first | assumption | omega) (by first | assumption | omega) (by first | assumption | omega) (by first | assumption | omega)) gX3_isAt_X3_otherOf rfl hdX3_otherOf ⟨(Nat.le_of_ble_eq_true rfl), (Nat.le_of_ble_eq_true rfl)⟩ ⟨(Nat.le_of_ble_eq_true rfl), (Nat.le_of_ble_eq_true rfl)⟩ 0 rfl rfl rfl [0] rfl rfl rfl rfl (by simp [Value.category]) dX3_isAt_24) [0] rfl rfl ?_
      refine v_if_lt (tgt := 34) X dX3_isAt_27 (by decide) (by omega) (fun c3 => ?_) (fun c3 => ?_)
      · skip
        refine v_iconst X dX3_isAt_34 ?_
        exact v_zret X Y dX3_isAt_35 (by first | decide | omega | (split <;> omega)) (u := ()) (by first | rfl | omega | (split <;> omega) | (simp [*]; done)) (by rfl)
      · skip
        refine v_iconst X dX3_isAt_30 ?_
        refine v_goto (tgt := 35) X dX3_isAt_31 (by decide) ?_
        exact v_zret X Y dX3_isAt_35 (by first | decide | omega | (split <;> omega)) (u := ()) (by first | rfl | omega | (split <;> omega) | (simp [*]; done)) (by rfl)

theorem hdX4_arcOf : yX4_arcOf.cls = RX4 ∧ yX4_arcOf.cls ≠ "java/lang/invoke/MethodHandle" ∧ yX4_arcOf.cls ≠ "java/lang/invoke/VarHandle" ∧ (parseMethodDescriptor yX4_arcOf.desc).map (fun d => d.parameters.length) = some 1 := ⟨rfl, by decide +kernel, by decide +kernel, by decide +kernel⟩
set_option maxHeartbeats 4000000 in
set_option maxRecDepth 100000 in
theorem c_X4_arcOf {g : Gx} {a a1 a2 : Nat} {ar sp : Nat → Int} {cn pa : Int} {h : Int} (har : Bd 0 719 ar) (hh : R32 h) : CtE g yX4_arcOf wsX4_arcOf 0 0 [.ref a, .int (iI h)] (wRea g a a1 a2 ar sp cn pa) (atI 4 ar h) (wRea g a a1 a2 ar sp cn pa) := by
  refine m_go (cc := cX4_arcOf) (nL := 2) (by decide +kernel) rfl (Nat.le_of_ble_eq_true rfl) (fun x X Y hnm => ?_)
  refine v_eq (lo2 := [some (.ref a), some (.int (iI h))]) rfl rfl rfl rfl ?_
  refine v_iload_n X dX4_arcOf_0 rfl ?_
  refine v_if_lt (tgt := 18) X dX4_arcOf_1 (by decide) (by omega) (fun c1 => ?_) (fun c1 => ?_)
  · skip
    refine v_iconst X dX4_arcOf_18 ?_
    exact v_iret X Y dX4_arcOf_19 (u := ()) (by unfold atI; split <;> omega) (by rfl)
  · skip
    refine v_iload_n X dX4_arcOf_4 rfl ?_
    refine v_iconst X dX4_arcOf_5 ?_
    refine v_icmp_ge (tgt := 18) X dX4_arcOf_6 (by decide) (by omega) (by omega) (fun c2 => ?_) (fun c2 => ?_)
    · skip
      refine v_iconst X dX4_arcOf_18 ?_
      exact v_iret X Y dX4_arcOf_19 (u := ()) (by unfold atI; split <;> omega) (by rfl)
    · skip
      refine v_aload_n X dX4_arcOf_9 rfl ?_
      refine v_get X (fun _ h => List.mem_cons_of_mem _ (List.mem_append_right _ h)) 0 rfl rfl 0 (by decide) rfl (List.mem_of_getElem? (i := 1) rfl) rfl dX4_arcOf_10 ?_
      refine v_iload_n X dX4_arcOf_13 rfl ?_
      refine v_iald X 1 rfl (by omega) (by omega) (by omega) dX4_arcOf_14 har (fun z3 ez3 lz3 uz3 => ?_)
      refine v_goto (tgt := 19) X dX4_arcOf_15 (by decide) ?_
      exact v_iret X Y dX4_arcOf_19 (u := ()) (by unfold atI; split <;> omega) (by rfl)

theorem hdX4_speedOf : yX4_speedOf.cls = RX4 ∧ yX4_speedOf.cls ≠ "java/lang/invoke/MethodHandle" ∧ yX4_speedOf.cls ≠ "java/lang/invoke/VarHandle" ∧ (parseMethodDescriptor yX4_speedOf.desc).map (fun d => d.parameters.length) = some 1 := ⟨rfl, by decide +kernel, by decide +kernel, by decide +kernel⟩
set_option maxHeartbeats 4000000 in
set_option maxRecDepth 100000 in
theorem c_X4_speedOf {g : Gx} {a a1 a2 : Nat} {ar sp : Nat → Int} {cn pa : Int} {h : Int} (hsp : Bd (-24) 24 sp) (hh : R32 h) : CtE g yX4_speedOf wsX4_speedOf 0 0 [.ref a, .int (iI h)] (wRea g a a1 a2 ar sp cn pa) (atI 4 sp h) (wRea g a a1 a2 ar sp cn pa) := by
  refine m_go (cc := cX4_speedOf) (nL := 2) (by decide +kernel) rfl (Nat.le_of_ble_eq_true rfl) (fun x X Y hnm => ?_)
  refine v_eq (lo2 := [some (.ref a), some (.int (iI h))]) rfl rfl rfl rfl ?_
  refine v_iload_n X dX4_speedOf_0 rfl ?_
  refine v_if_lt (tgt := 18) X dX4_speedOf_1 (by decide) (by omega) (fun c1 => ?_) (fun c1 => ?_)
  · skip
    refine v_iconst X dX4_speedOf_18 ?_
    exact v_iret X Y dX4_speedOf_19 (u := ()) (by unfold atI; split <;> omega) (by rfl)
  · skip
    refine v_iload_n X dX4_speedOf_4 rfl ?_
    refine v_iconst X dX4_speedOf_5 ?_
    refine v_icmp_ge (tgt := 18) X dX4_speedOf_6 (by decide) (by omega) (by omega) (fun c2 => ?_) (fun c2 => ?_)
    · skip
      refine v_iconst X dX4_speedOf_18 ?_
      exact v_iret X Y dX4_speedOf_19 (u := ()) (by unfold atI; split <;> omega) (by rfl)
    · skip
      refine v_aload_n X dX4_speedOf_9 rfl ?_
      refine v_get X (fun _ h => List.mem_cons_of_mem _ (List.mem_append_right _ h)) 0 rfl rfl 1 (by decide) rfl (List.mem_of_getElem? (i := 1) rfl) rfl dX4_speedOf_10 ?_
      refine v_iload_n X dX4_speedOf_13 rfl ?_
      refine v_iald X 2 rfl (by omega) (by omega) (by omega) dX4_speedOf_14 hsp (fun z3 ez3 lz3 uz3 => ?_)
      refine v_goto (tgt := 19) X dX4_speedOf_15 (by decide) ?_
      exact v_iret X Y dX4_speedOf_19 (u := ()) (by unfold atI; split <;> omega) (by rfl)

theorem hdX4_whole : yX4_whole.cls = RX4 ∧ yX4_whole.cls ≠ "java/lang/invoke/MethodHandle" ∧ yX4_whole.cls ≠ "java/lang/invoke/VarHandle" ∧ (parseMethodDescriptor yX4_whole.desc).map (fun d => d.parameters.length) = some 0 := ⟨rfl, by decide +kernel, by decide +kernel, by decide +kernel⟩
set_option maxHeartbeats 4000000 in
set_option maxRecDepth 100000 in
theorem c_X4_whole {g : Gx} {a a1 a2 : Nat} {ar sp : Nat → Int} {cn pa : Int}  (hsp : Bd (-24) 24 sp) (hpa : 1 ≤ pa ∧ pa ≤ 720) : CtE g yX4_whole wsX4_whole 1 21 [.ref a] (wRea g a a1 a2 ar sp cn pa) (if 1 < absI (atI 4 sp 0) * pa then absI (atI 4 sp 0) * pa else 1) (wRea g a a1 a2 ar sp cn pa) := by
  refine m_go (cc := cX4_whole) (nL := 1) (by decide +kernel) rfl (Nat.le_of_ble_eq_true rfl) (fun x X Y hnm => ?_)
  refine v_eq (lo2 := [some (.ref a)]) rfl rfl rfl rfl ?_
  have m1 := atI_bd (cn := 4) (h := 0) hsp (by omega) (by omega)
  have m2 := absI_bd m1
  have m3 := mul_nn m2 (show 0 ≤ pa ∧ pa ≤ 720 by omega)
  have f1 : (if 0 ≤ atI 4 sp 0 then atI 4 sp 0 else -(atI 4 sp 0)) = absI (atI 4 sp 0) := rfl
  refine v_iconst X dX4_whole_0 ?_
  refine v_aload_n X dX4_whole_1 rfl ?_
  refine v_iconst X dX4_whole_2 ?_
  refine res_E X (run_V X (c_X4_speedOf (g := g) (by first | assumption | omega) (by first | assumption | omega)) gX4_whole_X4_speedOf rfl hdX4_speedOf ⟨(Nat.le_of_ble_eq_true rfl), (Nat.le_of_ble_eq_true rfl)⟩ ⟨(Nat.le_of_ble_eq_true rfl), (Nat.le_of_ble_eq_true rfl)⟩ 0 rfl rfl rfl [0, 1, 2] rfl rfl rfl rfl (by simp [Value.category]) dX4_whole_3) [0, 1, 2] rfl rfl ?_
  refine v_abs X (List.mem_of_getElem? (i := 1) rfl) (List.mem_of_getElem? (i := 2) rfl) (List.mem_of_getElem? (i := 3) rfl) (List.mem_of_getElem? (i := 4) rfl) ⟨(Nat.le_of_ble_eq_true rfl), (Nat.le_of_ble_eq_true rfl), (Nat.le_of_ble_eq_true rfl), (Nat.le_of_ble_eq_true rfl)⟩ (by omega) dX4_whole_6 ?_
  rw [f1]
  refine v_aload_n X dX4_whole_9 rfl ?_
  refine v_get X (fun _ h => List.mem_cons_of_mem _ (List.mem_append_right _ h)) 0 rfl rfl 3 (by decide) rfl (List.mem_of_getElem? (i := 5) rfl) rfl dX4_whole_10 ?_
  refine v_imul X dX4_whole_13 ?_
  refine v_max X (List.mem_of_getElem? (i := 6) rfl) (List.mem_of_getElem? (i := 7) rfl) (List.mem_of_getElem? (i := 3) rfl) (List.mem_of_getElem? (i := 8) rfl) ⟨(Nat.le_of_ble_eq_true rfl), (Nat.le_of_ble_eq_true rfl), (Nat.le_of_ble_eq_true rfl), (Nat.le_of_ble_eq_true rfl)⟩ (by omega) (by omega) dX4_whole_14 ?_
  exact v_iret X Y dX4_whole_17 (u := ()) (by first | rfl | omega | (split <;> omega) | (simp [*]; done)) (by rfl)

theorem hdX4_gap : yX4_gap.cls = RX4 ∧ yX4_gap.cls ≠ "java/lang/invoke/MethodHandle" ∧ yX4_gap.cls ≠ "java/lang/invoke/VarHandle" ∧ (parseMethodDescriptor yX4_gap.desc).map (fun d => d.parameters.length) = some 3 := ⟨rfl, by decide +kernel, by decide +kernel, by decide +kernel⟩
set_option maxHeartbeats 4000000 in
set_option maxRecDepth 100000 in
theorem c_X4_gap {g : Gx} {a a1 a2 : Nat} {ar sp : Nat → Int} {cn pa : Int} {b t h : Int} (har : Bd 0 719 ar) (hsp : Bd (-24) 24 sp) (hpa : 1 ≤ pa ∧ pa ≤ 720) (hb : R32 b) (ht : 0 ≤ t ∧ t ≤ 24) (hh : R32 h) : CtE g yX4_gap wsX4_gap 2 43 [.ref a, .int (iI b), .int (iI t), .int (iI h)] (wRea g a a1 a2 ar sp cn pa) (gapI ar sp pa b t h) (wRea g a a1 a2 ar sp cn pa) := by
  refine m_go (cc := cX4_gap) (nL := 8) (by decide +kernel) rfl (Nat.le_of_ble_eq_true rfl) (fun x X Y hnm => ?_)
  refine v_eq (lo2 := [some (.ref a), some (.int (iI b)), some (.int (iI t)), some (.int (iI h)), none, none, none, none]) rfl rfl rfl rfl ?_
  have m1 := atI_bd (cn := 4) (h := b) hsp (by omega) (by omega)
  have m2 := absI_bd m1
  have m3 := mul_nn m2 (show 0 ≤ pa ∧ pa ≤ 720 by omega)
  have f1 : (if 0 ≤ atI 4 sp b then atI 4 sp b else -(atI 4 sp b)) = absI (atI 4 sp b) := rfl
  have m4 := atI_bd (cn := 4) (h := b) har (by omega) (by omega)
  have m5 := atI_bd (cn := 4) (h := h) har (by omega) (by omega)
  have m6 := atI_bd (cn := 4) (h := h) hsp (by omega) (by omega)
  have m7 := mul_nn ht (show 0 ≤ pa ∧ pa ≤ 720 by omega)
  have m8 := mul_bd m6 (show 0 ≤ atI 4 ar b + t * pa ∧ atI 4 ar b + t * pa ≤ 17999 by omega)
  have m9 := mul_bd m1 m5
  have f9 : atI 4 ar h * atI 4 sp b = atI 4 sp b * atI 4 ar h := Int.mul_comm _ _
  have m10 : 0 ≤ restI (atI 4 sp h * (atI 4 ar b + t * pa) - atI 4 ar h * atI 4 sp b) (absI (atI 4 sp b) * pa) ∧ restI (atI 4 sp h * (atI 4 ar b + t * pa) - atI 4 ar h * atI 4 sp b) (absI (atI 4 sp b) * pa) ≤ 17280 := ⟨restI_bd.1, restI_le (by omega) (by omega)⟩
  refine v_aload_n X dX4_gap_0 rfl ?_
  refine v_iload_n X dX4_gap_1 rfl ?_
  refine res_E X (run_V X (c_X4_speedOf (g := g) (by first | assumption | omega) (by first | assumption | omega)) gX4_gap_X4_speedOf rfl hdX4_speedOf ⟨(Nat.le_of_ble_eq_true rfl), (Nat.le_of_ble_eq_true rfl)⟩ ⟨(Nat.le_of_ble_eq_true rfl), (Nat.le_of_ble_eq_true rfl)⟩ 0 rfl rfl rfl [0, 1, 2] rfl rfl rfl rfl (by simp [Value.category]) dX4_gap_2) [0, 1, 2] rfl rfl ?_
  refine v_istore X dX4_gap_5 (by decide) rfl ?_
  dsimp only [List.set]
  refine v_iload X dX4_gap_7 rfl ?_
  refine v_abs X (List.mem_of_getElem? (i := 1) rfl) (List.mem_of_getElem? (i := 2) rfl) (List.mem_of_getElem? (i := 3) rfl) (List.mem_of_getElem? (i := 4) rfl) ⟨(Nat.le_of_ble_eq_true rfl), (Nat.le_of_ble_eq_true rfl), (Nat.le_of_ble_eq_true rfl), (Nat.le_of_ble_eq_true rfl)⟩ (by omega) dX4_gap_9 ?_
  rw [f1]
  refine v_aload_n X dX4_gap_12 rfl ?_
  refine v_get X (fun _ h => List.mem_cons_of_mem _ (List.mem_append_right _ h)) 0 rfl rfl 3 (by decide) rfl (List.mem_of_getElem? (i := 5) rfl) rfl dX4_gap_13 ?_
  refine v_imul X dX4_gap_16 ?_
  refine v_istore X dX4_gap_17 (by decide) rfl ?_
  dsimp only [List.set]
  refine v_aload_n X dX4_gap_19 rfl ?_
  refine v_iload_n X dX4_gap_20 rfl ?_
  refine res_E X (run_V X (c_X4_speedOf (g := g) (by first | assumption | omega) (by first | assumption | omega)) gX4_gap_X4_speedOf rfl hdX4_speedOf ⟨(Nat.le_of_ble_eq_true rfl), (Nat.le_of_ble_eq_true rfl)⟩ ⟨(Nat.le_of_ble_eq_true rfl), (Nat.le_of_ble_eq_true rfl)⟩ 0 rfl rfl rfl [0, 1, 2] rfl rfl rfl rfl (by simp [Value.category]) dX4_gap_21) [0, 1, 2] rfl rfl ?_
  refine v_aload_n X dX4_gap_24 rfl ?_
  refine v_iload_n X dX4_gap_25 rfl ?_
  refine res_E X (run_V X (c_X4_arcOf (g := g) (by first | assumption | omega) (by first | assumption | omega)) gX4_gap_X4_arcOf rfl hdX4_arcOf ⟨(Nat.le_of_ble_eq_true rfl), (Nat.le_of_ble_eq_true rfl)⟩ ⟨(Nat.le_of_ble_eq_true rfl), (Nat.le_of_ble_eq_true rfl)⟩ 0 rfl rfl rfl [0, 1, 2] rfl rfl rfl rfl (by simp [Value.category]) dX4_gap_26) [0, 1, 2] rfl rfl ?_
  refine v_iload_n X dX4_gap_29 rfl ?_
  refine v_aload_n X dX4_gap_30 rfl ?_
  refine v_get X (fun _ h => List.mem_cons_of_mem _ (List.mem_append_right _ h)) 0 rfl rfl 3 (by decide) rfl (List.mem_of_getElem? (i := 5) rfl) rfl dX4_gap_31 ?_
  refine v_imul X dX4_gap_34 ?_
  refine v_iadd X dX4_gap_35 ?_
  refine v_imul X dX4_gap_36 ?_
  refine v_istore X dX4_gap_37 (by decide) rfl ?_
  dsimp only [List.set]
  refine v_iload X dX4_gap_39 rfl ?_
  refine v_aload_n X dX4_gap_41 rfl ?_
  refine v_iload_n X dX4_gap_42 rfl ?_
  refine res_E X (run_V X (c_X4_arcOf (g := g) (by first | assumption | omega) (by first | assumption | omega)) gX4_gap_X4_arcOf rfl hdX4_arcOf ⟨(Nat.le_of_ble_eq_true rfl), (Nat.le_of_ble_eq_true rfl)⟩ ⟨(Nat.le_of_ble_eq_true rfl), (Nat.le_of_ble_eq_true rfl)⟩ 0 rfl rfl rfl [0, 1, 2] rfl rfl rfl rfl (by simp [Value.category]) dX4_gap_43) [0, 1, 2] rfl rfl ?_
  refine v_iload X dX4_gap_46 rfl ?_
  refine v_imul X dX4_gap_48 ?_
  refine v_isub X dX4_gap_49 ?_
  refine v_iload X dX4_gap_50 rfl ?_
  refine res_E X (run_SN X (c_X7_rest (g := g) (by first | assumption | omega) (by first | assumption | omega)) gX4_gap_X7_rest_n53 rfl (List.mem_of_getElem? (i := 13) rfl) (List.mem_of_getElem? (i := 21) rfl) (List.mem_of_getElem? (i := 20) rfl) hdX7_rest.2 ⟨(Nat.le_of_ble_eq_true rfl), (Nat.le_of_ble_eq_true rfl)⟩ ⟨(Nat.le_of_ble_eq_true rfl), (Nat.le_of_ble_eq_true rfl)⟩ [] rfl rfl rfl rfl (by simp [Value.category]) dX4_gap_52) [] rfl rfl ?_
  refine v_istore X dX4_gap_55 (by decide) rfl ?_
  dsimp only [List.set]
  refine v_iload X dX4_gap_57 rfl ?_
  refine v_iload X dX4_gap_59 rfl ?_
  refine v_iload X dX4_gap_61 rfl ?_
  refine v_isub X dX4_gap_63 ?_
  refine v_min X (List.mem_of_getElem? (i := 6) rfl) (List.mem_of_getElem? (i := 7) rfl) (List.mem_of_getElem? (i := 3) rfl) (List.mem_of_getElem? (i := 8) rfl) ⟨(Nat.le_of_ble_eq_true rfl), (Nat.le_of_ble_eq_true rfl), (Nat.le_of_ble_eq_true rfl), (Nat.le_of_ble_eq_true rfl)⟩ (by omega) (by omega) dX4_gap_64 ?_
  exact v_iret X Y dX4_gap_67 (u := ()) (by rfl) (by rfl)

theorem hdX4_fitsAt : yX4_fitsAt.cls = RX4 ∧ yX4_fitsAt.cls ≠ "java/lang/invoke/MethodHandle" ∧ yX4_fitsAt.cls ≠ "java/lang/invoke/VarHandle" ∧ (parseMethodDescriptor yX4_fitsAt.desc).map (fun d => d.parameters.length) = some 3 := ⟨rfl, by decide +kernel, by decide +kernel, by decide +kernel⟩
set_option maxHeartbeats 4000000 in
set_option maxRecDepth 100000 in
theorem c_X4_fitsAt {g : Gx} {a a1 a2 : Nat} {ar sp : Nat → Int} {cn pa : Int} {b t wo : Int} (har : Bd 0 719 ar) (hsp : Bd (-24) 24 sp) (hpa : 1 ≤ pa ∧ pa ≤ 720) (hcn : 0 ≤ cn ∧ cn ≤ 4) (hb : R32 b) (ht : 0 ≤ t ∧ t ≤ 24) (hw : R32 wo) : CtE g yX4_fitsAt wsX4_fitsAt 3 70 [.ref a, .int (iI b), .int (iI t), .int (iI wo)] (wRea g a a1 a2 ar sp cn pa) (pI (FitA ar sp cn pa b t wo)) (wRea g a a1 a2 ar sp cn pa) := by
  refine m_go (cc := cX4_fitsAt) (nL := 5) (by decide +kernel) rfl (Nat.le_of_ble_eq_true rfl) (fun x X Y hnm => ?_)
  refine v_eq (lo2 := [some (.ref a), some (.int (iI b)), some (.int (iI t)), some (.int (iI wo)), none]) rfl rfl rfl rfl ?_
  refine v_iconst X dX4_fitsAt_0 ?_
  refine v_istore X dX4_fitsAt_1 (by decide) rfl ?_
  dsimp only [List.set]
  have L3 : ∀ (nf : Nat) (h : Int) (h1 : 0 ≤ h ∧ h ≤ cn) (h2 : ∀ i : Int, 0 ≤ i → i < h → i ≠ wo → gapI ar sp pa b t i = 0) (_ : (cn - h).toNat < nf), V g x 0 0 (wRea g a a1 a2 ar sp cn pa) [some (.ref a), some (.int (iI b)), some (.int (iI t)), some (.int (iI wo)), some (.int (iI h))] 3 [] := by
    intro nf
    induction nf with
    | zero => intro h h1 h2 hmu; exact absurd hmu (Nat.not_lt_zero _)
    | succ nf ih3 =>
      intro h h1 h2 hmu
      refine v_iload X dX4_fitsAt_3 rfl ?_
      refine v_aload_n X dX4_fitsAt_5 rfl ?_
      refine v_get X (fun _ h => List.mem_cons_of_mem _ (List.mem_append_right _ h)) 0 rfl rfl 2 (by decide) rfl (List.mem_of_getElem? (i := 1) rfl) rfl dX4_fitsAt_6 ?_
      refine v_icmp_ge (tgt := 37) X dX4_fitsAt_9 (by decide) (by omega) (by omega) (fun c1 => ?_) (fun c1 => ?_)
      · skip
        refine v_iconst X dX4_fitsAt_37 ?_
        exact v_zret X Y dX4_fitsAt_38 (by first | decide | omega | (split <;> omega)) (u := ()) (by exact (pI_1 (fun i g1 g2 g3 => h2 i g1 (by omega) g3)).symm) (by rfl)
      · skip
        refine v_iload X dX4_fitsAt_12 rfl ?_
        refine v_iload_n X dX4_fitsAt_14 rfl ?_
        refine v_icmp_eq (tgt := 31) X dX4_fitsAt_15 (by decide) (by omega) (by omega) (fun c2 => ?_) (fun c2 => ?_)
        · skip
          refine v_iinc X dX4_fitsAt_31 rfl (by decide) rfl ?_
          dsimp only [List.set]
          refine v_goto (tgt := 3) X dX4_fitsAt_34 (by decide) ?_
          exact ih3 _ (by omega) (by
              intro i g1 g2 g3; by_cases e : i = h
              · subst e; first | exact absurd c2 g3 | exact c3
              · exact h2 i g1 (by omega) g3) (by omega)
        · skip
          refine v_aload_n X dX4_fitsAt_18 rfl ?_
          refine v_iload_n X dX4_fitsAt_19 rfl ?_
          refine v_iload_n X dX4_fitsAt_20 rfl ?_
          refine v_iload X dX4_fitsAt_21 rfl ?_
          refine res_E X (run_V X (c_X4_gap (g := g) (by first | assumption | omega) (by first | assumption | omega) (by first | assumption | omega) (by first | assumption | omega) (by first | assumption | omega) (by first | assumption | omega)) gX4_fitsAt_X4_gap rfl hdX4_gap ⟨(Nat.le_of_ble_eq_true rfl), (Nat.le_of_ble_eq_true rfl)⟩ ⟨(Nat.le_of_ble_eq_true rfl), (Nat.le_of_ble_eq_true rfl)⟩ 0 rfl rfl rfl [0, 1, 2] rfl rfl rfl rfl (by simp [Value.category]) dX4_fitsAt_23) [0, 1, 2] rfl rfl ?_
          refine v_if_eq (tgt := 31) X dX4_fitsAt_26 (by decide) (by exact gapI_r hsp har hpa) (fun c3 => ?_) (fun c3 => ?_)
          · skip
            refine v_iinc X dX4_fitsAt_31 rfl (by decide) rfl ?_
            dsimp only [List.set]
            refine v_goto (tgt := 3) X dX4_fitsAt_34 (by decide) ?_
            exact ih3 _ (by omega) (by
                intro i g1 g2 g3; by_cases e : i = h
                · subst e; first | exact absurd c2 g3 | exact c3
                · exact h2 i g1 (by omega) g3) (by omega)
          · skip
            refine v_iconst X dX4_fitsAt_29 ?_
            exact v_zret X Y dX4_fitsAt_30 (by first | decide | omega | (split <;> omega)) (u := ()) (by exact (pI_0 (fun z => c3 (z h h1.1 (by omega) c2))).symm) (by rfl)
  exact L3 _ _ (by omega) (by intro i g1 g2 g3; exfalso; omega) (Nat.lt_succ_self _)

theorem hdX4_fitsWithout : yX4_fitsWithout.cls = RX4 ∧ yX4_fitsWithout.cls ≠ "java/lang/invoke/MethodHandle" ∧ yX4_fitsWithout.cls ≠ "java/lang/invoke/VarHandle" ∧ (parseMethodDescriptor yX4_fitsWithout.desc).map (fun d => d.parameters.length) = some 1 := ⟨rfl, by decide +kernel, by decide +kernel, by decide +kernel⟩
set_option maxHeartbeats 4000000 in
set_option maxRecDepth 100000 in
theorem c_X4_fitsWithout {g : Gx} {a a1 a2 : Nat} {ar sp : Nat → Int} {cn pa : Int} {wo : Int} (har : Bd 0 719 ar) (hsp : Bd (-24) 24 sp) (hpa : 1 ≤ pa ∧ pa ≤ 720) (hcn : 0 ≤ cn ∧ cn ≤ 4) (hw : R32 wo) : CtE g yX4_fitsWithout wsX4_fitsWithout 4 94 [.ref a, .int (iI wo)] (wRea g a a1 a2 ar sp cn pa) (pI (FitW ar sp cn pa wo)) (wRea g a a1 a2 ar sp cn pa) := by
  refine m_go (cc := cX4_fitsWithout) (nL := 5) (by decide +kernel) rfl (Nat.le_of_ble_eq_true rfl) (fun x X Y hnm => ?_)
  refine v_eq (lo2 := [some (.ref a), some (.int (iI wo)), none, none, none]) rfl rfl rfl rfl ?_
  have m0 : basI wo = 0 ∨ basI wo = 1 := by unfold basI; split <;> omega
  have m1 := atI_bd (cn := 4) (h := basI wo) hsp (by omega) (by omega)
  have m2 := absI_bd m1
  have f1 : (if 0 ≤ atI 4 sp (basI wo) then atI 4 sp (basI wo) else -(atI 4 sp (basI wo))) = absI (atI 4 sp (basI wo)) := rfl
  have J10 : V g x 0 0 (wRea g a a1 a2 ar sp cn pa) [some (.ref a), some (.int (iI wo)), some (.int (iI (basI wo))), none, none] 10 [] := by
    refine v_iload_n X dX4_fitsWithout_10 rfl ?_
    refine v_aload_n X dX4_fitsWithout_11 rfl ?_
    refine v_get X (fun _ h => List.mem_cons_of_mem _ (List.mem_append_right _ h)) 0 rfl rfl 2 (by decide) rfl (List.mem_of_getElem? (i := 1) rfl) rfl dX4_fitsWithout_12 ?_
    refine v_icmp_lt (tgt := 20) X dX4_fitsWithout_15 (by decide) (by omega) (by omega) (fun c1 => ?_) (fun c1 => ?_)
    · skip
      refine v_aload_n X dX4_fitsWithout_20 rfl ?_
      refine v_iload_n X dX4_fitsWithout_21 rfl ?_
      refine res_E X (run_V X (c_X4_speedOf (g := g) (by first | assumption | omega) (by first | assumption | omega)) gX4_fitsWithout_X4_speedOf rfl hdX4_speedOf ⟨(Nat.le_of_ble_eq_true rfl), (Nat.le_of_ble_eq_true rfl)⟩ ⟨(Nat.le_of_ble_eq_true rfl), (Nat.le_of_ble_eq_true rfl)⟩ 0 rfl rfl rfl [0, 1, 2] rfl rfl rfl rfl (by simp [Value.category]) dX4_fitsWithout_22) [0, 1, 2] rfl rfl ?_
      refine v_abs X (List.mem_of_getElem? (i := 2) rfl) (List.mem_of_getElem? (i := 3) rfl) (List.mem_of_getElem? (i := 4) rfl) (List.mem_of_getElem? (i := 5) rfl) ⟨(Nat.le_of_ble_eq_true rfl), (Nat.le_of_ble_eq_true rfl), (Nat.le_of_ble_eq_true rfl), (Nat.le_of_ble_eq_true rfl)⟩ (by omega) dX4_fitsWithout_25 ?_
      rw [f1]
      refine v_istore_n X dX4_fitsWithout_28 3 rfl (by decide) rfl ?_
      dsimp only [List.set]
      refine v_iconst X dX4_fitsWithout_29 ?_
      refine v_istore X dX4_fitsWithout_30 (by decide) rfl ?_
      dsimp only [List.set]
      have L32 : ∀ (nf : Nat) (t : Int) (h1 : 0 ≤ t ∧ t ≤ absI (atI 4 sp (basI wo))) (h2 : ∀ i : Int, 0 ≤ i → i < t → ¬ FitA ar sp cn pa (basI wo) i wo) (_ : (absI (atI 4 sp (basI wo)) - t).toNat < nf), V g x 0 0 (wRea g a a1 a2 ar sp cn pa) [some (.ref a), some (.int (iI wo)), some (.int (iI (basI wo))), some (.int (iI (absI (atI 4 sp (basI wo))))), some (.int (iI t))] 32 [] := by
        intro nf
        induction nf with
        | zero => intro t h1 h2 hmu; exact absurd hmu (Nat.not_lt_zero _)
        | succ nf ih32 =>
          intro t h1 h2 hmu
          refine v_iload X dX4_fitsWithout_32 rfl ?_
          refine v_iload_n X dX4_fitsWithout_34 rfl ?_
          refine v_icmp_ge (tgt := 57) X dX4_fitsWithout_35 (by decide) (by omega) (by omega) (fun c2 => ?_) (fun c2 => ?_)
          · skip
            refine v_iconst X dX4_fitsWithout_57 ?_
            exact v_zret X Y dX4_fitsWithout_58 (by first | decide | omega | (split <;> omega)) (u := ()) (by refine (pI_0 ?_).symm; rintro (q | ⟨i, g1, g2, g3⟩); omega; exact h2 i g1 (by omega) g3) (by rfl)
          · skip
            refine v_aload_n X dX4_fitsWithout_38 rfl ?_
            refine v_iload_n X dX4_fitsWithout_39 rfl ?_
            refine v_iload X dX4_fitsWithout_40 rfl ?_
            refine v_iload_n X dX4_fitsWithout_42 rfl ?_
            refine res_E X (run_V X (c_X4_fitsAt (g := g) (by first | assumption | omega) (by first | assumption | omega) (by first | assumption | omega) (by first | assumption | omega) (by first | assumption | omega) (by first | assumption | omega) (by first | assumption | omega)) gX4_fitsWithout_X4_fitsAt rfl hdX4_fitsAt ⟨(Nat.le_of_ble_eq_true rfl), (Nat.le_of_ble_eq_true rfl)⟩ ⟨(Nat.le_of_ble_eq_true rfl), (Nat.le_of_ble_eq_true rfl)⟩ 0 rfl rfl rfl [0, 1, 2] rfl rfl rfl rfl (by simp [Value.category]) dX4_fitsWithout_43) [0, 1, 2] rfl rfl ?_
            refine v_ifp_eq (tgt := 51) X dX4_fitsWithout_46 (by decide) (fun c3 => ?_) (fun c3 => ?_)
            · skip
              refine v_iinc X dX4_fitsWithout_51 rfl (by decide) rfl ?_
              dsimp only [List.set]
              refine v_goto (tgt := 32) X dX4_fitsWithout_54 (by decide) ?_
              exact ih32 _ (by omega) (by
                  intro i g1 g2; by_cases e : i = t
                  · subst e; assumption
                  · exact h2 i g1 (by omega)) (by omega)
            · skip
              refine v_iconst X dX4_fitsWithout_49 ?_
              exact v_zret X Y dX4_fitsWithout_50 (by first | decide | omega | (split <;> omega)) (u := ()) (by exact (pI_1 (Or.inr ⟨t, h1.1, by omega, by assumption⟩)).symm) (by rfl)
      exact L32 _ _ (by omega) (by intro i g1 g2; exfalso; omega) (Nat.lt_succ_self _)
    · skip
      refine v_iconst X dX4_fitsWithout_18 ?_
      exact v_zret X Y dX4_fitsWithout_19 (by first | decide | omega | (split <;> omega)) (u := ()) (by exact (pI_1 (Or.inl (by omega))).symm) (by rfl)
  refine v_iload_n X dX4_fitsWithout_0 rfl ?_
  refine v_if_ne (tgt := 8) X dX4_fitsWithout_1 (by decide) (by omega) (fun c4 => ?_) (fun c4 => ?_)
  · skip
    have e0 : (0 : Int) = basI wo := (if_neg (by assumption)).symm
    refine v_iconst X dX4_fitsWithout_8 ?_
    rw [e0]
    refine v_istore_n X dX4_fitsWithout_9 2 rfl (by decide) rfl ?_
    dsimp only [List.set]
    exact J10
  · skip
    have e0 : (1 : Int) = basI wo := (if_pos (by assumption)).symm
    refine v_iconst X dX4_fitsWithout_4 ?_
    refine v_goto (tgt := 9) X dX4_fitsWithout_5 (by decide) ?_
    rw [e0]
    refine v_istore_n X dX4_fitsWithout_9 2 rfl (by decide) rfl ?_
    dsimp only [List.set]
    exact J10

theorem hdX4_moved : yX4_moved.cls = RX4 ∧ yX4_moved.cls ≠ "java/lang/invoke/MethodHandle" ∧ yX4_moved.cls ≠ "java/lang/invoke/VarHandle" ∧ (parseMethodDescriptor yX4_moved.desc).map (fun d => d.parameters.length) = some 0 := ⟨rfl, by decide +kernel, by decide +kernel, by decide +kernel⟩
set_option maxHeartbeats 4000000 in
set_option maxRecDepth 100000 in
theorem c_X4_moved {g : Gx} {a a1 a2 : Nat} {ar sp : Nat → Int} {cn pa : Int}  (har : Bd 0 719 ar) (hsp : Bd (-24) 24 sp) (hpa : 1 ≤ pa ∧ pa ≤ 720) (hcn : 0 ≤ cn ∧ cn ≤ 4) : CtE g yX4_moved wsX4_moved 5 118 [.ref a] (wRea g a a1 a2 ar sp cn pa) (bitsN (fun h => pB (FitW ar sp cn pa h)) cn.toNat) (wRea g a a1 a2 ar sp cn pa) := by
  refine m_go (cc := cX4_moved) (nL := 3) (by decide +kernel) rfl (Nat.le_of_ble_eq_true rfl) (fun x X Y hnm => ?_)
  refine v_eq (lo2 := [some (.ref a), none, none]) rfl rfl rfl rfl ?_
  refine v_iconst X dX4_moved_0 ?_
  refine v_istore_n X dX4_moved_1 1 rfl (by decide) rfl ?_
  dsimp only [List.set]
  refine v_iconst X dX4_moved_2 ?_
  refine v_istore_n X dX4_moved_3 2 rfl (by decide) rfl ?_
  dsimp only [List.set]
  have L4 : ∀ (nf : Nat) (b : Int) (h : Int) (h1 : 0 ≤ h ∧ h ≤ cn) (h2 : b = bitsN (fun h => pB (FitW ar sp cn pa h)) h.toNat) (_ : (cn - h).toNat < nf), V g x 0 0 (wRea g a a1 a2 ar sp cn pa) [some (.ref a), some (.int (iI b)), some (.int (iI h))] 4 [] := by
    intro nf
    induction nf with
    | zero => intro b h h1 h2 hmu; exact absurd hmu (Nat.not_lt_zero _)
    | succ nf ih4 =>
      intro b h h1 h2 hmu
      refine v_iload_n X dX4_moved_4 rfl ?_
      refine v_aload_n X dX4_moved_5 rfl ?_
      refine v_get X (fun _ h => List.mem_cons_of_mem _ (List.mem_append_right _ h)) 0 rfl rfl 2 (by decide) rfl (List.mem_of_getElem? (i := 1) rfl) rfl dX4_moved_6 ?_
      refine v_icmp_ge (tgt := 32) X dX4_moved_9 (by decide) (by omega) (by omega) (fun c1 => ?_) (fun c1 => ?_)
      · skip
        refine v_iload_n X dX4_moved_32 rfl ?_
        exact v_iret X Y dX4_moved_33 (u := ()) (by
            have e : h = cn := by omega
            rw [h2, e]) (by rfl)
      · skip
        refine v_aload_n X dX4_moved_12 rfl ?_
        refine v_iload_n X dX4_moved_13 rfl ?_
        refine res_E X (run_V X (c_X4_fitsWithout (g := g) (by first | assumption | omega) (by first | assumption | omega) (by first | assumption | omega) (by first | assumption | omega) (by first | assumption | omega)) gX4_moved_X4_fitsWithout rfl hdX4_fitsWithout ⟨(Nat.le_of_ble_eq_true rfl), (Nat.le_of_ble_eq_true rfl)⟩ ⟨(Nat.le_of_ble_eq_true rfl), (Nat.le_of_ble_eq_true rfl)⟩ 0 rfl rfl rfl [0, 1, 2] rfl rfl rfl rfl (by simp [Value.category]) dX4_moved_14) [0, 1, 2] rfl rfl ?_
        have q9 := pI_or (FitW ar sp cn pa h)
        refine v_ifp_eq (tgt := 26) X dX4_moved_17 (by decide) (fun c2 => ?_) (fun c2 => ?_)
        · skip
          refine v_iinc X dX4_moved_26 rfl (by decide) rfl ?_
          dsimp only [List.set]
          refine v_goto (tgt := 4) X dX4_moved_29 (by decide) ?_
          exact ih4 _ _ (by omega) (by rw [bitsN_s h1.1, ← h2]; simp only [show ((h.toNat : Nat) : Int) = h by omega]; first | rw [if_pos (pB_iff.mpr (by assumption))] | rw [if_neg (fun z => absurd (pB_iff.mp z) (by assumption))]) (by omega)
        · skip
          refine v_iload_n X dX4_moved_20 rfl ?_
          refine v_iconst X dX4_moved_21 ?_
          refine v_iload_n X dX4_moved_22 rfl ?_
          refine v_ishl X dX4_moved_23 ?_
          refine v_ior X dX4_moved_24 ?_
          refine v_istore_n X dX4_moved_25 1 rfl (by decide) rfl ?_
          dsimp only [List.set]
          refine v_iinc X dX4_moved_26 rfl (by decide) rfl ?_
          dsimp only [List.set]
          refine v_goto (tgt := 4) X dX4_moved_29 (by decide) ?_
          exact ih4 _ _ (by omega) (by rw [bitsN_s h1.1, ← h2]; simp only [show ((h.toNat : Nat) : Int) = h by omega]; first | rw [if_pos (pB_iff.mpr (by assumption))] | rw [if_neg (fun z => absurd (pB_iff.mp z) (by assumption))]) (by omega)
  exact L4 _ _ _ (by omega) (by rfl) (Nat.lt_succ_self _)

theorem hdX4_leastMove : yX4_leastMove.cls = RX4 ∧ yX4_leastMove.cls ≠ "java/lang/invoke/MethodHandle" ∧ yX4_leastMove.cls ≠ "java/lang/invoke/VarHandle" ∧ (parseMethodDescriptor yX4_leastMove.desc).map (fun d => d.parameters.length) = some 0 := ⟨rfl, by decide +kernel, by decide +kernel, by decide +kernel⟩
set_option maxHeartbeats 4000000 in
set_option maxRecDepth 100000 in
theorem c_X4_leastMove {g : Gx} {a a1 a2 : Nat} {ar sp : Nat → Int} {cn pa : Int}  (har : Bd 0 719 ar) (hsp : Bd (-24) 24 sp) (hpa : 1 ≤ pa ∧ pa ≤ 720) (hcn : 0 ≤ cn ∧ cn ≤ 4) : CtE g yX4_leastMove wsX4_leastMove 4 94 [.ref a] (wRea g a a1 a2 ar sp cn pa) (lmI ar sp cn pa) (wRea g a a1 a2 ar sp cn pa) := by
  refine m_go (cc := cX4_leastMove) (nL := 6) (by decide +kernel) rfl (Nat.le_of_ble_eq_true rfl) (fun x X Y hnm => ?_)
  refine v_eq (lo2 := [some (.ref a), none, none, none, none, none]) rfl rfl rfl rfl ?_
  have m1 := atI_bd (cn := 4) (h := 0) hsp (by omega) (by omega)
  have m2 := absI_bd m1
  have f1 : (if 0 ≤ atI 4 sp 0 then atI 4 sp 0 else -(atI 4 sp 0)) = absI (atI 4 sp 0) := rfl
  refine v_aload_n X dX4_leastMove_0 rfl ?_
  refine v_get X (fun _ h => List.mem_cons_of_mem _ (List.mem_append_right _ h)) 0 rfl rfl 2 (by decide) rfl (List.mem_of_getElem? (i := 1) rfl) rfl dX4_leastMove_1 ?_
  refine v_iconst X dX4_leastMove_4 ?_
  refine v_isub X dX4_leastMove_5 ?_
  refine v_istore_n X dX4_leastMove_6 1 rfl (by decide) rfl ?_
  dsimp only [List.set]
  refine v_iload_n X dX4_leastMove_7 rfl ?_
  refine v_iconst X dX4_leastMove_8 ?_
  refine v_icmp_ge (tgt := 14) X dX4_leastMove_9 (by decide) (by omega) (by omega) (fun c1 => ?_) (fun c1 => ?_)
  · skip
    refine v_iconst X dX4_leastMove_14 ?_
    refine v_istore_n X dX4_leastMove_15 2 rfl (by decide) rfl ?_
    dsimp only [List.set]
    refine v_aload_n X dX4_leastMove_16 rfl ?_
    refine v_iconst X dX4_leastMove_17 ?_
    refine res_E X (run_V X (c_X4_speedOf (g := g) (by first | assumption | omega) (by first | assumption | omega)) gX4_leastMove_X4_speedOf rfl hdX4_speedOf ⟨(Nat.le_of_ble_eq_true rfl), (Nat.le_of_ble_eq_true rfl)⟩ ⟨(Nat.le_of_ble_eq_true rfl), (Nat.le_of_ble_eq_true rfl)⟩ 0 rfl rfl rfl [0, 1, 2] rfl rfl rfl rfl (by simp [Value.category]) dX4_leastMove_18) [0, 1, 2] rfl rfl ?_
    refine v_abs X (List.mem_of_getElem? (i := 2) rfl) (List.mem_of_getElem? (i := 3) rfl) (List.mem_of_getElem? (i := 4) rfl) (List.mem_of_getElem? (i := 5) rfl) ⟨(Nat.le_of_ble_eq_true rfl), (Nat.le_of_ble_eq_true rfl), (Nat.le_of_ble_eq_true rfl), (Nat.le_of_ble_eq_true rfl)⟩ (by omega) dX4_leastMove_21 ?_
    rw [f1]
    refine v_istore_n X dX4_leastMove_24 3 rfl (by decide) rfl ?_
    dsimp only [List.set]
    refine v_iconst X dX4_leastMove_25 ?_
    refine v_istore X dX4_leastMove_26 (by decide) rfl ?_
    dsimp only [List.set]
    have L28 : ∀ (nf : Nat) (ls : Int) (t : Int) (h1 : 0 ≤ t ∧ t ≤ absI (atI 4 sp 0)) (h2 : ls = lmN (fun t => pB (FitA ar sp cn pa 0 t (cn - 1))) (fun t => gapI ar sp pa 0 t (cn - 1)) t.toNat) (h3 : R32 ls) (_ : (absI (atI 4 sp 0) - t).toNat < nf), V g x 0 0 (wRea g a a1 a2 ar sp cn pa) [some (.ref a), some (.int (iI (cn - 1))), some (.int (iI ls)), some (.int (iI (absI (atI 4 sp 0)))), some (.int (iI t)), none] 28 [] := by
      intro nf
      induction nf with
      | zero => intro ls t h1 h2 h3 hmu; exact absurd hmu (Nat.not_lt_zero _)
      | succ nf ih28 =>
        intro ls t h1 h2 h3 hmu
        refine v_iload X dX4_leastMove_28 rfl ?_
        refine v_iload_n X dX4_leastMove_30 rfl ?_
        refine v_icmp_ge (tgt := 77) X dX4_leastMove_31 (by decide) (by omega) (by omega) (fun c2 => ?_) (fun c2 => ?_)
        · skip
          refine v_iload_n X dX4_leastMove_77 rfl ?_
          exact v_iret X Y dX4_leastMove_78 (u := ()) (by
              have e : t = absI (atI 4 sp 0) := by omega
              unfold lmI; rw [if_neg (by omega), h2, e]) (by rfl)
        · skip
          refine v_aload_n X dX4_leastMove_34 rfl ?_
          refine v_iconst X dX4_leastMove_35 ?_
          refine v_iload X dX4_leastMove_36 rfl ?_
          refine v_iload_n X dX4_leastMove_38 rfl ?_
          refine res_E X (run_V X (c_X4_fitsAt (g := g) (by first | assumption | omega) (by first | assumption | omega) (by first | assumption | omega) (by first | assumption | omega) (by first | assumption | omega) (by first | assumption | omega) (by first | assumption | omega)) gX4_leastMove_X4_fitsAt rfl hdX4_fitsAt ⟨(Nat.le_of_ble_eq_true rfl), (Nat.le_of_ble_eq_true rfl)⟩ ⟨(Nat.le_of_ble_eq_true rfl), (Nat.le_of_ble_eq_true rfl)⟩ 0 rfl rfl rfl [0, 1, 2] rfl rfl rfl rfl (by simp [Value.category]) dX4_leastMove_39) [0, 1, 2] rfl rfl ?_
          have q9 := pI_or (FitA ar sp cn pa 0 t (cn - 1))
          refine v_ifp_eq (tgt := 71) X dX4_leastMove_42 (by decide) (fun c3 => ?_) (fun c3 => ?_)
          · skip
            refine v_iinc X dX4_leastMove_71 rfl (by decide) rfl ?_
            dsimp only [List.set]
            refine v_goto (tgt := 28) X dX4_leastMove_74 (by decide) ?_
            exact ih28 _ _ (by omega) (by rw [lmN_s h1.1, ← h2]; simp only [show ((t.toNat : Nat) : Int) = t by omega]; first | (rw [if_pos (pB_iff.mpr (by assumption))]; first | rw [if_pos (show ls < 0 by omega)] | rw [if_neg (show ¬ ls < 0 by omega)]) | rw [if_neg (fun z => absurd (pB_iff.mp z) (by assumption))]) (by first | omega | (split <;> omega)) (by omega)
          · skip
            refine v_aload_n X dX4_leastMove_45 rfl ?_
            refine v_iconst X dX4_leastMove_46 ?_
            refine v_iload X dX4_leastMove_47 rfl ?_
            refine v_iload_n X dX4_leastMove_49 rfl ?_
            refine res_E X (run_V X (c_X4_gap (g := g) (by first | assumption | omega) (by first | assumption | omega) (by first | assumption | omega) (by first | assumption | omega) (by first | assumption | omega) (by first | assumption | omega)) gX4_leastMove_X4_gap rfl hdX4_gap ⟨(Nat.le_of_ble_eq_true rfl), (Nat.le_of_ble_eq_true rfl)⟩ ⟨(Nat.le_of_ble_eq_true rfl), (Nat.le_of_ble_eq_true rfl)⟩ 0 rfl rfl rfl [0, 1, 2] rfl rfl rfl rfl (by simp [Value.category]) dX4_leastMove_50) [0, 1, 2] rfl rfl ?_
            have q8 := gapI_r (b := 0) (t := t) (h := cn - 1) hsp har hpa
            have q7 := gapI_nn (b := 0) (t := t) (h := cn - 1) hsp har hpa
            refine v_istore X dX4_leastMove_53 (by decide) rfl ?_
            dsimp only [List.set]
            refine v_iload_n X dX4_leastMove_55 rfl ?_
            refine v_if_ge (tgt := 64) X dX4_leastMove_56 (by decide) (by omega) (fun c4 => ?_) (fun c4 => ?_)
            · skip
              refine v_iload_n X dX4_leastMove_64 rfl ?_
              refine v_iload X dX4_leastMove_65 rfl ?_
              refine v_min X (List.mem_of_getElem? (i := 6) rfl) (List.mem_of_getElem? (i := 7) rfl) (List.mem_of_getElem? (i := 4) rfl) (List.mem_of_getElem? (i := 8) rfl) ⟨(Nat.le_of_ble_eq_true rfl), (Nat.le_of_ble_eq_true rfl), (Nat.le_of_ble_eq_true rfl), (Nat.le_of_ble_eq_true rfl)⟩ (by omega) (by omega) dX4_leastMove_67 ?_
              refine v_istore_n X dX4_leastMove_70 2 rfl (by decide) rfl ?_
              dsimp only [List.set]
              refine v_iinc X dX4_leastMove_71 rfl (by decide) rfl ?_
              dsimp only [List.set]
              refine v_goto (tgt := 28) X dX4_leastMove_74 (by decide) ?_
              refine v_drop 5 ?_
              dsimp only [List.set]
              exact ih28 _ _ (by omega) (by rw [lmN_s h1.1, ← h2]; simp only [show ((t.toNat : Nat) : Int) = t by omega]; first | (rw [if_pos (pB_iff.mpr (by assumption))]; first | rw [if_pos (show ls < 0 by omega)] | rw [if_neg (show ¬ ls < 0 by omega)]) | rw [if_neg (fun z => absurd (pB_iff.mp z) (by assumption))]) (by first | omega | (split <;> omega)) (by omega)
            · skip
              refine v_iload X dX4_leastMove_59 rfl ?_
              refine v_goto (tgt := 70) X dX4_leastMove_61 (by decide) ?_
              refine v_istore_n X dX4_leastMove_70 2 rfl (by decide) rfl ?_
              dsimp only [List.set]
              refine v_iinc X dX4_leastMove_71 rfl (by decide) rfl ?_
              dsimp only [List.set]
              refine v_goto (tgt := 28) X dX4_leastMove_74 (by decide) ?_
              refine v_drop 5 ?_
              dsimp only [List.set]
              exact ih28 _ _ (by omega) (by rw [lmN_s h1.1, ← h2]; simp only [show ((t.toNat : Nat) : Int) = t by omega]; first | (rw [if_pos (pB_iff.mpr (by assumption))]; first | rw [if_pos (show ls < 0 by omega)] | rw [if_neg (show ¬ ls < 0 by omega)]) | rw [if_neg (fun z => absurd (pB_iff.mp z) (by assumption))]) (by first | omega | (split <;> omega)) (by omega)
    exact L28 _ _ _ (by omega) (by rfl) (by first | omega | (split <;> omega)) (Nat.lt_succ_self _)
  · skip
    refine v_iconst X dX4_leastMove_12 ?_
    exact v_iret X Y dX4_leastMove_13 (u := ()) (by exact (if_pos (by omega)).symm) (by rfl)

theorem hdX4_take : yX4_take.cls = RX4 ∧ yX4_take.cls ≠ "java/lang/invoke/MethodHandle" ∧ yX4_take.cls ≠ "java/lang/invoke/VarHandle" ∧ (parseMethodDescriptor yX4_take.desc).map (fun d => d.parameters.length) = some 5 := ⟨rfl, by decide +kernel, by decide +kernel, by decide +kernel⟩
set_option maxHeartbeats 4000000 in
set_option maxRecDepth 100000 in
theorem c_X4_take {g : Gx} {a a1 a2 b b1 b2 b3 d d1 d2 d3 : Nat} {ar sp : Nat → Int} {cn pa mk cc : Int} {so tu sl : Nat → Int} {it la le : Nat → Int} {r i q : Int} (hcn : 0 ≤ cc ∧ cc ≤ 4) (hso : Bd 0 5 so) (htu : Bd 0 12 tu) (hit : Bd (-2147483648) 2147483647 it) (hle : Bd 0 40 le) (hr : 0 ≤ r ∧ r < 8) (hi : 0 ≤ i ∧ i ≤ 40) (hq : R32 q) : CtW g yX4_take wsX4_take 4 86 [.ref a, .ref b, .ref d, .int (iI r), .int (iI i), .int (iI q)] (wRea g a a1 a2 ar sp cn pa ++ (wClk g b b1 b2 b3 mk cc so tu sl ++ wRow g d d1 d2 d3 it la le)) (wRea g a a1 a2 (overI cc (rdA it le r i) ar) (overI cc (rdS cc so tu) sp) cc q ++ (wClk g b b1 b2 b3 mk cc so tu sl ++ wRow g d d1 d2 d3 it la le)) := by
  refine m_go (cc := cX4_take) (nL := 7) (by decide +kernel) rfl (Nat.le_of_ble_eq_true rfl) (fun x X Y hnm => ?_)
  refine v_eq (lo2 := [some (.ref a), some (.ref b), some (.ref d), some (.int (iI r)), some (.int (iI i)), some (.int (iI q)), none]) rfl rfl rfl rfl ?_
  have f0 : (if (4 : Int) < cc then 4 else cc) = cc := if_neg (by omega)
  refine v_aload_n X dX4_take_0 rfl ?_
  refine v_aload_n X dX4_take_1 rfl ?_
  refine v_get X (fun _ h => List.mem_cons_of_mem _ (List.mem_append_left _ (List.mem_append_left _ (List.mem_append_right _ h)))) 3 rfl rfl 4 (by decide) rfl (List.mem_of_getElem? (i := 1) rfl) rfl dX4_take_2 ?_
  refine v_iconst X dX4_take_5 ?_
  refine v_min X (List.mem_of_getElem? (i := 2) rfl) (List.mem_of_getElem? (i := 3) rfl) (List.mem_of_getElem? (i := 4) rfl) (List.mem_of_getElem? (i := 5) rfl) ⟨(Nat.le_of_ble_eq_true rfl), (Nat.le_of_ble_eq_true rfl), (Nat.le_of_ble_eq_true rfl), (Nat.le_of_ble_eq_true rfl)⟩ (by omega) (by omega) dX4_take_6 ?_
  rw [f0]
  refine v_put X (fun _ h => List.mem_cons_of_mem _ (List.mem_append_left _ (List.mem_append_right _ h))) tyX4 tyX4_ok nmX4 0 rfl rfl 2 (by decide) rfl (List.mem_of_getElem? (i := 6) rfl) rfl rfl rfl (Nat.le_of_ble_eq_true rfl) dX4_take_9 ?_
  dsimp only [List.set, wRea, wClk, wRow, List.cons_append, List.nil_append]
  refine v_aload_n X dX4_take_12 rfl ?_
  refine v_iload X dX4_take_13 rfl ?_
  refine v_put X (fun _ h => List.mem_cons_of_mem _ (List.mem_append_left _ (List.mem_append_right _ h))) tyX4 tyX4_ok nmX4 0 rfl rfl 3 (by decide) rfl (List.mem_of_getElem? (i := 7) rfl) rfl rfl rfl (Nat.le_of_ble_eq_true rfl) dX4_take_15 ?_
  dsimp only [List.set, wRea, wClk, wRow, List.cons_append, List.nil_append]
  refine v_iconst X dX4_take_18 ?_
  refine v_istore X dX4_take_19 (by decide) rfl ?_
  dsimp only [List.set]
  have L21 : ∀ (nf : Nat) (f1 : Nat → Int) (f2 : Nat → Int) (h : Int) (h1 : 0 ≤ h ∧ h ≤ cc) (h2 : ∀ j : Nat, f1 j = (if (j : Int) < h then itmI it le r (i + j) else ar j) ∧ f2 j = (if (j : Int) < h then spdI cc so tu j else sp j)) (_ : (cc - h).toNat < nf), V g x 0 0 (wRea g a a1 a2 f1 f2 cc q ++ (wClk g b b1 b2 b3 mk cc so tu sl ++ wRow g d d1 d2 d3 it la le)) [some (.ref a), some (.ref b), some (.ref d), some (.int (iI r)), some (.int (iI i)), some (.int (iI q)), some (.int (iI h))] 21 [] := by
    intro nf
    induction nf with
    | zero => intro f1 f2 h h1 h2 hmu; exact absurd hmu (Nat.not_lt_zero _)
    | succ nf ih21 =>
      intro f1 f2 h h1 h2 hmu
      refine v_iload X dX4_take_21 rfl ?_
      refine v_aload_n X dX4_take_23 rfl ?_
      refine v_get X (fun _ h => List.mem_cons_of_mem _ (List.mem_append_left _ (List.mem_append_right _ h))) 0 rfl rfl 2 (by decide) rfl (List.mem_of_getElem? (i := 6) rfl) rfl dX4_take_24 ?_
      refine v_icmp_ge (tgt := 66) X dX4_take_27 (by decide) (by omega) (by omega) (fun c1 => ?_) (fun c1 => ?_)
      · skip
        exact v_vret X Y dX4_take_66 (u := ()) trivial (by
            have e : h = cc := by omega
            subst e
            rw [show f1 = overI h (rdA it le r i) ar from funext (fun j => (h2 j).1), show f2 = overI h (rdS h so tu) sp from funext (fun j => (h2 j).2)])
      · skip
        refine v_aload_n X dX4_take_30 rfl ?_
        refine v_get X (fun _ h => List.mem_cons_of_mem _ (List.mem_append_left _ (List.mem_append_right _ h))) 0 rfl rfl 0 (by decide) rfl (List.mem_of_getElem? (i := 8) rfl) rfl dX4_take_31 ?_
        refine v_iload X dX4_take_34 rfl ?_
        refine v_aload_n X dX4_take_36 rfl ?_
        refine v_iload_n X dX4_take_37 rfl ?_
        refine v_iload X dX4_take_38 rfl ?_
        refine v_iload X dX4_take_40 rfl ?_
        refine v_iadd X dX4_take_42 ?_
        refine res_E X (run_V X (c_X5_item (g := g) (by first | assumption | omega) (by first | assumption | omega) (by first | assumption | omega) (by first | assumption | omega)) gX4_take_X5_item rfl hdX5_item ⟨(Nat.le_of_ble_eq_true rfl), (Nat.le_of_ble_eq_true rfl)⟩ ⟨(Nat.le_of_ble_eq_true rfl), (Nat.le_of_ble_eq_true rfl)⟩ 7 rfl rfl rfl [7, 8, 9, 10] rfl rfl rfl rfl (by simp [Value.category]) dX4_take_43) [7, 8, 9, 10] rfl rfl ?_
        refine v_iast X 1 rfl (by omega) (by omega) (by omega) dX4_take_46 ?_
        dsimp only [List.set, wRea, wClk, wRow, List.cons_append, List.nil_append]
        refine v_aload_n X dX4_take_47 rfl ?_
        refine v_get X (fun _ h => List.mem_cons_of_mem _ (List.mem_append_left _ (List.mem_append_right _ h))) 0 rfl rfl 1 (by decide) rfl (List.mem_of_getElem? (i := 9) rfl) rfl dX4_take_48 ?_
        refine v_iload X dX4_take_51 rfl ?_
        refine v_aload_n X dX4_take_53 rfl ?_
        refine v_iload X dX4_take_54 rfl ?_
        refine res_E X (run_V X (c_X2_speedOf (g := g) (by first | assumption | omega) (by first | assumption | omega) (by first | assumption | omega) (by first | assumption | omega)) gX4_take_X2_speedOf rfl hdX2_speedOf ⟨(Nat.le_of_ble_eq_true rfl), (Nat.le_of_ble_eq_true rfl)⟩ ⟨(Nat.le_of_ble_eq_true rfl), (Nat.le_of_ble_eq_true rfl)⟩ 3 rfl rfl rfl [3, 4, 5, 6] rfl rfl rfl rfl (by simp [Value.category]) dX4_take_56) [3, 4, 5, 6] rfl rfl ?_
        refine v_iast X 2 rfl (by omega) (by omega) (by omega) dX4_take_59 ?_
        dsimp only [List.set, wRea, wClk, wRow, List.cons_append, List.nil_append]
        refine v_iinc X dX4_take_60 rfl (by decide) rfl ?_
        dsimp only [List.set]
        refine v_goto (tgt := 21) X dX4_take_63 (by decide) ?_
        exact ih21 _ _ _ (by omega) (by
            intro j
            have q := h2 j
            rw [updI_e, updI_e]
            by_cases e : j = h.toNat
            · rw [if_pos e, if_pos e, if_pos (by omega), if_pos (by omega), show ((j : Nat) : Int) = h by omega]; exact ⟨rfl, rfl⟩
            · rw [if_neg e, if_neg e]
              by_cases e2 : (j : Int) < h
              · rw [if_pos e2, if_pos e2] at q; rw [if_pos (by omega), if_pos (by omega)]; exact q
              · rw [if_neg e2, if_neg e2] at q; rw [if_neg (by omega), if_neg (by omega)]; exact q) (by omega)
  exact L21 _ _ _ _ (by omega) (by intro j; rw [if_neg (by omega), if_neg (by omega)]; exact ⟨rfl, rfl⟩) (Nat.lt_succ_self _)

