theorem hdX7_found : yX7_found.cls = RX7 ∧ yX7_found.cls ≠ "java/lang/invoke/MethodHandle" ∧ yX7_found.cls ≠ "java/lang/invoke/VarHandle" ∧ (parseMethodDescriptor yX7_found.desc).map (fun d => d.parameters.length) = some 1 := ⟨rfl, by decide +kernel, by decide +kernel, by decide +kernel⟩
set_option maxHeartbeats 4000000 in
set_option maxRecDepth 100000 in
theorem c_X7_found {g : Gx} {B : Nat → Nat} {lf fi : Int}  {n : Int}  : CtE g yX7_found wsX7_found 0 0 [.ref (B 0), .int (iI n)] ([oAH g B (lf) (fi)]) (-1000010 - n) ([oAH g B (lf) (n)]) := by
  refine m_go (cc := cX7_found) (nL := 2) (by decide +kernel) rfl (Nat.le_of_ble_eq_true rfl) (fun x X Y hnm => ?_)
  refine v_eq (lo2 := [some (.ref (B 0)), some (.int (iI n))]) rfl rfl rfl rfl ?_
  refine v_aload_n X dX7_found_0 rfl ?_
  refine v_iload_n X dX7_found_1 rfl ?_
  refine v_put X (fun _ h => List.mem_cons_of_mem _ (List.mem_append_right _ h)) tyX7 tyX7_ok nmX7 0 rfl rfl 11 (by decide) rfl (List.mem_of_getElem? (i := 1) rfl) rfl rfl rfl (Nat.le_of_ble_eq_true rfl) dX7_found_2 ?_
  dsimp only [List.set, oAH, List.cons_append, List.nil_append]
  refine v_ldcw X (List.mem_of_getElem? (i := 2) rfl) dX7_found_5 (n := -1000010) (by decide) ?_
  refine v_iload_n X dX7_found_8 rfl ?_
  refine v_isub X dX7_found_9 ?_
  exact v_iret X Y dX7_found_10 (u := ()) (by first | rfl | omega | (split <;> omega) | (simp [*]; done)) (by rfl)

theorem hdX7_fine : yX7_fine.cls = RX7 ∧ yX7_fine.cls ≠ "java/lang/invoke/MethodHandle" ∧ yX7_fine.cls ≠ "java/lang/invoke/VarHandle" ∧ (parseMethodDescriptor yX7_fine.desc).map (fun d => d.parameters.length) = some 1 := ⟨rfl, by decide +kernel, by decide +kernel, by decide +kernel⟩
set_option maxHeartbeats 4000000 in
set_option maxRecDepth 100000 in
theorem c_X7_fine {g : Gx} {B : Nat → Nat} {lf fi : Int}  {n : Int}  : CtE g yX7_fine wsX7_fine 0 0 [.ref (B 0), .int (iI n)] ([oAH g B (lf) (fi)]) (n) ([oAH g B (lf) (0)]) := by
  refine m_go (cc := cX7_fine) (nL := 2) (by decide +kernel) rfl (Nat.le_of_ble_eq_true rfl) (fun x X Y hnm => ?_)
  refine v_eq (lo2 := [some (.ref (B 0)), some (.int (iI n))]) rfl rfl rfl rfl ?_
  refine v_aload_n X dX7_fine_0 rfl ?_
  refine v_iconst X dX7_fine_1 ?_
  refine v_put X (fun _ h => List.mem_cons_of_mem _ (List.mem_append_right _ h)) tyX7 tyX7_ok nmX7 0 rfl rfl 11 (by decide) rfl (List.mem_of_getElem? (i := 1) rfl) rfl rfl rfl (Nat.le_of_ble_eq_true rfl) dX7_fine_2 ?_
  dsimp only [List.set, oAH, List.cons_append, List.nil_append]
  refine v_iload_n X dX7_fine_5 rfl ?_
  exact v_iret X Y dX7_fine_6 (u := ()) (by first | rfl | omega | (split <;> omega) | (simp [*]; done)) (by rfl)

theorem hdX7_fault : yX7_fault.cls = RX7 ∧ yX7_fault.cls ≠ "java/lang/invoke/MethodHandle" ∧ yX7_fault.cls ≠ "java/lang/invoke/VarHandle" ∧ (parseMethodDescriptor yX7_fault.desc).map (fun d => d.parameters.length) = some 0 := ⟨rfl, by decide +kernel, by decide +kernel, by decide +kernel⟩
set_option maxHeartbeats 4000000 in
set_option maxRecDepth 100000 in
theorem c_X7_fault {g : Gx} {B : Nat → Nat} {lf fi : Int}    : CtE g yX7_fault wsX7_fault 0 0 [.ref (B 0)] ([oAH g B (lf) (fi)]) (lf) ([oAH g B (lf) (fi)]) := by
  refine m_go (cc := cX7_fault) (nL := 1) (by decide +kernel) rfl (Nat.le_of_ble_eq_true rfl) (fun x X Y hnm => ?_)
  refine v_eq (lo2 := [some (.ref (B 0))]) rfl rfl rfl rfl ?_
  refine v_aload_n X dX7_fault_0 rfl ?_
  refine v_get X (fun _ h => List.mem_cons_of_mem _ (List.mem_append_right _ h)) 0 rfl rfl 10 (by decide) rfl (List.mem_of_getElem? (i := 1) rfl) rfl dX7_fault_1 ?_
  exact v_iret X Y dX7_fault_4 (u := ()) (by first | rfl | omega | (split <;> omega) | (simp [*]; done)) (by rfl)

theorem hdX7_status : yX7_status.cls = RX7 ∧ yX7_status.cls ≠ "java/lang/invoke/MethodHandle" ∧ yX7_status.cls ≠ "java/lang/invoke/VarHandle" ∧ (parseMethodDescriptor yX7_status.desc).map (fun d => d.parameters.length) = some 0 := ⟨rfl, by decide +kernel, by decide +kernel, by decide +kernel⟩
set_option maxHeartbeats 4000000 in
set_option maxRecDepth 100000 in
theorem c_X7_status {g : Gx} {B : Nat → Nat} {lf fi : Int}    : CtE g yX7_status wsX7_status 0 0 [.ref (B 0)] ([oAH g B (lf) (fi)]) (fi) ([oAH g B (lf) (fi)]) := by
  refine m_go (cc := cX7_status) (nL := 1) (by decide +kernel) rfl (Nat.le_of_ble_eq_true rfl) (fun x X Y hnm => ?_)
  refine v_eq (lo2 := [some (.ref (B 0))]) rfl rfl rfl rfl ?_
  refine v_aload_n X dX7_status_0 rfl ?_
  refine v_get X (fun _ h => List.mem_cons_of_mem _ (List.mem_append_right _ h)) 0 rfl rfl 11 (by decide) rfl (List.mem_of_getElem? (i := 1) rfl) rfl dX7_status_1 ?_
  exact v_iret X Y dX7_status_4 (u := ()) (by first | rfl | omega | (split <;> omega) | (simp [*]; done)) (by rfl)

theorem hdX7_isOfKind : yX7_isOfKind.cls = RX7 ∧ yX7_isOfKind.cls ≠ "java/lang/invoke/MethodHandle" ∧ yX7_isOfKind.cls ≠ "java/lang/invoke/VarHandle" ∧ (parseMethodDescriptor yX7_isOfKind.desc).map (fun d => d.parameters.length) = some 2 := ⟨rfl, by decide +kernel, by decide +kernel, by decide +kernel⟩
set_option maxHeartbeats 4000000 in
set_option maxRecDepth 100000 in
theorem c_X7_isOfKind {g : Gx} {s t : Int} (hs : R32 s) (ht : R32 t) : CtE g yX7_isOfKind wsX7_isOfKind 0 0 [.int (iI s), .int (iI t)] ([]) (if t = 0 ∨ s = t ∨ (t = 1 ∧ (s = 2 ∨ s = 3)) ∨ (t = 4 ∧ s = 5) then 1 else 0) ([]) := by
  refine m_go (cc := cX7_isOfKind) (nL := 2) (by decide +kernel) rfl (Nat.le_of_ble_eq_true rfl) (fun x X Y hnm => ?_)
  refine v_eq (lo2 := [some (.int (iI s)), some (.int (iI t))]) rfl rfl rfl rfl ?_
  refine v_iload_n X dX7_isOfKind_0 rfl ?_
  refine v_if_eq (tgt := 9) X dX7_isOfKind_1 (by decide) (by omega) (fun c1 => ?_) (fun c1 => ?_)
  · skip
    refine v_iconst X dX7_isOfKind_9 ?_
    exact v_zret X Y dX7_isOfKind_10 (by first | decide | omega | (split <;> omega)) (u := ()) (by first | rfl | omega | (split <;> omega) | (simp [*]; done)) (by rfl)
  · skip
    refine v_iload_n X dX7_isOfKind_4 rfl ?_
    refine v_iload_n X dX7_isOfKind_5 rfl ?_
    refine v_icmp_ne (tgt := 11) X dX7_isOfKind_6 (by decide) (by omega) (by omega) (fun c2 => ?_) (fun c2 => ?_)
    · skip
      refine v_iload_n X dX7_isOfKind_11 rfl ?_
      refine v_iconst X dX7_isOfKind_12 ?_
      refine v_icmp_ne (tgt := 34) X dX7_isOfKind_13 (by decide) (by omega) (by omega) (fun c3 => ?_) (fun c3 => ?_)
      · skip
        refine v_iload_n X dX7_isOfKind_34 rfl ?_
        refine v_iconst X dX7_isOfKind_35 ?_
        refine v_icmp_ne (tgt := 48) X dX7_isOfKind_36 (by decide) (by omega) (by omega) (fun c4 => ?_) (fun c4 => ?_)
        · skip
          refine v_iconst X dX7_isOfKind_48 ?_
          exact v_zret X Y dX7_isOfKind_49 (by first | decide | omega | (split <;> omega)) (u := ()) (by first | rfl | omega | (split <;> omega) | (simp [*]; done)) (by rfl)
        · skip
          refine v_iload_n X dX7_isOfKind_39 rfl ?_
          refine v_iconst X dX7_isOfKind_40 ?_
          refine v_icmp_ne (tgt := 48) X dX7_isOfKind_41 (by decide) (by omega) (by omega) (fun c5 => ?_) (fun c5 => ?_)
          · skip
            refine v_iconst X dX7_isOfKind_48 ?_
            exact v_zret X Y dX7_isOfKind_49 (by first | decide | omega | (split <;> omega)) (u := ()) (by first | rfl | omega | (split <;> omega) | (simp [*]; done)) (by rfl)
          · skip
            refine v_iconst X dX7_isOfKind_44 ?_
            refine v_goto (tgt := 49) X dX7_isOfKind_45 (by decide) ?_
            exact v_zret X Y dX7_isOfKind_49 (by first | decide | omega | (split <;> omega)) (u := ()) (by first | rfl | omega | (split <;> omega) | (simp [*]; done)) (by rfl)
      · skip
        refine v_iload_n X dX7_isOfKind_16 rfl ?_
        refine v_iconst X dX7_isOfKind_17 ?_
        refine v_icmp_eq (tgt := 26) X dX7_isOfKind_18 (by decide) (by omega) (by omega) (fun c6 => ?_) (fun c6 => ?_)
        · skip
          refine v_iconst X dX7_isOfKind_26 ?_
          refine v_goto (tgt := 49) X dX7_isOfKind_27 (by decide) ?_
          exact v_zret X Y dX7_isOfKind_49 (by first | decide | omega | (split <;> omega)) (u := ()) (by first | rfl | omega | (split <;> omega) | (simp [*]; done)) (by rfl)
        · skip
          refine v_iload_n X dX7_isOfKind_21 rfl ?_
          refine v_iconst X dX7_isOfKind_22 ?_
          refine v_icmp_ne (tgt := 30) X dX7_isOfKind_23 (by decide) (by omega) (by omega) (fun c7 => ?_) (fun c7 => ?_)
          · skip
            refine v_iconst X dX7_isOfKind_30 ?_
            refine v_goto (tgt := 49) X dX7_isOfKind_31 (by decide) ?_
            exact v_zret X Y dX7_isOfKind_49 (by first | decide | omega | (split <;> omega)) (u := ()) (by first | rfl | omega | (split <;> omega) | (simp [*]; done)) (by rfl)
          · skip
            refine v_iconst X dX7_isOfKind_26 ?_
            refine v_goto (tgt := 49) X dX7_isOfKind_27 (by decide) ?_
            exact v_zret X Y dX7_isOfKind_49 (by first | decide | omega | (split <;> omega)) (u := ()) (by first | rfl | omega | (split <;> omega) | (simp [*]; done)) (by rfl)
    · skip
      refine v_iconst X dX7_isOfKind_9 ?_
      exact v_zret X Y dX7_isOfKind_10 (by first | decide | omega | (split <;> omega)) (u := ()) (by first | rfl | omega | (split <;> omega) | (simp [*]; done)) (by rfl)

theorem hdX7_firstMeeting : yX7_firstMeeting.cls = RX7 ∧ yX7_firstMeeting.cls ≠ "java/lang/invoke/MethodHandle" ∧ yX7_firstMeeting.cls ≠ "java/lang/invoke/VarHandle" ∧ (parseMethodDescriptor yX7_firstMeeting.desc).map (fun d => d.parameters.length) = some 4 := ⟨rfl, by decide +kernel, by decide +kernel, by decide +kernel⟩
set_option maxHeartbeats 4000000 in
set_option maxRecDepth 100000 in
theorem c_X7_firstMeeting {g : Gx} {b h p q : Int} (hb : 0 ≤ b ∧ b ≤ 192) (hh : 0 ≤ h ∧ h ≤ 2) (hp : 0 ≤ p ∧ p < q) (hq : 1 ≤ q ∧ q ≤ 9999) : CtE g yX7_firstMeeting wsX7_firstMeeting 0 0 [.int (iI b), .int (iI h), .int (iI p), .int (iI q)] ([]) (fmI b h p q) ([]) := by
  refine m_go (cc := cX7_firstMeeting) (nL := 6) (by decide +kernel) rfl (Nat.le_of_ble_eq_true rfl) (fun x X Y hnm => ?_)
  refine v_eq (lo2 := [some (.int (iI b)), some (.int (iI h)), some (.int (iI p)), some (.int (iI q)), none, none]) rfl rfl rfl rfl ?_
  have m1 := mul_nn hb (show 0 ≤ p ∧ p ≤ 9998 by omega)
  have m2 : (b * p + q - 1).tdiv q = (b * p + q - 1) / q := tdiv_of_nn (by omega)
  have m3 : 0 ≤ (b * p + q - 1) / q := Int.ediv_nonneg (by omega) (by omega)
  have m4 : (b * p + q - 1) / q ≤ b * p + q - 1 := Int.ediv_le_self _ (by omega)
  have m5 : ((b * p + q - 1) / q).tmod 2 = ((b * p + q - 1) / q) % 2 := Int.tmod_eq_emod_of_nonneg m3
  refine v_iload_n X dX7_firstMeeting_0 rfl ?_
  refine v_if_ne (tgt := 8) X dX7_firstMeeting_1 (by decide) (by omega) (fun c1 => ?_) (fun c1 => ?_)
  · skip
    refine v_iconst X dX7_firstMeeting_8 ?_
    refine v_istore X dX7_firstMeeting_9 (by decide) rfl ?_
    dsimp only [List.set]
    refine v_iload_n X dX7_firstMeeting_11 rfl ?_
    refine v_iconst X dX7_firstMeeting_12 ?_
    refine v_icmp_ge (tgt := 19) X dX7_firstMeeting_13 (by decide) (by omega) (by omega) (fun c2 => ?_) (fun c2 => ?_)
    · skip
      refine v_iload_n X dX7_firstMeeting_19 rfl ?_
      refine v_iload_n X dX7_firstMeeting_20 rfl ?_
      refine v_imul X dX7_firstMeeting_21 ?_
      refine v_iload_n X dX7_firstMeeting_22 rfl ?_
      refine v_iadd X dX7_firstMeeting_23 ?_
      refine v_iconst X dX7_firstMeeting_24 ?_
      refine v_isub X dX7_firstMeeting_25 ?_
      refine v_iload_n X dX7_firstMeeting_26 rfl ?_
      refine v_idiv X dX7_firstMeeting_27 (by omega) (by omega) (by omega) ?_
      rw [m2]
      refine v_istore X dX7_firstMeeting_28 (by decide) rfl ?_
      dsimp only [List.set]
      refine v_iload_n X dX7_firstMeeting_30 rfl ?_
      refine v_if_eq (tgt := 44) X dX7_firstMeeting_31 (by decide) (by omega) (fun c3 => ?_) (fun c3 => ?_)
      · skip
        refine v_iload X dX7_firstMeeting_44 rfl ?_
        refine v_iload_n X dX7_firstMeeting_46 rfl ?_
        refine v_icmp_ge (tgt := 55) X dX7_firstMeeting_47 (by decide) (by omega) (by omega) (fun c4 => ?_) (fun c4 => ?_)
        · skip
          refine v_iload X dX7_firstMeeting_55 rfl ?_
          exact v_iret X Y dX7_firstMeeting_57 (u := ()) (by unfold fmI; (repeat split) <;> omega) (by rfl)
        · skip
          refine v_iload X dX7_firstMeeting_50 rfl ?_
          refine v_goto (tgt := 57) X dX7_firstMeeting_52 (by decide) ?_
          exact v_iret X Y dX7_firstMeeting_57 (u := ()) (by unfold fmI; (repeat split) <;> omega) (by rfl)
      · skip
        refine v_iload X dX7_firstMeeting_34 rfl ?_
        refine v_iconst X dX7_firstMeeting_36 ?_
        refine v_irem X dX7_firstMeeting_37 (by omega) (by omega) (by omega) ?_
        rw [m5]
        refine v_if_ne (tgt := 44) X dX7_firstMeeting_38 (by decide) (by omega) (fun c5 => ?_) (fun c5 => ?_)
        · skip
          refine v_iload X dX7_firstMeeting_44 rfl ?_
          refine v_iload_n X dX7_firstMeeting_46 rfl ?_
          refine v_icmp_ge (tgt := 55) X dX7_firstMeeting_47 (by decide) (by omega) (by omega) (fun c6 => ?_) (fun c6 => ?_)
          · skip
            refine v_iload X dX7_firstMeeting_55 rfl ?_
            exact v_iret X Y dX7_firstMeeting_57 (u := ()) (by unfold fmI; (repeat split) <;> omega) (by rfl)
          · skip
            refine v_iload X dX7_firstMeeting_50 rfl ?_
            refine v_goto (tgt := 57) X dX7_firstMeeting_52 (by decide) ?_
            exact v_iret X Y dX7_firstMeeting_57 (u := ()) (by unfold fmI; (repeat split) <;> omega) (by rfl)
        · skip
          refine v_iinc X dX7_firstMeeting_41 rfl (by decide) rfl ?_
          dsimp only [List.set]
          refine v_iload X dX7_firstMeeting_44 rfl ?_
          refine v_iload_n X dX7_firstMeeting_46 rfl ?_
          refine v_icmp_ge (tgt := 55) X dX7_firstMeeting_47 (by decide) (by omega) (by omega) (fun c7 => ?_) (fun c7 => ?_)
          · skip
            refine v_iload X dX7_firstMeeting_55 rfl ?_
            exact v_iret X Y dX7_firstMeeting_57 (u := ()) (by unfold fmI; (repeat split) <;> omega) (by rfl)
          · skip
            refine v_iload X dX7_firstMeeting_50 rfl ?_
            refine v_goto (tgt := 57) X dX7_firstMeeting_52 (by decide) ?_
            exact v_iret X Y dX7_firstMeeting_57 (u := ()) (by unfold fmI; (repeat split) <;> omega) (by rfl)
    · skip
      exfalso; omega
  · skip
    refine v_iconst X dX7_firstMeeting_4 ?_
    refine v_goto (tgt := 9) X dX7_firstMeeting_5 (by decide) ?_
    refine v_istore X dX7_firstMeeting_9 (by decide) rfl ?_
    dsimp only [List.set]
    refine v_iload_n X dX7_firstMeeting_11 rfl ?_
    refine v_iconst X dX7_firstMeeting_12 ?_
    refine v_icmp_ge (tgt := 19) X dX7_firstMeeting_13 (by decide) (by omega) (by omega) (fun c8 => ?_) (fun c8 => ?_)
    · skip
      refine v_iload_n X dX7_firstMeeting_19 rfl ?_
      refine v_iload_n X dX7_firstMeeting_20 rfl ?_
      refine v_imul X dX7_firstMeeting_21 ?_
      refine v_iload_n X dX7_firstMeeting_22 rfl ?_
      refine v_iadd X dX7_firstMeeting_23 ?_
      refine v_iconst X dX7_firstMeeting_24 ?_
      refine v_isub X dX7_firstMeeting_25 ?_
      refine v_iload_n X dX7_firstMeeting_26 rfl ?_
      refine v_idiv X dX7_firstMeeting_27 (by omega) (by omega) (by omega) ?_
      rw [m2]
      refine v_istore X dX7_firstMeeting_28 (by decide) rfl ?_
      dsimp only [List.set]
      refine v_iload_n X dX7_firstMeeting_30 rfl ?_
      refine v_if_eq (tgt := 44) X dX7_firstMeeting_31 (by decide) (by omega) (fun c9 => ?_) (fun c9 => ?_)
      · skip
        refine v_iload X dX7_firstMeeting_44 rfl ?_
        refine v_iload_n X dX7_firstMeeting_46 rfl ?_
        refine v_icmp_ge (tgt := 55) X dX7_firstMeeting_47 (by decide) (by omega) (by omega) (fun c10 => ?_) (fun c10 => ?_)
        · skip
          refine v_iload X dX7_firstMeeting_55 rfl ?_
          exact v_iret X Y dX7_firstMeeting_57 (u := ()) (by unfold fmI; (repeat split) <;> omega) (by rfl)
        · skip
          refine v_iload X dX7_firstMeeting_50 rfl ?_
          refine v_goto (tgt := 57) X dX7_firstMeeting_52 (by decide) ?_
          exact v_iret X Y dX7_firstMeeting_57 (u := ()) (by unfold fmI; (repeat split) <;> omega) (by rfl)
      · skip
        refine v_iload X dX7_firstMeeting_34 rfl ?_
        refine v_iconst X dX7_firstMeeting_36 ?_
        refine v_irem X dX7_firstMeeting_37 (by omega) (by omega) (by omega) ?_
        rw [m5]
        refine v_if_ne (tgt := 44) X dX7_firstMeeting_38 (by decide) (by omega) (fun c11 => ?_) (fun c11 => ?_)
        · skip
          refine v_iload X dX7_firstMeeting_44 rfl ?_
          refine v_iload_n X dX7_firstMeeting_46 rfl ?_
          refine v_icmp_ge (tgt := 55) X dX7_firstMeeting_47 (by decide) (by omega) (by omega) (fun c12 => ?_) (fun c12 => ?_)
          · skip
            refine v_iload X dX7_firstMeeting_55 rfl ?_
            exact v_iret X Y dX7_firstMeeting_57 (u := ()) (by unfold fmI; (repeat split) <;> omega) (by rfl)
          · skip
            refine v_iload X dX7_firstMeeting_50 rfl ?_
            refine v_goto (tgt := 57) X dX7_firstMeeting_52 (by decide) ?_
            exact v_iret X Y dX7_firstMeeting_57 (u := ()) (by unfold fmI; (repeat split) <;> omega) (by rfl)
        · skip
          refine v_iinc X dX7_firstMeeting_41 rfl (by decide) rfl ?_
          dsimp only [List.set]
          refine v_iload X dX7_firstMeeting_44 rfl ?_
          refine v_iload_n X dX7_firstMeeting_46 rfl ?_
          refine v_icmp_ge (tgt := 55) X dX7_firstMeeting_47 (by decide) (by omega) (by omega) (fun c13 => ?_) (fun c13 => ?_)
          · skip
            refine v_iload X dX7_firstMeeting_55 rfl ?_
            exact v_iret X Y dX7_firstMeeting_57 (u := ()) (by unfold fmI; (repeat split) <;> omega) (by rfl)
          · skip
            refine v_iload X dX7_firstMeeting_50 rfl ?_
            refine v_goto (tgt := 57) X dX7_firstMeeting_52 (by decide) ?_
            exact v_iret X Y dX7_firstMeeting_57 (u := ()) (by unfold fmI; (repeat split) <;> omega) (by rfl)
    · skip
      exfalso; omega

theorem hdX7_isPair : yX7_isPair.cls = RX7 ∧ yX7_isPair.cls ≠ "java/lang/invoke/MethodHandle" ∧ yX7_isPair.cls ≠ "java/lang/invoke/VarHandle" ∧ (parseMethodDescriptor yX7_isPair.desc).map (fun d => d.parameters.length) = some 2 := ⟨rfl, by decide +kernel, by decide +kernel, by decide +kernel⟩
set_option maxHeartbeats 4000000 in
set_option maxRecDepth 100000 in
theorem c_X7_isPair {g : Gx} {B : Nat → Nat} {lf fi : Int} {mk cn : Int} {so tu sp : Nat → Int} {a b : Int} (hcn : 0 ≤ cn ∧ cn ≤ 4) (ha : R32 a) (hb : R32 b) : CtE g yX7_isPair wsX7_isPair 1 21 [.ref (B 0), .int (iI a), .int (iI b)] (oAH g B (lf) (fi) :: (wClk g (B 3) (B 15) (B 16) (B 17) mk cn so tu sp)) (if (0 ≤ a ∧ a < cn) ∧ (0 ≤ b ∧ b < cn) ∧ a ≠ b then 1 else 0) (oAH g B (lf) (fi) :: (wClk g (B 3) (B 15) (B 16) (B 17) mk cn so tu sp)) := by
  refine m_go (cc := cX7_isPair) (nL := 3) (by decide +kernel) rfl (Nat.le_of_ble_eq_true rfl) (fun x X Y hnm => ?_)
  refine v_eq (lo2 := [some (.ref (B 0)), some (.int (iI a)), some (.int (iI b))]) rfl rfl rfl rfl ?_
  refine v_aload_n X dX7_isPair_0 rfl ?_
  refine v_get X (fun _ h => List.mem_cons_of_mem _ (List.mem_append_left _ (List.mem_append_right _ h))) 0 rfl rfl 2 (by decide) rfl (List.mem_of_getElem? (i := 1) rfl) rfl dX7_isPair_1 ?_
  refine v_iload_n X dX7_isPair_4 rfl ?_
  refine res_E X (run_V X (c_X2_has (g := g) (by first | assumption | omega) (by first | assumption | omega)) gX7_isPair_X2_has rfl hdX2_has ⟨(Nat.le_of_ble_eq_true rfl), (Nat.le_of_ble_eq_true rfl)⟩ ⟨(Nat.le_of_ble_eq_true rfl), (Nat.le_of_ble_eq_true rfl)⟩ 1 rfl rfl rfl [1, 2, 3, 4] rfl rfl rfl rfl (by simp [Value.category]) dX7_isPair_5) [1, 2, 3, 4] rfl rfl ?_
  refine v_ifb_eq (tgt := 31) X dX7_isPair_8 (by decide) (fun c1 => ?_) (fun c1 => ?_)
  · skip
    refine v_iconst X dX7_isPair_31 ?_
    exact v_zret X Y dX7_isPair_32 (by first | decide | omega | (split <;> omega)) (u := ()) (by first | rfl | omega | (split <;> omega) | (simp [*]; done)) (by rfl)
  · skip
    refine v_aload_n X dX7_isPair_11 rfl ?_
    refine v_get X (fun _ h => List.mem_cons_of_mem _ (List.mem_append_left _ (List.mem_append_right _ h))) 0 rfl rfl 2 (by decide) rfl (List.mem_of_getElem? (i := 1) rfl) rfl dX7_isPair_12 ?_
    refine v_iload_n X dX7_isPair_15 rfl ?_
    refine res_E X (run_V X (c_X2_has (g := g) (by first | assumption | omega) (by first | assumption | omega)) gX7_isPair_X2_has rfl hdX2_has ⟨(Nat.le_of_ble_eq_true rfl), (Nat.le_of_ble_eq_true rfl)⟩ ⟨(Nat.le_of_ble_eq_true rfl), (Nat.le_of_ble_eq_true rfl)⟩ 1 rfl rfl rfl [1, 2, 3, 4] rfl rfl rfl rfl (by simp [Value.category]) dX7_isPair_16) [1, 2, 3, 4] rfl rfl ?_
    refine v_ifb_eq (tgt := 31) X dX7_isPair_19 (by decide) (fun c2 => ?_) (fun c2 => ?_)
    · skip
      refine v_iconst X dX7_isPair_31 ?_
      exact v_zret X Y dX7_isPair_32 (by first | decide | omega | (split <;> omega)) (u := ()) (by first | rfl | omega | (split <;> omega) | (simp [*]; done)) (by rfl)
    · skip
      refine v_iload_n X dX7_isPair_22 rfl ?_
      refine v_iload_n X dX7_isPair_23 rfl ?_
      refine v_icmp_eq (tgt := 31) X dX7_isPair_24 (by decide) (by omega) (by omega) (fun c3 => ?_) (fun c3 => ?_)
      · skip
        refine v_iconst X dX7_isPair_31 ?_
        exact v_zret X Y dX7_isPair_32 (by first | decide | omega | (split <;> omega)) (u := ()) (by first | rfl | omega | (split <;> omega) | (simp [*]; done)) (by rfl)
      · skip
        refine v_iconst X dX7_isPair_27 ?_
        refine v_goto (tgt := 32) X dX7_isPair_28 (by decide) ?_
        exact v_zret X Y dX7_isPair_32 (by first | decide | omega | (split <;> omega)) (u := ()) (by first | rfl | omega | (split <;> omega) | (simp [*]; done)) (by rfl)

theorem hdX7_speedApart : yX7_speedApart.cls = RX7 ∧ yX7_speedApart.cls ≠ "java/lang/invoke/MethodHandle" ∧ yX7_speedApart.cls ≠ "java/lang/invoke/VarHandle" ∧ (parseMethodDescriptor yX7_speedApart.desc).map (fun d => d.parameters.length) = some 2 := ⟨rfl, by decide +kernel, by decide +kernel, by decide +kernel⟩
set_option maxHeartbeats 4000000 in
set_option maxRecDepth 100000 in
theorem c_X7_speedApart {g : Gx} {B : Nat → Nat} {lf fi : Int} {mk cn : Int} {so tu sp : Nat → Int} {a b : Int} (hcn : 0 ≤ cn ∧ cn ≤ 4) (hso : Bd 0 5 so) (htu : Bd 0 12 tu) (ha : R32 a) (hb : R32 b) : CtE g yX7_speedApart wsX7_speedApart 3 64 [.ref (B 0), .int (iI a), .int (iI b)] (oAH g B (lf) (fi) :: (wClk g (B 3) (B 15) (B 16) (B 17) mk cn so tu sp)) (absI (spdI cn so tu a - spdI cn so tu b)) (oAH g B (lf) (fi) :: (wClk g (B 3) (B 15) (B 16) (B 17) mk cn so tu sp)) := by
  refine m_go (cc := cX7_speedApart) (nL := 3) (by decide +kernel) rfl (Nat.le_of_ble_eq_true rfl) (fun x X Y hnm => ?_)
  refine v_eq (lo2 := [some (.ref (B 0)), some (.int (iI a)), some (.int (iI b))]) rfl rfl rfl rfl ?_
  have qs := fun (i : Int) => spdI_bd (cn := cn) (so := so) (h := i) htu
  have q1 := qs a
  have q2 := qs b
  refine v_aload_n X dX7_speedApart_0 rfl ?_
  refine v_get X (fun _ h => List.mem_cons_of_mem _ (List.mem_append_left _ (List.mem_append_right _ h))) 0 rfl rfl 2 (by decide) rfl (List.mem_of_getElem? (i := 1) rfl) rfl dX7_speedApart_1 ?_
  refine v_iload_n X dX7_speedApart_4 rfl ?_
  refine res_E X (run_V X (c_X2_speedOf (g := g) (by first | assumption | omega) (by first | assumption | omega) (by first | assumption | omega) (by first | assumption | omega)) gX7_speedApart_X2_speedOf rfl hdX2_speedOf ⟨(Nat.le_of_ble_eq_true rfl), (Nat.le_of_ble_eq_true rfl)⟩ ⟨(Nat.le_of_ble_eq_true rfl), (Nat.le_of_ble_eq_true rfl)⟩ 1 rfl rfl rfl [1, 2, 3, 4] rfl rfl rfl rfl (by simp [Value.category]) dX7_speedApart_5) [1, 2, 3, 4] rfl rfl ?_
  refine v_aload_n X dX7_speedApart_8 rfl ?_
  refine v_get X (fun _ h => List.mem_cons_of_mem _ (List.mem_append_left _ (List.mem_append_right _ h))) 0 rfl rfl 2 (by decide) rfl (List.mem_of_getElem? (i := 1) rfl) rfl dX7_speedApart_9 ?_
  refine v_iload_n X dX7_speedApart_12 rfl ?_
  refine res_E X (run_V X (c_X2_speedOf (g := g) (by first | assumption | omega) (by first | assumption | omega) (by first | assumption | omega) (by first | assumption | omega)) gX7_speedApart_X2_speedOf rfl hdX2_speedOf ⟨(Nat.le_of_ble_eq_true rfl), (Nat.le_of_ble_eq_true rfl)⟩ ⟨(Nat.le_of_ble_eq_true rfl), (Nat.le_of_ble_eq_true rfl)⟩ 1 rfl rfl rfl [1, 2, 3, 4] rfl rfl rfl rfl (by simp [Value.category]) dX7_speedApart_13) [1, 2, 3, 4] rfl rfl ?_
  refine v_isub X dX7_speedApart_16 ?_
  refine v_abs X (List.mem_of_getElem? (i := 2) rfl) (List.mem_of_getElem? (i := 3) rfl) (List.mem_of_getElem? (i := 4) rfl) (List.mem_of_getElem? (i := 5) rfl) ⟨(Nat.le_of_ble_eq_true rfl), (Nat.le_of_ble_eq_true rfl), (Nat.le_of_ble_eq_true rfl), (Nat.le_of_ble_eq_true rfl)⟩ (by omega) dX7_speedApart_17 ?_
  exact v_iret X Y dX7_speedApart_20 (u := ()) (by rfl) (by rfl)

theorem hdX7_hand : yX7_hand.cls = RX7 ∧ yX7_hand.cls ≠ "java/lang/invoke/MethodHandle" ∧ yX7_hand.cls ≠ "java/lang/invoke/VarHandle" ∧ (parseMethodDescriptor yX7_hand.desc).map (fun d => d.parameters.length) = some 2 := ⟨rfl, by decide +kernel, by decide +kernel, by decide +kernel⟩
set_option maxHeartbeats 4000000 in
set_option maxRecDepth 100000 in
theorem c_X7_hand {g : Gx} {B : Nat → Nat} {lf fi : Int} {mk cn : Int} {so tu sp : Nat → Int} {h w : Int} (hcn : 0 ≤ cn ∧ cn ≤ 4) (hmk : 0 ≤ mk ∧ mk ≤ 60) (hso : Bd 0 5 so) (htu : Bd 0 12 tu) (hsp : Bd 0 59 sp) (hh : R32 h) (hw : R32 w) : CtE g yX7_hand wsX7_hand 3 64 [.ref (B 0), .int (iI h), .int (iI w)] (oAH g B (lf) (fi) :: (wClk g (B 3) (B 15) (B 16) (B 17) mk cn so tu sp)) (if (0 ≤ h ∧ h < cn) ∧ 0 ≤ w ∧ w ≤ 2 then (if w = 0 then atI cn tu h else if w = 1 then spdI cn so tu h else atI cn sp h) else -1000001) (oAH g B (lf) (fi) :: (wClk g (B 3) (B 15) (B 16) (B 17) mk cn so tu sp)) := by
  refine m_go (cc := cX7_hand) (nL := 3) (by decide +kernel) rfl (Nat.le_of_ble_eq_true rfl) (fun x X Y hnm => ?_)
  refine v_eq (lo2 := [some (.ref (B 0)), some (.int (iI h)), some (.int (iI w))]) rfl rfl rfl rfl ?_
  refine v_aload_n X dX7_hand_0 rfl ?_
  refine v_get X (fun _ h => List.mem_cons_of_mem _ (List.mem_append_left _ (List.mem_append_right _ h))) 0 rfl rfl 2 (by decide) rfl (List.mem_of_getElem? (i := 1) rfl) rfl dX7_hand_1 ?_
  refine v_iload_n X dX7_hand_4 rfl ?_
  refine res_E X (run_V X (c_X2_has (g := g) (by first | assumption | omega) (by first | assumption | omega)) gX7_hand_X2_has rfl hdX2_has ⟨(Nat.le_of_ble_eq_true rfl), (Nat.le_of_ble_eq_true rfl)⟩ ⟨(Nat.le_of_ble_eq_true rfl), (Nat.le_of_ble_eq_true rfl)⟩ 1 rfl rfl rfl [1, 2, 3, 4] rfl rfl rfl rfl (by simp [Value.category]) dX7_hand_5) [1, 2, 3, 4] rfl rfl ?_
  refine v_ifb_eq (tgt := 20) X dX7_hand_8 (by decide) (fun c1 => ?_) (fun c1 => ?_)
  · skip
    refine v_ldc X (List.mem_of_getElem? (i := 2) rfl) dX7_hand_20 (n := -1000001) (by decide) ?_
    exact v_iret X Y dX7_hand_22 (u := ()) (by rw [if_neg (by omega)]) (by rfl)
  · skip
    refine v_iload_n X dX7_hand_11 rfl ?_
    refine v_iconst X dX7_hand_12 ?_
    refine v_iconst X dX7_hand_13 ?_
    refine res_E X (run_S X (c_X7_isWithin (g := g) (by first | assumption | omega) (by first | assumption | omega) (by first | assumption | omega)) gX7_hand_X7_isWithin rfl hdX7_isWithin.2 ⟨(Nat.le_of_ble_eq_true rfl), (Nat.le_of_ble_eq_true rfl)⟩ ⟨(Nat.le_of_ble_eq_true rfl), (Nat.le_of_ble_eq_true rfl)⟩ [] rfl rfl rfl rfl (by simp [Value.category]) dX7_hand_14) [] rfl rfl ?_
    refine v_ifb_ne (tgt := 23) X dX7_hand_17 (by decide) (fun c2 => ?_) (fun c2 => ?_)
    · skip
      refine v_iload_n X dX7_hand_23 rfl ?_
      refine v_if_ne (tgt := 36) X dX7_hand_24 (by decide) (by omega) (fun c3 => ?_) (fun c3 => ?_)
      · skip
        refine v_iload_n X dX7_hand_36 rfl ?_
        refine v_iconst X dX7_hand_37 ?_
        refine v_icmp_ne (tgt := 52) X dX7_hand_38 (by decide) (by omega) (by omega) (fun c4 => ?_) (fun c4 => ?_)
        · skip
          refine v_aload_n X dX7_hand_52 rfl ?_
          refine v_get X (fun _ h => List.mem_cons_of_mem _ (List.mem_append_left _ (List.mem_append_right _ h))) 0 rfl rfl 2 (by decide) rfl (List.mem_of_getElem? (i := 1) rfl) rfl dX7_hand_53 ?_
          refine v_iload_n X dX7_hand_56 rfl ?_
          refine res_E X (run_V X (c_X2_slipOf (g := g) (by first | assumption | omega) (by first | assumption | omega) (by first | assumption | omega)) gX7_hand_X2_slipOf rfl hdX2_slipOf ⟨(Nat.le_of_ble_eq_true rfl), (Nat.le_of_ble_eq_true rfl)⟩ ⟨(Nat.le_of_ble_eq_true rfl), (Nat.le_of_ble_eq_true rfl)⟩ 1 rfl rfl rfl [1, 2, 3, 4] rfl rfl rfl rfl (by simp [Value.category]) dX7_hand_57) [1, 2, 3, 4] rfl rfl ?_
          exact v_iret X Y dX7_hand_60 (u := ()) (by rw [if_pos (by omega), if_neg (by assumption)]; first | rw [if_pos (by assumption)] | rw [if_neg (by assumption)]) (by rfl)
        · skip
          refine v_aload_n X dX7_hand_41 rfl ?_
          refine v_get X (fun _ h => List.mem_cons_of_mem _ (List.mem_append_left _ (List.mem_append_right _ h))) 0 rfl rfl 2 (by decide) rfl (List.mem_of_getElem? (i := 1) rfl) rfl dX7_hand_42 ?_
          refine v_iload_n X dX7_hand_45 rfl ?_
          refine res_E X (run_V X (c_X2_speedOf (g := g) (by first | assumption | omega) (by first | assumption | omega) (by first | assumption | omega) (by first | assumption | omega)) gX7_hand_X2_speedOf rfl hdX2_speedOf ⟨(Nat.le_of_ble_eq_true rfl), (Nat.le_of_ble_eq_true rfl)⟩ ⟨(Nat.le_of_ble_eq_true rfl), (Nat.le_of_ble_eq_true rfl)⟩ 1 rfl rfl rfl [1, 2, 3, 4] rfl rfl rfl rfl (by simp [Value.category]) dX7_hand_46) [1, 2, 3, 4] rfl rfl ?_
          refine v_goto (tgt := 60) X dX7_hand_49 (by decide) ?_
          exact v_iret X Y dX7_hand_60 (u := ()) (by rw [if_pos (by omega), if_neg (by assumption)]; first | rw [if_pos (by assumption)] | rw [if_neg (by assumption)]) (by rfl)
      · skip
        refine v_aload_n X dX7_hand_27 rfl ?_
        refine v_get X (fun _ h => List.mem_cons_of_mem _ (List.mem_append_left _ (List.mem_append_right _ h))) 0 rfl rfl 2 (by decide) rfl (List.mem_of_getElem? (i := 1) rfl) rfl dX7_hand_28 ?_
        refine v_iload_n X dX7_hand_31 rfl ?_
        refine res_E X (run_V X (c_X2_turnsOf (g := g) (by first | assumption | omega) (by first | assumption | omega) (by first | assumption | omega)) gX7_hand_X2_turnsOf rfl hdX2_turnsOf ⟨(Nat.le_of_ble_eq_true rfl), (Nat.le_of_ble_eq_true rfl)⟩ ⟨(Nat.le_of_ble_eq_true rfl), (Nat.le_of_ble_eq_true rfl)⟩ 1 rfl rfl rfl [1, 2, 3, 4] rfl rfl rfl rfl (by simp [Value.category]) dX7_hand_32) [1, 2, 3, 4] rfl rfl ?_
        exact v_iret X Y dX7_hand_35 (u := ()) (by rw [if_pos (by omega), if_pos (by assumption)]) (by rfl)
    · skip
      refine v_ldc X (List.mem_of_getElem? (i := 2) rfl) dX7_hand_20 (n := -1000001) (by decide) ?_
      exact v_iret X Y dX7_hand_22 (u := ()) (by rw [if_neg (by omega)]) (by rfl)

theorem hdX7_points : yX7_points.cls = RX7 ∧ yX7_points.cls ≠ "java/lang/invoke/MethodHandle" ∧ yX7_points.cls ≠ "java/lang/invoke/VarHandle" ∧ (parseMethodDescriptor yX7_points.desc).map (fun d => d.parameters.length) = some 4 := ⟨rfl, by decide +kernel, by decide +kernel, by decide +kernel⟩
set_option maxHeartbeats 4000000 in
set_option maxRecDepth 100000 in
theorem c_X7_points {g : Gx} {B : Nat → Nat} {lf fi : Int} {mk cn : Int} {so tu sp : Nat → Int} {h p q w : Int} (hcn : 0 ≤ cn ∧ cn ≤ 4) (hmk : 0 ≤ mk ∧ mk ≤ 60) (hso : Bd 0 5 so) (htu : Bd 0 12 tu) (hsp : Bd 0 59 sp) (hh : R32 h) (hp : R32 p) (hq : R32 q) (hw : R32 w) : CtE g yX7_points wsX7_points 4 87 [.ref (B 0), .int (iI h), .int (iI p), .int (iI q), .int (iI w)] (oAH g B (lf) (fi) :: (wClk g (B 3) (B 15) (B 16) (B 17) mk cn so tu sp)) (if (0 ≤ h ∧ h < cn) ∧ (1 ≤ q ∧ q ≤ 9999 ∧ 0 ≤ p ∧ p < q) ∧ 0 ≤ w ∧ w ≤ 1 then toldI (restI (spdI cn so tu h * p * mk + atI cn sp h * q) (q * mk)) (q * mk) w else -1000001) (oAH g B (lf) (fi) :: (wClk g (B 3) (B 15) (B 16) (B 17) mk cn so tu sp)) := by
  refine m_go (cc := cX7_points) (nL := 5) (by decide +kernel) rfl (Nat.le_of_ble_eq_true rfl) (fun x X Y hnm => ?_)
  refine v_eq (lo2 := [some (.ref (B 0)), some (.int (iI h)), some (.int (iI p)), some (.int (iI q)), some (.int (iI w))]) rfl rfl rfl rfl ?_
  refine v_aload_n X dX7_points_0 rfl ?_
  refine v_get X (fun _ h => List.mem_cons_of_mem _ (List.mem_append_left _ (List.mem_append_right _ h))) 0 rfl rfl 2 (by decide) rfl (List.mem_of_getElem? (i := 1) rfl) rfl dX7_points_1 ?_
  refine v_iload_n X dX7_points_4 rfl ?_
  refine res_E X (run_V X (c_X2_has (g := g) (by first | assumption | omega) (by first | assumption | omega)) gX7_points_X2_has rfl hdX2_has ⟨(Nat.le_of_ble_eq_true rfl), (Nat.le_of_ble_eq_true rfl)⟩ ⟨(Nat.le_of_ble_eq_true rfl), (Nat.le_of_ble_eq_true rfl)⟩ 1 rfl rfl rfl [1, 2, 3, 4] rfl rfl rfl rfl (by simp [Value.category]) dX7_points_5) [1, 2, 3, 4] rfl rfl ?_
  refine v_ifb_eq (tgt := 29) X dX7_points_8 (by decide) (fun c1 => ?_) (fun c1 => ?_)
  · skip
    refine v_ldc X (List.mem_of_getElem? (i := 2) rfl) dX7_points_29 (n := -1000001) (by decide) ?_
    exact v_iret X Y dX7_points_31 (u := ()) (by rw [if_neg (by omega)]) (by rfl)
  · skip
    refine v_iload_n X dX7_points_11 rfl ?_
    refine v_iload_n X dX7_points_12 rfl ?_
    refine res_E X (run_S X (c_X7_isMoment (g := g) (by first | assumption | omega) (by first | assumption | omega)) gX7_points_X7_isMoment rfl hdX7_isMoment.2 ⟨(Nat.le_of_ble_eq_true rfl), (Nat.le_of_ble_eq_true rfl)⟩ ⟨(Nat.le_of_ble_eq_true rfl), (Nat.le_of_ble_eq_true rfl)⟩ [] rfl rfl rfl rfl (by simp [Value.category]) dX7_points_13) [] rfl rfl ?_
    refine v_ifb_eq (tgt := 29) X dX7_points_16 (by decide) (fun c2 => ?_) (fun c2 => ?_)
    · skip
      refine v_ldc X (List.mem_of_getElem? (i := 2) rfl) dX7_points_29 (n := -1000001) (by decide) ?_
      exact v_iret X Y dX7_points_31 (u := ()) (by rw [if_neg (by omega)]) (by rfl)
    · skip
      refine v_iload X dX7_points_19 rfl ?_
      refine v_iconst X dX7_points_21 ?_
      refine v_iconst X dX7_points_22 ?_
      refine res_E X (run_S X (c_X7_isWithin (g := g) (by first | assumption | omega) (by first | assumption | omega) (by first | assumption | omega)) gX7_points_X7_isWithin rfl hdX7_isWithin.2 ⟨(Nat.le_of_ble_eq_true rfl), (Nat.le_of_ble_eq_true rfl)⟩ ⟨(Nat.le_of_ble_eq_true rfl), (Nat.le_of_ble_eq_true rfl)⟩ [] rfl rfl rfl rfl (by simp [Value.category]) dX7_points_23) [] rfl rfl ?_
      refine v_ifb_ne (tgt := 32) X dX7_points_26 (by decide) (fun c3 => ?_) (fun c3 => ?_)
      · skip
        have g1 : (0 ≤ h ∧ h < cn) ∧ (1 ≤ q ∧ q ≤ 9999 ∧ 0 ≤ p ∧ p < q) ∧ 0 ≤ w ∧ w ≤ 1 := by omega
        have q6 := mul_nn (show 0 ≤ q ∧ q ≤ 9999 by omega) hmk
        have q7 := restI_bd (n := spdI cn so tu h * p * mk + atI cn sp h * q) (w := q * mk)
        have q8 : restI (spdI cn so tu h * p * mk + atI cn sp h * q) (q * mk) ≤ 599940 := restI_le q6.2 (by decide)
        refine v_aload_n X dX7_points_32 rfl ?_
        refine v_get X (fun _ h => List.mem_cons_of_mem _ (List.mem_append_left _ (List.mem_append_right _ h))) 0 rfl rfl 2 (by decide) rfl (List.mem_of_getElem? (i := 1) rfl) rfl dX7_points_33 ?_
        refine v_iload_n X dX7_points_36 rfl ?_
        refine v_iload_n X dX7_points_37 rfl ?_
        refine v_iload_n X dX7_points_38 rfl ?_
        refine res_E X (run_V X (c_X2_arcAbove (g := g) (by first | assumption | omega) (by first | assumption | omega) (by first | assumption | omega) (by first | assumption | omega) (by first | assumption | omega) (by first | assumption | omega) (by first | assumption | omega) (by first | assumption | omega)) gX7_points_X2_arcAbove rfl hdX2_arcAbove ⟨(Nat.le_of_ble_eq_true rfl), (Nat.le_of_ble_eq_true rfl)⟩ ⟨(Nat.le_of_ble_eq_true rfl), (Nat.le_of_ble_eq_true rfl)⟩ 1 rfl rfl rfl [1, 2, 3, 4] rfl rfl rfl rfl (by simp [Value.category]) dX7_points_39) [1, 2, 3, 4] rfl rfl ?_
        refine v_aload_n X dX7_points_42 rfl ?_
        refine v_get X (fun _ h => List.mem_cons_of_mem _ (List.mem_append_left _ (List.mem_append_right _ h))) 0 rfl rfl 2 (by decide) rfl (List.mem_of_getElem? (i := 1) rfl) rfl dX7_points_43 ?_
        refine v_iload_n X dX7_points_46 rfl ?_
        refine res_E X (run_V X (c_X2_arcBelow (g := g) ) gX7_points_X2_arcBelow rfl hdX2_arcBelow ⟨(Nat.le_of_ble_eq_true rfl), (Nat.le_of_ble_eq_true rfl)⟩ ⟨(Nat.le_of_ble_eq_true rfl), (Nat.le_of_ble_eq_true rfl)⟩ 1 rfl rfl rfl [1, 2, 3, 4] rfl rfl rfl rfl (by simp [Value.category]) dX7_points_47) [1, 2, 3, 4] rfl rfl ?_
        refine v_iload X dX7_points_50 rfl ?_
        refine res_E X (run_S X (c_X7_part (g := g) (by first | assumption | omega) (by first | assumption | omega) (by first | assumption | omega) (by first | assumption | omega) (by first | assumption | omega)) gX7_points_X7_part rfl hdX7_part.2 ⟨(Nat.le_of_ble_eq_true rfl), (Nat.le_of_ble_eq_true rfl)⟩ ⟨(Nat.le_of_ble_eq_true rfl), (Nat.le_of_ble_eq_true rfl)⟩ [] rfl rfl rfl rfl (by simp [Value.category]) dX7_points_52) [] rfl rfl ?_
        exact v_iret X Y dX7_points_55 (u := ()) (by rw [if_pos g1]) (by rfl)
      · skip
        refine v_ldc X (List.mem_of_getElem? (i := 2) rfl) dX7_points_29 (n := -1000001) (by decide) ?_
        exact v_iret X Y dX7_points_31 (u := ()) (by rw [if_neg (by omega)]) (by rfl)

theorem hdX7_kind : yX7_kind.cls = RX7 ∧ yX7_kind.cls ≠ "java/lang/invoke/MethodHandle" ∧ yX7_kind.cls ≠ "java/lang/invoke/VarHandle" ∧ (parseMethodDescriptor yX7_kind.desc).map (fun d => d.parameters.length) = some 1 := ⟨rfl, by decide +kernel, by decide +kernel, by decide +kernel⟩
set_option maxHeartbeats 4000000 in
set_option maxRecDepth 100000 in
theorem c_X7_kind {g : Gx} {B : Nat → Nat} {lf fi : Int} {mk cn : Int} {so tu sp : Nat → Int} {h : Int} (hcn : 0 ≤ cn ∧ cn ≤ 4) (hmk : 0 ≤ mk ∧ mk ≤ 60) (hso : Bd 0 5 so) (htu : Bd 0 12 tu) (hsp : Bd 0 59 sp) (hh : R32 h) : CtE g yX7_kind wsX7_kind 2 42 [.ref (B 0), .int (iI h)] (oAH g B (lf) (fi) :: (wClk g (B 3) (B 15) (B 16) (B 17) mk cn so tu sp)) (if 0 ≤ h ∧ h < cn then atI cn so h else -1000001) (oAH g B (lf) (fi) :: (wClk g (B 3) (B 15) (B 16) (B 17) mk cn so tu sp)) := by
  refine m_go (cc := cX7_kind) (nL := 2) (by decide +kernel) rfl (Nat.le_of_ble_eq_true rfl) (fun x X Y hnm => ?_)
  refine v_eq (lo2 := [some (.ref (B 0)), some (.int (iI h))]) rfl rfl rfl rfl ?_
  refine v_aload_n X dX7_kind_0 rfl ?_
  refine v_get X (fun _ h => List.mem_cons_of_mem _ (List.mem_append_left _ (List.mem_append_right _ h))) 0 rfl rfl 2 (by decide) rfl (List.mem_of_getElem? (i := 1) rfl) rfl dX7_kind_1 ?_
  refine v_iload_n X dX7_kind_4 rfl ?_
  refine res_E X (run_V X (c_X2_has (g := g) (by first | assumption | omega) (by first | assumption | omega)) gX7_kind_X2_has rfl hdX2_has ⟨(Nat.le_of_ble_eq_true rfl), (Nat.le_of_ble_eq_true rfl)⟩ ⟨(Nat.le_of_ble_eq_true rfl), (Nat.le_of_ble_eq_true rfl)⟩ 1 rfl rfl rfl [1, 2, 3, 4] rfl rfl rfl rfl (by simp [Value.category]) dX7_kind_5) [1, 2, 3, 4] rfl rfl ?_
  refine v_ifb_eq (tgt := 22) X dX7_kind_8 (by decide) (fun c1 => ?_) (fun c1 => ?_)
  · skip
    refine v_ldc X (List.mem_of_getElem? (i := 2) rfl) dX7_kind_22 (n := -1000001) (by decide) ?_
    exact v_iret X Y dX7_kind_24 (u := ()) (by first | rw [if_pos (by assumption)] | rw [if_neg (by assumption)]) (by rfl)
  · skip
    refine v_aload_n X dX7_kind_11 rfl ?_
    refine v_get X (fun _ h => List.mem_cons_of_mem _ (List.mem_append_left _ (List.mem_append_right _ h))) 0 rfl rfl 2 (by decide) rfl (List.mem_of_getElem? (i := 1) rfl) rfl dX7_kind_12 ?_
    refine v_iload_n X dX7_kind_15 rfl ?_
    refine res_E X (run_V X (c_X2_sortOf (g := g) (by first | assumption | omega) (by first | assumption | omega) (by first | assumption | omega)) gX7_kind_X2_sortOf rfl hdX2_sortOf ⟨(Nat.le_of_ble_eq_true rfl), (Nat.le_of_ble_eq_true rfl)⟩ ⟨(Nat.le_of_ble_eq_true rfl), (Nat.le_of_ble_eq_true rfl)⟩ 1 rfl rfl rfl [1, 2, 3, 4] rfl rfl rfl rfl (by simp [Value.category]) dX7_kind_16) [1, 2, 3, 4] rfl rfl ?_
    refine v_goto (tgt := 24) X dX7_kind_19 (by decide) ?_
    exact v_iret X Y dX7_kind_24 (u := ()) (by first | rw [if_pos (by assumption)] | rw [if_neg (by assumption)]) (by rfl)

theorem hdX7_as : yX7_as.cls = RX7 ∧ yX7_as.cls ≠ "java/lang/invoke/MethodHandle" ∧ yX7_as.cls ≠ "java/lang/invoke/VarHandle" ∧ (parseMethodDescriptor yX7_as.desc).map (fun d => d.parameters.length) = some 2 := ⟨rfl, by decide +kernel, by decide +kernel, by decide +kernel⟩
set_option maxHeartbeats 4000000 in
set_option maxRecDepth 100000 in
theorem c_X7_as {g : Gx} {B : Nat → Nat} {lf fi : Int} {mk cn : Int} {so tu sp : Nat → Int} {h w : Int} (hcn : 0 ≤ cn ∧ cn ≤ 4) (hmk : 0 ≤ mk ∧ mk ≤ 60) (hso : Bd 0 5 so) (htu : Bd 0 12 tu) (hsp : Bd 0 59 sp) (hh : R32 h) (hw : R32 w) : CtI (S := Int) g yX7_as wsX7_as 2 42 [.ref (B 0), .int (iI h), .int (iI w)] (oAH g B (lf) (fi) :: (wClk g (B 3) (B 15) (B 16) (B 17) mk cn so tu sp)) (fun v u => (¬ ((0 ≤ h ∧ h < cn) ∧ 0 ≤ w ∧ w ≤ 5) ∧ v = -1000001 ∧ u = fi) ∨ (((0 ≤ h ∧ h < cn) ∧ 0 ≤ w ∧ w ≤ 5) ∧ ((okK (atI cn so h) w ∧ v = h ∧ u = 0) ∨ (¬ okK (atI cn so h) w ∧ v = -1000013 ∧ u = 3)))) (fun u => oAH g B (lf) (u) :: (wClk g (B 3) (B 15) (B 16) (B 17) mk cn so tu sp)) := by
  refine m_go (cc := cX7_as) (nL := 3) (by decide +kernel) rfl (Nat.le_of_ble_eq_true rfl) (fun x X Y hnm => ?_)
  refine v_eq (lo2 := [some (.ref (B 0)), some (.int (iI h)), some (.int (iI w))]) rfl rfl rfl rfl ?_
  have q1 := atI_bd (cn := cn) (h := h) hso (by omega) (by omega)
  refine v_aload_n X dX7_as_0 rfl ?_
  refine v_get X (fun _ h => List.mem_cons_of_mem _ (List.mem_append_left _ (List.mem_append_right _ h))) 0 rfl rfl 2 (by decide) rfl (List.mem_of_getElem? (i := 1) rfl) rfl dX7_as_1 ?_
  refine v_iload_n X dX7_as_4 rfl ?_
  refine res_E X (run_V X (c_X2_has (g := g) (by first | assumption | omega) (by first | assumption | omega)) gX7_as_X2_has rfl hdX2_has ⟨(Nat.le_of_ble_eq_true rfl), (Nat.le_of_ble_eq_true rfl)⟩ ⟨(Nat.le_of_ble_eq_true rfl), (Nat.le_of_ble_eq_true rfl)⟩ 1 rfl rfl rfl [1, 2, 3, 4] rfl rfl rfl rfl (by simp [Value.category]) dX7_as_5) [1, 2, 3, 4] rfl rfl ?_
  refine v_ifb_eq (tgt := 20) X dX7_as_8 (by decide) (fun c1 => ?_) (fun c1 => ?_)
  · skip
    refine v_ldc X (List.mem_of_getElem? (i := 2) rfl) dX7_as_20 (n := -1000001) (by decide) ?_
    refine v_iret X Y dX7_as_22 (u := fi) ?_ (by rfl)
    exact Or.inl ⟨by omega, rfl, rfl⟩
  · skip
    refine v_iload_n X dX7_as_11 rfl ?_
    refine v_iconst X dX7_as_12 ?_
    refine v_iconst X dX7_as_13 ?_
    refine res_E X (run_S X (c_X7_isWithin (g := g) (by first | assumption | omega) (by first | assumption | omega) (by first | assumption | omega)) gX7_as_X7_isWithin rfl hdX7_isWithin.2 ⟨(Nat.le_of_ble_eq_true rfl), (Nat.le_of_ble_eq_true rfl)⟩ ⟨(Nat.le_of_ble_eq_true rfl), (Nat.le_of_ble_eq_true rfl)⟩ [] rfl rfl rfl rfl (by simp [Value.category]) dX7_as_14) [] rfl rfl ?_
    refine v_ifb_ne (tgt := 23) X dX7_as_17 (by decide) (fun c2 => ?_) (fun c2 => ?_)
    · skip
      refine v_aload_n X dX7_as_23 rfl ?_
      refine v_get X (fun _ h => List.mem_cons_of_mem _ (List.mem_append_left _ (List.mem_append_right _ h))) 0 rfl rfl 2 (by decide) rfl (List.mem_of_getElem? (i := 1) rfl) rfl dX7_as_24 ?_
      refine v_iload_n X dX7_as_27 rfl ?_
      refine res_E X (run_V X (c_X2_sortOf (g := g) (by first | assumption | omega) (by first | assumption | omega) (by first | assumption | omega)) gX7_as_X2_sortOf rfl hdX2_sortOf ⟨(Nat.le_of_ble_eq_true rfl), (Nat.le_of_ble_eq_true rfl)⟩ ⟨(Nat.le_of_ble_eq_true rfl), (Nat.le_of_ble_eq_true rfl)⟩ 1 rfl rfl rfl [1, 2, 3, 4] rfl rfl rfl rfl (by simp [Value.category]) dX7_as_28) [1, 2, 3, 4] rfl rfl ?_
      refine v_iload_n X dX7_as_31 rfl ?_
      refine res_E X (run_S X (c_X7_isOfKind (g := g) (by first | assumption | omega) (by first | assumption | omega)) gX7_as_X7_isOfKind rfl hdX7_isOfKind.2 ⟨(Nat.le_of_ble_eq_true rfl), (Nat.le_of_ble_eq_true rfl)⟩ ⟨(Nat.le_of_ble_eq_true rfl), (Nat.le_of_ble_eq_true rfl)⟩ [] rfl rfl rfl rfl (by simp [Value.category]) dX7_as_32) [] rfl rfl ?_
      refine v_ifb_eq (tgt := 46) X dX7_as_35 (by decide) (fun c3 => ?_) (fun c3 => ?_)
      · skip
        refine v_aload_n X dX7_as_46 rfl ?_
        refine v_iconst X dX7_as_47 ?_
        refine res_F X (run_V X (c_X7_found (g := g) ) gX7_as_X7_found rfl hdX7_found ⟨(Nat.le_of_ble_eq_true rfl), (Nat.le_of_ble_eq_true rfl)⟩ ⟨(Nat.le_of_ble_eq_true rfl), (Nat.le_of_ble_eq_true rfl)⟩ 0 rfl rfl rfl [0] rfl rfl rfl rfl (by simp [Value.category]) dX7_as_48) [0] rfl rfl rfl ?_
        dsimp only [patch, List.set, List.cons_append, List.nil_append, oAH, wClk]
        refine v_iret X Y dX7_as_51 (u := _) ?_ (by rfl)
        exact Or.inr ⟨by omega, by first | exact Or.inl ⟨by unfold okK; assumption, rfl, rfl⟩ | exact Or.inr ⟨by unfold okK; assumption, rfl, rfl⟩⟩
      · skip
        refine v_aload_n X dX7_as_38 rfl ?_
        refine v_iload_n X dX7_as_39 rfl ?_
        refine res_F X (run_V X (c_X7_fine (g := g) ) gX7_as_X7_fine rfl hdX7_fine ⟨(Nat.le_of_ble_eq_true rfl), (Nat.le_of_ble_eq_true rfl)⟩ ⟨(Nat.le_of_ble_eq_true rfl), (Nat.le_of_ble_eq_true rfl)⟩ 0 rfl rfl rfl [0] rfl rfl rfl rfl (by simp [Value.category]) dX7_as_40) [0] rfl rfl rfl ?_
        dsimp only [patch, List.set, List.cons_append, List.nil_append, oAH, wClk]
        refine v_goto (tgt := 51) X dX7_as_43 (by decide) ?_
        refine v_iret X Y dX7_as_51 (u := _) ?_ (by rfl)
        exact Or.inr ⟨by omega, by first | exact Or.inl ⟨by unfold okK; assumption, rfl, rfl⟩ | exact Or.inr ⟨by unfold okK; assumption, rfl, rfl⟩⟩
    · skip
      refine v_ldc X (List.mem_of_getElem? (i := 2) rfl) dX7_as_20 (n := -1000001) (by decide) ?_
      refine v_iret X Y dX7_as_22 (u := fi) ?_ (by rfl)
      exact Or.inl ⟨by omega, rfl, rfl⟩

theorem hdX7_trace : yX7_trace.cls = RX7 ∧ yX7_trace.cls ≠ "java/lang/invoke/MethodHandle" ∧ yX7_trace.cls ≠ "java/lang/invoke/VarHandle" ∧ (parseMethodDescriptor yX7_trace.desc).map (fun d => d.parameters.length) = some 1 := ⟨rfl, by decide +kernel, by decide +kernel, by decide +kernel⟩
set_option maxHeartbeats 4000000 in
set_option maxRecDepth 100000 in
theorem c_X7_trace {g : Gx} {B : Nat → Nat} {lf fi : Int} {t : TS} {i : Int} (ht : 0 ≤ t.2 ∧ t.2 ≤ 16) (hbo : Bd 0 24 t.1) (hi : R32 i) : CtE g yX7_trace wsX7_trace 1 21 [.ref (B 0), .int (iI i)] (oAH g B (lf) (fi) :: (wAsk g (B 10) (B 31) (t.1) (t.2))) (if 0 ≤ i ∧ i < t.2 then t.1 i.toNat else -1000000) (oAH g B (lf) (fi) :: (wAsk g (B 10) (B 31) (t.1) (t.2))) := by
  refine m_go (cc := cX7_trace) (nL := 2) (by decide +kernel) rfl (Nat.le_of_ble_eq_true rfl) (fun x X Y hnm => ?_)
  refine v_eq (lo2 := [some (.ref (B 0)), some (.int (iI i))]) rfl rfl rfl rfl ?_
  refine v_aload_n X dX7_trace_0 rfl ?_
  refine v_get X (fun _ h => List.mem_cons_of_mem _ (List.mem_append_left _ (List.mem_append_right _ h))) 0 rfl rfl 9 (by decide) rfl (List.mem_of_getElem? (i := 1) rfl) rfl dX7_trace_1 ?_
  refine v_iload_n X dX7_trace_4 rfl ?_
  refine res_E X (run_V X (c_X1_numberAt (g := g) (by first | assumption | (apply lvT_bd; assumption) | (apply lvT_bd; apply lvT_bd; assumption) | (apply lvT_bd; apply lvT_bd; apply lvT_bd; assumption)) (by first | assumption | omega) (by first | assumption | omega)) gX7_trace_X1_numberAt rfl hdX1_numberAt ⟨(Nat.le_of_ble_eq_true rfl), (Nat.le_of_ble_eq_true rfl)⟩ ⟨(Nat.le_of_ble_eq_true rfl), (Nat.le_of_ble_eq_true rfl)⟩ 1 rfl rfl rfl [1, 2] rfl rfl rfl rfl (by simp [Value.category]) dX7_trace_5) [1, 2] rfl rfl ?_
  exact v_iret X Y dX7_trace_8 (u := ()) (by rfl) (by rfl)

theorem hdX7_often : yX7_often.cls = RX7 ∧ yX7_often.cls ≠ "java/lang/invoke/MethodHandle" ∧ yX7_often.cls ≠ "java/lang/invoke/VarHandle" ∧ (parseMethodDescriptor yX7_often.desc).map (fun d => d.parameters.length) = some 3 := ⟨rfl, by decide +kernel, by decide +kernel, by decide +kernel⟩
set_option maxHeartbeats 4000000 in
set_option maxRecDepth 100000 in
theorem c_X7_often {g : Gx} {B : Nat → Nat} {lf fi : Int} {mk cn : Int} {so tu sp : Nat → Int} {a b w : Int} (hcn : 0 ≤ cn ∧ cn ≤ 4) (hmk : 0 ≤ mk ∧ mk ≤ 60) (hso : Bd 0 5 so) (htu : Bd 0 12 tu) (hsp : Bd 0 59 sp) (ha : R32 a) (hb : R32 b) (hw : R32 w) : CtE g yX7_often wsX7_often 4 86 [.ref (B 0), .int (iI a), .int (iI b), .int (iI w)] (oAH g B (lf) (fi) :: (wClk g (B 3) (B 15) (B 16) (B 17) mk cn so tu sp)) (if ((0 ≤ a ∧ a < cn) ∧ (0 ≤ b ∧ b < cn) ∧ a ≠ b) ∧ 0 ≤ w ∧ w ≤ 2 then (if absI (spdI cn so tu a - spdI cn so tu b) = 0 then -1000000 else if w = 2 then 2 * absI (spdI cn so tu a - spdI cn so tu b) else absI (spdI cn so tu a - spdI cn so tu b)) else -1000001) (oAH g B (lf) (fi) :: (wClk g (B 3) (B 15) (B 16) (B 17) mk cn so tu sp)) := by
  refine m_go (cc := cX7_often) (nL := 5) (by decide +kernel) rfl (Nat.le_of_ble_eq_true rfl) (fun x X Y hnm => ?_)
  refine v_eq (lo2 := [some (.ref (B 0)), some (.int (iI a)), some (.int (iI b)), some (.int (iI w)), none]) rfl rfl rfl rfl ?_
  have qs := fun (i : Int) => spdI_bd (cn := cn) (so := so) (h := i) htu
  have q1 := qs a
  have q2 := qs b
  have q5 := absI_bd (a := spdI cn so tu a - spdI cn so tu b) (M := 48) (by omega)
  refine v_aload_n X dX7_often_0 rfl ?_
  refine v_iload_n X dX7_often_1 rfl ?_
  refine v_iload_n X dX7_often_2 rfl ?_
  refine res_E X (run_V X (c_X7_isPair (g := g) (by first | assumption | omega) (by first | assumption | omega) (by first | assumption | omega)) gX7_often_X7_isPair rfl hdX7_isPair ⟨(Nat.le_of_ble_eq_true rfl), (Nat.le_of_ble_eq_true rfl)⟩ ⟨(Nat.le_of_ble_eq_true rfl), (Nat.le_of_ble_eq_true rfl)⟩ 0 rfl rfl rfl [0, 1, 2, 3, 4] rfl rfl rfl rfl (by simp [Value.category]) dX7_often_3) [0, 1, 2, 3, 4] rfl rfl ?_
  refine v_ifb_eq (tgt := 18) X dX7_often_6 (by decide) (fun c1 => ?_) (fun c1 => ?_)
  · skip
    refine v_ldc X (List.mem_of_getElem? (i := 1) rfl) dX7_often_18 (n := -1000001) (by decide) ?_
    exact v_iret X Y dX7_often_20 (u := ()) (by rw [if_neg (by omega)]) (by rfl)
  · skip
    refine v_iload_n X dX7_often_9 rfl ?_
    refine v_iconst X dX7_often_10 ?_
    refine v_iconst X dX7_often_11 ?_
    refine res_E X (run_S X (c_X7_isWithin (g := g) (by first | assumption | omega) (by first | assumption | omega) (by first | assumption | omega)) gX7_often_X7_isWithin rfl hdX7_isWithin.2 ⟨(Nat.le_of_ble_eq_true rfl), (Nat.le_of_ble_eq_true rfl)⟩ ⟨(Nat.le_of_ble_eq_true rfl), (Nat.le_of_ble_eq_true rfl)⟩ [] rfl rfl rfl rfl (by simp [Value.category]) dX7_often_12) [] rfl rfl ?_
    refine v_ifb_ne (tgt := 21) X dX7_often_15 (by decide) (fun c2 => ?_) (fun c2 => ?_)
    · skip
      refine v_aload_n X dX7_often_21 rfl ?_
      refine v_iload_n X dX7_often_22 rfl ?_
      refine v_iload_n X dX7_often_23 rfl ?_
      refine res_E X (run_V X (c_X7_speedApart (g := g) (by first | assumption | omega) (by first | assumption | omega) (by first | assumption | omega) (by first | assumption | omega) (by first | assumption | omega)) gX7_often_X7_speedApart rfl hdX7_speedApart ⟨(Nat.le_of_ble_eq_true rfl), (Nat.le_of_ble_eq_true rfl)⟩ ⟨(Nat.le_of_ble_eq_true rfl), (Nat.le_of_ble_eq_true rfl)⟩ 0 rfl rfl rfl [0, 1, 2, 3, 4] rfl rfl rfl rfl (by simp [Value.category]) dX7_often_24) [0, 1, 2, 3, 4] rfl rfl ?_
      refine v_istore X dX7_often_27 (by decide) rfl ?_
      dsimp only [List.set]
      refine v_iload X dX7_often_29 rfl ?_
      refine v_if_ne (tgt := 37) X dX7_often_31 (by decide) (by omega) (fun c3 => ?_) (fun c3 => ?_)
      · skip
        refine v_iload_n X dX7_often_37 rfl ?_
        refine v_iconst X dX7_often_38 ?_
        refine v_icmp_ne (tgt := 49) X dX7_often_39 (by decide) (by omega) (by omega) (fun c4 => ?_) (fun c4 => ?_)
        · skip
          refine v_iload X dX7_often_49 rfl ?_
          exact v_iret X Y dX7_often_51 (u := ()) (by rw [if_pos (by omega), if_neg (by assumption)]; first | rw [if_pos (by assumption)] | rw [if_neg (by assumption)]) (by rfl)
        · skip
          refine v_iconst X dX7_often_42 ?_
          refine v_iload X dX7_often_43 rfl ?_
          refine v_imul X dX7_often_45 ?_
          refine v_goto (tgt := 51) X dX7_often_46 (by decide) ?_
          exact v_iret X Y dX7_often_51 (u := ()) (by rw [if_pos (by omega), if_neg (by assumption)]; first | rw [if_pos (by assumption)] | rw [if_neg (by assumption)]) (by rfl)
      · skip
        refine v_ldc X (List.mem_of_getElem? (i := 2) rfl) dX7_often_34 (n := -1000000) (by decide) ?_
        exact v_iret X Y dX7_often_36 (u := ()) (by rw [if_pos (by omega), if_pos (by assumption)]) (by rfl)
    · skip
      refine v_ldc X (List.mem_of_getElem? (i := 1) rfl) dX7_often_18 (n := -1000001) (by decide) ?_
      exact v_iret X Y dX7_often_20 (u := ()) (by rw [if_neg (by omega)]) (by rfl)

theorem hdX7_all : yX7_all.cls = RX7 ∧ yX7_all.cls ≠ "java/lang/invoke/MethodHandle" ∧ yX7_all.cls ≠ "java/lang/invoke/VarHandle" ∧ (parseMethodDescriptor yX7_all.desc).map (fun d => d.parameters.length) = some 0 := ⟨rfl, by decide +kernel, by decide +kernel, by decide +kernel⟩
set_option maxHeartbeats 4000000 in
set_option maxRecDepth 100000 in
theorem c_X7_all {g : Gx} {B : Nat → Nat} {lf fi : Int} {mk cn : Int} {so tu sp : Nat → Int}  (hcn : 0 ≤ cn ∧ cn ≤ 4) (hmk : 0 ≤ mk ∧ mk ≤ 60) (hso : Bd 0 5 so) (htu : Bd 0 12 tu) (hsp : Bd 0 59 sp) : CtE g yX7_all wsX7_all 4 86 [.ref (B 0)] (oAH g B (lf) (fi) :: (wClk g (B 3) (B 15) (B 16) (B 17) mk cn so tu sp)) (if cn = 0 then -1000002 else if allI cn so tu = 0 then -1000000 else allI cn so tu) (oAH g B (lf) (fi) :: (wClk g (B 3) (B 15) (B 16) (B 17) mk cn so tu sp)) := by
  refine m_go (cc := cX7_all) (nL := 3) (by decide +kernel) rfl (Nat.le_of_ble_eq_true rfl) (fun x X Y hnm => ?_)
  refine v_eq (lo2 := [some (.ref (B 0)), none, none]) rfl rfl rfl rfl ?_
  have qa := fun (i : Int) => absI_bd (a := spdI cn so tu 0 - spdI cn so tu i) (M := 48) (by have := spdI_bd (cn := cn) (so := so) (h := i) htu; have := spdI_bd (cn := cn) (so := so) (h := 0) htu; omega)
  have qg := gcdN_bd (f := fun j => absI (spdI cn so tu 0 - spdI cn so tu ((j : Int) + 1))) (M := 48) (fun j => qa _)
  refine v_aload_n X dX7_all_0 rfl ?_
  refine v_get X (fun _ h => List.mem_cons_of_mem _ (List.mem_append_left _ (List.mem_append_right _ h))) 0 rfl rfl 2 (by decide) rfl (List.mem_of_getElem? (i := 1) rfl) rfl dX7_all_1 ?_
  refine res_E X (run_V X (c_X2_isNone (g := g) (by first | assumption | omega)) gX7_all_X2_isNone rfl hdX2_isNone ⟨(Nat.le_of_ble_eq_true rfl), (Nat.le_of_ble_eq_true rfl)⟩ ⟨(Nat.le_of_ble_eq_true rfl), (Nat.le_of_ble_eq_true rfl)⟩ 1 rfl rfl rfl [1, 2, 3, 4] rfl rfl rfl rfl (by simp [Value.category]) dX7_all_4) [1, 2, 3, 4] rfl rfl ?_
  refine v_ifb_eq (tgt := 13) X dX7_all_7 (by decide) (fun c1 => ?_) (fun c1 => ?_)
  · skip
    refine v_iconst X dX7_all_13 ?_
    refine v_istore_n X dX7_all_14 1 rfl (by decide) rfl ?_
    dsimp only [List.set]
    refine v_iconst X dX7_all_15 ?_
    refine v_istore_n X dX7_all_16 2 rfl (by decide) rfl ?_
    dsimp only [List.set]
    have L17 : ∀ (nf : Nat) (n : Int) (h : Int) (h1 : 1 ≤ h ∧ (h ≤ cn ∨ h = 1)) (h2 : n = gcdN (fun j => absI (spdI cn so tu 0 - spdI cn so tu ((j : Int) + 1))) (h - 1).toNat) (h3 : 0 ≤ n ∧ n ≤ 48) (_ : (cn + 1 - h).toNat < nf), V g x 0 0 (oAH g B (lf) (fi) :: (wClk g (B 3) (B 15) (B 16) (B 17) mk cn so tu sp)) [some (.ref (B 0)), some (.int (iI n)), some (.int (iI h))] 17 [] := by
      intro nf
      induction nf with
      | zero => intro n h h1 h2 h3 hmu; exact absurd hmu (Nat.not_lt_zero _)
      | succ nf ih17 =>
        intro n h h1 h2 h3 hmu
        refine v_iload_n X dX7_all_17 rfl ?_
        refine v_aload_n X dX7_all_18 rfl ?_
        refine v_get X (fun _ h => List.mem_cons_of_mem _ (List.mem_append_left _ (List.mem_append_right _ h))) 0 rfl rfl 2 (by decide) rfl (List.mem_of_getElem? (i := 1) rfl) rfl dX7_all_19 ?_
        refine v_get X (fun _ h => List.mem_cons_of_mem _ (List.mem_append_right _ h)) 1 rfl rfl 4 (by decide) rfl (List.mem_of_getElem? (i := 3) rfl) rfl dX7_all_22 ?_
        refine v_icmp_ge (tgt := 45) X dX7_all_25 (by decide) (by omega) (by omega) (fun c2 => ?_) (fun c2 => ?_)
        · skip
          refine v_iload_n X dX7_all_45 rfl ?_
          refine v_if_ne (tgt := 54) X dX7_all_46 (by decide) (by omega) (fun c3 => ?_) (fun c3 => ?_)
          · skip
            refine v_iload_n X dX7_all_54 rfl ?_
            exact v_iret X Y dX7_all_55 (u := ()) (by
                have e : allI cn so tu = n := by unfold allI; rw [h2, show (h - 1).toNat = (cn - 1).toNat by omega]
                rw [if_neg (by assumption), e]; first | rw [if_pos (by assumption)] | rw [if_neg (by assumption)]) (by rfl)
          · skip
            refine v_ldc X (List.mem_of_getElem? (i := 4) rfl) dX7_all_49 (n := -1000000) (by decide) ?_
            refine v_goto (tgt := 55) X dX7_all_51 (by decide) ?_
            exact v_iret X Y dX7_all_55 (u := ()) (by
                have e : allI cn so tu = n := by unfold allI; rw [h2, show (h - 1).toNat = (cn - 1).toNat by omega]
                rw [if_neg (by assumption), e]; first | rw [if_pos (by assumption)] | rw [if_neg (by assumption)]) (by rfl)
        · skip
          refine v_iload_n X dX7_all_28 rfl ?_
          refine v_aload_n X dX7_all_29 rfl ?_
          refine v_iconst X dX7_all_30 ?_
          refine v_iload_n X dX7_all_31 rfl ?_
          refine res_E X (run_V X (c_X7_speedApart (g := g) (by first | assumption | omega) (by first | assumption | omega) (by first | assumption | omega) (by first | assumption | omega) (by first | assumption | omega)) gX7_all_X7_speedApart rfl hdX7_speedApart ⟨(Nat.le_of_ble_eq_true rfl), (Nat.le_of_ble_eq_true rfl)⟩ ⟨(Nat.le_of_ble_eq_true rfl), (Nat.le_of_ble_eq_true rfl)⟩ 0 rfl rfl rfl [0, 1, 2, 3, 4] rfl rfl rfl rfl (by simp [Value.category]) dX7_all_32) [0, 1, 2, 3, 4] rfl rfl ?_
          have q7 := qa h
          refine res_E X (run_S X (c_X7_common (g := g) (by first | assumption | omega) (by first | assumption | omega) (by first | assumption | omega) (by first | assumption | omega)) gX7_all_X7_common rfl hdX7_common.2 ⟨(Nat.le_of_ble_eq_true rfl), (Nat.le_of_ble_eq_true rfl)⟩ ⟨(Nat.le_of_ble_eq_true rfl), (Nat.le_of_ble_eq_true rfl)⟩ [] rfl rfl rfl rfl (by simp [Value.category]) dX7_all_35) [] rfl rfl ?_
          refine v_istore_n X dX7_all_38 1 rfl (by decide) rfl ?_
          dsimp only [List.set]
          refine v_iinc X dX7_all_39 rfl (by decide) rfl ?_
          dsimp only [List.set]
          refine v_goto (tgt := 17) X dX7_all_42 (by decide) ?_
          exact ih17 _ _ (by omega) (by rw [show (h + 1 - 1).toNat = (h - 1).toNat + 1 by omega]; simp only [gcdN]; rw [← h2, show (((h - 1).toNat : Nat) : Int) + 1 = h by omega]) (by first | omega | (have q7 := qg (h + 1 - 1).toNat; rw [show (h + 1 - 1).toNat = (h - 1).toNat + 1 by omega] at q7; simp only [gcdN] at q7; rw [← h2, show (((h - 1).toNat : Nat) : Int) + 1 = h by omega] at q7; exact q7)) (by omega)
    exact L17 _ _ _ (by omega) (by rfl) (by first | omega | (have q7 := qg (h + 1 - 1).toNat; rw [show (h + 1 - 1).toNat = (h - 1).toNat + 1 by omega] at q7; simp only [gcdN] at q7; rw [← h2, show (((h - 1).toNat : Nat) : Int) + 1 = h by omega] at q7; exact q7)) (Nat.lt_succ_self _)
  · skip
    refine v_ldc X (List.mem_of_getElem? (i := 2) rfl) dX7_all_10 (n := -1000002) (by decide) ?_
    exact v_iret X Y dX7_all_12 (u := ()) (by rw [if_pos (by assumption)]) (by rfl)

theorem hdX7_row : yX7_row.cls = RX7 ∧ yX7_row.cls ≠ "java/lang/invoke/MethodHandle" ∧ yX7_row.cls ≠ "java/lang/invoke/VarHandle" ∧ (parseMethodDescriptor yX7_row.desc).map (fun d => d.parameters.length) = some 3 := ⟨rfl, by decide +kernel, by decide +kernel, by decide +kernel⟩
set_option maxHeartbeats 4000000 in
set_option maxRecDepth 100000 in
theorem c_X7_row {g : Gx} {B : Nat → Nat} {lf fi : Int} {it la le : Nat → Int} {r l n : Int} (hr : R32 r) (hl : R32 l) (hn : R32 n) : CtI (S := Int × (Nat → Int) × (Nat → Int) × (Nat → Int)) g yX7_row wsX7_row 2 46 [.ref (B 0), .int (iI r), .int (iI l), .int (iI n)] (oAH g B (lf) (fi) :: (wRow g (B 1) (B 11) (B 12) (B 13) it la le)) (fun v u => (¬ (0 ≤ r ∧ r < 8 ∧ 0 ≤ l ∧ l ≤ 2 ∧ n ≤ 40) ∧ v = -1000001 ∧ u = (fi, la, le, it)) ∨ ((0 ≤ r ∧ r < 8 ∧ 0 ≤ l ∧ l ≤ 2 ∧ n < 0) ∧ v = -1000014 ∧ u = (4, la, le, it)) ∨ ((0 ≤ r ∧ r < 8 ∧ 0 ≤ l ∧ l ≤ 2 ∧ 0 ≤ n ∧ n ≤ 40) ∧ v = n ∧ u.1 = 0 ∧ u.2.1 = updI la r.toNat l ∧ u.2.2.1 = updI le r.toNat n ∧ ∀ j : Nat, u.2.2.2 j = if r * 40 ≤ (j : Int) ∧ (j : Int) < r * 40 + n then 0 else it j)) (fun u => oAH g B (lf) (u.1) :: (wRow g (B 1) (B 11) (B 12) (B 13) (u.2.2.2) (u.2.1) (u.2.2.1))) := by
  refine m_go (cc := cX7_row) (nL := 4) (by decide +kernel) rfl (Nat.le_of_ble_eq_true rfl) (fun x X Y hnm => ?_)
  refine v_eq (lo2 := [some (.ref (B 0)), some (.int (iI r)), some (.int (iI l)), some (.int (iI n))]) rfl rfl rfl rfl ?_
  refine v_iload_n X dX7_row_0 rfl ?_
  refine res_E X (run_S X (c_X7_isRow (g := g) (by first | assumption | omega)) gX7_row_X7_isRow rfl hdX7_isRow.2 ⟨(Nat.le_of_ble_eq_true rfl), (Nat.le_of_ble_eq_true rfl)⟩ ⟨(Nat.le_of_ble_eq_true rfl), (Nat.le_of_ble_eq_true rfl)⟩ [] rfl rfl rfl rfl (by simp [Value.category]) dX7_row_1) [] rfl rfl ?_
  refine v_ifb_eq (tgt := 22) X dX7_row_4 (by decide) (fun c1 => ?_) (fun c1 => ?_)
  · skip
    refine v_ldc X (List.mem_of_getElem? (i := 1) rfl) dX7_row_22 (n := -1000001) (by decide) ?_
    refine v_iret X Y dX7_row_24 (u := (fi, la, le, it)) ?_ (by rfl)
    exact Or.inl ⟨by omega, rfl, rfl⟩
  · skip
    refine v_iload_n X dX7_row_7 rfl ?_
    refine v_iconst X dX7_row_8 ?_
    refine v_iconst X dX7_row_9 ?_
    refine res_E X (run_S X (c_X7_isWithin (g := g) (by first | assumption | omega) (by first | assumption | omega) (by first | assumption | omega)) gX7_row_X7_isWithin rfl hdX7_isWithin.2 ⟨(Nat.le_of_ble_eq_true rfl), (Nat.le_of_ble_eq_true rfl)⟩ ⟨(Nat.le_of_ble_eq_true rfl), (Nat.le_of_ble_eq_true rfl)⟩ [] rfl rfl rfl rfl (by simp [Value.category]) dX7_row_10) [] rfl rfl ?_
    refine v_ifb_eq (tgt := 22) X dX7_row_13 (by decide) (fun c2 => ?_) (fun c2 => ?_)
    · skip
      refine v_ldc X (List.mem_of_getElem? (i := 1) rfl) dX7_row_22 (n := -1000001) (by decide) ?_
      refine v_iret X Y dX7_row_24 (u := (fi, la, le, it)) ?_ (by rfl)
      exact Or.inl ⟨by omega, rfl, rfl⟩
    · skip
      refine v_iload_n X dX7_row_16 rfl ?_
      refine v_bipush X dX7_row_17 (by decide) ?_
      refine v_icmp_le (tgt := 25) X dX7_row_19 (by decide) (by omega) (by omega) (fun c3 => ?_) (fun c3 => ?_)
      · skip
        refine v_iload_n X dX7_row_25 rfl ?_
        refine v_if_ge (tgt := 35) X dX7_row_26 (by decide) (by omega) (fun c4 => ?_) (fun c4 => ?_)
        · skip
          refine v_aload_n X dX7_row_35 rfl ?_
          refine v_get X (fun _ h => List.mem_cons_of_mem _ (List.mem_append_left _ (List.mem_append_right _ h))) 0 rfl rfl 0 (by decide) rfl (List.mem_of_getElem? (i := 2) rfl) rfl dX7_row_36 ?_
          refine v_iload_n X dX7_row_39 rfl ?_
          refine v_iload_n X dX7_row_40 rfl ?_
          refine v_iload_n X dX7_row_41 rfl ?_
          refine res_V X (run_V X (c_X5_make (g := g) (by first | assumption | omega) (by first | assumption | omega)) gX7_row_X5_make rfl hdX5_make ⟨(Nat.le_of_ble_eq_true rfl), (Nat.le_of_ble_eq_true rfl)⟩ ⟨(Nat.le_of_ble_eq_true rfl), (Nat.le_of_ble_eq_true rfl)⟩ 1 rfl rfl rfl [1, 2, 3, 4] rfl rfl rfl rfl (by simp [Value.category]) dX7_row_42) [1, 2, 3, 4] rfl rfl (fun _ => rfl) (fun f hf => ?_)
          dsimp only [patch, List.set, List.cons_append, List.nil_append, oAH, wRow]
          refine v_aload_n X dX7_row_45 rfl ?_
          refine v_iload_n X dX7_row_46 rfl ?_
          refine res_F X (run_V X (c_X7_fine (g := g) ) gX7_row_X7_fine rfl hdX7_fine ⟨(Nat.le_of_ble_eq_true rfl), (Nat.le_of_ble_eq_true rfl)⟩ ⟨(Nat.le_of_ble_eq_true rfl), (Nat.le_of_ble_eq_true rfl)⟩ 0 rfl rfl rfl [0] rfl rfl rfl rfl (by simp [Value.category]) dX7_row_47) [0] rfl rfl rfl ?_
          dsimp only [patch, List.set, List.cons_append, List.nil_append, oAH, wRow]
          refine v_iret X Y dX7_row_50 (u := (0, updI la r.toNat l, updI le r.toNat n, f)) ?_ (by rfl)
          exact Or.inr (Or.inr ⟨by omega, rfl, rfl, rfl, rfl, hf⟩)
        · skip
          refine v_aload_n X dX7_row_29 rfl ?_
          refine v_iconst X dX7_row_30 ?_
          refine res_F X (run_V X (c_X7_found (g := g) ) gX7_row_X7_found rfl hdX7_found ⟨(Nat.le_of_ble_eq_true rfl), (Nat.le_of_ble_eq_true rfl)⟩ ⟨(Nat.le_of_ble_eq_true rfl), (Nat.le_of_ble_eq_true rfl)⟩ 0 rfl rfl rfl [0] rfl rfl rfl rfl (by simp [Value.category]) dX7_row_31) [0] rfl rfl rfl ?_
          dsimp only [patch, List.set, List.cons_append, List.nil_append, oAH, wRow]
          refine v_iret X Y dX7_row_34 (u := (4, la, le, it)) ?_ (by rfl)
          exact Or.inr (Or.inl ⟨by omega, rfl, rfl⟩)
      · skip
        refine v_ldc X (List.mem_of_getElem? (i := 1) rfl) dX7_row_22 (n := -1000001) (by decide) ?_
        refine v_iret X Y dX7_row_24 (u := (fi, la, le, it)) ?_ (by rfl)
        exact Or.inl ⟨by omega, rfl, rfl⟩

theorem hdX7_set : yX7_set.cls = RX7 ∧ yX7_set.cls ≠ "java/lang/invoke/MethodHandle" ∧ yX7_set.cls ≠ "java/lang/invoke/VarHandle" ∧ (parseMethodDescriptor yX7_set.desc).map (fun d => d.parameters.length) = some 3 := ⟨rfl, by decide +kernel, by decide +kernel, by decide +kernel⟩
set_option maxHeartbeats 4000000 in
set_option maxRecDepth 100000 in
theorem c_X7_set {g : Gx} {B : Nat → Nat} {lf fi : Int} {it la le : Nat → Int} {r i v : Int} (hit : Bd (-2147483648) 2147483647 it) (hla : Bd (-1) 2 la) (hle : Bd 0 40 le) (hr : R32 r) (hi : R32 i) (hv : R32 v) : CtI (S := Int × (Nat → Int)) g yX7_set wsX7_set 4 87 [.ref (B 0), .int (iI r), .int (iI i), .int (iI v)] (oAH g B (lf) (fi) :: (wRow g (B 1) (B 11) (B 12) (B 13) it la le)) (fun w u => (¬ (0 ≤ r ∧ r < 8) ∧ w = -1000001 ∧ u = (fi, it)) ∨ ((0 ≤ r ∧ r < 8) ∧ ((la r.toNat = -1 ∧ w = -1000011 ∧ u = (1, it)) ∨ (la r.toNat ≠ -1 ∧ ¬ (0 ≤ i ∧ i < le r.toNat) ∧ w = -1000012 ∧ u = (2, it)) ∨ (la r.toNat ≠ -1 ∧ (0 ≤ i ∧ i < le r.toNat) ∧ w = cutI (la r.toNat) v ∧ u = (0, updI it (r * 40 + i).toNat (cutI (la r.toNat) v)))))) (fun u => oAH g B (lf) (u.1) :: (wRow g (B 1) (B 11) (B 12) (B 13) (u.2) la le)) := by
  refine m_go (cc := cX7_set) (nL := 5) (by decide +kernel) rfl (Nat.le_of_ble_eq_true rfl) (fun x X Y hnm => ?_)
  refine v_eq (lo2 := [some (.ref (B 0)), some (.int (iI r)), some (.int (iI i)), some (.int (iI v)), none]) rfl rfl rfl rfl ?_
  refine v_iload_n X dX7_set_0 rfl ?_
  refine res_E X (run_S X (c_X7_isRow (g := g) (by first | assumption | omega)) gX7_set_X7_isRow rfl hdX7_isRow.2 ⟨(Nat.le_of_ble_eq_true rfl), (Nat.le_of_ble_eq_true rfl)⟩ ⟨(Nat.le_of_ble_eq_true rfl), (Nat.le_of_ble_eq_true rfl)⟩ [] rfl rfl rfl rfl (by simp [Value.category]) dX7_set_1) [] rfl rfl ?_
  refine v_ifb_ne (tgt := 10) X dX7_set_4 (by decide) (fun c1 => ?_) (fun c1 => ?_)
  · skip
    have g0 := hle r.toNat
    have g1 : lanI la r = la r.toNat := if_pos (by assumption)
    have g2 : rchI le r i 1 = if 0 ≤ i ∧ i < le r.toNat then 1 else 0 := rchI_1 (by assumption)
    have g3 : wrgI la le r i 1 = if la r.toNat = -1 then 1 else if 0 ≤ i ∧ i < le r.toNat then 0 else 2 := by unfold wrgI; rw [g1, g2]; (repeat split) <;> omega
    refine v_aload_n X dX7_set_10 rfl ?_
    refine v_get X (fun _ h => List.mem_cons_of_mem _ (List.mem_append_left _ (List.mem_append_right _ h))) 0 rfl rfl 0 (by decide) rfl (List.mem_of_getElem? (i := 2) rfl) rfl dX7_set_11 ?_
    refine v_iload_n X dX7_set_14 rfl ?_
    refine v_iload_n X dX7_set_15 rfl ?_
    refine v_iconst X dX7_set_16 ?_
    refine res_E X (run_V X (c_X5_wrongAt (g := g) (by first | assumption | omega) (by first | assumption | omega) (by first | assumption | omega) (by first | assumption | omega) (by first | assumption | omega)) gX7_set_X5_wrongAt rfl hdX5_wrongAt ⟨(Nat.le_of_ble_eq_true rfl), (Nat.le_of_ble_eq_true rfl)⟩ ⟨(Nat.le_of_ble_eq_true rfl), (Nat.le_of_ble_eq_true rfl)⟩ 1 rfl rfl rfl [1, 2, 3, 4] rfl rfl rfl rfl (by simp [Value.category]) dX7_set_17) [1, 2, 3, 4] rfl rfl ?_
    refine v_istore X dX7_set_20 (by decide) rfl ?_
    dsimp only [List.set]
    refine v_iload X dX7_set_22 rfl ?_
    refine v_if_eq (tgt := 34) X dX7_set_24 (by decide) (by first | omega | (rw [g3]; (repeat split) <;> omega)) (fun c2 => ?_) (fun c2 => ?_)
    · skip
      refine v_aload_n X dX7_set_34 rfl ?_
      have g4 : la r.toNat ≠ -1 ∧ 0 ≤ i ∧ i < le r.toNat := by rw [g3] at *; (repeat (split at *)) <;> omega
      have g6 := cutI_bd (l := la r.toNat) hv
      refine v_get X (fun _ h => List.mem_cons_of_mem _ (List.mem_append_left _ (List.mem_append_right _ h))) 0 rfl rfl 0 (by decide) rfl (List.mem_of_getElem? (i := 2) rfl) rfl dX7_set_35 ?_
      refine v_iload_n X dX7_set_38 rfl ?_
      refine v_iload_n X dX7_set_39 rfl ?_
      refine v_iload_n X dX7_set_40 rfl ?_
      refine res_W X (run_V X (c_X5_put (g := g) (by first | assumption | omega) (by first | assumption | omega) (by first | assumption | omega) (by first | assumption | omega) (by first | assumption | omega)) gX7_set_X5_put rfl hdX5_put ⟨(Nat.le_of_ble_eq_true rfl), (Nat.le_of_ble_eq_true rfl)⟩ ⟨(Nat.le_of_ble_eq_true rfl), (Nat.le_of_ble_eq_true rfl)⟩ 1 rfl rfl rfl [1, 2, 3, 4] rfl rfl rfl rfl (by simp [Value.category]) dX7_set_41) [1, 2, 3, 4] rfl rfl rfl ?_
      dsimp only [patch, List.set, List.cons_append, List.nil_append, oAH, wRow]
      refine v_aload_n X dX7_set_44 rfl ?_
      refine v_aload_n X dX7_set_45 rfl ?_
      refine v_get X (fun _ h => List.mem_cons_of_mem _ (List.mem_append_left _ (List.mem_append_right _ h))) 0 rfl rfl 0 (by decide) rfl (List.mem_of_getElem? (i := 2) rfl) rfl dX7_set_46 ?_
      refine v_iload_n X dX7_set_49 rfl ?_
      refine v_iload_n X dX7_set_50 rfl ?_
      refine res_E X (run_V X (c_X5_item (g := g) (by rw [g1]; exact Bd_up hit g6.1 g6.2) (by first | assumption | omega) (by first | assumption | omega) (by first | assumption | omega)) gX7_set_X5_item rfl hdX5_item ⟨(Nat.le_of_ble_eq_true rfl), (Nat.le_of_ble_eq_true rfl)⟩ ⟨(Nat.le_of_ble_eq_true rfl), (Nat.le_of_ble_eq_true rfl)⟩ 1 rfl rfl rfl [1, 2, 3, 4] rfl rfl rfl rfl (by simp [Value.category]) dX7_set_51) [1, 2, 3, 4] rfl rfl ?_
      rw [itmI_s (by assumption) (by omega) (by omega), g1]
      refine res_F X (run_V X (c_X7_fine (g := g) ) gX7_set_X7_fine rfl hdX7_fine ⟨(Nat.le_of_ble_eq_true rfl), (Nat.le_of_ble_eq_true rfl)⟩ ⟨(Nat.le_of_ble_eq_true rfl), (Nat.le_of_ble_eq_true rfl)⟩ 0 rfl rfl rfl [0] rfl rfl rfl rfl (by simp [Value.category]) dX7_set_54) [0] rfl rfl rfl ?_
      dsimp only [patch, List.set, List.cons_append, List.nil_append, oAH, wRow]
      refine v_iret X Y dX7_set_57 (u := (0, updI it (r * 40 + i).toNat (cutI (la r.toNat) v))) ?_ (by first | rfl | (rw [g1]; done))
      exact Or.inr ⟨by assumption, Or.inr (Or.inr ⟨g4.1, g4.2, rfl, rfl⟩)⟩
    · skip
      refine v_aload_n X dX7_set_27 rfl ?_
      refine v_iload X dX7_set_28 rfl ?_
      refine res_F X (run_V X (c_X7_found (g := g) ) gX7_set_X7_found rfl hdX7_found ⟨(Nat.le_of_ble_eq_true rfl), (Nat.le_of_ble_eq_true rfl)⟩ ⟨(Nat.le_of_ble_eq_true rfl), (Nat.le_of_ble_eq_true rfl)⟩ 0 rfl rfl rfl [0] rfl rfl rfl rfl (by simp [Value.category]) dX7_set_30) [0] rfl rfl rfl ?_
      dsimp only [patch, List.set, List.cons_append, List.nil_append, oAH, wRow]
      refine v_iret X Y dX7_set_33 (u := (wrgI la le r i 1, it)) ?_ (by rfl)
      refine Or.inr ⟨by assumption, ?_⟩
      rw [g3] at *
      by_cases e1 : la r.toNat = -1
      · rw [if_pos e1] at *; exact Or.inl ⟨e1, by omega, rfl⟩
      · rw [if_neg e1] at *; by_cases e2 : 0 ≤ i ∧ i < le r.toNat
        · rw [if_pos e2] at *; omega
        · rw [if_neg e2] at *; exact Or.inr (Or.inl ⟨e1, e2, by omega, rfl⟩)
  · skip
    refine v_ldc X (List.mem_of_getElem? (i := 1) rfl) dX7_set_7 (n := -1000001) (by decide) ?_
    refine v_iret X Y dX7_set_9 (u := (fi, it)) ?_ (by rfl)
    exact Or.inl ⟨by omega, rfl, rfl⟩

theorem hdX7_drop : yX7_drop.cls = RX7 ∧ yX7_drop.cls ≠ "java/lang/invoke/MethodHandle" ∧ yX7_drop.cls ≠ "java/lang/invoke/VarHandle" ∧ (parseMethodDescriptor yX7_drop.desc).map (fun d => d.parameters.length) = some 1 := ⟨rfl, by decide +kernel, by decide +kernel, by decide +kernel⟩
set_option maxHeartbeats 4000000 in
set_option maxRecDepth 100000 in
theorem c_X7_drop {g : Gx} {B : Nat → Nat} {lf fi : Int} {it la le : Nat → Int} {r : Int} (hit : Bd (-2147483648) 2147483647 it) (hla : Bd (-1) 2 la) (hle : Bd 0 40 le) (hr : R32 r) : CtI (S := Int × (Nat → Int) × (Nat → Int)) g yX7_drop wsX7_drop 3 62 [.ref (B 0), .int (iI r)] (oAH g B (lf) (fi) :: (wRow g (B 1) (B 11) (B 12) (B 13) it la le)) (fun w u => (¬ (0 ≤ r ∧ r < 8) ∧ w = -1000001 ∧ u = (fi, la, le)) ∨ ((0 ≤ r ∧ r < 8) ∧ ((la r.toNat = -1 ∧ w = -1000011 ∧ u = (1, la, le)) ∨ (la r.toNat ≠ -1 ∧ w = le r.toNat ∧ u = (0, updI la r.toNat (-1), updI le r.toNat 0))))) (fun u => oAH g B (lf) (u.1) :: (wRow g (B 1) (B 11) (B 12) (B 13) it (u.2.1) (u.2.2))) := by
  refine m_go (cc := cX7_drop) (nL := 3) (by decide +kernel) rfl (Nat.le_of_ble_eq_true rfl) (fun x X Y hnm => ?_)
  refine v_eq (lo2 := [some (.ref (B 0)), some (.int (iI r)), none]) rfl rfl rfl rfl ?_
  refine v_iload_n X dX7_drop_0 rfl ?_
  refine res_E X (run_S X (c_X7_isRow (g := g) (by first | assumption | omega)) gX7_drop_X7_isRow rfl hdX7_isRow.2 ⟨(Nat.le_of_ble_eq_true rfl), (Nat.le_of_ble_eq_true rfl)⟩ ⟨(Nat.le_of_ble_eq_true rfl), (Nat.le_of_ble_eq_true rfl)⟩ [] rfl rfl rfl rfl (by simp [Value.category]) dX7_drop_1) [] rfl rfl ?_
  refine v_ifb_ne (tgt := 10) X dX7_drop_4 (by decide) (fun c1 => ?_) (fun c1 => ?_)
  · skip
    have g1 : lanI la r = la r.toNat := if_pos (by assumption)
    have g2 : atI 8 le r = le r.toNat := if_pos (by assumption)
    refine v_aload_n X dX7_drop_10 rfl ?_
    refine v_get X (fun _ h => List.mem_cons_of_mem _ (List.mem_append_left _ (List.mem_append_right _ h))) 0 rfl rfl 0 (by decide) rfl (List.mem_of_getElem? (i := 2) rfl) rfl dX7_drop_11 ?_
    refine v_iload_n X dX7_drop_14 rfl ?_
    refine res_E X (run_V X (c_X5_isMissing (g := g) (by first | assumption | omega) (by first | assumption | omega)) gX7_drop_X5_isMissing rfl hdX5_isMissing ⟨(Nat.le_of_ble_eq_true rfl), (Nat.le_of_ble_eq_true rfl)⟩ ⟨(Nat.le_of_ble_eq_true rfl), (Nat.le_of_ble_eq_true rfl)⟩ 1 rfl rfl rfl [1, 2, 3, 4] rfl rfl rfl rfl (by simp [Value.category]) dX7_drop_15) [1, 2, 3, 4] rfl rfl ?_
    refine v_ifb_eq (tgt := 27) X dX7_drop_18 (by decide) (fun c2 => ?_) (fun c2 => ?_)
    · skip
      refine v_aload_n X dX7_drop_27 rfl ?_
      refine v_get X (fun _ h => List.mem_cons_of_mem _ (List.mem_append_left _ (List.mem_append_right _ h))) 0 rfl rfl 0 (by decide) rfl (List.mem_of_getElem? (i := 2) rfl) rfl dX7_drop_28 ?_
      refine v_iload_n X dX7_drop_31 rfl ?_
      refine res_E X (run_V X (c_X5_length (g := g) (by first | assumption | omega) (by first | assumption | omega)) gX7_drop_X5_length rfl hdX5_length ⟨(Nat.le_of_ble_eq_true rfl), (Nat.le_of_ble_eq_true rfl)⟩ ⟨(Nat.le_of_ble_eq_true rfl), (Nat.le_of_ble_eq_true rfl)⟩ 1 rfl rfl rfl [1, 2, 3, 4] rfl rfl rfl rfl (by simp [Value.category]) dX7_drop_32) [1, 2, 3, 4] rfl rfl ?_
      refine v_istore_n X dX7_drop_35 2 rfl (by decide) rfl ?_
      dsimp only [List.set]
      refine v_aload_n X dX7_drop_36 rfl ?_
      refine v_get X (fun _ h => List.mem_cons_of_mem _ (List.mem_append_left _ (List.mem_append_right _ h))) 0 rfl rfl 0 (by decide) rfl (List.mem_of_getElem? (i := 2) rfl) rfl dX7_drop_37 ?_
      refine v_iload_n X dX7_drop_40 rfl ?_
      refine res_W X (run_V X (c_X5_lose (g := g) (by first | assumption | omega)) gX7_drop_X5_lose rfl hdX5_lose ⟨(Nat.le_of_ble_eq_true rfl), (Nat.le_of_ble_eq_true rfl)⟩ ⟨(Nat.le_of_ble_eq_true rfl), (Nat.le_of_ble_eq_true rfl)⟩ 1 rfl rfl rfl [1, 2, 3, 4] rfl rfl rfl rfl (by simp [Value.category]) dX7_drop_41) [1, 2, 3, 4] rfl rfl rfl ?_
      dsimp only [patch, List.set, List.cons_append, List.nil_append, oAH, wRow]
      refine v_aload_n X dX7_drop_44 rfl ?_
      refine v_iload_n X dX7_drop_45 rfl ?_
      refine res_F X (run_V X (c_X7_fine (g := g) ) gX7_drop_X7_fine rfl hdX7_fine ⟨(Nat.le_of_ble_eq_true rfl), (Nat.le_of_ble_eq_true rfl)⟩ ⟨(Nat.le_of_ble_eq_true rfl), (Nat.le_of_ble_eq_true rfl)⟩ 0 rfl rfl rfl [0] rfl rfl rfl rfl (by simp [Value.category]) dX7_drop_46) [0] rfl rfl rfl ?_
      dsimp only [patch, List.set, List.cons_append, List.nil_append, oAH, wRow]
      refine v_iret X Y dX7_drop_49 (u := (0, updI la r.toNat (-1), updI le r.toNat 0)) ?_ (by rfl)
      exact Or.inr ⟨by assumption, Or.inr ⟨by omega, g2, rfl⟩⟩
    · skip
      refine v_aload_n X dX7_drop_21 rfl ?_
      refine v_iconst X dX7_drop_22 ?_
      refine res_F X (run_V X (c_X7_found (g := g) ) gX7_drop_X7_found rfl hdX7_found ⟨(Nat.le_of_ble_eq_true rfl), (Nat.le_of_ble_eq_true rfl)⟩ ⟨(Nat.le_of_ble_eq_true rfl), (Nat.le_of_ble_eq_true rfl)⟩ 0 rfl rfl rfl [0] rfl rfl rfl rfl (by simp [Value.category]) dX7_drop_23) [0] rfl rfl rfl ?_
      dsimp only [patch, List.set, List.cons_append, List.nil_append, oAH, wRow]
      refine v_iret X Y dX7_drop_26 (u := (1, la, le)) ?_ (by rfl)
      exact Or.inr ⟨by assumption, Or.inl ⟨by omega, rfl, rfl⟩⟩
  · skip
    refine v_ldc X (List.mem_of_getElem? (i := 1) rfl) dX7_drop_7 (n := -1000001) (by decide) ?_
    refine v_iret X Y dX7_drop_9 (u := (fi, la, le)) ?_ (by rfl)
    exact Or.inl ⟨by omega, rfl, rfl⟩

theorem hdX7_slip : yX7_slip.cls = RX7 ∧ yX7_slip.cls ≠ "java/lang/invoke/MethodHandle" ∧ yX7_slip.cls ≠ "java/lang/invoke/VarHandle" ∧ (parseMethodDescriptor yX7_slip.desc).map (fun d => d.parameters.length) = some 2 := ⟨rfl, by decide +kernel, by decide +kernel, by decide +kernel⟩
set_option maxHeartbeats 4000000 in
set_option maxRecDepth 100000 in
theorem c_X7_slip {g : Gx} {B : Nat → Nat} {lf fi : Int} {mk cn : Int} {so tu sp : Nat → Int} {hs ss : Nat → Int} {ln : Int} {h m : Int} (hcn : 0 ≤ cn ∧ cn ≤ 4) (hmk : 0 ≤ mk ∧ mk ≤ 60) (hso : Bd 0 5 so) (htu : Bd 0 12 tu) (hsp : Bd 0 59 sp) (hm2 : 0 < cn → 0 < mk) (hln : 0 ≤ ln ∧ ln ≤ 24) (hh : R32 h) (hm : R32 m) : CtI (S := (Nat → Int) × (Nat → Int) × (Nat → Int) × Int) g yX7_slip wsX7_slip 3 102 [.ref (B 0), .int (iI h), .int (iI m)] (oAH g B (lf) (fi) :: (wClk g (B 3) (B 15) (B 16) (B 17) mk cn so tu sp ++ (wAct g (B 7) (B 27) (B 28) hs ss ln))) (fun w u => (¬ ((0 ≤ h ∧ h < cn) ∧ -60 ≤ m ∧ m ≤ 60) ∧ w = -1000001 ∧ u = (sp, hs, ss, ln)) ∨ (((0 ≤ h ∧ h < cn) ∧ -60 ≤ m ∧ m ≤ 60) ∧ w = (sp h.toNat + m) % mk ∧ u.1 = updI sp h.toNat ((sp h.toNat + m) % mk) ∧ u.2 = (updI (if ln < 24 then hs else cpyI hs hs 1 0 23) (if ln < 24 then ln else 23).toNat h, updI (if ln < 24 then ss else cpyI ss ss 1 0 23) (if ln < 24 then ln else 23).toNat (sp h.toNat), (if ln < 24 then ln else 23) + 1))) (fun u => oAH g B (lf) (fi) :: (wClk g (B 3) (B 15) (B 16) (B 17) mk cn so tu (u.1) ++ (wAct g (B 7) (B 27) (B 28) (u.2.1) (u.2.2.1) (u.2.2.2)))) := by
  refine m_go (cc := cX7_slip) (nL := 4) (by decide +kernel) rfl (Nat.le_of_ble_eq_true rfl) (fun x X Y hnm => ?_)
  refine v_eq (lo2 := [some (.ref (B 0)), some (.int (iI h)), some (.int (iI m)), none]) rfl rfl rfl rfl ?_
  refine v_aload_n X dX7_slip_0 rfl ?_
  refine v_get X (fun _ h => List.mem_cons_of_mem _ (List.mem_append_left _ (List.mem_append_left _ (List.mem_append_right _ h)))) 0 rfl rfl 2 (by decide) rfl (List.mem_of_getElem? (i := 1) rfl) rfl dX7_slip_1 ?_
  refine v_iload_n X dX7_slip_4 rfl ?_
  refine res_E X (run_V X (c_X2_has (g := g) (by first | assumption | omega) (by first | assumption | omega)) gX7_slip_X2_has rfl hdX2_has ⟨(Nat.le_of_ble_eq_true rfl), (Nat.le_of_ble_eq_true rfl)⟩ ⟨(Nat.le_of_ble_eq_true rfl), (Nat.le_of_ble_eq_true rfl)⟩ 1 rfl rfl rfl [1, 2, 3, 4] rfl rfl rfl rfl (by simp [Value.category]) dX7_slip_5) [1, 2, 3, 4] rfl rfl ?_
  refine v_ifb_eq (tgt := 22) X dX7_slip_8 (by decide) (fun c1 => ?_) (fun c1 => ?_)
  · skip
    refine v_ldc X (List.mem_of_getElem? (i := 2) rfl) dX7_slip_22 (n := -1000001) (by decide) ?_
    refine v_iret X Y dX7_slip_24 (u := (sp, hs, ss, ln)) ?_ (by rfl)
    exact Or.inl ⟨by omega, rfl, rfl⟩
  · skip
    refine v_iload_n X dX7_slip_11 rfl ?_
    refine v_bipush X dX7_slip_12 (by decide) ?_
    refine v_bipush X dX7_slip_14 (by decide) ?_
    refine res_E X (run_S X (c_X7_isWithin (g := g) (by first | assumption | omega) (by first | assumption | omega) (by first | assumption | omega)) gX7_slip_X7_isWithin rfl hdX7_isWithin.2 ⟨(Nat.le_of_ble_eq_true rfl), (Nat.le_of_ble_eq_true rfl)⟩ ⟨(Nat.le_of_ble_eq_true rfl), (Nat.le_of_ble_eq_true rfl)⟩ [] rfl rfl rfl rfl (by simp [Value.category]) dX7_slip_16) [] rfl rfl ?_
    refine v_ifb_ne (tgt := 25) X dX7_slip_19 (by decide) (fun c2 => ?_) (fun c2 => ?_)
    · skip
      have g1 : (0 ≤ h ∧ h < cn) ∧ -60 ≤ m ∧ m ≤ 60 := by omega
      have g2 : atI cn sp h = sp h.toNat := if_pos g1.1
      have g3 := hsp h.toNat
      have g4 : restI (sp h.toNat + m) mk = (sp h.toNat + m) % mk := if_neg (by omega)
      have g5 := Int.emod_nonneg (sp h.toNat + m) (show mk ≠ 0 by omega)
      have g6 := Int.emod_lt_of_pos (sp h.toNat + m) (show 0 < mk by omega)
      refine v_aload_n X dX7_slip_25 rfl ?_
      refine v_get X (fun _ h => List.mem_cons_of_mem _ (List.mem_append_left _ (List.mem_append_left _ (List.mem_append_right _ h)))) 0 rfl rfl 2 (by decide) rfl (List.mem_of_getElem? (i := 1) rfl) rfl dX7_slip_26 ?_
      refine v_iload_n X dX7_slip_29 rfl ?_
      refine res_E X (run_V X (c_X2_slipOf (g := g) (by first | assumption | omega) (by first | assumption | omega) (by first | assumption | omega)) gX7_slip_X2_slipOf rfl hdX2_slipOf ⟨(Nat.le_of_ble_eq_true rfl), (Nat.le_of_ble_eq_true rfl)⟩ ⟨(Nat.le_of_ble_eq_true rfl), (Nat.le_of_ble_eq_true rfl)⟩ 1 rfl rfl rfl [1, 2, 3, 4] rfl rfl rfl rfl (by simp [Value.category]) dX7_slip_30) [1, 2, 3, 4] rfl rfl ?_
      rw [g2]
      refine v_istore_n X dX7_slip_33 3 rfl (by decide) rfl ?_
      dsimp only [List.set]
      refine v_aload_n X dX7_slip_34 rfl ?_
      refine v_get X (fun _ h => List.mem_cons_of_mem _ (List.mem_append_left _ (List.mem_append_left _ (List.mem_append_right _ h)))) 0 rfl rfl 6 (by decide) rfl (List.mem_of_getElem? (i := 3) rfl) rfl dX7_slip_35 ?_
      refine v_iload_n X dX7_slip_38 rfl ?_
      refine v_iload_n X dX7_slip_39 rfl ?_
      refine res_W X (run_V X (c_X0_keep (g := g) (by first | assumption | omega)) gX7_slip_X0_keep rfl hdX0_keep ⟨(Nat.le_of_ble_eq_true rfl), (Nat.le_of_ble_eq_true rfl)⟩ ⟨(Nat.le_of_ble_eq_true rfl), (Nat.le_of_ble_eq_true rfl)⟩ 5 rfl rfl rfl [5, 6, 7] rfl rfl rfl rfl (by simp [Value.category]) dX7_slip_40) [5, 6, 7] rfl rfl rfl ?_
      dsimp only [patch, List.set, List.cons_append, List.nil_append, oAH, wAct, wClk]
      refine v_aload_n X dX7_slip_43 rfl ?_
      refine v_get X (fun _ h => List.mem_cons_of_mem _ (List.mem_append_left _ (List.mem_append_left _ (List.mem_append_right _ h)))) 0 rfl rfl 2 (by decide) rfl (List.mem_of_getElem? (i := 1) rfl) rfl dX7_slip_44 ?_
      refine v_iload_n X dX7_slip_47 rfl ?_
      refine v_iload_n X dX7_slip_48 rfl ?_
      refine v_iload_n X dX7_slip_49 rfl ?_
      refine v_iadd X dX7_slip_50 ?_
      refine v_aload_n X dX7_slip_51 rfl ?_
      refine v_get X (fun _ h => List.mem_cons_of_mem _ (List.mem_append_left _ (List.mem_append_left _ (List.mem_append_right _ h)))) 0 rfl rfl 2 (by decide) rfl (List.mem_of_getElem? (i := 1) rfl) rfl dX7_slip_52 ?_
      refine v_get X (fun _ h => List.mem_cons_of_mem _ (List.mem_append_left _ (List.mem_append_right _ h))) 1 rfl rfl 3 (by decide) rfl (List.mem_of_getElem? (i := 4) rfl) rfl dX7_slip_55 ?_
      refine res_E X (run_S X (c_X7_rest (g := g) (by first | assumption | omega) (by first | assumption | omega)) gX7_slip_X7_rest rfl hdX7_rest.2 ⟨(Nat.le_of_ble_eq_true rfl), (Nat.le_of_ble_eq_true rfl)⟩ ⟨(Nat.le_of_ble_eq_true rfl), (Nat.le_of_ble_eq_true rfl)⟩ [] rfl rfl rfl rfl (by simp [Value.category]) dX7_slip_58) [] rfl rfl ?_
      rw [g4]
      refine res_W X (run_V X (c_X2_setSlip (g := g) (by first | assumption | omega) (by first | assumption | omega)) gX7_slip_X2_setSlip rfl hdX2_setSlip ⟨(Nat.le_of_ble_eq_true rfl), (Nat.le_of_ble_eq_true rfl)⟩ ⟨(Nat.le_of_ble_eq_true rfl), (Nat.le_of_ble_eq_true rfl)⟩ 1 rfl rfl rfl [1, 2, 3, 4] rfl rfl rfl rfl (by simp [Value.category]) dX7_slip_61) [1, 2, 3, 4] rfl rfl rfl ?_
      dsimp only [patch, List.set, List.cons_append, List.nil_append, oAH, wAct, wClk]
      refine v_aload_n X dX7_slip_64 rfl ?_
      refine v_get X (fun _ h => List.mem_cons_of_mem _ (List.mem_append_left _ (List.mem_append_left _ (List.mem_append_right _ h)))) 0 rfl rfl 2 (by decide) rfl (List.mem_of_getElem? (i := 1) rfl) rfl dX7_slip_65 ?_
      refine v_iload_n X dX7_slip_68 rfl ?_
      refine res_E X (run_V X (c_X2_slipOf (g := g) (by first | assumption | omega) (by exact Bd_up hsp (by omega) (by omega)) (by first | assumption | omega)) gX7_slip_X2_slipOf rfl hdX2_slipOf ⟨(Nat.le_of_ble_eq_true rfl), (Nat.le_of_ble_eq_true rfl)⟩ ⟨(Nat.le_of_ble_eq_true rfl), (Nat.le_of_ble_eq_true rfl)⟩ 1 rfl rfl rfl [1, 2, 3, 4] rfl rfl rfl rfl (by simp [Value.category]) dX7_slip_69) [1, 2, 3, 4] rfl rfl ?_
      rw [show atI cn (updI sp h.toNat ((sp h.toNat + m) % mk)) h = (sp h.toNat + m) % mk from (if_pos g1.1).trans (updI_s _ _ _)]
      refine v_iret X Y dX7_slip_72 (u := (updI sp h.toNat ((sp h.toNat + m) % mk), updI (if ln < 24 then hs else cpyI hs hs 1 0 23) (if ln < 24 then ln else 23).toNat h, updI (if ln < 24 then ss else cpyI ss ss 1 0 23) (if ln < 24 then ln else 23).toNat (sp h.toNat), (if ln < 24 then ln else 23) + 1)) ?_ (by rfl)
      exact Or.inr ⟨g1, rfl, rfl, rfl⟩
    · skip
      refine v_ldc X (List.mem_of_getElem? (i := 2) rfl) dX7_slip_22 (n := -1000001) (by decide) ?_
      refine v_iret X Y dX7_slip_24 (u := (sp, hs, ss, ln)) ?_ (by rfl)
      exact Or.inl ⟨by omega, rfl, rfl⟩

theorem hdX7_undo : yX7_undo.cls = RX7 ∧ yX7_undo.cls ≠ "java/lang/invoke/MethodHandle" ∧ yX7_undo.cls ≠ "java/lang/invoke/VarHandle" ∧ (parseMethodDescriptor yX7_undo.desc).map (fun d => d.parameters.length) = some 0 := ⟨rfl, by decide +kernel, by decide +kernel, by decide +kernel⟩
set_option maxHeartbeats 4000000 in
set_option maxRecDepth 100000 in
theorem c_X7_undo {g : Gx} {B : Nat → Nat} {lf fi : Int} {mk cn : Int} {so tu sp : Nat → Int} {hs ss : Nat → Int} {ln : Int}  (hcn : 0 ≤ cn ∧ cn ≤ 4) (hmk : 0 ≤ mk ∧ mk ≤ 60) (hso : Bd 0 5 so) (htu : Bd 0 12 tu) (hsp : Bd 0 59 sp) (hln : 0 ≤ ln ∧ ln ≤ 24) (hhs : Bd 0 59 hs) (hss : Bd 0 59 ss) (hhc : 1 ≤ ln → hs (ln - 1).toNat < cn) : CtE g yX7_undo wsX7_undo 2 43 [.ref (B 0)] (oAH g B (lf) (fi) :: (wClk g (B 3) (B 15) (B 16) (B 17) mk cn so tu sp ++ (wAct g (B 7) (B 27) (B 28) hs ss ln))) (if ln < 1 then -1000002 else ln - 1) (oAH g B (lf) (fi) :: (wClk g (B 3) (B 15) (B 16) (B 17) mk cn so tu (if ln < 1 then sp else updI sp (hs (ln - 1).toNat).toNat (ss (ln - 1).toNat)) ++ (wAct g (B 7) (B 27) (B 28) hs ss (if ln < 1 then ln else ln - 1)))) := by
  refine m_go (cc := cX7_undo) (nL := 1) (by decide +kernel) rfl (Nat.le_of_ble_eq_true rfl) (fun x X Y hnm => ?_)
  refine v_eq (lo2 := [some (.ref (B 0))]) rfl rfl rfl rfl ?_
  refine v_aload_n X dX7_undo_0 rfl ?_
  refine v_get X (fun _ h => List.mem_cons_of_mem _ (List.mem_append_left _ (List.mem_append_left _ (List.mem_append_right _ h)))) 0 rfl rfl 6 (by decide) rfl (List.mem_of_getElem? (i := 1) rfl) rfl dX7_undo_1 ?_
  refine v_get X (fun _ h => List.mem_cons_of_mem _ (List.mem_append_left _ (List.mem_append_right _ h))) 5 rfl rfl 2 (by decide) rfl (List.mem_of_getElem? (i := 2) rfl) rfl dX7_undo_4 ?_
  refine v_iconst X dX7_undo_7 ?_
  refine v_icmp_ge (tgt := 14) X dX7_undo_8 (by decide) (by omega) (by omega) (fun c1 => ?_) (fun c1 => ?_)
  · skip
    refine v_aload_n X dX7_undo_14 rfl ?_
    have g1 : (if 1 ≤ ln then hs (ln - 1).toNat else 0) = hs (ln - 1).toNat := if_pos (by omega)
    have g2 : (if 1 ≤ ln then ss (ln - 1).toNat else 0) = ss (ln - 1).toNat := if_pos (by omega)
    have g3 := hhs (ln - 1).toNat
    have g4 := hhc (by omega)
    refine v_get X (fun _ h => List.mem_cons_of_mem _ (List.mem_append_left _ (List.mem_append_left _ (List.mem_append_right _ h)))) 0 rfl rfl 2 (by decide) rfl (List.mem_of_getElem? (i := 4) rfl) rfl dX7_undo_15 ?_
    refine v_aload_n X dX7_undo_18 rfl ?_
    refine v_get X (fun _ h => List.mem_cons_of_mem _ (List.mem_append_left _ (List.mem_append_left _ (List.mem_append_right _ h)))) 0 rfl rfl 6 (by decide) rfl (List.mem_of_getElem? (i := 1) rfl) rfl dX7_undo_19 ?_
    refine res_E X (run_V X (c_X0_lastHand (g := g) (by first | assumption | omega) (by first | assumption | omega)) gX7_undo_X0_lastHand rfl hdX0_lastHand ⟨(Nat.le_of_ble_eq_true rfl), (Nat.le_of_ble_eq_true rfl)⟩ ⟨(Nat.le_of_ble_eq_true rfl), (Nat.le_of_ble_eq_true rfl)⟩ 5 rfl rfl rfl [5, 6, 7] rfl rfl rfl rfl (by simp [Value.category]) dX7_undo_22) [5, 6, 7] rfl rfl ?_
    rw [g1]
    refine v_aload_n X dX7_undo_25 rfl ?_
    refine v_get X (fun _ h => List.mem_cons_of_mem _ (List.mem_append_left _ (List.mem_append_left _ (List.mem_append_right _ h)))) 0 rfl rfl 6 (by decide) rfl (List.mem_of_getElem? (i := 1) rfl) rfl dX7_undo_26 ?_
    refine res_E X (run_V X (c_X0_lastSlip (g := g) (by first | assumption | omega) (by first | assumption | omega)) gX7_undo_X0_lastSlip rfl hdX0_lastSlip ⟨(Nat.le_of_ble_eq_true rfl), (Nat.le_of_ble_eq_true rfl)⟩ ⟨(Nat.le_of_ble_eq_true rfl), (Nat.le_of_ble_eq_true rfl)⟩ 5 rfl rfl rfl [5, 6, 7] rfl rfl rfl rfl (by simp [Value.category]) dX7_undo_29) [5, 6, 7] rfl rfl ?_
    rw [g2]
    refine res_W X (run_V X (c_X2_setSlip (g := g) (by first | assumption | omega) (by first | assumption | omega)) gX7_undo_X2_setSlip rfl hdX2_setSlip ⟨(Nat.le_of_ble_eq_true rfl), (Nat.le_of_ble_eq_true rfl)⟩ ⟨(Nat.le_of_ble_eq_true rfl), (Nat.le_of_ble_eq_true rfl)⟩ 1 rfl rfl rfl [1, 2, 3, 4] rfl rfl rfl rfl (by simp [Value.category]) dX7_undo_32) [1, 2, 3, 4] rfl rfl rfl ?_
    dsimp only [patch, List.set, List.cons_append, List.nil_append, oAH, wAct, wClk]
    refine v_aload_n X dX7_undo_35 rfl ?_
    refine v_get X (fun _ h => List.mem_cons_of_mem _ (List.mem_append_left _ (List.mem_append_left _ (List.mem_append_right _ h)))) 0 rfl rfl 6 (by decide) rfl (List.mem_of_getElem? (i := 1) rfl) rfl dX7_undo_36 ?_
    refine v_dup X dX7_undo_39 rfl ?_
    refine v_get X (fun _ h => List.mem_cons_of_mem _ (List.mem_append_left _ (List.mem_append_right _ h))) 5 rfl rfl 2 (by decide) rfl (List.mem_of_getElem? (i := 2) rfl) rfl dX7_undo_40 ?_
    refine v_iconst X dX7_undo_43 ?_
    refine v_isub X dX7_undo_44 ?_
    refine v_put X (fun _ h => List.mem_cons_of_mem _ (List.mem_append_left _ (List.mem_append_right _ h))) tyX0 tyX0_ok nmX0 5 rfl rfl 2 (by decide) rfl (List.mem_of_getElem? (i := 2) rfl) rfl rfl rfl (Nat.le_of_ble_eq_true rfl) dX7_undo_45 ?_
    dsimp only [List.set, oAH, wAct, wClk, List.cons_append, List.nil_append]
    refine v_aload_n X dX7_undo_48 rfl ?_
    refine v_get X (fun _ h => List.mem_cons_of_mem _ (List.mem_append_left _ (List.mem_append_left _ (List.mem_append_right _ h)))) 0 rfl rfl 6 (by decide) rfl (List.mem_of_getElem? (i := 1) rfl) rfl dX7_undo_49 ?_
    refine v_get X (fun _ h => List.mem_cons_of_mem _ (List.mem_append_left _ (List.mem_append_right _ h))) 5 rfl rfl 2 (by decide) rfl (List.mem_of_getElem? (i := 2) rfl) rfl dX7_undo_52 ?_
    exact v_iret X Y dX7_undo_55 (u := ()) (by rw [if_neg (by omega)]) (by (first | rw [if_pos (show ln < 1 by omega), if_pos (show ln < 1 by omega)] | rw [if_neg (show ¬ ln < 1 by omega), if_neg (show ¬ ln < 1 by omega)]) <;> rfl)
  · skip
    refine v_ldc X (List.mem_of_getElem? (i := 3) rfl) dX7_undo_11 (n := -1000002) (by decide) ?_
    exact v_iret X Y dX7_undo_13 (u := ()) (by rw [if_pos (by assumption)]) (by (first | rw [if_pos (show ln < 1 by omega), if_pos (show ln < 1 by omega)] | rw [if_neg (show ¬ ln < 1 by omega), if_neg (show ¬ ln < 1 by omega)]) <;> rfl)

theorem hdX8_set : yX8_set.cls = RX8 ∧ yX8_set.cls ≠ "java/lang/invoke/MethodHandle" ∧ yX8_set.cls ≠ "java/lang/invoke/VarHandle" ∧ (parseMethodDescriptor yX8_set.desc).map (fun d => d.parameters.length) = some 3 := ⟨rfl, by decide +kernel, by decide +kernel, by decide +kernel⟩
set_option maxHeartbeats 4000000 in
set_option maxRecDepth 100000 in
theorem c_X8_set {g : Gx} {A : Nat → Nat} {th sq ac td lt ln cu tk sa ti ft fp le lf tr : Int} {fl fm fi fc ff fw ftp fk fe fr : Nat → Int} {r i v : Int} (hfl : Bd (-1) 2 fl) (hfm : Bd 0 40 fm) (hfi : Bd (-2147483648) 2147483647 fi) (hr : R32 r) (hi : R32 i) (hv : R32 v) : CtI (S := Int × (Nat → Int)) g yX8_set wsX8_set 2 45 [.ref (A 0), .int (iI r), .int (iI i), .int (iI v)] (wMod g A th sq ac td lt ln cu tk sa ti ft fp le lf tr fl fm fi fc ff fw ftp fk fe fr) (fun w u => (¬ (0 ≤ r ∧ r < 8) ∧ w = -1000001 ∧ u = (sq, fi)) ∨ ((0 ≤ r ∧ r < 8) ∧ ((fl r.toNat < 0 ∧ w = -1000011 ∧ u = (1, fi)) ∨ (0 ≤ fl r.toNat ∧ ¬ (0 ≤ i ∧ i < fm r.toNat) ∧ w = -1000012 ∧ u = (2, fi)) ∨ (0 ≤ fl r.toNat ∧ (0 ≤ i ∧ i < fm r.toNat) ∧ w = cutI (fl r.toNat) v ∧ u = (0, updI fi (r * 40 + i).toNat (cutI (fl r.toNat) v)))))) (fun u => wMod g A (0) (u.1) ac td lt ln cu tk sa ti ft fp le lf tr fl fm (u.2) fc ff fw ftp fk fe fr) := by
  refine m_go (cc := cX8_set) (nL := 4) (by decide +kernel) rfl (Nat.le_of_ble_eq_true rfl) (fun x X Y hnm => ?_)
  refine v_eq (lo2 := [some (.ref (A 0)), some (.int (iI r)), some (.int (iI i)), some (.int (iI v))]) rfl rfl rfl rfl ?_
  have g6 := fun l => cutI_bd (l := l) hv
  have b1 := iByte_bd v
  have b2 := iShort_bd v
  refine v_aload_n X dX8_set_0 rfl ?_
  refine v_iconst X dX8_set_1 ?_
  refine v_put X (fun _ h => List.mem_cons_of_mem _ (List.mem_append_right _ h)) tyX8 tyX8_ok nmX8 0 rfl rfl 0 (by decide) rfl (List.mem_of_getElem? (i := 1) rfl) rfl rfl rfl (Nat.le_of_ble_eq_true rfl) dX8_set_2 ?_
  dsimp only [List.set, wMod]
  refine v_iload_n X dX8_set_5 rfl ?_
  refine res_E X (run_S X (c_X8_isRow (g := g) (by first | assumption | omega)) gX8_set_X8_isRow rfl hdX8_isRow.2 ⟨(Nat.le_of_ble_eq_true rfl), (Nat.le_of_ble_eq_true rfl)⟩ ⟨(Nat.le_of_ble_eq_true rfl), (Nat.le_of_ble_eq_true rfl)⟩ [] rfl rfl rfl rfl (by simp [Value.category]) dX8_set_6) [] rfl rfl ?_
  refine v_ifb_ne (tgt := 15) X dX8_set_9 (by decide) (fun c1 => ?_) (fun c1 => ?_)
  · skip
    refine v_aload_n X dX8_set_15 rfl ?_
    refine v_iconst X dX8_set_16 ?_
    refine v_put X (fun _ h => List.mem_cons_of_mem _ (List.mem_append_right _ h)) tyX8 tyX8_ok nmX8 0 rfl rfl 1 (by decide) rfl (List.mem_of_getElem? (i := 3) rfl) rfl rfl rfl (Nat.le_of_ble_eq_true rfl) dX8_set_17 ?_
    dsimp only [List.set, wMod]
    have g0 := hfm r.toNat
    refine v_aload_n X dX8_set_20 rfl ?_
    refine v_get X (fun _ h => List.mem_cons_of_mem _ (List.mem_append_right _ h)) 0 rfl rfl 2 (by decide) rfl (List.mem_of_getElem? (i := 4) rfl) rfl dX8_set_21 ?_
    refine v_iload_n X dX8_set_24 rfl ?_
    refine v_iald X 1 rfl (by omega) (by omega) (by omega) dX8_set_25 hfl (fun z2 ez2 lz2 uz2 => ?_)
    refine v_if_ge (tgt := 35) X dX8_set_26 (by decide) (by omega) (fun c3 => ?_) (fun c3 => ?_)
    · skip
      refine v_iload_n X dX8_set_35 rfl ?_
      refine v_i2l X dX8_set_36 (by omega) ?_
      refine v_lconst0 X dX8_set_37 ?_
      refine v_aload_n X dX8_set_38 rfl ?_
      refine v_get X (fun _ h => List.mem_cons_of_mem _ (List.mem_append_right _ h)) 0 rfl rfl 3 (by decide) rfl (List.mem_of_getElem? (i := 5) rfl) rfl dX8_set_39 ?_
      refine v_iload_n X dX8_set_42 rfl ?_
      refine v_iald X 2 rfl (by omega) (by omega) (by omega) dX8_set_43 hfm (fun z4 ez4 lz4 uz4 => ?_)
      refine v_iconst X dX8_set_44 ?_
      refine v_isub X dX8_set_45 ?_
      refine v_i2l X dX8_set_46 (by omega) ?_
      refine res_E X (run_S X (c_X8_in (g := g) (by first | assumption | omega) (by first | assumption | omega) (by first | assumption | omega)) gX8_set_X8_in rfl hdX8_in.2 ⟨(Nat.le_of_ble_eq_true rfl), (Nat.le_of_ble_eq_true rfl)⟩ ⟨(Nat.le_of_ble_eq_true rfl), (Nat.le_of_ble_eq_true rfl)⟩ [] rfl rfl rfl rfl (by simp [Value.category]) dX8_set_47) [] rfl rfl ?_
      refine v_ifb_ne (tgt := 59) X dX8_set_50 (by decide) (fun c5 => ?_) (fun c5 => ?_)
      · skip
        refine v_aload_n X dX8_set_59 rfl ?_
        have J99 : ∀ (q : Int) (hq : q = cutI (fl r.toNat) v), V g x 0 0 (wMod g A (0) (0) ac td lt ln cu tk sa ti ft fp le lf tr fl fm fi fc ff fw ftp fk fe fr) [some (.ref (A 0)), some (.int (iI r)), some (.int (iI i)), some (.int (iI v))] 99 [.int (iI q), .int (iI (40 * r + i)), .ref (A 3)] := by
          intro q hq
          have hq2 := g6 (fl r.toNat)
          rw [← hq] at hq2
          refine v_iast X 3 rfl (by omega) (by omega) (by omega) dX8_set_99 ?_
          dsimp only [List.set, wMod]
          refine v_aload_n X dX8_set_100 rfl ?_
          refine v_get X (fun _ h => List.mem_cons_of_mem _ (List.mem_append_right _ h)) 0 rfl rfl 4 (by decide) rfl (List.mem_of_getElem? (i := 6) rfl) rfl dX8_set_101 ?_
          refine v_bipush X dX8_set_104 (by decide) ?_
          refine v_iload_n X dX8_set_106 rfl ?_
          refine v_imul X dX8_set_107 ?_
          refine v_iload_n X dX8_set_108 rfl ?_
          refine v_iadd X dX8_set_109 ?_
          refine v_iald X 3 rfl (by omega) (by omega) (by omega) dX8_set_110 (Bd_up hfi (by omega) (by omega)) (fun qz eqz lqz uqz => ?_)
          refine v_iret X Y dX8_set_111 (u := (0, updI fi (40 * r + i).toNat q)) ?_ (by rfl)
          have e : (40 * r + i).toNat = (r * 40 + i).toNat := by omega
          refine Or.inr ⟨by assumption, Or.inr (Or.inr ⟨by omega, by omega, ?_, by rw [e, hq]⟩)⟩
          rw [eqz, updI_s, hq]
        refine v_get X (fun _ h => List.mem_cons_of_mem _ (List.mem_append_right _ h)) 0 rfl rfl 4 (by decide) rfl (List.mem_of_getElem? (i := 6) rfl) rfl dX8_set_60 ?_
        refine v_bipush X dX8_set_63 (by decide) ?_
        refine v_iload_n X dX8_set_65 rfl ?_
        refine v_imul X dX8_set_66 ?_
        refine v_iload_n X dX8_set_67 rfl ?_
        refine v_iadd X dX8_set_68 ?_
        refine v_aload_n X dX8_set_69 rfl ?_
        refine v_get X (fun _ h => List.mem_cons_of_mem _ (List.mem_append_right _ h)) 0 rfl rfl 2 (by decide) rfl (List.mem_of_getElem? (i := 4) rfl) rfl dX8_set_70 ?_
        refine v_iload_n X dX8_set_73 rfl ?_
        refine v_iald X 1 rfl (by omega) (by omega) (by omega) dX8_set_74 hfl (fun z7 ez7 lz7 uz7 => ?_)
        refine v_if_ne (tgt := 83) X dX8_set_75 (by decide) (by omega) (fun c8 => ?_) (fun c8 => ?_)
        · skip
          refine v_aload_n X dX8_set_83 rfl ?_
          refine v_get X (fun _ h => List.mem_cons_of_mem _ (List.mem_append_right _ h)) 0 rfl rfl 2 (by decide) rfl (List.mem_of_getElem? (i := 4) rfl) rfl dX8_set_84 ?_
          refine v_iload_n X dX8_set_87 rfl ?_
          refine v_iald X 1 rfl (by omega) (by omega) (by omega) dX8_set_88 hfl (fun z9 ez9 lz9 uz9 => ?_)
          refine v_iconst X dX8_set_89 ?_
          refine v_icmp_ne (tgt := 98) X dX8_set_90 (by decide) (by omega) (by omega) (fun c10 => ?_) (fun c10 => ?_)
          · skip
            refine v_iload_n X dX8_set_98 rfl ?_
            exact J99 _ (by unfold cutI; first | rw [if_pos (by omega)] | (rw [if_neg (by omega)]; first | rw [if_pos (by omega)] | rw [if_neg (by omega)]))
          · skip
            refine v_iload_n X dX8_set_93 rfl ?_
            refine v_i2s X dX8_set_94 ?_
            refine v_goto (tgt := 99) X dX8_set_95 (by decide) ?_
            exact J99 _ (by unfold cutI; first | rw [if_pos (by omega)] | (rw [if_neg (by omega)]; first | rw [if_pos (by omega)] | rw [if_neg (by omega)]))
        · skip
          refine v_iload_n X dX8_set_78 rfl ?_
          refine v_i2b X dX8_set_79 ?_
          refine v_goto (tgt := 99) X dX8_set_80 (by decide) ?_
          exact J99 _ (by unfold cutI; first | rw [if_pos (by omega)] | (rw [if_neg (by omega)]; first | rw [if_pos (by omega)] | rw [if_neg (by omega)]))
      · skip
        refine v_aload_n X dX8_set_53 rfl ?_
        refine v_iconst X dX8_set_54 ?_
        refine res_F X (run_V X (c_X8_finding (g := g) ) gX8_set_X8_finding rfl hdX8_finding ⟨(Nat.le_of_ble_eq_true rfl), (Nat.le_of_ble_eq_true rfl)⟩ ⟨(Nat.le_of_ble_eq_true rfl), (Nat.le_of_ble_eq_true rfl)⟩ 0 rfl rfl rfl [0, 1, 2, 3, 4, 5, 6, 7, 8, 9, 10] rfl rfl rfl rfl (by simp [Value.category]) dX8_set_55) [0, 1, 2, 3, 4, 5, 6, 7, 8, 9, 10] rfl rfl rfl ?_
        dsimp only [patch, List.set, wMod]
        refine v_iret X Y dX8_set_58 (u := (2, fi)) ?_ (by rfl)
        exact Or.inr ⟨by assumption, Or.inr (Or.inl ⟨by omega, by omega, rfl, rfl⟩)⟩
    · skip
      refine v_aload_n X dX8_set_29 rfl ?_
      refine v_iconst X dX8_set_30 ?_
      refine res_F X (run_V X (c_X8_finding (g := g) ) gX8_set_X8_finding rfl hdX8_finding ⟨(Nat.le_of_ble_eq_true rfl), (Nat.le_of_ble_eq_true rfl)⟩ ⟨(Nat.le_of_ble_eq_true rfl), (Nat.le_of_ble_eq_true rfl)⟩ 0 rfl rfl rfl [0, 1, 2, 3, 4, 5, 6, 7, 8, 9, 10] rfl rfl rfl rfl (by simp [Value.category]) dX8_set_31) [0, 1, 2, 3, 4, 5, 6, 7, 8, 9, 10] rfl rfl rfl ?_
      dsimp only [patch, List.set, wMod]
      refine v_iret X Y dX8_set_34 (u := (1, fi)) ?_ (by rfl)
      exact Or.inr ⟨by assumption, Or.inl ⟨by omega, rfl, rfl⟩⟩
  · skip
    refine v_ldc X (List.mem_of_getElem? (i := 2) rfl) dX8_set_12 (n := -1000001) (by decide) ?_
    refine v_iret X Y dX8_set_14 (u := (sq, fi)) ?_ (by rfl)
    exact Or.inl ⟨by omega, rfl, rfl⟩

theorem hdX8_drop : yX8_drop.cls = RX8 ∧ yX8_drop.cls ≠ "java/lang/invoke/MethodHandle" ∧ yX8_drop.cls ≠ "java/lang/invoke/VarHandle" ∧ (parseMethodDescriptor yX8_drop.desc).map (fun d => d.parameters.length) = some 1 := ⟨rfl, by decide +kernel, by decide +kernel, by decide +kernel⟩
set_option maxHeartbeats 4000000 in
set_option maxRecDepth 100000 in
theorem c_X8_drop {g : Gx} {A : Nat → Nat} {th sq ac td lt ln cu tk sa ti ft fp le lf tr : Int} {fl fm fi fc ff fw ftp fk fe fr : Nat → Int} {r : Int} (hfl : Bd (-1) 2 fl) (hfm : Bd 0 40 fm) (hfi : Bd (-2147483648) 2147483647 fi) (hr : R32 r) : CtI (S := Int × (Nat → Int)) g yX8_drop wsX8_drop 2 45 [.ref (A 0), .int (iI r)] (wMod g A th sq ac td lt ln cu tk sa ti ft fp le lf tr fl fm fi fc ff fw ftp fk fe fr) (fun w u => (¬ (0 ≤ r ∧ r < 8) ∧ w = -1000001 ∧ u = (sq, fl)) ∨ ((0 ≤ r ∧ r < 8) ∧ ((fl r.toNat < 0 ∧ w = -1000011 ∧ u = (1, fl)) ∨ (0 ≤ fl r.toNat ∧ w = fm r.toNat ∧ u = (0, updI fl r.toNat (-1)))))) (fun u => wMod g A (0) (u.1) ac td lt ln cu tk sa ti ft fp le lf tr (u.2) fm fi fc ff fw ftp fk fe fr) := by
  refine m_go (cc := cX8_drop) (nL := 2) (by decide +kernel) rfl (Nat.le_of_ble_eq_true rfl) (fun x X Y hnm => ?_)
  refine v_eq (lo2 := [some (.ref (A 0)), some (.int (iI r))]) rfl rfl rfl rfl ?_
  refine v_aload_n X dX8_drop_0 rfl ?_
  refine v_iconst X dX8_drop_1 ?_
  refine v_put X (fun _ h => List.mem_cons_of_mem _ (List.mem_append_right _ h)) tyX8 tyX8_ok nmX8 0 rfl rfl 0 (by decide) rfl (List.mem_of_getElem? (i := 1) rfl) rfl rfl rfl (Nat.le_of_ble_eq_true rfl) dX8_drop_2 ?_
  dsimp only [List.set, wMod]
  refine v_iload_n X dX8_drop_5 rfl ?_
  refine res_E X (run_S X (c_X8_isRow (g := g) (by first | assumption | omega)) gX8_drop_X8_isRow rfl hdX8_isRow.2 ⟨(Nat.le_of_ble_eq_true rfl), (Nat.le_of_ble_eq_true rfl)⟩ ⟨(Nat.le_of_ble_eq_true rfl), (Nat.le_of_ble_eq_true rfl)⟩ [] rfl rfl rfl rfl (by simp [Value.category]) dX8_drop_6) [] rfl rfl ?_
  refine v_ifb_ne (tgt := 15) X dX8_drop_9 (by decide) (fun c1 => ?_) (fun c1 => ?_)
  · skip
    refine v_aload_n X dX8_drop_15 rfl ?_
    refine v_iconst X dX8_drop_16 ?_
    refine v_put X (fun _ h => List.mem_cons_of_mem _ (List.mem_append_right _ h)) tyX8 tyX8_ok nmX8 0 rfl rfl 1 (by decide) rfl (List.mem_of_getElem? (i := 3) rfl) rfl rfl rfl (Nat.le_of_ble_eq_true rfl) dX8_drop_17 ?_
    dsimp only [List.set, wMod]
    refine v_aload_n X dX8_drop_20 rfl ?_
    refine v_get X (fun _ h => List.mem_cons_of_mem _ (List.mem_append_right _ h)) 0 rfl rfl 2 (by decide) rfl (List.mem_of_getElem? (i := 4) rfl) rfl dX8_drop_21 ?_
    refine v_iload_n X dX8_drop_24 rfl ?_
    refine v_iald X 1 rfl (by omega) (by omega) (by omega) dX8_drop_25 hfl (fun z2 ez2 lz2 uz2 => ?_)
    refine v_if_ge (tgt := 35) X dX8_drop_26 (by decide) (by omega) (fun c3 => ?_) (fun c3 => ?_)
    · skip
      refine v_aload_n X dX8_drop_35 rfl ?_
      refine v_get X (fun _ h => List.mem_cons_of_mem _ (List.mem_append_right _ h)) 0 rfl rfl 2 (by decide) rfl (List.mem_of_getElem? (i := 4) rfl) rfl dX8_drop_36 ?_
      refine v_iload_n X dX8_drop_39 rfl ?_
      refine v_iconst X dX8_drop_40 ?_
      refine v_iast X 1 rfl (by omega) (by omega) (by omega) dX8_drop_41 ?_
      dsimp only [List.set, wMod]
      refine v_aload_n X dX8_drop_42 rfl ?_
      refine v_get X (fun _ h => List.mem_cons_of_mem _ (List.mem_append_right _ h)) 0 rfl rfl 3 (by decide) rfl (List.mem_of_getElem? (i := 5) rfl) rfl dX8_drop_43 ?_
      refine v_iload_n X dX8_drop_46 rfl ?_
      refine v_iald X 2 rfl (by omega) (by omega) (by omega) dX8_drop_47 hfm (fun z4 ez4 lz4 uz4 => ?_)
      refine v_iret X Y dX8_drop_48 (u := (0, updI fl r.toNat (-1))) ?_ (by rfl)
      exact Or.inr ⟨by assumption, Or.inr ⟨by omega, by assumption, rfl⟩⟩
    · skip
      refine v_aload_n X dX8_drop_29 rfl ?_
      refine v_iconst X dX8_drop_30 ?_
      refine res_F X (run_V X (c_X8_finding (g := g) ) gX8_drop_X8_finding rfl hdX8_finding ⟨(Nat.le_of_ble_eq_true rfl), (Nat.le_of_ble_eq_true rfl)⟩ ⟨(Nat.le_of_ble_eq_true rfl), (Nat.le_of_ble_eq_true rfl)⟩ 0 rfl rfl rfl [0, 1, 2, 3, 4, 5, 6, 7, 8, 9, 10] rfl rfl rfl rfl (by simp [Value.category]) dX8_drop_31) [0, 1, 2, 3, 4, 5, 6, 7, 8, 9, 10] rfl rfl rfl ?_
      dsimp only [patch, List.set, wMod]
      refine v_iret X Y dX8_drop_34 (u := (1, fl)) ?_ (by rfl)
      exact Or.inr ⟨by assumption, Or.inl ⟨by omega, rfl, rfl⟩⟩
  · skip
    refine v_ldc X (List.mem_of_getElem? (i := 2) rfl) dX8_drop_12 (n := -1000001) (by decide) ?_
    refine v_iret X Y dX8_drop_14 (u := (sq, fl)) ?_ (by rfl)
    exact Or.inl ⟨by omega, rfl, rfl⟩

theorem hdX8_copy : yX8_copy.cls = RX8 ∧ yX8_copy.cls ≠ "java/lang/invoke/MethodHandle" ∧ yX8_copy.cls ≠ "java/lang/invoke/VarHandle" ∧ (parseMethodDescriptor yX8_copy.desc).map (fun d => d.parameters.length) = some 5 := ⟨rfl, by decide +kernel, by decide +kernel, by decide +kernel⟩
set_option maxHeartbeats 4000000 in
set_option maxRecDepth 100000 in
theorem c_X8_copy {g : Gx} {A : Nat → Nat} {th sq ac td lt ln cu tk sa ti ft fp le lf tr : Int} {fl fm fi fc ff fw ftp fk fe fr : Nat → Int} {a i b j n : Int} (hfl : Bd (-1) 2 fl) (hfm : Bd 0 40 fm) (hfi : Bd (-2147483648) 2147483647 fi) (ha : R32 a) (hi : R32 i) (hb : R32 b) (hj : R32 j) (hn : R32 n) : CtI (S := Int × (Nat → Int)) g yX8_copy wsX8_copy 2 45 [.ref (A 0), .int (iI a), .int (iI i), .int (iI b), .int (iI j), .int (iI n)] (wMod g A th sq ac td lt ln cu tk sa ti ft fp le lf tr fl fm fi fc ff fw ftp fk fe fr) (fun w u => (¬ ((0 ≤ a ∧ a < 8) ∧ (0 ≤ b ∧ b < 8)) ∧ w = -1000001 ∧ u = (sq, fi)) ∨ (((0 ≤ a ∧ a < 8) ∧ (0 ≤ b ∧ b < 8)) ∧ (((fl a.toNat < 0 ∨ fl b.toNat < 0) ∧ w = -1000011 ∧ u = (1, fi)) ∨ ((0 ≤ fl a.toNat ∧ 0 ≤ fl b.toNat) ∧ ((fl a.toNat ≠ fl b.toNat ∧ w = -1000015 ∧ u = (5, fi)) ∨ (fl a.toNat = fl b.toNat ∧ ((¬ (0 ≤ i ∧ 0 ≤ n ∧ i + n ≤ fm a.toNat ∧ 0 ≤ j ∧ j + n ≤ fm b.toNat) ∧ w = -1000012 ∧ u = (2, fi)) ∨ ((0 ≤ i ∧ 0 ≤ n ∧ i + n ≤ fm a.toNat ∧ 0 ≤ j ∧ j + n ≤ fm b.toNat) ∧ w = n ∧ u.1 = 0 ∧ ∀ x : Nat, u.2 x = if b * 40 + j ≤ (x : Int) ∧ (x : Int) < b * 40 + j + n then fi ((a * 40 + i).toNat + (x - (b * 40 + j).toNat)) else fi x)))))))) (fun u => wMod g A (0) (u.1) ac td lt ln cu tk sa ti ft fp le lf tr fl fm (u.2) fc ff fw ftp fk fe fr) := by
  refine m_go (cc := cX8_copy) (nL := 9) (by decide +kernel) rfl (Nat.le_of_ble_eq_true rfl) (fun x X Y hnm => ?_)
  refine v_eq (lo2 := [some (.ref (A 0)), some (.int (iI a)), some (.int (iI i)), some (.int (iI b)), some (.int (iI j)), some (.int (iI n)), none, none, none]) rfl rfl rfl rfl ?_
  refine v_aload_n X dX8_copy_0 rfl ?_
  refine v_iconst X dX8_copy_1 ?_
  refine v_put X (fun _ h => List.mem_cons_of_mem _ (List.mem_append_right _ h)) tyX8 tyX8_ok nmX8 0 rfl rfl 0 (by decide) rfl (List.mem_of_getElem? (i := 1) rfl) rfl rfl rfl (Nat.le_of_ble_eq_true rfl) dX8_copy_2 ?_
  dsimp only [List.set, wMod]
  refine v_iload_n X dX8_copy_5 rfl ?_
  refine res_E X (run_S X (c_X8_isRow (g := g) (by first | assumption | omega)) gX8_copy_X8_isRow rfl hdX8_isRow.2 ⟨(Nat.le_of_ble_eq_true rfl), (Nat.le_of_ble_eq_true rfl)⟩ ⟨(Nat.le_of_ble_eq_true rfl), (Nat.le_of_ble_eq_true rfl)⟩ [] rfl rfl rfl rfl (by simp [Value.category]) dX8_copy_6) [] rfl rfl ?_
  refine v_ifb_eq (tgt := 19) X dX8_copy_9 (by decide) (fun c1 => ?_) (fun c1 => ?_)
  · skip
    refine v_ldc X (List.mem_of_getElem? (i := 2) rfl) dX8_copy_19 (n := -1000001) (by decide) ?_
    refine v_iret X Y dX8_copy_21 (u := (sq, fi)) ?_ (by rfl)
    exact Or.inl ⟨by omega, rfl, rfl⟩
  · skip
    refine v_iload_n X dX8_copy_12 rfl ?_
    refine res_E X (run_S X (c_X8_isRow (g := g) (by first | assumption | omega)) gX8_copy_X8_isRow rfl hdX8_isRow.2 ⟨(Nat.le_of_ble_eq_true rfl), (Nat.le_of_ble_eq_true rfl)⟩ ⟨(Nat.le_of_ble_eq_true rfl), (Nat.le_of_ble_eq_true rfl)⟩ [] rfl rfl rfl rfl (by simp [Value.category]) dX8_copy_13) [] rfl rfl ?_
    refine v_ifb_ne (tgt := 22) X dX8_copy_16 (by decide) (fun c2 => ?_) (fun c2 => ?_)
    · skip
      refine v_aload_n X dX8_copy_22 rfl ?_
      refine v_iconst X dX8_copy_23 ?_
      refine v_put X (fun _ h => List.mem_cons_of_mem _ (List.mem_append_right _ h)) tyX8 tyX8_ok nmX8 0 rfl rfl 1 (by decide) rfl (List.mem_of_getElem? (i := 3) rfl) rfl rfl rfl (Nat.le_of_ble_eq_true rfl) dX8_copy_24 ?_
      dsimp only [List.set, wMod]
      have g1 := hfm a.toNat
      have g2 := hfm b.toNat
      refine v_aload_n X dX8_copy_27 rfl ?_
      refine v_get X (fun _ h => List.mem_cons_of_mem _ (List.mem_append_right _ h)) 0 rfl rfl 2 (by decide) rfl (List.mem_of_getElem? (i := 4) rfl) rfl dX8_copy_28 ?_
      refine v_iload_n X dX8_copy_31 rfl ?_
      refine v_iald X 1 rfl (by omega) (by omega) (by omega) dX8_copy_32 hfl (fun z3 ez3 lz3 uz3 => ?_)
      refine v_if_lt (tgt := 45) X dX8_copy_33 (by decide) (by omega) (fun c4 => ?_) (fun c4 => ?_)
      · skip
        refine v_aload_n X dX8_copy_45 rfl ?_
        refine v_iconst X dX8_copy_46 ?_
        refine res_F X (run_V X (c_X8_finding (g := g) ) gX8_copy_X8_finding rfl hdX8_finding ⟨(Nat.le_of_ble_eq_true rfl), (Nat.le_of_ble_eq_true rfl)⟩ ⟨(Nat.le_of_ble_eq_true rfl), (Nat.le_of_ble_eq_true rfl)⟩ 0 rfl rfl rfl [0, 1, 2, 3, 4, 5, 6, 7, 8, 9, 10] rfl rfl rfl rfl (by simp [Value.category]) dX8_copy_47) [0, 1, 2, 3, 4, 5, 6, 7, 8, 9, 10] rfl rfl rfl ?_
        dsimp only [patch, List.set, wMod]
        refine v_iret X Y dX8_copy_50 (u := (1, fi)) ?_ (by rfl)
        exact Or.inr ⟨by omega, Or.inl ⟨by omega, rfl, rfl⟩⟩
      · skip
        refine v_aload_n X dX8_copy_36 rfl ?_
        refine v_get X (fun _ h => List.mem_cons_of_mem _ (List.mem_append_right _ h)) 0 rfl rfl 2 (by decide) rfl (List.mem_of_getElem? (i := 4) rfl) rfl dX8_copy_37 ?_
        refine v_iload_n X dX8_copy_40 rfl ?_
        refine v_iald X 1 rfl (by omega) (by omega) (by omega) dX8_copy_41 hfl (fun z5 ez5 lz5 uz5 => ?_)
        refine v_if_ge (tgt := 51) X dX8_copy_42 (by decide) (by omega) (fun c6 => ?_) (fun c6 => ?_)
        · skip
          refine v_aload_n X dX8_copy_51 rfl ?_
          refine v_get X (fun _ h => List.mem_cons_of_mem _ (List.mem_append_right _ h)) 0 rfl rfl 2 (by decide) rfl (List.mem_of_getElem? (i := 4) rfl) rfl dX8_copy_52 ?_
          refine v_iload_n X dX8_copy_55 rfl ?_
          refine v_iald X 1 rfl (by omega) (by omega) (by omega) dX8_copy_56 hfl (fun z7 ez7 lz7 uz7 => ?_)
          refine v_aload_n X dX8_copy_57 rfl ?_
          refine v_get X (fun _ h => List.mem_cons_of_mem _ (List.mem_append_right _ h)) 0 rfl rfl 2 (by decide) rfl (List.mem_of_getElem? (i := 4) rfl) rfl dX8_copy_58 ?_
          refine v_iload_n X dX8_copy_61 rfl ?_
          refine v_iald X 1 rfl (by omega) (by omega) (by omega) dX8_copy_62 hfl (fun z8 ez8 lz8 uz8 => ?_)
          refine v_icmp_eq (tgt := 72) X dX8_copy_63 (by decide) (by omega) (by omega) (fun c9 => ?_) (fun c9 => ?_)
          · skip
            refine v_iload_n X dX8_copy_72 rfl ?_
            refine v_if_lt (tgt := 121) X dX8_copy_73 (by decide) (by omega) (fun c10 => ?_) (fun c10 => ?_)
            · skip
              refine v_aload_n X dX8_copy_121 rfl ?_
              refine v_iconst X dX8_copy_122 ?_
              refine res_F X (run_V X (c_X8_finding (g := g) ) gX8_copy_X8_finding rfl hdX8_finding ⟨(Nat.le_of_ble_eq_true rfl), (Nat.le_of_ble_eq_true rfl)⟩ ⟨(Nat.le_of_ble_eq_true rfl), (Nat.le_of_ble_eq_true rfl)⟩ 0 rfl rfl rfl [0, 1, 2, 3, 4, 5, 6, 7, 8, 9, 10] rfl rfl rfl rfl (by simp [Value.category]) dX8_copy_123) [0, 1, 2, 3, 4, 5, 6, 7, 8, 9, 10] rfl rfl rfl ?_
              dsimp only [patch, List.set, wMod]
              refine v_iret X Y dX8_copy_126 (u := (2, fi)) ?_ (by rfl)
              exact Or.inr ⟨by omega, Or.inr ⟨by omega, Or.inr ⟨by omega, Or.inl ⟨by omega, rfl, rfl⟩⟩⟩⟩
            · skip
              refine v_iload X dX8_copy_76 rfl ?_
              refine v_if_lt (tgt := 121) X dX8_copy_78 (by decide) (by omega) (fun c11 => ?_) (fun c11 => ?_)
              · skip
                refine v_aload_n X dX8_copy_121 rfl ?_
                refine v_iconst X dX8_copy_122 ?_
                refine res_F X (run_V X (c_X8_finding (g := g) ) gX8_copy_X8_finding rfl hdX8_finding ⟨(Nat.le_of_ble_eq_true rfl), (Nat.le_of_ble_eq_true rfl)⟩ ⟨(Nat.le_of_ble_eq_true rfl), (Nat.le_of_ble_eq_true rfl)⟩ 0 rfl rfl rfl [0, 1, 2, 3, 4, 5, 6, 7, 8, 9, 10] rfl rfl rfl rfl (by simp [Value.category]) dX8_copy_123) [0, 1, 2, 3, 4, 5, 6, 7, 8, 9, 10] rfl rfl rfl ?_
                dsimp only [patch, List.set, wMod]
                refine v_iret X Y dX8_copy_126 (u := (2, fi)) ?_ (by rfl)
                exact Or.inr ⟨by omega, Or.inr ⟨by omega, Or.inr ⟨by omega, Or.inl ⟨by omega, rfl, rfl⟩⟩⟩⟩
              · skip
                refine v_iload X dX8_copy_81 rfl ?_
                refine v_if_lt (tgt := 121) X dX8_copy_83 (by decide) (by omega) (fun c12 => ?_) (fun c12 => ?_)
                · skip
                  refine v_aload_n X dX8_copy_121 rfl ?_
                  refine v_iconst X dX8_copy_122 ?_
                  refine res_F X (run_V X (c_X8_finding (g := g) ) gX8_copy_X8_finding rfl hdX8_finding ⟨(Nat.le_of_ble_eq_true rfl), (Nat.le_of_ble_eq_true rfl)⟩ ⟨(Nat.le_of_ble_eq_true rfl), (Nat.le_of_ble_eq_true rfl)⟩ 0 rfl rfl rfl [0, 1, 2, 3, 4, 5, 6, 7, 8, 9, 10] rfl rfl rfl rfl (by simp [Value.category]) dX8_copy_123) [0, 1, 2, 3, 4, 5, 6, 7, 8, 9, 10] rfl rfl rfl ?_
                  dsimp only [patch, List.set, wMod]
                  refine v_iret X Y dX8_copy_126 (u := (2, fi)) ?_ (by rfl)
                  exact Or.inr ⟨by omega, Or.inr ⟨by omega, Or.inr ⟨by omega, Or.inl ⟨by omega, rfl, rfl⟩⟩⟩⟩
                · skip
                  refine v_iload_n X dX8_copy_86 rfl ?_
                  refine v_i2l X dX8_copy_87 (by omega) ?_
                  refine v_iload X dX8_copy_88 rfl ?_
                  refine v_i2l X dX8_copy_90 (by omega) ?_
                  refine v_ladd X dX8_copy_91 ?_
                  refine v_aload_n X dX8_copy_92 rfl ?_
                  refine v_get X (fun _ h => List.mem_cons_of_mem _ (List.mem_append_right _ h)) 0 rfl rfl 3 (by decide) rfl (List.mem_of_getElem? (i := 5) rfl) rfl dX8_copy_93 ?_
                  refine v_iload_n X dX8_copy_96 rfl ?_
                  refine v_iald X 2 rfl (by omega) (by omega) (by omega) dX8_copy_97 hfm (fun z13 ez13 lz13 uz13 => ?_)
                  refine v_i2l X dX8_copy_98 (by omega) ?_
                  refine v_lcmp X dX8_copy_99 (by omega) (by omega) (fun c14 => ?_) (fun c14 => ?_) (fun c14 => ?_)
                  · skip
                    refine v_if_gt (tgt := 121) X dX8_copy_100 (by decide) (by decide) (fun hh => ?_) (fun hh => ?_)
                    · skip
                      refine v_aload_n X dX8_copy_121 rfl ?_
                      refine v_iconst X dX8_copy_122 ?_
                      refine res_F X (run_V X (c_X8_finding (g := g) ) gX8_copy_X8_finding rfl hdX8_finding ⟨(Nat.le_of_ble_eq_true rfl), (Nat.le_of_ble_eq_true rfl)⟩ ⟨(Nat.le_of_ble_eq_true rfl), (Nat.le_of_ble_eq_true rfl)⟩ 0 rfl rfl rfl [0, 1, 2, 3, 4, 5, 6, 7, 8, 9, 10] rfl rfl rfl rfl (by simp [Value.category]) dX8_copy_123) [0, 1, 2, 3, 4, 5, 6, 7, 8, 9, 10] rfl rfl rfl ?_
                      dsimp only [patch, List.set, wMod]
                      refine v_iret X Y dX8_copy_126 (u := (2, fi)) ?_ (by rfl)
                      exact Or.inr ⟨by omega, Or.inr ⟨by omega, Or.inr ⟨by omega, Or.inl ⟨by omega, rfl, rfl⟩⟩⟩⟩
                    · skip
                      exfalso; omega
                  · skip
                    refine v_if_gt (tgt := 121) X dX8_copy_100 (by decide) (by decide) (fun hh => ?_) (fun hh => ?_)
                    · skip
                      exfalso; omega
                    · skip
                      refine v_iload X dX8_copy_103 rfl ?_
                      refine v_i2l X dX8_copy_105 (by omega) ?_
                      refine v_iload X dX8_copy_106 rfl ?_
                      refine v_i2l X dX8_copy_108 (by omega) ?_
                      refine v_ladd X dX8_copy_109 ?_
                      refine v_aload_n X dX8_copy_110 rfl ?_
                      refine v_get X (fun _ h => List.mem_cons_of_mem _ (List.mem_append_right _ h)) 0 rfl rfl 3 (by decide) rfl (List.mem_of_getElem? (i := 5) rfl) rfl dX8_copy_111 ?_
                      refine v_iload_n X dX8_copy_114 rfl ?_
                      refine v_iald X 2 rfl (by omega) (by omega) (by omega) dX8_copy_115 hfm (fun z15 ez15 lz15 uz15 => ?_)
                      refine v_i2l X dX8_copy_116 (by omega) ?_
                      refine v_lcmp X dX8_copy_117 (by omega) (by omega) (fun c16 => ?_) (fun c16 => ?_) (fun c16 => ?_)
                      · skip
                        refine v_if_le (tgt := 127) X dX8_copy_118 (by decide) (by decide) (fun hh => ?_) (fun hh => ?_)
                        · skip
                          exfalso; omega
                        · skip
                          refine v_aload_n X dX8_copy_121 rfl ?_
                          refine v_iconst X dX8_copy_122 ?_
                          refine res_F X (run_V X (c_X8_finding (g := g) ) gX8_copy_X8_finding rfl hdX8_finding ⟨(Nat.le_of_ble_eq_true rfl), (Nat.le_of_ble_eq_true rfl)⟩ ⟨(Nat.le_of_ble_eq_true rfl), (Nat.le_of_ble_eq_true rfl)⟩ 0 rfl rfl rfl [0, 1, 2, 3, 4, 5, 6, 7, 8, 9, 10] rfl rfl rfl rfl (by simp [Value.category]) dX8_copy_123) [0, 1, 2, 3, 4, 5, 6, 7, 8, 9, 10] rfl rfl rfl ?_
                          dsimp only [patch, List.set, wMod]
                          refine v_iret X Y dX8_copy_126 (u := (2, fi)) ?_ (by rfl)
                          exact Or.inr ⟨by omega, Or.inr ⟨by omega, Or.inr ⟨by omega, Or.inl ⟨by omega, rfl, rfl⟩⟩⟩⟩
                      · skip
                        refine v_if_le (tgt := 127) X dX8_copy_118 (by decide) (by decide) (fun hh => ?_) (fun hh => ?_)
                        · skip
                          refine v_iload_n X dX8_copy_127 rfl ?_
                          refine v_iload X dX8_copy_128 rfl ?_
                          refine v_icmp_lt (tgt := 137) X dX8_copy_130 (by decide) (by omega) (by omega) (fun c17 => ?_) (fun c17 => ?_)
                          · skip
                            refine v_iconst X dX8_copy_137 ?_
                            refine v_istore X dX8_copy_138 (by decide) rfl ?_
                            dsimp only [List.set]
                            refine v_iconst X dX8_copy_140 ?_
                            refine v_istore X dX8_copy_141 (by decide) rfl ?_
                            dsimp only [List.set]
                            have L143 : ∀ (nf : Nat) (f : Nat → Int) (u : Int) (k : Int) (h1 : 0 ≤ k ∧ k ≤ n) (hu : (u = 1 ∧ j ≤ i) ∨ (u = 0 ∧ i < j)) (h2 : ∀ x : Nat, f x = if b * 40 + j + (if u = 1 then 0 else n - k) ≤ (x : Int) ∧ (x : Int) < b * 40 + j + (if u = 1 then k else n) then fi ((a * 40 + i).toNat + (x - (b * 40 + j).toNat)) else fi x) (h3 : Bd (-2147483648) 2147483647 f) (_ : (n - k).toNat < nf), V g x 0 0 (wMod g A (0) (0) ac td lt ln cu tk sa ti ft fp le lf tr fl fm (f) fc ff fw ftp fk fe fr) [some (.ref (A 0)), some (.int (iI a)), some (.int (iI i)), some (.int (iI b)), some (.int (iI j)), some (.int (iI n)), some (.int (iI u)), some (.int (iI k)), none] 143 [] := by
                              intro nf
                              induction nf with
                              | zero => intro f u k h1 hu h2 h3 hmu; exact absurd hmu (Nat.not_lt_zero _)
                              | succ nf ih143 =>
                                intro f u k h1 hu h2 h3 hmu
                                refine v_iload X dX8_copy_143 rfl ?_
                                refine v_iload X dX8_copy_145 rfl ?_
                                refine v_icmp_ge (tgt := 204) X dX8_copy_147 (by decide) (by omega) (by omega) (fun c18 => ?_) (fun c18 => ?_)
                                · skip
                                  refine v_iload X dX8_copy_204 rfl ?_
                                  refine v_iret X Y dX8_copy_206 (u := (0, f)) ?_ (by rfl)
                                  refine Or.inr ⟨by omega, Or.inr ⟨by omega, Or.inr ⟨by omega, Or.inr ⟨by omega, rfl, rfl, ?_⟩⟩⟩⟩
                                  intro x
                                  show f x = _
                                  have e : k = n := by omega
                                  have q := h2 x
                                  rcases hu with hu | hu
                                  · rw [q]; simp only [hu.1, e, if_true, Int.add_zero]
                                  · rw [q]; simp only [hu.1, e, if_false, Int.sub_self, Int.add_zero, show ¬ (0 : Int) = 1 by omega]
                                · skip
                                  refine v_iload X dX8_copy_150 rfl ?_
                                  refine v_if_eq (tgt := 160) X dX8_copy_152 (by decide) (by omega) (fun c19 => ?_) (fun c19 => ?_)
                                  · skip
                                    refine v_iload X dX8_copy_160 rfl ?_
                                    refine v_iconst X dX8_copy_162 ?_
                                    refine v_isub X dX8_copy_163 ?_
                                    refine v_iload X dX8_copy_164 rfl ?_
                                    refine v_isub X dX8_copy_166 ?_
                                    refine v_istore X dX8_copy_167 (by decide) rfl ?_
                                    dsimp only [List.set]
                                    refine v_aload_n X dX8_copy_169 rfl ?_
                                    refine v_get X (fun _ h => List.mem_cons_of_mem _ (List.mem_append_right _ h)) 0 rfl rfl 4 (by decide) rfl (List.mem_of_getElem? (i := 6) rfl) rfl dX8_copy_170 ?_
                                    refine v_bipush X dX8_copy_173 (by decide) ?_
                                    refine v_iload_n X dX8_copy_175 rfl ?_
                                    refine v_imul X dX8_copy_176 ?_
                                    refine v_iload X dX8_copy_177 rfl ?_
                                    refine v_iadd X dX8_copy_179 ?_
                                    refine v_iload X dX8_copy_180 rfl ?_
                                    refine v_iadd X dX8_copy_182 ?_
                                    refine v_aload_n X dX8_copy_183 rfl ?_
                                    refine v_get X (fun _ h => List.mem_cons_of_mem _ (List.mem_append_right _ h)) 0 rfl rfl 4 (by decide) rfl (List.mem_of_getElem? (i := 6) rfl) rfl dX8_copy_184 ?_
                                    refine v_bipush X dX8_copy_187 (by decide) ?_
                                    refine v_iload_n X dX8_copy_189 rfl ?_
                                    refine v_imul X dX8_copy_190 ?_
                                    refine v_iload_n X dX8_copy_191 rfl ?_
                                    refine v_iadd X dX8_copy_192 ?_
                                    refine v_iload X dX8_copy_193 rfl ?_
                                    refine v_iadd X dX8_copy_195 ?_
                                    refine v_iald X 3 rfl (by omega) (by omega) (by omega) dX8_copy_196 h3 (fun zz ezz lzz uzz => ?_)
                                    refine v_iast X 3 rfl (by omega) (by omega) (by omega) dX8_copy_197 ?_
                                    dsimp only [List.set, wMod]
                                    refine v_iinc X dX8_copy_198 rfl (by decide) rfl ?_
                                    dsimp only [List.set]
                                    refine v_goto (tgt := 143) X dX8_copy_201 (by decide) ?_
                                    refine v_drop 8 ?_
                                    dsimp only [List.set]
                                    exact ih143 _ _ _ (by omega) (by omega) (by
                                        first
                                        | exact cpy_up hu h1 h2 g1 g2 (by omega) ezz
                                        | exact cpy_dn hu h1 h2 g1 g2 (by omega) ezz) (by exact Bd_up h3 (by omega) (by omega)) (by omega)
                                  · skip
                                    refine v_iload X dX8_copy_155 rfl ?_
                                    refine v_goto (tgt := 167) X dX8_copy_157 (by decide) ?_
                                    refine v_istore X dX8_copy_167 (by decide) rfl ?_
                                    dsimp only [List.set]
                                    refine v_aload_n X dX8_copy_169 rfl ?_
                                    refine v_get X (fun _ h => List.mem_cons_of_mem _ (List.mem_append_right _ h)) 0 rfl rfl 4 (by decide) rfl (List.mem_of_getElem? (i := 6) rfl) rfl dX8_copy_170 ?_
                                    refine v_bipush X dX8_copy_173 (by decide) ?_
                                    refine v_iload_n X dX8_copy_175 rfl ?_
                                    refine v_imul X dX8_copy_176 ?_
                                    refine v_iload X dX8_copy_177 rfl ?_
                                    refine v_iadd X dX8_copy_179 ?_
                                    refine v_iload X dX8_copy_180 rfl ?_
                                    refine v_iadd X dX8_copy_182 ?_
                                    refine v_aload_n X dX8_copy_183 rfl ?_
                                    refine v_get X (fun _ h => List.mem_cons_of_mem _ (List.mem_append_right _ h)) 0 rfl rfl 4 (by decide) rfl (List.mem_of_getElem? (i := 6) rfl) rfl dX8_copy_184 ?_
                                    refine v_bipush X dX8_copy_187 (by decide) ?_
                                    refine v_iload_n X dX8_copy_189 rfl ?_
                                    refine v_imul X dX8_copy_190 ?_
                                    refine v_iload_n X dX8_copy_191 rfl ?_
                                    refine v_iadd X dX8_copy_192 ?_
                                    refine v_iload X dX8_copy_193 rfl ?_
                                    refine v_iadd X dX8_copy_195 ?_
                                    refine v_iald X 3 rfl (by omega) (by omega) (by omega) dX8_copy_196 h3 (fun zz ezz lzz uzz => ?_)
                                    refine v_iast X 3 rfl (by omega) (by omega) (by omega) dX8_copy_197 ?_
                                    dsimp only [List.set, wMod]
                                    refine v_iinc X dX8_copy_198 rfl (by decide) rfl ?_
                                    dsimp only [List.set]
                                    refine v_goto (tgt := 143) X dX8_copy_201 (by decide) ?_
                                    refine v_drop 8 ?_
                                    dsimp only [List.set]
                                    exact ih143 _ _ _ (by omega) (by omega) (by
                                        first
                                        | exact cpy_up hu h1 h2 g1 g2 (by omega) ezz
                                        | exact cpy_dn hu h1 h2 g1 g2 (by omega) ezz) (by exact Bd_up h3 (by omega) (by omega)) (by omega)
                            exact L143 _ _ _ _ (by omega) (by omega) (by intro x; rw [if_neg (by split <;> omega)]) (by assumption) (Nat.lt_succ_self _)
                          · skip
                            refine v_iconst X dX8_copy_133 ?_
                            refine v_goto (tgt := 138) X dX8_copy_134 (by decide) ?_
                            refine v_istore X dX8_copy_138 (by decide) rfl ?_
                            dsimp only [List.set]
                            refine v_iconst X dX8_copy_140 ?_
                            refine v_istore X dX8_copy_141 (by decide) rfl ?_
                            dsimp only [List.set]
                            have L143 : ∀ (nf : Nat) (f : Nat → Int) (u : Int) (k : Int) (h1 : 0 ≤ k ∧ k ≤ n) (hu : (u = 1 ∧ j ≤ i) ∨ (u = 0 ∧ i < j)) (h2 : ∀ x : Nat, f x = if b * 40 + j + (if u = 1 then 0 else n - k) ≤ (x : Int) ∧ (x : Int) < b * 40 + j + (if u = 1 then k else n) then fi ((a * 40 + i).toNat + (x - (b * 40 + j).toNat)) else fi x) (h3 : Bd (-2147483648) 2147483647 f) (_ : (n - k).toNat < nf), V g x 0 0 (wMod g A (0) (0) ac td lt ln cu tk sa ti ft fp le lf tr fl fm (f) fc ff fw ftp fk fe fr) [some (.ref (A 0)), some (.int (iI a)), some (.int (iI i)), some (.int (iI b)), some (.int (iI j)), some (.int (iI n)), some (.int (iI u)), some (.int (iI k)), none] 143 [] := by
                              intro nf
                              induction nf with
                              | zero => intro f u k h1 hu h2 h3 hmu; exact absurd hmu (Nat.not_lt_zero _)
                              | succ nf ih143 =>
                                intro f u k h1 hu h2 h3 hmu
                                refine v_iload X dX8_copy_143 rfl ?_
                                refine v_iload X dX8_copy_145 rfl ?_
                                refine v_icmp_ge (tgt := 204) X dX8_copy_147 (by decide) (by omega) (by omega) (fun c22 => ?_) (fun c22 => ?_)
                                · skip
                                  refine v_iload X dX8_copy_204 rfl ?_
                                  refine v_iret X Y dX8_copy_206 (u := (0, f)) ?_ (by rfl)
                                  refine Or.inr ⟨by omega, Or.inr ⟨by omega, Or.inr ⟨by omega, Or.inr ⟨by omega, rfl, rfl, ?_⟩⟩⟩⟩
                                  intro x
                                  show f x = _
                                  have e : k = n := by omega
                                  have q := h2 x
                                  rcases hu with hu | hu
                                  · rw [q]; simp only [hu.1, e, if_true, Int.add_zero]
                                  · rw [q]; simp only [hu.1, e, if_false, Int.sub_self, Int.add_zero, show ¬ (0 : Int) = 1 by omega]
                                · skip
                                  refine v_iload X dX8_copy_150 rfl ?_
                                  refine v_if_eq (tgt := 160) X dX8_copy_152 (by decide) (by omega) (fun c23 => ?_) (fun c23 => ?_)
                                  · skip
                                    refine v_iload X dX8_copy_160 rfl ?_
                                    refine v_iconst X dX8_copy_162 ?_
                                    refine v_isub X dX8_copy_163 ?_
                                    refine v_iload X dX8_copy_164 rfl ?_
                                    refine v_isub X dX8_copy_166 ?_
                                    refine v_istore X dX8_copy_167 (by decide) rfl ?_
                                    dsimp only [List.set]
                                    refine v_aload_n X dX8_copy_169 rfl ?_
                                    refine v_get X (fun _ h => List.mem_cons_of_mem _ (List.mem_append_right _ h)) 0 rfl rfl 4 (by decide) rfl (List.mem_of_getElem? (i := 6) rfl) rfl dX8_copy_170 ?_
                                    refine v_bipush X dX8_copy_173 (by decide) ?_
                                    refine v_iload_n X dX8_copy_175 rfl ?_
                                    refine v_imul X dX8_copy_176 ?_
                                    refine v_iload X dX8_copy_177 rfl ?_
                                    refine v_iadd X dX8_copy_179 ?_
                                    refine v_iload X dX8_copy_180 rfl ?_
                                    refine v_iadd X dX8_copy_182 ?_
                                    refine v_aload_n X dX8_copy_183 rfl ?_
                                    refine v_get X (fun _ h => List.mem_cons_of_mem _ (List.mem_append_right _ h)) 0 rfl rfl 4 (by decide) rfl (List.mem_of_getElem? (i := 6) rfl) rfl dX8_copy_184 ?_
                                    refine v_bipush X dX8_copy_187 (by decide) ?_
                                    refine v_iload_n X dX8_copy_189 rfl ?_
                                    refine v_imul X dX8_copy_190 ?_
                                    refine v_iload_n X dX8_copy_191 rfl ?_
                                    refine v_iadd X dX8_copy_192 ?_
                                    refine v_iload X dX8_copy_193 rfl ?_
                                    refine v_iadd X dX8_copy_195 ?_
                                    refine v_iald X 3 rfl (by omega) (by omega) (by omega) dX8_copy_196 h3 (fun zz ezz lzz uzz => ?_)
                                    refine v_iast X 3 rfl (by omega) (by omega) (by omega) dX8_copy_197 ?_
                                    dsimp only [List.set, wMod]
                                    refine v_iinc X dX8_copy_198 rfl (by decide) rfl ?_
                                    dsimp only [List.set]
                                    refine v_goto (tgt := 143) X dX8_copy_201 (by decide) ?_
                                    refine v_drop 8 ?_
                                    dsimp only [List.set]
                                    exact ih143 _ _ _ (by omega) (by omega) (by
                                        first
                                        | exact cpy_up hu h1 h2 g1 g2 (by omega) ezz
                                        | exact cpy_dn hu h1 h2 g1 g2 (by omega) ezz) (by exact Bd_up h3 (by omega) (by omega)) (by omega)
                                  · skip
                                    refine v_iload X dX8_copy_155 rfl ?_
                                    refine v_goto (tgt := 167) X dX8_copy_157 (by decide) ?_
                                    refine v_istore X dX8_copy_167 (by decide) rfl ?_
                                    dsimp only [List.set]
                                    refine v_aload_n X dX8_copy_169 rfl ?_
                                    refine v_get X (fun _ h => List.mem_cons_of_mem _ (List.mem_append_right _ h)) 0 rfl rfl 4 (by decide) rfl (List.mem_of_getElem? (i := 6) rfl) rfl dX8_copy_170 ?_
                                    refine v_bipush X dX8_copy_173 (by decide) ?_
                                    refine v_iload_n X dX8_copy_175 rfl ?_
                                    refine v_imul X dX8_copy_176 ?_
                                    refine v_iload X dX8_copy_177 rfl ?_
                                    refine v_iadd X dX8_copy_179 ?_
                                    refine v_iload X dX8_copy_180 rfl ?_
                                    refine v_iadd X dX8_copy_182 ?_
                                    refine v_aload_n X dX8_copy_183 rfl ?_
                                    refine v_get X (fun _ h => List.mem_cons_of_mem _ (List.mem_append_right _ h)) 0 rfl rfl 4 (by decide) rfl (List.mem_of_getElem? (i := 6) rfl) rfl dX8_copy_184 ?_
                                    refine v_bipush X dX8_copy_187 (by decide) ?_
                                    refine v_iload_n X dX8_copy_189 rfl ?_
                                    refine v_imul X dX8_copy_190 ?_
                                    refine v_iload_n X dX8_copy_191 rfl ?_
                                    refine v_iadd X dX8_copy_192 ?_
                                    refine v_iload X dX8_copy_193 rfl ?_
                                    refine v_iadd X dX8_copy_195 ?_
                                    refine v_iald X 3 rfl (by omega) (by omega) (by omega) dX8_copy_196 h3 (fun zz ezz lzz uzz => ?_)
                                    refine v_iast X 3 rfl (by omega) (by omega) (by omega) dX8_copy_197 ?_
                                    dsimp only [List.set, wMod]
                                    refine v_iinc X dX8_copy_198 rfl (by decide) rfl ?_
                                    dsimp only [List.set]
                                    refine v_goto (tgt := 143) X dX8_copy_201 (by decide) ?_
                                    refine v_drop 8 ?_
                                    dsimp only [List.set]
                                    exact ih143 _ _ _ (by omega) (by omega) (by
                                        first
                                        | exact cpy_up hu h1 h2 g1 g2 (by omega) ezz
                                        | exact cpy_dn hu h1 h2 g1 g2 (by omega) ezz) (by exact Bd_up h3 (by omega) (by omega)) (by omega)
                            exact L143 _ _ _ _ (by omega) (by omega) (by intro x; rw [if_neg (by split <;> omega)]) (by assumption) (Nat.lt_succ_self _)
                        · skip
                          exfalso; omega
                      · skip
                        refine v_if_le (tgt := 127) X dX8_copy_118 (by decide) (by decide) (fun hh => ?_) (fun hh => ?_)
                        · skip
                          refine v_iload_n X dX8_copy_127 rfl ?_
                          refine v_iload X dX8_copy_128 rfl ?_
                          refine v_icmp_lt (tgt := 137) X dX8_copy_130 (by decide) (by omega) (by omega) (fun c26 => ?_) (fun c26 => ?_)
                          · skip
                            refine v_iconst X dX8_copy_137 ?_
                            refine v_istore X dX8_copy_138 (by decide) rfl ?_
                            dsimp only [List.set]
                            refine v_iconst X dX8_copy_140 ?_
                            refine v_istore X dX8_copy_141 (by decide) rfl ?_
                            dsimp only [List.set]
                            have L143 : ∀ (nf : Nat) (f : Nat → Int) (u : Int) (k : Int) (h1 : 0 ≤ k ∧ k ≤ n) (hu : (u = 1 ∧ j ≤ i) ∨ (u = 0 ∧ i < j)) (h2 : ∀ x : Nat, f x = if b * 40 + j + (if u = 1 then 0 else n - k) ≤ (x : Int) ∧ (x : Int) < b * 40 + j + (if u = 1 then k else n) then fi ((a * 40 + i).toNat + (x - (b * 40 + j).toNat)) else fi x) (h3 : Bd (-2147483648) 2147483647 f) (_ : (n - k).toNat < nf), V g x 0 0 (wMod g A (0) (0) ac td lt ln cu tk sa ti ft fp le lf tr fl fm (f) fc ff fw ftp fk fe fr) [some (.ref (A 0)), some (.int (iI a)), some (.int (iI i)), some (.int (iI b)), some (.int (iI j)), some (.int (iI n)), some (.int (iI u)), some (.int (iI k)), none] 143 [] := by
                              intro nf
                              induction nf with
                              | zero => intro f u k h1 hu h2 h3 hmu; exact absurd hmu (Nat.not_lt_zero _)
                              | succ nf ih143 =>
                                intro f u k h1 hu h2 h3 hmu
                                refine v_iload X dX8_copy_143 rfl ?_
                                refine v_iload X dX8_copy_145 rfl ?_
                                refine v_icmp_ge (tgt := 204) X dX8_copy_147 (by decide) (by omega) (by omega) (fun c27 => ?_) (fun c27 => ?_)
                                · skip
                                  refine v_iload X dX8_copy_204 rfl ?_
                                  refine v_iret X Y dX8_copy_206 (u := (0, f)) ?_ (by rfl)
                                  refine Or.inr ⟨by omega, Or.inr ⟨by omega, Or.inr ⟨by omega, Or.inr ⟨by omega, rfl, rfl, ?_⟩⟩⟩⟩
                                  intro x
                                  show f x = _
                                  have e : k = n := by omega
                                  have q := h2 x
                                  rcases hu with hu | hu
                                  · rw [q]; simp only [hu.1, e, if_true, Int.add_zero]
                                  · rw [q]; simp only [hu.1, e, if_false, Int.sub_self, Int.add_zero, show ¬ (0 : Int) = 1 by omega]
                                · skip
                                  refine v_iload X dX8_copy_150 rfl ?_
                                  refine v_if_eq (tgt := 160) X dX8_copy_152 (by decide) (by omega) (fun c28 => ?_) (fun c28 => ?_)
                                  · skip
                                    refine v_iload X dX8_copy_160 rfl ?_
                                    refine v_iconst X dX8_copy_162 ?_
                                    refine v_isub X dX8_copy_163 ?_
                                    refine v_iload X dX8_copy_164 rfl ?_
                                    refine v_isub X dX8_copy_166 ?_
                                    refine v_istore X dX8_copy_167 (by decide) rfl ?_
                                    dsimp only [List.set]
                                    refine v_aload_n X dX8_copy_169 rfl ?_
                                    refine v_get X (fun _ h => List.mem_cons_of_mem _ (List.mem_append_right _ h)) 0 rfl rfl 4 (by decide) rfl (List.mem_of_getElem? (i := 6) rfl) rfl dX8_copy_170 ?_
                                    refine v_bipush X dX8_copy_173 (by decide) ?_
                                    refine v_iload_n X dX8_copy_175 rfl ?_
                                    refine v_imul X dX8_copy_176 ?_
                                    refine v_iload X dX8_copy_177 rfl ?_
                                    refine v_iadd X dX8_copy_179 ?_
                                    refine v_iload X dX8_copy_180 rfl ?_
                                    refine v_iadd X dX8_copy_182 ?_
                                    refine v_aload_n X dX8_copy_183 rfl ?_
                                    refine v_get X (fun _ h => List.mem_cons_of_mem _ (List.mem_append_right _ h)) 0 rfl rfl 4 (by decide) rfl (List.mem_of_getElem? (i := 6) rfl) rfl dX8_copy_184 ?_
                                    refine v_bipush X dX8_copy_187 (by decide) ?_
                                    refine v_iload_n X dX8_copy_189 rfl ?_
                                    refine v_imul X dX8_copy_190 ?_
                                    refine v_iload_n X dX8_copy_191 rfl ?_
                                    refine v_iadd X dX8_copy_192 ?_
                                    refine v_iload X dX8_copy_193 rfl ?_
                                    refine v_iadd X dX8_copy_195 ?_
                                    refine v_iald X 3 rfl (by omega) (by omega) (by omega) dX8_copy_196 h3 (fun zz ezz lzz uzz => ?_)
                                    refine v_iast X 3 rfl (by omega) (by omega) (by omega) dX8_copy_197 ?_
                                    dsimp only [List.set, wMod]
                                    refine v_iinc X dX8_copy_198 rfl (by decide) rfl ?_
                                    dsimp only [List.set]
                                    refine v_goto (tgt := 143) X dX8_copy_201 (by decide) ?_
                                    refine v_drop 8 ?_
                                    dsimp only [List.set]
                                    exact ih143 _ _ _ (by omega) (by omega) (by
                                        first
                                        | exact cpy_up hu h1 h2 g1 g2 (by omega) ezz
                                        | exact cpy_dn hu h1 h2 g1 g2 (by omega) ezz) (by exact Bd_up h3 (by omega) (by omega)) (by omega)
                                  · skip
                                    refine v_iload X dX8_copy_155 rfl ?_
                                    refine v_goto (tgt := 167) X dX8_copy_157 (by decide) ?_
                                    refine v_istore X dX8_copy_167 (by decide) rfl ?_
                                    dsimp only [List.set]
                                    refine v_aload_n X dX8_copy_169 rfl ?_
                                    refine v_get X (fun _ h => List.mem_cons_of_mem _ (List.mem_append_right _ h)) 0 rfl rfl 4 (by decide) rfl (List.mem_of_getElem? (i := 6) rfl) rfl dX8_copy_170 ?_
                                    refine v_bipush X dX8_copy_173 (by decide) ?_
                                    refine v_iload_n X dX8_copy_175 rfl ?_
                                    refine v_imul X dX8_copy_176 ?_
                                    refine v_iload X dX8_copy_177 rfl ?_
                                    refine v_iadd X dX8_copy_179 ?_
                                    refine v_iload X dX8_copy_180 rfl ?_
                                    refine v_iadd X dX8_copy_182 ?_
                                    refine v_aload_n X dX8_copy_183 rfl ?_
                                    refine v_get X (fun _ h => List.mem_cons_of_mem _ (List.mem_append_right _ h)) 0 rfl rfl 4 (by decide) rfl (List.mem_of_getElem? (i := 6) rfl) rfl dX8_copy_184 ?_
                                    refine v_bipush X dX8_copy_187 (by decide) ?_
                                    refine v_iload_n X dX8_copy_189 rfl ?_
                                    refine v_imul X dX8_copy_190 ?_
                                    refine v_iload_n X dX8_copy_191 rfl ?_
                                    refine v_iadd X dX8_copy_192 ?_
                                    refine v_iload X dX8_copy_193 rfl ?_
                                    refine v_iadd X dX8_copy_195 ?_
                                    refine v_iald X 3 rfl (by omega) (by omega) (by omega) dX8_copy_196 h3 (fun zz ezz lzz uzz => ?_)
                                    refine v_iast X 3 rfl (by omega) (by omega) (by omega) dX8_copy_197 ?_
                                    dsimp only [List.set, wMod]
                                    refine v_iinc X dX8_copy_198 rfl (by decide) rfl ?_
                                    dsimp only [List.set]
                                    refine v_goto (tgt := 143) X dX8_copy_201 (by decide) ?_
                                    refine v_drop 8 ?_
                                    dsimp only [List.set]
                                    exact ih143 _ _ _ (by omega) (by omega) (by
                                        first
                                        | exact cpy_up hu h1 h2 g1 g2 (by omega) ezz
                                        | exact cpy_dn hu h1 h2 g1 g2 (by omega) ezz) (by exact Bd_up h3 (by omega) (by omega)) (by omega)
                            exact L143 _ _ _ _ (by omega) (by omega) (by intro x; rw [if_neg (by split <;> omega)]) (by assumption) (Nat.lt_succ_self _)
                          · skip
                            refine v_iconst X dX8_copy_133 ?_
                            refine v_goto (tgt := 138) X dX8_copy_134 (by decide) ?_
                            refine v_istore X dX8_copy_138 (by decide) rfl ?_
                            dsimp only [List.set]
                            refine v_iconst X dX8_copy_140 ?_
                            refine v_istore X dX8_copy_141 (by decide) rfl ?_
                            dsimp only [List.set]
                            have L143 : ∀ (nf : Nat) (f : Nat → Int) (u : Int) (k : Int) (h1 : 0 ≤ k ∧ k ≤ n) (hu : (u = 1 ∧ j ≤ i) ∨ (u = 0 ∧ i < j)) (h2 : ∀ x : Nat, f x = if b * 40 + j + (if u = 1 then 0 else n - k) ≤ (x : Int) ∧ (x : Int) < b * 40 + j + (if u = 1 then k else n) then fi ((a * 40 + i).toNat + (x - (b * 40 + j).toNat)) else fi x) (h3 : Bd (-2147483648) 2147483647 f) (_ : (n - k).toNat < nf), V g x 0 0 (wMod g A (0) (0) ac td lt ln cu tk sa ti ft fp le lf tr fl fm (f) fc ff fw ftp fk fe fr) [some (.ref (A 0)), some (.int (iI a)), some (.int (iI i)), some (.int (iI b)), some (.int (iI j)), some (.int (iI n)), some (.int (iI u)), some (.int (iI k)), none] 143 [] := by
                              intro nf
                              induction nf with
                              | zero => intro f u k h1 hu h2 h3 hmu; exact absurd hmu (Nat.not_lt_zero _)
                              | succ nf ih143 =>
                                intro f u k h1 hu h2 h3 hmu
                                refine v_iload X dX8_copy_143 rfl ?_
                                refine v_iload X dX8_copy_145 rfl ?_
                                refine v_icmp_ge (tgt := 204) X dX8_copy_147 (by decide) (by omega) (by omega) (fun c31 => ?_) (fun c31 => ?_)
                                · skip
                                  refine v_iload X dX8_copy_204 rfl ?_
                                  refine v_iret X Y dX8_copy_206 (u := (0, f)) ?_ (by rfl)
                                  refine Or.inr ⟨by omega, Or.inr ⟨by omega, Or.inr ⟨by omega, Or.inr ⟨by omega, rfl, rfl, ?_⟩⟩⟩⟩
                                  intro x
                                  show f x = _
                                  have e : k = n := by omega
                                  have q := h2 x
                                  rcases hu with hu | hu
                                  · rw [q]; simp only [hu.1, e, if_true, Int.add_zero]
                                  · rw [q]; simp only [hu.1, e, if_false, Int.sub_self, Int.add_zero, show ¬ (0 : Int) = 1 by omega]
                                · skip
                                  refine v_iload X dX8_copy_150 rfl ?_
                                  refine v_if_eq (tgt := 160) X dX8_copy_152 (by decide) (by omega) (fun c32 => ?_) (fun c32 => ?_)
                                  · skip
                                    refine v_iload X dX8_copy_160 rfl ?_
                                    refine v_iconst X dX8_copy_162 ?_
                                    refine v_isub X dX8_copy_163 ?_
                                    refine v_iload X dX8_copy_164 rfl ?_
                                    refine v_isub X dX8_copy_166 ?_
                                    refine v_istore X dX8_copy_167 (by decide) rfl ?_
                                    dsimp only [List.set]
                                    refine v_aload_n X dX8_copy_169 rfl ?_
                                    refine v_get X (fun _ h => List.mem_cons_of_mem _ (List.mem_append_right _ h)) 0 rfl rfl 4 (by decide) rfl (List.mem_of_getElem? (i := 6) rfl) rfl dX8_copy_170 ?_
                                    refine v_bipush X dX8_copy_173 (by decide) ?_
                                    refine v_iload_n X dX8_copy_175 rfl ?_
                                    refine v_imul X dX8_copy_176 ?_
                                    refine v_iload X dX8_copy_177 rfl ?_
                                    refine v_iadd X dX8_copy_179 ?_
                                    refine v_iload X dX8_copy_180 rfl ?_
                                    refine v_iadd X dX8_copy_182 ?_
                                    refine v_aload_n X dX8_copy_183 rfl ?_
                                    refine v_get X (fun _ h => List.mem_cons_of_mem _ (List.mem_append_right _ h)) 0 rfl rfl 4 (by decide) rfl (List.mem_of_getElem? (i := 6) rfl) rfl dX8_copy_184 ?_
                                    refine v_bipush X dX8_copy_187 (by decide) ?_
                                    refine v_iload_n X dX8_copy_189 rfl ?_
                                    refine v_imul X dX8_copy_190 ?_
                                    refine v_iload_n X dX8_copy_191 rfl ?_
                                    refine v_iadd X dX8_copy_192 ?_
                                    refine v_iload X dX8_copy_193 rfl ?_
                                    refine v_iadd X dX8_copy_195 ?_
                                    refine v_iald X 3 rfl (by omega) (by omega) (by omega) dX8_copy_196 h3 (fun zz ezz lzz uzz => ?_)
                                    refine v_iast X 3 rfl (by omega) (by omega) (by omega) dX8_copy_197 ?_
                                    dsimp only [List.set, wMod]
                                    refine v_iinc X dX8_copy_198 rfl (by decide) rfl ?_
                                    dsimp only [List.set]
                                    refine v_goto (tgt := 143) X dX8_copy_201 (by decide) ?_
                                    refine v_drop 8 ?_
                                    dsimp only [List.set]
                                    exact ih143 _ _ _ (by omega) (by omega) (by
                                        first
                                        | exact cpy_up hu h1 h2 g1 g2 (by omega) ezz
                                        | exact cpy_dn hu h1 h2 g1 g2 (by omega) ezz) (by exact Bd_up h3 (by omega) (by omega)) (by omega)
                                  · skip
                                    refine v_iload X dX8_copy_155 rfl ?_
                                    refine v_goto (tgt := 167) X dX8_copy_157 (by decide) ?_
                                    refine v_istore X dX8_copy_167 (by decide) rfl ?_
                                    dsimp only [List.set]
                                    refine v_aload_n X dX8_copy_169 rfl ?_
                                    refine v_get X (fun _ h => List.mem_cons_of_mem _ (List.mem_append_right _ h)) 0 rfl rfl 4 (by decide) rfl (List.mem_of_getElem? (i := 6) rfl) rfl dX8_copy_170 ?_
                                    refine v_bipush X dX8_copy_173 (by decide) ?_
                                    refine v_iload_n X dX8_copy_175 rfl ?_
                                    refine v_imul X dX8_copy_176 ?_
                                    refine v_iload X dX8_copy_177 rfl ?_
                                    refine v_iadd X dX8_copy_179 ?_
                                    refine v_iload X dX8_copy_180 rfl ?_
                                    refine v_iadd X dX8_copy_182 ?_
                                    refine v_aload_n X dX8_copy_183 rfl ?_
                                    refine v_get X (fun _ h => List.mem_cons_of_mem _ (List.mem_append_right _ h)) 0 rfl rfl 4 (by decide) rfl (List.mem_of_getElem? (i := 6) rfl) rfl dX8_copy_184 ?_
                                    refine v_bipush X dX8_copy_187 (by decide) ?_
                                    refine v_iload_n X dX8_copy_189 rfl ?_
                                    refine v_imul X dX8_copy_190 ?_
                                    refine v_iload_n X dX8_copy_191 rfl ?_
                                    refine v_iadd X dX8_copy_192 ?_
                                    refine v_iload X dX8_copy_193 rfl ?_
                                    refine v_iadd X dX8_copy_195 ?_
                                    refine v_iald X 3 rfl (by omega) (by omega) (by omega) dX8_copy_196 h3 (fun zz ezz lzz uzz => ?_)
                                    refine v_iast X 3 rfl (by omega) (by omega) (by omega) dX8_copy_197 ?_
                                    dsimp only [List.set, wMod]
                                    refine v_iinc X dX8_copy_198 rfl (by decide) rfl ?_
                                    dsimp only [List.set]
                                    refine v_goto (tgt := 143) X dX8_copy_201 (by decide) ?_
                                    refine v_drop 8 ?_
                                    dsimp only [List.set]
                                    exact ih143 _ _ _ (by omega) (by omega) (by
                                        first
                                        | exact cpy_up hu h1 h2 g1 g2 (by omega) ezz
                                        | exact cpy_dn hu h1 h2 g1 g2 (by omega) ezz) (by exact Bd_up h3 (by omega) (by omega)) (by omega)
                            exact L143 _ _ _ _ (by omega) (by omega) (by intro x; rw [if_neg (by split <;> omega)]) (by assumption) (Nat.lt_succ_self _)
                        · skip
                          exfalso; omega
                  · skip
                    refine v_if_gt (tgt := 121) X dX8_copy_100 (by decide) (by decide) (fun hh => ?_) (fun hh => ?_)
                    · skip
                      exfalso; omega
                    · skip
                      refine v_iload X dX8_copy_103 rfl ?_
                      refine v_i2l X dX8_copy_105 (by omega) ?_
                      refine v_iload X dX8_copy_106 rfl ?_
                      refine v_i2l X dX8_copy_108 (by omega) ?_
                      refine v_ladd X dX8_copy_109 ?_
                      refine v_aload_n X dX8_copy_110 rfl ?_
                      refine v_get X (fun _ h => List.mem_cons_of_mem _ (List.mem_append_right _ h)) 0 rfl rfl 3 (by decide) rfl (List.mem_of_getElem? (i := 5) rfl) rfl dX8_copy_111 ?_
                      refine v_iload_n X dX8_copy_114 rfl ?_
                      refine v_iald X 2 rfl (by omega) (by omega) (by omega) dX8_copy_115 hfm (fun z35 ez35 lz35 uz35 => ?_)
                      refine v_i2l X dX8_copy_116 (by omega) ?_
                      refine v_lcmp X dX8_copy_117 (by omega) (by omega) (fun c36 => ?_) (fun c36 => ?_) (fun c36 => ?_)
                      · skip
                        refine v_if_le (tgt := 127) X dX8_copy_118 (by decide) (by decide) (fun hh => ?_) (fun hh => ?_)
                        · skip
                          exfalso; omega
                        · skip
                          refine v_aload_n X dX8_copy_121 rfl ?_
                          refine v_iconst X dX8_copy_122 ?_
                          refine res_F X (run_V X (c_X8_finding (g := g) ) gX8_copy_X8_finding rfl hdX8_finding ⟨(Nat.le_of_ble_eq_true rfl), (Nat.le_of_ble_eq_true rfl)⟩ ⟨(Nat.le_of_ble_eq_true rfl), (Nat.le_of_ble_eq_true rfl)⟩ 0 rfl rfl rfl [0, 1, 2, 3, 4, 5, 6, 7, 8, 9, 10] rfl rfl rfl rfl (by simp [Value.category]) dX8_copy_123) [0, 1, 2, 3, 4, 5, 6, 7, 8, 9, 10] rfl rfl rfl ?_
                          dsimp only [patch, List.set, wMod]
                          refine v_iret X Y dX8_copy_126 (u := (2, fi)) ?_ (by rfl)
                          exact Or.inr ⟨by omega, Or.inr ⟨by omega, Or.inr ⟨by omega, Or.inl ⟨by omega, rfl, rfl⟩⟩⟩⟩
                      · skip
                        refine v_if_le (tgt := 127) X dX8_copy_118 (by decide) (by decide) (fun hh => ?_) (fun hh => ?_)
                        · skip
                          refine v_iload_n X dX8_copy_127 rfl ?_
                          refine v_iload X dX8_copy_128 rfl ?_
                          refine v_icmp_lt (tgt := 137) X dX8_copy_130 (by decide) (by omega) (by omega) (fun c37 => ?_) (fun c37 => ?_)
                          · skip
                            refine v_iconst X dX8_copy_137 ?_
                            refine v_istore X dX8_copy_138 (by decide) rfl ?_
                            dsimp only [List.set]
                            refine v_iconst X dX8_copy_140 ?_
                            refine v_istore X dX8_copy_141 (by decide) rfl ?_
                            dsimp only [List.set]
                            have L143 : ∀ (nf : Nat) (f : Nat → Int) (u : Int) (k : Int) (h1 : 0 ≤ k ∧ k ≤ n) (hu : (u = 1 ∧ j ≤ i) ∨ (u = 0 ∧ i < j)) (h2 : ∀ x : Nat, f x = if b * 40 + j + (if u = 1 then 0 else n - k) ≤ (x : Int) ∧ (x : Int) < b * 40 + j + (if u = 1 then k else n) then fi ((a * 40 + i).toNat + (x - (b * 40 + j).toNat)) else fi x) (h3 : Bd (-2147483648) 2147483647 f) (_ : (n - k).toNat < nf), V g x 0 0 (wMod g A (0) (0) ac td lt ln cu tk sa ti ft fp le lf tr fl fm (f) fc ff fw ftp fk fe fr) [some (.ref (A 0)), some (.int (iI a)), some (.int (iI i)), some (.int (iI b)), some (.int (iI j)), some (.int (iI n)), some (.int (iI u)), some (.int (iI k)), none] 143 [] := by
                              intro nf
                              induction nf with
                              | zero => intro f u k h1 hu h2 h3 hmu; exact absurd hmu (Nat.not_lt_zero _)
                              | succ nf ih143 =>
                                intro f u k h1 hu h2 h3 hmu
                                refine v_iload X dX8_copy_143 rfl ?_
                                refine v_iload X dX8_copy_145 rfl ?_
                                refine v_icmp_ge (tgt := 204) X dX8_copy_147 (by decide) (by omega) (by omega) (fun c38 => ?_) (fun c38 => ?_)
                                · skip
                                  refine v_iload X dX8_copy_204 rfl ?_
                                  refine v_iret X Y dX8_copy_206 (u := (0, f)) ?_ (by rfl)
                                  refine Or.inr ⟨by omega, Or.inr ⟨by omega, Or.inr ⟨by omega, Or.inr ⟨by omega, rfl, rfl, ?_⟩⟩⟩⟩
                                  intro x
                                  show f x = _
                                  have e : k = n := by omega
                                  have q := h2 x
                                  rcases hu with hu | hu
                                  · rw [q]; simp only [hu.1, e, if_true, Int.add_zero]
                                  · rw [q]; simp only [hu.1, e, if_false, Int.sub_self, Int.add_zero, show ¬ (0 : Int) = 1 by omega]
                                · skip
                                  refine v_iload X dX8_copy_150 rfl ?_
                                  refine v_if_eq (tgt := 160) X dX8_copy_152 (by decide) (by omega) (fun c39 => ?_) (fun c39 => ?_)
                                  · skip
                                    refine v_iload X dX8_copy_160 rfl ?_
                                    refine v_iconst X dX8_copy_162 ?_
                                    refine v_isub X dX8_copy_163 ?_
                                    refine v_iload X dX8_copy_164 rfl ?_
                                    refine v_isub X dX8_copy_166 ?_
                                    refine v_istore X dX8_copy_167 (by decide) rfl ?_
                                    dsimp only [List.set]
                                    refine v_aload_n X dX8_copy_169 rfl ?_
                                    refine v_get X (fun _ h => List.mem_cons_of_mem _ (List.mem_append_right _ h)) 0 rfl rfl 4 (by decide) rfl (List.mem_of_getElem? (i := 6) rfl) rfl dX8_copy_170 ?_
                                    refine v_bipush X dX8_copy_173 (by decide) ?_
                                    refine v_iload_n X dX8_copy_175 rfl ?_
                                    refine v_imul X dX8_copy_176 ?_
                                    refine v_iload X dX8_copy_177 rfl ?_
                                    refine v_iadd X dX8_copy_179 ?_
                                    refine v_iload X dX8_copy_180 rfl ?_
                                    refine v_iadd X dX8_copy_182 ?_
                                    refine v_aload_n X dX8_copy_183 rfl ?_
                                    refine v_get X (fun _ h => List.mem_cons_of_mem _ (List.mem_append_right _ h)) 0 rfl rfl 4 (by decide) rfl (List.mem_of_getElem? (i := 6) rfl) rfl dX8_copy_184 ?_
                                    refine v_bipush X dX8_copy_187 (by decide) ?_
                                    refine v_iload_n X dX8_copy_189 rfl ?_
                                    refine v_imul X dX8_copy_190 ?_
                                    refine v_iload_n X dX8_copy_191 rfl ?_
                                    refine v_iadd X dX8_copy_192 ?_
                                    refine v_iload X dX8_copy_193 rfl ?_
                                    refine v_iadd X dX8_copy_195 ?_
                                    refine v_iald X 3 rfl (by omega) (by omega) (by omega) dX8_copy_196 h3 (fun zz ezz lzz uzz => ?_)
                                    refine v_iast X 3 rfl (by omega) (by omega) (by omega) dX8_copy_197 ?_
                                    dsimp only [List.set, wMod]
                                    refine v_iinc X dX8_copy_198 rfl (by decide) rfl ?_
                                    dsimp only [List.set]
                                    refine v_goto (tgt := 143) X dX8_copy_201 (by decide) ?_
                                    refine v_drop 8 ?_
                                    dsimp only [List.set]
                                    exact ih143 _ _ _ (by omega) (by omega) (by
                                        first
                                        | exact cpy_up hu h1 h2 g1 g2 (by omega) ezz
                                        | exact cpy_dn hu h1 h2 g1 g2 (by omega) ezz) (by exact Bd_up h3 (by omega) (by omega)) (by omega)
                                  · skip
                                    refine v_iload X dX8_copy_155 rfl ?_
                                    refine v_goto (tgt := 167) X dX8_copy_157 (by decide) ?_
                                    refine v_istore X dX8_copy_167 (by decide) rfl ?_
                                    dsimp only [List.set]
                                    refine v_aload_n X dX8_copy_169 rfl ?_
                                    refine v_get X (fun _ h => List.mem_cons_of_mem _ (List.mem_append_right _ h)) 0 rfl rfl 4 (by decide) rfl (List.mem_of_getElem? (i := 6) rfl) rfl dX8_copy_170 ?_
                                    refine v_bipush X dX8_copy_173 (by decide) ?_
                                    refine v_iload_n X dX8_copy_175 rfl ?_
                                    refine v_imul X dX8_copy_176 ?_
                                    refine v_iload X dX8_copy_177 rfl ?_
                                    refine v_iadd X dX8_copy_179 ?_
                                    refine v_iload X dX8_copy_180 rfl ?_
                                    refine v_iadd X dX8_copy_182 ?_
                                    refine v_aload_n X dX8_copy_183 rfl ?_
                                    refine v_get X (fun _ h => List.mem_cons_of_mem _ (List.mem_append_right _ h)) 0 rfl rfl 4 (by decide) rfl (List.mem_of_getElem? (i := 6) rfl) rfl dX8_copy_184 ?_
                                    refine v_bipush X dX8_copy_187 (by decide) ?_
                                    refine v_iload_n X dX8_copy_189 rfl ?_
                                    refine v_imul X dX8_copy_190 ?_
                                    refine v_iload_n X dX8_copy_191 rfl ?_
                                    refine v_iadd X dX8_copy_192 ?_
                                    refine v_iload X dX8_copy_193 rfl ?_
                                    refine v_iadd X dX8_copy_195 ?_
                                    refine v_iald X 3 rfl (by omega) (by omega) (by omega) dX8_copy_196 h3 (fun zz ezz lzz uzz => ?_)
                                    refine v_iast X 3 rfl (by omega) (by omega) (by omega) dX8_copy_197 ?_
                                    dsimp only [List.set, wMod]
                                    refine v_iinc X dX8_copy_198 rfl (by decide) rfl ?_
                                    dsimp only [List.set]
                                    refine v_goto (tgt := 143) X dX8_copy_201 (by decide) ?_
                                    refine v_drop 8 ?_
                                    dsimp only [List.set]
                                    exact ih143 _ _ _ (by omega) (by omega) (by
                                        first
                                        | exact cpy_up hu h1 h2 g1 g2 (by omega) ezz
                                        | exact cpy_dn hu h1 h2 g1 g2 (by omega) ezz) (by exact Bd_up h3 (by omega) (by omega)) (by omega)
                            exact L143 _ _ _ _ (by omega) (by omega) (by intro x; rw [if_neg (by split <;> omega)]) (by assumption) (Nat.lt_succ_self _)
                          · skip
                            refine v_iconst X dX8_copy_133 ?_
                            refine v_goto (tgt := 138) X dX8_copy_134 (by decide) ?_
                            refine v_istore X dX8_copy_138 (by decide) rfl ?_
                            dsimp only [List.set]
                            refine v_iconst X dX8_copy_140 ?_
                            refine v_istore X dX8_copy_141 (by decide) rfl ?_
                            dsimp only [List.set]
                            have L143 : ∀ (nf : Nat) (f : Nat → Int) (u : Int) (k : Int) (h1 : 0 ≤ k ∧ k ≤ n) (hu : (u = 1 ∧ j ≤ i) ∨ (u = 0 ∧ i < j)) (h2 : ∀ x : Nat, f x = if b * 40 + j + (if u = 1 then 0 else n - k) ≤ (x : Int) ∧ (x : Int) < b * 40 + j + (if u = 1 then k else n) then fi ((a * 40 + i).toNat + (x - (b * 40 + j).toNat)) else fi x) (h3 : Bd (-2147483648) 2147483647 f) (_ : (n - k).toNat < nf), V g x 0 0 (wMod g A (0) (0) ac td lt ln cu tk sa ti ft fp le lf tr fl fm (f) fc ff fw ftp fk fe fr) [some (.ref (A 0)), some (.int (iI a)), some (.int (iI i)), some (.int (iI b)), some (.int (iI j)), some (.int (iI n)), some (.int (iI u)), some (.int (iI k)), none] 143 [] := by
                              intro nf
                              induction nf with
                              | zero => intro f u k h1 hu h2 h3 hmu; exact absurd hmu (Nat.not_lt_zero _)
                              | succ nf ih143 =>
                                intro f u k h1 hu h2 h3 hmu
                                refine v_iload X dX8_copy_143 rfl ?_
                                refine v_iload X dX8_copy_145 rfl ?_
                                refine v_icmp_ge (tgt := 204) X dX8_copy_147 (by decide) (by omega) (by omega) (fun c42 => ?_) (fun c42 => ?_)
                                · skip
                                  refine v_iload X dX8_copy_204 rfl ?_
                                  refine v_iret X Y dX8_copy_206 (u := (0, f)) ?_ (by rfl)
                                  refine Or.inr ⟨by omega, Or.inr ⟨by omega, Or.inr ⟨by omega, Or.inr ⟨by omega, rfl, rfl, ?_⟩⟩⟩⟩
                                  intro x
                                  show f x = _
                                  have e : k = n := by omega
                                  have q := h2 x
                                  rcases hu with hu | hu
                                  · rw [q]; simp only [hu.1, e, if_true, Int.add_zero]
                                  · rw [q]; simp only [hu.1, e, if_false, Int.sub_self, Int.add_zero, show ¬ (0 : Int) = 1 by omega]
                                · skip
                                  refine v_iload X dX8_copy_150 rfl ?_
                                  refine v_if_eq (tgt := 160) X dX8_copy_152 (by decide) (by omega) (fun c43 => ?_) (fun c43 => ?_)
                                  · skip
                                    refine v_iload X dX8_copy_160 rfl ?_
                                    refine v_iconst X dX8_copy_162 ?_
                                    refine v_isub X dX8_copy_163 ?_
                                    refine v_iload X dX8_copy_164 rfl ?_
                                    refine v_isub X dX8_copy_166 ?_
                                    refine v_istore X dX8_copy_167 (by decide) rfl ?_
                                    dsimp only [List.set]
                                    refine v_aload_n X dX8_copy_169 rfl ?_
                                    refine v_get X (fun _ h => List.mem_cons_of_mem _ (List.mem_append_right _ h)) 0 rfl rfl 4 (by decide) rfl (List.mem_of_getElem? (i := 6) rfl) rfl dX8_copy_170 ?_
                                    refine v_bipush X dX8_copy_173 (by decide) ?_
                                    refine v_iload_n X dX8_copy_175 rfl ?_
                                    refine v_imul X dX8_copy_176 ?_
                                    refine v_iload X dX8_copy_177 rfl ?_
                                    refine v_iadd X dX8_copy_179 ?_
                                    refine v_iload X dX8_copy_180 rfl ?_
                                    refine v_iadd X dX8_copy_182 ?_
                                    refine v_aload_n X dX8_copy_183 rfl ?_
                                    refine v_get X (fun _ h => List.mem_cons_of_mem _ (List.mem_append_right _ h)) 0 rfl rfl 4 (by decide) rfl (List.mem_of_getElem? (i := 6) rfl) rfl dX8_copy_184 ?_
                                    refine v_bipush X dX8_copy_187 (by decide) ?_
                                    refine v_iload_n X dX8_copy_189 rfl ?_
                                    refine v_imul X dX8_copy_190 ?_
                                    refine v_iload_n X dX8_copy_191 rfl ?_
                                    refine v_iadd X dX8_copy_192 ?_
                                    refine v_iload X dX8_copy_193 rfl ?_
                                    refine v_iadd X dX8_copy_195 ?_
                                    refine v_iald X 3 rfl (by omega) (by omega) (by omega) dX8_copy_196 h3 (fun zz ezz lzz uzz => ?_)
                                    refine v_iast X 3 rfl (by omega) (by omega) (by omega) dX8_copy_197 ?_
                                    dsimp only [List.set, wMod]
                                    refine v_iinc X dX8_copy_198 rfl (by decide) rfl ?_
                                    dsimp only [List.set]
                                    refine v_goto (tgt := 143) X dX8_copy_201 (by decide) ?_
                                    refine v_drop 8 ?_
                                    dsimp only [List.set]
                                    exact ih143 _ _ _ (by omega) (by omega) (by
                                        first
                                        | exact cpy_up hu h1 h2 g1 g2 (by omega) ezz
                                        | exact cpy_dn hu h1 h2 g1 g2 (by omega) ezz) (by exact Bd_up h3 (by omega) (by omega)) (by omega)
                                  · skip
                                    refine v_iload X dX8_copy_155 rfl ?_
                                    refine v_goto (tgt := 167) X dX8_copy_157 (by decide) ?_
                                    refine v_istore X dX8_copy_167 (by decide) rfl ?_
                                    dsimp only [List.set]
                                    refine v_aload_n X dX8_copy_169 rfl ?_
                                    refine v_get X (fun _ h => List.mem_cons_of_mem _ (List.mem_append_right _ h)) 0 rfl rfl 4 (by decide) rfl (List.mem_of_getElem? (i := 6) rfl) rfl dX8_copy_170 ?_
                                    refine v_bipush X dX8_copy_173 (by decide) ?_
                                    refine v_iload_n X dX8_copy_175 rfl ?_
                                    refine v_imul X dX8_copy_176 ?_
                                    refine v_iload X dX8_copy_177 rfl ?_
                                    refine v_iadd X dX8_copy_179 ?_
                                    refine v_iload X dX8_copy_180 rfl ?_
                                    refine v_iadd X dX8_copy_182 ?_
                                    refine v_aload_n X dX8_copy_183 rfl ?_
                                    refine v_get X (fun _ h => List.mem_cons_of_mem _ (List.mem_append_right _ h)) 0 rfl rfl 4 (by decide) rfl (List.mem_of_getElem? (i := 6) rfl) rfl dX8_copy_184 ?_
                                    refine v_bipush X dX8_copy_187 (by decide) ?_
                                    refine v_iload_n X dX8_copy_189 rfl ?_
                                    refine v_imul X dX8_copy_190 ?_
                                    refine v_iload_n X dX8_copy_191 rfl ?_
                                    refine v_iadd X dX8_copy_192 ?_
                                    refine v_iload X dX8_copy_193 rfl ?_
                                    refine v_iadd X dX8_copy_195 ?_
                                    refine v_iald X 3 rfl (by omega) (by omega) (by omega) dX8_copy_196 h3 (fun zz ezz lzz uzz => ?_)
                                    refine v_iast X 3 rfl (by omega) (by omega) (by omega) dX8_copy_197 ?_
                                    dsimp only [List.set, wMod]
                                    refine v_iinc X dX8_copy_198 rfl (by decide) rfl ?_
                                    dsimp only [List.set]
                                    refine v_goto (tgt := 143) X dX8_copy_201 (by decide) ?_
                                    refine v_drop 8 ?_
                                    dsimp only [List.set]
                                    exact ih143 _ _ _ (by omega) (by omega) (by
                                        first
                                        | exact cpy_up hu h1 h2 g1 g2 (by omega) ezz
                                        | exact cpy_dn hu h1 h2 g1 g2 (by omega) ezz) (by exact Bd_up h3 (by omega) (by omega)) (by omega)
                            exact L143 _ _ _ _ (by omega) (by omega) (by intro x; rw [if_neg (by split <;> omega)]) (by assumption) (Nat.lt_succ_self _)
                        · skip
                          exfalso; omega
                      · skip
                        refine v_if_le (tgt := 127) X dX8_copy_118 (by decide) (by decide) (fun hh => ?_) (fun hh => ?_)
                        · skip
                          refine v_iload_n X dX8_copy_127 rfl ?_
                          refine v_iload X dX8_copy_128 rfl ?_
                          refine v_icmp_lt (tgt := 137) X dX8_copy_130 (by decide) (by omega) (by omega) (fun c46 => ?_) (fun c46 => ?_)
                          · skip
                            refine v_iconst X dX8_copy_137 ?_
                            refine v_istore X dX8_copy_138 (by decide) rfl ?_
                            dsimp only [List.set]
                            refine v_iconst X dX8_copy_140 ?_
                            refine v_istore X dX8_copy_141 (by decide) rfl ?_
                            dsimp only [List.set]
                            have L143 : ∀ (nf : Nat) (f : Nat → Int) (u : Int) (k : Int) (h1 : 0 ≤ k ∧ k ≤ n) (hu : (u = 1 ∧ j ≤ i) ∨ (u = 0 ∧ i < j)) (h2 : ∀ x : Nat, f x = if b * 40 + j + (if u = 1 then 0 else n - k) ≤ (x : Int) ∧ (x : Int) < b * 40 + j + (if u = 1 then k else n) then fi ((a * 40 + i).toNat + (x - (b * 40 + j).toNat)) else fi x) (h3 : Bd (-2147483648) 2147483647 f) (_ : (n - k).toNat < nf), V g x 0 0 (wMod g A (0) (0) ac td lt ln cu tk sa ti ft fp le lf tr fl fm (f) fc ff fw ftp fk fe fr) [some (.ref (A 0)), some (.int (iI a)), some (.int (iI i)), some (.int (iI b)), some (.int (iI j)), some (.int (iI n)), some (.int (iI u)), some (.int (iI k)), none] 143 [] := by
                              intro nf
                              induction nf with
                              | zero => intro f u k h1 hu h2 h3 hmu; exact absurd hmu (Nat.not_lt_zero _)
                              | succ nf ih143 =>
                                intro f u k h1 hu h2 h3 hmu
                                refine v_iload X dX8_copy_143 rfl ?_
                                refine v_iload X dX8_copy_145 rfl ?_
                                refine v_icmp_ge (tgt := 204) X dX8_copy_147 (by decide) (by omega) (by omega) (fun c47 => ?_) (fun c47 => ?_)
                                · skip
                                  refine v_iload X dX8_copy_204 rfl ?_
                                  refine v_iret X Y dX8_copy_206 (u := (0, f)) ?_ (by rfl)
                                  refine Or.inr ⟨by omega, Or.inr ⟨by omega, Or.inr ⟨by omega, Or.inr ⟨by omega, rfl, rfl, ?_⟩⟩⟩⟩
                                  intro x
                                  show f x = _
                                  have e : k = n := by omega
                                  have q := h2 x
                                  rcases hu with hu | hu
                                  · rw [q]; simp only [hu.1, e, if_true, Int.add_zero]
                                  · rw [q]; simp only [hu.1, e, if_false, Int.sub_self, Int.add_zero, show ¬ (0 : Int) = 1 by omega]
                                · skip
                                  refine v_iload X dX8_copy_150 rfl ?_
                                  refine v_if_eq (tgt := 160) X dX8_copy_152 (by decide) (by omega) (fun c48 => ?_) (fun c48 => ?_)
                                  · skip
                                    refine v_iload X dX8_copy_160 rfl ?_
                                    refine v_iconst X dX8_copy_162 ?_
                                    refine v_isub X dX8_copy_163 ?_
                                    refine v_iload X dX8_copy_164 rfl ?_
                                    refine v_isub X dX8_copy_166 ?_
                                    refine v_istore X dX8_copy_167 (by decide) rfl ?_
                                    dsimp only [List.set]
                                    refine v_aload_n X dX8_copy_169 rfl ?_
                                    refine v_get X (fun _ h => List.mem_cons_of_mem _ (List.mem_append_right _ h)) 0 rfl rfl 4 (by decide) rfl (List.mem_of_getElem? (i := 6) rfl) rfl dX8_copy_170 ?_
                                    refine v_bipush X dX8_copy_173 (by decide) ?_
                                    refine v_iload_n X dX8_copy_175 rfl ?_
                                    refine v_imul X dX8_copy_176 ?_
                                    refine v_iload X dX8_copy_177 rfl ?_
                                    refine v_iadd X dX8_copy_179 ?_
                                    refine v_iload X dX8_copy_180 rfl ?_
                                    refine v_iadd X dX8_copy_182 ?_
                                    refine v_aload_n X dX8_copy_183 rfl ?_
                                    refine v_get X (fun _ h => List.mem_cons_of_mem _ (List.mem_append_right _ h)) 0 rfl rfl 4 (by decide) rfl (List.mem_of_getElem? (i := 6) rfl) rfl dX8_copy_184 ?_
                                    refine v_bipush X dX8_copy_187 (by decide) ?_
                                    refine v_iload_n X dX8_copy_189 rfl ?_
                                    refine v_imul X dX8_copy_190 ?_
                                    refine v_iload_n X dX8_copy_191 rfl ?_
                                    refine v_iadd X dX8_copy_192 ?_
                                    refine v_iload X dX8_copy_193 rfl ?_
                                    refine v_iadd X dX8_copy_195 ?_
                                    refine v_iald X 3 rfl (by omega) (by omega) (by omega) dX8_copy_196 h3 (fun zz ezz lzz uzz => ?_)
                                    refine v_iast X 3 rfl (by omega) (by omega) (by omega) dX8_copy_197 ?_
                                    dsimp only [List.set, wMod]
                                    refine v_iinc X dX8_copy_198 rfl (by decide) rfl ?_
                                    dsimp only [List.set]
                                    refine v_goto (tgt := 143) X dX8_copy_201 (by decide) ?_
                                    refine v_drop 8 ?_
                                    dsimp only [List.set]
                                    exact ih143 _ _ _ (by omega) (by omega) (by
                                        first
                                        | exact cpy_up hu h1 h2 g1 g2 (by omega) ezz
                                        | exact cpy_dn hu h1 h2 g1 g2 (by omega) ezz) (by exact Bd_up h3 (by omega) (by omega)) (by omega)
                                  · skip
                                    refine v_iload X dX8_copy_155 rfl ?_
                                    refine v_goto (tgt := 167) X dX8_copy_157 (by decide) ?_
                                    refine v_istore X dX8_copy_167 (by decide) rfl ?_
                                    dsimp only [List.set]
                                    refine v_aload_n X dX8_copy_169 rfl ?_
                                    refine v_get X (fun _ h => List.mem_cons_of_mem _ (List.mem_append_right _ h)) 0 rfl rfl 4 (by decide) rfl (List.mem_of_getElem? (i := 6) rfl) rfl dX8_copy_170 ?_
                                    refine v_bipush X dX8_copy_173 (by decide) ?_
                                    refine v_iload_n X dX8_copy_175 rfl ?_
                                    refine v_imul X dX8_copy_176 ?_
                                    refine v_iload X dX8_copy_177 rfl ?_
                                    refine v_iadd X dX8_copy_179 ?_
                                    refine v_iload X dX8_copy_180 rfl ?_
                                    refine v_iadd X dX8_copy_182 ?_
                                    refine v_aload_n X dX8_copy_183 rfl ?_
                                    refine v_get X (fun _ h => List.mem_cons_of_mem _ (List.mem_append_right _ h)) 0 rfl rfl 4 (by decide) rfl (List.mem_of_getElem? (i := 6) rfl) rfl dX8_copy_184 ?_
                                    refine v_bipush X dX8_copy_187 (by decide) ?_
                                    refine v_iload_n X dX8_copy_189 rfl ?_
                                    refine v_imul X dX8_copy_190 ?_
                                    refine v_iload_n X dX8_copy_191 rfl ?_
                                    refine v_iadd X dX8_copy_192 ?_
                                    refine v_iload X dX8_copy_193 rfl ?_
                                    refine v_iadd X dX8_copy_195 ?_
                                    refine v_iald X 3 rfl (by omega) (by omega) (by omega) dX8_copy_196 h3 (fun zz ezz lzz uzz => ?_)
                                    refine v_iast X 3 rfl (by omega) (by omega) (by omega) dX8_copy_197 ?_
                                    dsimp only [List.set, wMod]
                                    refine v_iinc X dX8_copy_198 rfl (by decide) rfl ?_
                                    dsimp only [List.set]
                                    refine v_goto (tgt := 143) X dX8_copy_201 (by decide) ?_
                                    refine v_drop 8 ?_
                                    dsimp only [List.set]
                                    exact ih143 _ _ _ (by omega) (by omega) (by
                                        first
                                        | exact cpy_up hu h1 h2 g1 g2 (by omega) ezz
                                        | exact cpy_dn hu h1 h2 g1 g2 (by omega) ezz) (by exact Bd_up h3 (by omega) (by omega)) (by omega)
                            exact L143 _ _ _ _ (by omega) (by omega) (by intro x; rw [if_neg (by split <;> omega)]) (by assumption) (Nat.lt_succ_self _)
                          · skip
                            refine v_iconst X dX8_copy_133 ?_
                            refine v_goto (tgt := 138) X dX8_copy_134 (by decide) ?_
                            refine v_istore X dX8_copy_138 (by decide) rfl ?_
                            dsimp only [List.set]
                            refine v_iconst X dX8_copy_140 ?_
                            refine v_istore X dX8_copy_141 (by decide) rfl ?_
                            dsimp only [List.set]
                            have L143 : ∀ (nf : Nat) (f : Nat → Int) (u : Int) (k : Int) (h1 : 0 ≤ k ∧ k ≤ n) (hu : (u = 1 ∧ j ≤ i) ∨ (u = 0 ∧ i < j)) (h2 : ∀ x : Nat, f x = if b * 40 + j + (if u = 1 then 0 else n - k) ≤ (x : Int) ∧ (x : Int) < b * 40 + j + (if u = 1 then k else n) then fi ((a * 40 + i).toNat + (x - (b * 40 + j).toNat)) else fi x) (h3 : Bd (-2147483648) 2147483647 f) (_ : (n - k).toNat < nf), V g x 0 0 (wMod g A (0) (0) ac td lt ln cu tk sa ti ft fp le lf tr fl fm (f) fc ff fw ftp fk fe fr) [some (.ref (A 0)), some (.int (iI a)), some (.int (iI i)), some (.int (iI b)), some (.int (iI j)), some (.int (iI n)), some (.int (iI u)), some (.int (iI k)), none] 143 [] := by
                              intro nf
                              induction nf with
                              | zero => intro f u k h1 hu h2 h3 hmu; exact absurd hmu (Nat.not_lt_zero _)
                              | succ nf ih143 =>
                                intro f u k h1 hu h2 h3 hmu
                                refine v_iload X dX8_copy_143 rfl ?_
                                refine v_iload X dX8_copy_145 rfl ?_
                                refine v_icmp_ge (tgt := 204) X dX8_copy_147 (by decide) (by omega) (by omega) (fun c51 => ?_) (fun c51 => ?_)
                                · skip
                                  refine v_iload X dX8_copy_204 rfl ?_
                                  refine v_iret X Y dX8_copy_206 (u := (0, f)) ?_ (by rfl)
                                  refine Or.inr ⟨by omega, Or.inr ⟨by omega, Or.inr ⟨by omega, Or.inr ⟨by omega, rfl, rfl, ?_⟩⟩⟩⟩
                                  intro x
                                  show f x = _
                                  have e : k = n := by omega
                                  have q := h2 x
                                  rcases hu with hu | hu
                                  · rw [q]; simp only [hu.1, e, if_true, Int.add_zero]
                                  · rw [q]; simp only [hu.1, e, if_false, Int.sub_self, Int.add_zero, show ¬ (0 : Int) = 1 by omega]
                                · skip
                                  refine v_iload X dX8_copy_150 rfl ?_
                                  refine v_if_eq (tgt := 160) X dX8_copy_152 (by decide) (by omega) (fun c52 => ?_) (fun c52 => ?_)
                                  · skip
                                    refine v_iload X dX8_copy_160 rfl ?_
                                    refine v_iconst X dX8_copy_162 ?_
                                    refine v_isub X dX8_copy_163 ?_
                                    refine v_iload X dX8_copy_164 rfl ?_
                                    refine v_isub X dX8_copy_166 ?_
                                    refine v_istore X dX8_copy_167 (by decide) rfl ?_
                                    dsimp only [List.set]
                                    refine v_aload_n X dX8_copy_169 rfl ?_
                                    refine v_get X (fun _ h => List.mem_cons_of_mem _ (List.mem_append_right _ h)) 0 rfl rfl 4 (by decide) rfl (List.mem_of_getElem? (i := 6) rfl) rfl dX8_copy_170 ?_
                                    refine v_bipush X dX8_copy_173 (by decide) ?_
                                    refine v_iload_n X dX8_copy_175 rfl ?_
                                    refine v_imul X dX8_copy_176 ?_
                                    refine v_iload X dX8_copy_177 rfl ?_
                                    refine v_iadd X dX8_copy_179 ?_
                                    refine v_iload X dX8_copy_180 rfl ?_
                                    refine v_iadd X dX8_copy_182 ?_
                                    refine v_aload_n X dX8_copy_183 rfl ?_
                                    refine v_get X (fun _ h => List.mem_cons_of_mem _ (List.mem_append_right _ h)) 0 rfl rfl 4 (by decide) rfl (List.mem_of_getElem? (i := 6) rfl) rfl dX8_copy_184 ?_
                                    refine v_bipush X dX8_copy_187 (by decide) ?_
                                    refine v_iload_n X dX8_copy_189 rfl ?_
                                    refine v_imul X dX8_copy_190 ?_
                                    refine v_iload_n X dX8_copy_191 rfl ?_
                                    refine v_iadd X dX8_copy_192 ?_
                                    refine v_iload X dX8_copy_193 rfl ?_
                                    refine v_iadd X dX8_copy_195 ?_
                                    refine v_iald X 3 rfl (by omega) (by omega) (by omega) dX8_copy_196 h3 (fun zz ezz lzz uzz => ?_)
                                    refine v_iast X 3 rfl (by omega) (by omega) (by omega) dX8_copy_197 ?_
                                    dsimp only [List.set, wMod]
                                    refine v_iinc X dX8_copy_198 rfl (by decide) rfl ?_
                                    dsimp only [List.set]
                                    refine v_goto (tgt := 143) X dX8_copy_201 (by decide) ?_
                                    refine v_drop 8 ?_
                                    dsimp only [List.set]
                                    exact ih143 _ _ _ (by omega) (by omega) (by
                                        first
                                        | exact cpy_up hu h1 h2 g1 g2 (by omega) ezz
                                        | exact cpy_dn hu h1 h2 g1 g2 (by omega) ezz) (by exact Bd_up h3 (by omega) (by omega)) (by omega)
                                  · skip
                                    refine v_iload X dX8_copy_155 rfl ?_
                                    refine v_goto (tgt := 167) X dX8_copy_157 (by decide) ?_
                                    refine v_istore X dX8_copy_167 (by decide) rfl ?_
                                    dsimp only [List.set]
                                    refine v_aload_n X dX8_copy_169 rfl ?_
                                    refine v_get X (fun _ h => List.mem_cons_of_mem _ (List.mem_append_right _ h)) 0 rfl rfl 4 (by decide) rfl (List.mem_of_getElem? (i := 6) rfl) rfl dX8_copy_170 ?_
                                    refine v_bipush X dX8_copy_173 (by decide) ?_
                                    refine v_iload_n X dX8_copy_175 rfl ?_
                                    refine v_imul X dX8_copy_176 ?_
                                    refine v_iload X dX8_copy_177 rfl ?_
                                    refine v_iadd X dX8_copy_179 ?_
                                    refine v_iload X dX8_copy_180 rfl ?_
                                    refine v_iadd X dX8_copy_182 ?_
                                    refine v_aload_n X dX8_copy_183 rfl ?_
                                    refine v_get X (fun _ h => List.mem_cons_of_mem _ (List.mem_append_right _ h)) 0 rfl rfl 4 (by decide) rfl (List.mem_of_getElem? (i := 6) rfl) rfl dX8_copy_184 ?_
                                    refine v_bipush X dX8_copy_187 (by decide) ?_
                                    refine v_iload_n X dX8_copy_189 rfl ?_
                                    refine v_imul X dX8_copy_190 ?_
                                    refine v_iload_n X dX8_copy_191 rfl ?_
                                    refine v_iadd X dX8_copy_192 ?_
                                    refine v_iload X dX8_copy_193 rfl ?_
                                    refine v_iadd X dX8_copy_195 ?_
                                    refine v_iald X 3 rfl (by omega) (by omega) (by omega) dX8_copy_196 h3 (fun zz ezz lzz uzz => ?_)
                                    refine v_iast X 3 rfl (by omega) (by omega) (by omega) dX8_copy_197 ?_
                                    dsimp only [List.set, wMod]
                                    refine v_iinc X dX8_copy_198 rfl (by decide) rfl ?_
                                    dsimp only [List.set]
                                    refine v_goto (tgt := 143) X dX8_copy_201 (by decide) ?_
                                    refine v_drop 8 ?_
                                    dsimp only [List.set]
                                    exact ih143 _ _ _ (by omega) (by omega) (by
                                        first
                                        | exact cpy_up hu h1 h2 g1 g2 (by omega) ezz
                                        | exact cpy_dn hu h1 h2 g1 g2 (by omega) ezz) (by exact Bd_up h3 (by omega) (by omega)) (by omega)
                            exact L143 _ _ _ _ (by omega) (by omega) (by intro x; rw [if_neg (by split <;> omega)]) (by assumption) (Nat.lt_succ_self _)
                        · skip
                          exfalso; omega
          · skip
            refine v_aload_n X dX8_copy_66 rfl ?_
            refine v_iconst X dX8_copy_67 ?_
            refine res_F X (run_V X (c_X8_finding (g := g) ) gX8_copy_X8_finding rfl hdX8_finding ⟨(Nat.le_of_ble_eq_true rfl), (Nat.le_of_ble_eq_true rfl)⟩ ⟨(Nat.le_of_ble_eq_true rfl), (Nat.le_of_ble_eq_true rfl)⟩ 0 rfl rfl rfl [0, 1, 2, 3, 4, 5, 6, 7, 8, 9, 10] rfl rfl rfl rfl (by simp [Value.category]) dX8_copy_68) [0, 1, 2, 3, 4, 5, 6, 7, 8, 9, 10] rfl rfl rfl ?_
            dsimp only [patch, List.set, wMod]
            refine v_iret X Y dX8_copy_71 (u := (5, fi)) ?_ (by rfl)
            exact Or.inr ⟨by omega, Or.inr ⟨by omega, Or.inl ⟨by omega, rfl, rfl⟩⟩⟩
        · skip
          refine v_aload_n X dX8_copy_45 rfl ?_
          refine v_iconst X dX8_copy_46 ?_
          refine res_F X (run_V X (c_X8_finding (g := g) ) gX8_copy_X8_finding rfl hdX8_finding ⟨(Nat.le_of_ble_eq_true rfl), (Nat.le_of_ble_eq_true rfl)⟩ ⟨(Nat.le_of_ble_eq_true rfl), (Nat.le_of_ble_eq_true rfl)⟩ 0 rfl rfl rfl [0, 1, 2, 3, 4, 5, 6, 7, 8, 9, 10] rfl rfl rfl rfl (by simp [Value.category]) dX8_copy_47) [0, 1, 2, 3, 4, 5, 6, 7, 8, 9, 10] rfl rfl rfl ?_
          dsimp only [patch, List.set, wMod]
          refine v_iret X Y dX8_copy_50 (u := (1, fi)) ?_ (by rfl)
          exact Or.inr ⟨by omega, Or.inl ⟨by omega, rfl, rfl⟩⟩
    · skip
      refine v_ldc X (List.mem_of_getElem? (i := 2) rfl) dX8_copy_19 (n := -1000001) (by decide) ?_
      refine v_iret X Y dX8_copy_21 (u := (sq, fi)) ?_ (by rfl)
      exact Or.inl ⟨by omega, rfl, rfl⟩

theorem hdX7_copy : yX7_copy.cls = RX7 ∧ yX7_copy.cls ≠ "java/lang/invoke/MethodHandle" ∧ yX7_copy.cls ≠ "java/lang/invoke/VarHandle" ∧ (parseMethodDescriptor yX7_copy.desc).map (fun d => d.parameters.length) = some 5 := ⟨rfl, by decide +kernel, by decide +kernel, by decide +kernel⟩
set_option maxHeartbeats 4000000 in
set_option maxRecDepth 100000 in
theorem c_X7_copy {g : Gx} {B : Nat → Nat} {lf fi : Int} {it la le : Nat → Int} {a i b j n : Int} (hit : Bd (-2147483648) 2147483647 it) (hla : Bd (-1) 2 la) (hle : Bd 0 40 le) (ha : R32 a) (hi : R32 i) (hb : R32 b) (hj : R32 j) (hn : R32 n) : CtI (S := Int × (Nat → Int)) g yX7_copy wsX7_copy 4 89 [.ref (B 0), .int (iI a), .int (iI i), .int (iI b), .int (iI j), .int (iI n)] (oAH g B (lf) (fi) :: (wRow g (B 1) (B 11) (B 12) (B 13) it la le)) (fun w u => (¬ ((0 ≤ a ∧ a < 8) ∧ (0 ≤ b ∧ b < 8)) ∧ w = -1000001 ∧ u = (fi, it)) ∨ (((0 ≤ a ∧ a < 8) ∧ (0 ≤ b ∧ b < 8)) ∧ (((la a.toNat = -1 ∨ la b.toNat = -1) ∧ w = -1000011 ∧ u = (1, it)) ∨ ((la a.toNat ≠ -1 ∧ la b.toNat ≠ -1) ∧ ((la a.toNat ≠ la b.toNat ∧ w = -1000015 ∧ u = (5, it)) ∨ (la a.toNat = la b.toNat ∧ ((¬ (0 ≤ i ∧ 0 ≤ n ∧ i + n ≤ le a.toNat ∧ 0 ≤ j ∧ j + n ≤ le b.toNat) ∧ w = -1000012 ∧ u = (2, it)) ∨ ((0 ≤ i ∧ 0 ≤ n ∧ i + n ≤ le a.toNat ∧ 0 ≤ j ∧ j + n ≤ le b.toNat) ∧ w = n ∧ u = (0, cpyI it it (a * 40 + i).toNat (b * 40 + j).toNat n.toNat))))))))) (fun u => oAH g B (lf) (u.1) :: (wRow g (B 1) (B 11) (B 12) (B 13) (u.2) la le)) := by
  refine m_go (cc := cX7_copy) (nL := 6) (by decide +kernel) rfl (Nat.le_of_ble_eq_true rfl) (fun x X Y hnm => ?_)
  refine v_eq (lo2 := [some (.ref (B 0)), some (.int (iI a)), some (.int (iI i)), some (.int (iI b)), some (.int (iI j)), some (.int (iI n))]) rfl rfl rfl rfl ?_
  refine v_iload_n X dX7_copy_0 rfl ?_
  refine res_E X (run_S X (c_X7_isRow (g := g) (by first | assumption | omega)) gX7_copy_X7_isRow rfl hdX7_isRow.2 ⟨(Nat.le_of_ble_eq_true rfl), (Nat.le_of_ble_eq_true rfl)⟩ ⟨(Nat.le_of_ble_eq_true rfl), (Nat.le_of_ble_eq_true rfl)⟩ [] rfl rfl rfl rfl (by simp [Value.category]) dX7_copy_1) [] rfl rfl ?_
  refine v_ifb_eq (tgt := 14) X dX7_copy_4 (by decide) (fun c1 => ?_) (fun c1 => ?_)
  · skip
    refine v_ldc X (List.mem_of_getElem? (i := 1) rfl) dX7_copy_14 (n := -1000001) (by decide) ?_
    refine v_iret X Y dX7_copy_16 (u := (fi, it)) ?_ (by rfl)
    exact Or.inl ⟨by omega, rfl, rfl⟩
  · skip
    refine v_iload_n X dX7_copy_7 rfl ?_
    refine res_E X (run_S X (c_X7_isRow (g := g) (by first | assumption | omega)) gX7_copy_X7_isRow rfl hdX7_isRow.2 ⟨(Nat.le_of_ble_eq_true rfl), (Nat.le_of_ble_eq_true rfl)⟩ ⟨(Nat.le_of_ble_eq_true rfl), (Nat.le_of_ble_eq_true rfl)⟩ [] rfl rfl rfl rfl (by simp [Value.category]) dX7_copy_8) [] rfl rfl ?_
    refine v_ifb_ne (tgt := 17) X dX7_copy_11 (by decide) (fun c2 => ?_) (fun c2 => ?_)
    · skip
      have g1 := hle a.toNat
      have g2 := hle b.toNat
      have g3 : lanI la a = la a.toNat := if_pos (by omega)
      have g4 : lanI la b = la b.toNat := if_pos (by omega)
      have g5 : rchI le a i n = if 0 ≤ i ∧ 0 ≤ n ∧ i ≤ le a.toNat - n then 1 else 0 := rchI_n (by omega)
      have g6 : rchI le b j n = if 0 ≤ j ∧ 0 ≤ n ∧ j ≤ le b.toNat - n then 1 else 0 := rchI_n (by omega)
      have g7 := hla a.toNat
      have g8 := hla b.toNat
      refine v_aload_n X dX7_copy_17 rfl ?_
      refine v_get X (fun _ h => List.mem_cons_of_mem _ (List.mem_append_left _ (List.mem_append_right _ h))) 0 rfl rfl 0 (by decide) rfl (List.mem_of_getElem? (i := 2) rfl) rfl dX7_copy_18 ?_
      refine v_iload_n X dX7_copy_21 rfl ?_
      refine res_E X (run_V X (c_X5_isMissing (g := g) (by first | assumption | omega) (by first | assumption | omega)) gX7_copy_X5_isMissing rfl hdX5_isMissing ⟨(Nat.le_of_ble_eq_true rfl), (Nat.le_of_ble_eq_true rfl)⟩ ⟨(Nat.le_of_ble_eq_true rfl), (Nat.le_of_ble_eq_true rfl)⟩ 1 rfl rfl rfl [1, 2, 3, 4] rfl rfl rfl rfl (by simp [Value.category]) dX7_copy_22) [1, 2, 3, 4] rfl rfl ?_
      refine v_ifb_ne (tgt := 39) X dX7_copy_25 (by decide) (fun c3 => ?_) (fun c3 => ?_)
      · skip
        refine v_aload_n X dX7_copy_39 rfl ?_
        refine v_iconst X dX7_copy_40 ?_
        refine res_F X (run_V X (c_X7_found (g := g) ) gX7_copy_X7_found rfl hdX7_found ⟨(Nat.le_of_ble_eq_true rfl), (Nat.le_of_ble_eq_true rfl)⟩ ⟨(Nat.le_of_ble_eq_true rfl), (Nat.le_of_ble_eq_true rfl)⟩ 0 rfl rfl rfl [0] rfl rfl rfl rfl (by simp [Value.category]) dX7_copy_41) [0] rfl rfl rfl ?_
        dsimp only [patch, List.set, List.cons_append, List.nil_append, oAH, wRow]
        refine v_iret X Y dX7_copy_44 (u := (1, it)) ?_ (by rfl)
        exact Or.inr ⟨by omega, Or.inl ⟨by omega, rfl, rfl⟩⟩
      · skip
        refine v_aload_n X dX7_copy_28 rfl ?_
        refine v_get X (fun _ h => List.mem_cons_of_mem _ (List.mem_append_left _ (List.mem_append_right _ h))) 0 rfl rfl 0 (by decide) rfl (List.mem_of_getElem? (i := 2) rfl) rfl dX7_copy_29 ?_
        refine v_iload_n X dX7_copy_32 rfl ?_
        refine res_E X (run_V X (c_X5_isMissing (g := g) (by first | assumption | omega) (by first | assumption | omega)) gX7_copy_X5_isMissing rfl hdX5_isMissing ⟨(Nat.le_of_ble_eq_true rfl), (Nat.le_of_ble_eq_true rfl)⟩ ⟨(Nat.le_of_ble_eq_true rfl), (Nat.le_of_ble_eq_true rfl)⟩ 1 rfl rfl rfl [1, 2, 3, 4] rfl rfl rfl rfl (by simp [Value.category]) dX7_copy_33) [1, 2, 3, 4] rfl rfl ?_
        refine v_ifb_eq (tgt := 45) X dX7_copy_36 (by decide) (fun c4 => ?_) (fun c4 => ?_)
        · skip
          refine v_aload_n X dX7_copy_45 rfl ?_
          refine v_get X (fun _ h => List.mem_cons_of_mem _ (List.mem_append_left _ (List.mem_append_right _ h))) 0 rfl rfl 0 (by decide) rfl (List.mem_of_getElem? (i := 2) rfl) rfl dX7_copy_46 ?_
          refine v_iload_n X dX7_copy_49 rfl ?_
          refine res_E X (run_V X (c_X5_laneOf (g := g) (by first | assumption | omega) (by first | assumption | omega)) gX7_copy_X5_laneOf rfl hdX5_laneOf ⟨(Nat.le_of_ble_eq_true rfl), (Nat.le_of_ble_eq_true rfl)⟩ ⟨(Nat.le_of_ble_eq_true rfl), (Nat.le_of_ble_eq_true rfl)⟩ 1 rfl rfl rfl [1, 2, 3, 4] rfl rfl rfl rfl (by simp [Value.category]) dX7_copy_50) [1, 2, 3, 4] rfl rfl ?_
          refine v_aload_n X dX7_copy_53 rfl ?_
          refine v_get X (fun _ h => List.mem_cons_of_mem _ (List.mem_append_left _ (List.mem_append_right _ h))) 0 rfl rfl 0 (by decide) rfl (List.mem_of_getElem? (i := 2) rfl) rfl dX7_copy_54 ?_
          refine v_iload_n X dX7_copy_57 rfl ?_
          refine res_E X (run_V X (c_X5_laneOf (g := g) (by first | assumption | omega) (by first | assumption | omega)) gX7_copy_X5_laneOf rfl hdX5_laneOf ⟨(Nat.le_of_ble_eq_true rfl), (Nat.le_of_ble_eq_true rfl)⟩ ⟨(Nat.le_of_ble_eq_true rfl), (Nat.le_of_ble_eq_true rfl)⟩ 1 rfl rfl rfl [1, 2, 3, 4] rfl rfl rfl rfl (by simp [Value.category]) dX7_copy_58) [1, 2, 3, 4] rfl rfl ?_
          refine v_icmp_eq (tgt := 70) X dX7_copy_61 (by decide) (by omega) (by omega) (fun c5 => ?_) (fun c5 => ?_)
          · skip
            refine v_aload_n X dX7_copy_70 rfl ?_
            refine v_get X (fun _ h => List.mem_cons_of_mem _ (List.mem_append_left _ (List.mem_append_right _ h))) 0 rfl rfl 0 (by decide) rfl (List.mem_of_getElem? (i := 2) rfl) rfl dX7_copy_71 ?_
            refine v_iload_n X dX7_copy_74 rfl ?_
            refine v_iload_n X dX7_copy_75 rfl ?_
            refine v_iload X dX7_copy_76 rfl ?_
            refine res_E X (run_V X (c_X5_reaches (g := g) (by first | assumption | omega) (by first | assumption | omega) (by first | assumption | omega) (by first | assumption | omega)) gX7_copy_X5_reaches rfl hdX5_reaches ⟨(Nat.le_of_ble_eq_true rfl), (Nat.le_of_ble_eq_true rfl)⟩ ⟨(Nat.le_of_ble_eq_true rfl), (Nat.le_of_ble_eq_true rfl)⟩ 1 rfl rfl rfl [1, 2, 3, 4] rfl rfl rfl rfl (by simp [Value.category]) dX7_copy_78) [1, 2, 3, 4] rfl rfl ?_
            rw [g5]
            refine v_ifb_eq (tgt := 99) X dX7_copy_81 (by decide) (fun c6 => ?_) (fun c6 => ?_)
            · skip
              refine v_aload_n X dX7_copy_99 rfl ?_
              refine v_iconst X dX7_copy_100 ?_
              refine res_F X (run_V X (c_X7_found (g := g) ) gX7_copy_X7_found rfl hdX7_found ⟨(Nat.le_of_ble_eq_true rfl), (Nat.le_of_ble_eq_true rfl)⟩ ⟨(Nat.le_of_ble_eq_true rfl), (Nat.le_of_ble_eq_true rfl)⟩ 0 rfl rfl rfl [0] rfl rfl rfl rfl (by simp [Value.category]) dX7_copy_101) [0] rfl rfl rfl ?_
              dsimp only [patch, List.set, List.cons_append, List.nil_append, oAH, wRow]
              refine v_iret X Y dX7_copy_104 (u := (2, it)) ?_ (by rfl)
              exact Or.inr ⟨by omega, Or.inr ⟨by omega, Or.inr ⟨by omega, Or.inl ⟨by omega, rfl, rfl⟩⟩⟩⟩
            · skip
              refine v_aload_n X dX7_copy_84 rfl ?_
              refine v_get X (fun _ h => List.mem_cons_of_mem _ (List.mem_append_left _ (List.mem_append_right _ h))) 0 rfl rfl 0 (by decide) rfl (List.mem_of_getElem? (i := 2) rfl) rfl dX7_copy_85 ?_
              refine v_iload_n X dX7_copy_88 rfl ?_
              refine v_iload X dX7_copy_89 rfl ?_
              refine v_iload X dX7_copy_91 rfl ?_
              refine res_E X (run_V X (c_X5_reaches (g := g) (by first | assumption | omega) (by first | assumption | omega) (by first | assumption | omega) (by first | assumption | omega)) gX7_copy_X5_reaches rfl hdX5_reaches ⟨(Nat.le_of_ble_eq_true rfl), (Nat.le_of_ble_eq_true rfl)⟩ ⟨(Nat.le_of_ble_eq_true rfl), (Nat.le_of_ble_eq_true rfl)⟩ 1 rfl rfl rfl [1, 2, 3, 4] rfl rfl rfl rfl (by simp [Value.category]) dX7_copy_93) [1, 2, 3, 4] rfl rfl ?_
              rw [g6]
              refine v_ifb_ne (tgt := 105) X dX7_copy_96 (by decide) (fun c7 => ?_) (fun c7 => ?_)
              · skip
                refine v_aload_n X dX7_copy_105 rfl ?_
                refine v_get X (fun _ h => List.mem_cons_of_mem _ (List.mem_append_left _ (List.mem_append_right _ h))) 0 rfl rfl 0 (by decide) rfl (List.mem_of_getElem? (i := 2) rfl) rfl dX7_copy_106 ?_
                refine v_iload_n X dX7_copy_109 rfl ?_
                refine v_iload_n X dX7_copy_110 rfl ?_
                refine v_iload_n X dX7_copy_111 rfl ?_
                refine v_iload X dX7_copy_112 rfl ?_
                refine v_iload X dX7_copy_114 rfl ?_
                refine res_W X (run_V X (c_X5_move (g := g) (by first | assumption | omega) (by first | assumption | omega) (by first | assumption | omega) (by first | assumption | omega) (by first | assumption | omega) (by first | assumption | omega)) gX7_copy_X5_move rfl hdX5_move ⟨(Nat.le_of_ble_eq_true rfl), (Nat.le_of_ble_eq_true rfl)⟩ ⟨(Nat.le_of_ble_eq_true rfl), (Nat.le_of_ble_eq_true rfl)⟩ 1 rfl rfl rfl [1, 2, 3, 4] rfl rfl rfl rfl (by simp [Value.category]) dX7_copy_116) [1, 2, 3, 4] rfl rfl rfl ?_
                dsimp only [patch, List.set, List.cons_append, List.nil_append, oAH, wRow]
                refine v_aload_n X dX7_copy_119 rfl ?_
                refine v_iload X dX7_copy_120 rfl ?_
                refine res_F X (run_V X (c_X7_fine (g := g) ) gX7_copy_X7_fine rfl hdX7_fine ⟨(Nat.le_of_ble_eq_true rfl), (Nat.le_of_ble_eq_true rfl)⟩ ⟨(Nat.le_of_ble_eq_true rfl), (Nat.le_of_ble_eq_true rfl)⟩ 0 rfl rfl rfl [0] rfl rfl rfl rfl (by simp [Value.category]) dX7_copy_122) [0] rfl rfl rfl ?_
                dsimp only [patch, List.set, List.cons_append, List.nil_append, oAH, wRow]
                refine v_iret X Y dX7_copy_125 (u := (0, cpyI it it (a * 40 + i).toNat (b * 40 + j).toNat n.toNat)) ?_ (by rfl)
                exact Or.inr ⟨by omega, Or.inr ⟨by omega, Or.inr ⟨by omega, Or.inr ⟨by omega, rfl, rfl⟩⟩⟩⟩
              · skip
                refine v_aload_n X dX7_copy_99 rfl ?_
                refine v_iconst X dX7_copy_100 ?_
                refine res_F X (run_V X (c_X7_found (g := g) ) gX7_copy_X7_found rfl hdX7_found ⟨(Nat.le_of_ble_eq_true rfl), (Nat.le_of_ble_eq_true rfl)⟩ ⟨(Nat.le_of_ble_eq_true rfl), (Nat.le_of_ble_eq_true rfl)⟩ 0 rfl rfl rfl [0] rfl rfl rfl rfl (by simp [Value.category]) dX7_copy_101) [0] rfl rfl rfl ?_
                dsimp only [patch, List.set, List.cons_append, List.nil_append, oAH, wRow]
                refine v_iret X Y dX7_copy_104 (u := (2, it)) ?_ (by rfl)
                exact Or.inr ⟨by omega, Or.inr ⟨by omega, Or.inr ⟨by omega, Or.inl ⟨by omega, rfl, rfl⟩⟩⟩⟩
          · skip
            refine v_aload_n X dX7_copy_64 rfl ?_
            refine v_iconst X dX7_copy_65 ?_
            refine res_F X (run_V X (c_X7_found (g := g) ) gX7_copy_X7_found rfl hdX7_found ⟨(Nat.le_of_ble_eq_true rfl), (Nat.le_of_ble_eq_true rfl)⟩ ⟨(Nat.le_of_ble_eq_true rfl), (Nat.le_of_ble_eq_true rfl)⟩ 0 rfl rfl rfl [0] rfl rfl rfl rfl (by simp [Value.category]) dX7_copy_66) [0] rfl rfl rfl ?_
            dsimp only [patch, List.set, List.cons_append, List.nil_append, oAH, wRow]
            refine v_iret X Y dX7_copy_69 (u := (5, it)) ?_ (by rfl)
            exact Or.inr ⟨by omega, Or.inr ⟨by omega, Or.inl ⟨by omega, rfl, rfl⟩⟩⟩
        · skip
          refine v_aload_n X dX7_copy_39 rfl ?_
          refine v_iconst X dX7_copy_40 ?_
          refine res_F X (run_V X (c_X7_found (g := g) ) gX7_copy_X7_found rfl hdX7_found ⟨(Nat.le_of_ble_eq_true rfl), (Nat.le_of_ble_eq_true rfl)⟩ ⟨(Nat.le_of_ble_eq_true rfl), (Nat.le_of_ble_eq_true rfl)⟩ 0 rfl rfl rfl [0] rfl rfl rfl rfl (by simp [Value.category]) dX7_copy_41) [0] rfl rfl rfl ?_
          dsimp only [patch, List.set, List.cons_append, List.nil_append, oAH, wRow]
          refine v_iret X Y dX7_copy_44 (u := (1, it)) ?_ (by rfl)
          exact Or.inr ⟨by omega, Or.inl ⟨by omega, rfl, rfl⟩⟩
    · skip
      refine v_ldc X (List.mem_of_getElem? (i := 1) rfl) dX7_copy_14 (n := -1000001) (by decide) ?_
      refine v_iret X Y dX7_copy_16 (u := (fi, it)) ?_ (by rfl)
      exact Or.inl ⟨by omega, rfl, rfl⟩

theorem hdX8_kind : yX8_kind.cls = RX8 ∧ yX8_kind.cls ≠ "java/lang/invoke/MethodHandle" ∧ yX8_kind.cls ≠ "java/lang/invoke/VarHandle" ∧ (parseMethodDescriptor yX8_kind.desc).map (fun d => d.parameters.length) = some 1 := ⟨rfl, by decide +kernel, by decide +kernel, by decide +kernel⟩
set_option maxHeartbeats 4000000 in
set_option maxRecDepth 100000 in
theorem c_X8_kind {g : Gx} {A : Nat → Nat} {th sq ac td lt ln cu tk sa ti ft fp le lf tr : Int} {fl fm fi fc ff fw ftp fk fe fr : Nat → Int} {h : Int} (hfc : Bd 0 60 fc) (hc1 : 0 ≤ fc 1 ∧ fc 1 ≤ 4) (hh : R32 h) : CtE g yX8_kind wsX8_kind 2 46 [.ref (A 0), .int (iI h)] (wMod g A th sq ac td lt ln cu tk sa ti ft fp le lf tr fl fm fi fc ff fw ftp fk fe fr) (if 0 ≤ h ∧ h < fc 1 then atI 4 (kM fc) h else -1000001) (wMod g A (0) sq ac td lt ln cu tk sa ti ft fp le lf tr fl fm fi fc ff fw ftp fk fe fr) := by
  refine m_go (cc := cX8_kind) (nL := 2) (by decide +kernel) rfl (Nat.le_of_ble_eq_true rfl) (fun x X Y hnm => ?_)
  refine v_eq (lo2 := [some (.ref (A 0)), some (.int (iI h))]) rfl rfl rfl rfl ?_
  refine v_aload_n X dX8_kind_0 rfl ?_
  refine v_iconst X dX8_kind_1 ?_
  refine v_put X (fun _ h => List.mem_cons_of_mem _ (List.mem_append_right _ h)) tyX8 tyX8_ok nmX8 0 rfl rfl 0 (by decide) rfl (List.mem_of_getElem? (i := 1) rfl) rfl rfl rfl (Nat.le_of_ble_eq_true rfl) dX8_kind_2 ?_
  dsimp only [List.set, wMod]
  refine v_aload_n X dX8_kind_5 rfl ?_
  refine v_iload_n X dX8_kind_6 rfl ?_
  refine res_E X (run_V X (c_X8_isHand (g := g) (by first | assumption | omega) (by first | assumption | omega)) gX8_kind_X8_isHand rfl hdX8_isHand ⟨(Nat.le_of_ble_eq_true rfl), (Nat.le_of_ble_eq_true rfl)⟩ ⟨(Nat.le_of_ble_eq_true rfl), (Nat.le_of_ble_eq_true rfl)⟩ 0 rfl rfl rfl [0, 1, 2, 3, 4, 5, 6, 7, 8, 9, 10] rfl rfl rfl rfl (by simp [Value.category]) dX8_kind_7) [0, 1, 2, 3, 4, 5, 6, 7, 8, 9, 10] rfl rfl ?_
  refine v_ifb_eq (tgt := 22) X dX8_kind_10 (by decide) (fun c1 => ?_) (fun c1 => ?_)
  · skip
    refine v_ldc X (List.mem_of_getElem? (i := 2) rfl) dX8_kind_22 (n := -1000001) (by decide) ?_
    exact v_iret X Y dX8_kind_24 (u := ()) (by first | rw [if_pos (by assumption)] | rw [if_neg (by assumption)]) (by rfl)
  · skip
    refine v_aload_n X dX8_kind_13 rfl ?_
    refine v_iload_n X dX8_kind_14 rfl ?_
    refine v_iconst X dX8_kind_15 ?_
    refine res_E X (run_V X (c_X8_of (g := g) (by first | assumption | omega) (by first | assumption | omega) (by first | assumption | omega)) gX8_kind_X8_of rfl hdX8_of ⟨(Nat.le_of_ble_eq_true rfl), (Nat.le_of_ble_eq_true rfl)⟩ ⟨(Nat.le_of_ble_eq_true rfl), (Nat.le_of_ble_eq_true rfl)⟩ 0 rfl rfl rfl [0, 1, 2, 3, 4, 5, 6, 7, 8, 9, 10] rfl rfl rfl rfl (by simp [Value.category]) dX8_kind_16) [0, 1, 2, 3, 4, 5, 6, 7, 8, 9, 10] rfl rfl ?_
    rw [kM_at (fc := fc) (h := h) (by omega)]
    refine v_goto (tgt := 24) X dX8_kind_19 (by decide) ?_
    exact v_iret X Y dX8_kind_24 (u := ()) (by first | rw [if_pos (by assumption)] | rw [if_neg (by assumption)]) (by rfl)

theorem hdX8_as : yX8_as.cls = RX8 ∧ yX8_as.cls ≠ "java/lang/invoke/MethodHandle" ∧ yX8_as.cls ≠ "java/lang/invoke/VarHandle" ∧ (parseMethodDescriptor yX8_as.desc).map (fun d => d.parameters.length) = some 2 := ⟨rfl, by decide +kernel, by decide +kernel, by decide +kernel⟩
set_option maxHeartbeats 4000000 in
set_option maxRecDepth 100000 in
theorem c_X8_as {g : Gx} {A : Nat → Nat} {th sq ac td lt ln cu tk sa ti ft fp le lf tr : Int} {fl fm fi fc ff fw ftp fk fe fr : Nat → Int} {h w : Int} (hfc : Bd 0 60 fc) (hc1 : 0 ≤ fc 1 ∧ fc 1 ≤ 4) (hh : R32 h) (hw : R32 w) : CtI (S := Int) g yX8_as wsX8_as 2 46 [.ref (A 0), .int (iI h), .int (iI w)] (wMod g A th sq ac td lt ln cu tk sa ti ft fp le lf tr fl fm fi fc ff fw ftp fk fe fr) (fun v u => (¬ ((0 ≤ h ∧ h < fc 1) ∧ 0 ≤ w ∧ w ≤ 5) ∧ v = -1000001 ∧ u = sq) ∨ (((0 ≤ h ∧ h < fc 1) ∧ 0 ≤ w ∧ w ≤ 5) ∧ ((okM (atI 4 (kM fc) h) w ∧ v = h ∧ u = 0) ∨ (¬ okM (atI 4 (kM fc) h) w ∧ v = -1000013 ∧ u = 3)))) (fun u => wMod g A (0) (u) ac td lt ln cu tk sa ti ft fp le lf tr fl fm fi fc ff fw ftp fk fe fr) := by
  refine m_go (cc := cX8_as) (nL := 3) (by decide +kernel) rfl (Nat.le_of_ble_eq_true rfl) (fun x X Y hnm => ?_)
  refine v_eq (lo2 := [some (.ref (A 0)), some (.int (iI h)), some (.int (iI w))]) rfl rfl rfl rfl ?_
  refine v_aload_n X dX8_as_0 rfl ?_
  refine v_iconst X dX8_as_1 ?_
  refine v_put X (fun _ h => List.mem_cons_of_mem _ (List.mem_append_right _ h)) tyX8 tyX8_ok nmX8 0 rfl rfl 0 (by decide) rfl (List.mem_of_getElem? (i := 1) rfl) rfl rfl rfl (Nat.le_of_ble_eq_true rfl) dX8_as_2 ?_
  dsimp only [List.set, wMod]
  refine v_aload_n X dX8_as_5 rfl ?_
  refine v_iload_n X dX8_as_6 rfl ?_
  refine res_E X (run_V X (c_X8_isHand (g := g) (by first | assumption | omega) (by first | assumption | omega)) gX8_as_X8_isHand rfl hdX8_isHand ⟨(Nat.le_of_ble_eq_true rfl), (Nat.le_of_ble_eq_true rfl)⟩ ⟨(Nat.le_of_ble_eq_true rfl), (Nat.le_of_ble_eq_true rfl)⟩ 0 rfl rfl rfl [0, 1, 2, 3, 4, 5, 6, 7, 8, 9, 10] rfl rfl rfl rfl (by simp [Value.category]) dX8_as_7) [0, 1, 2, 3, 4, 5, 6, 7, 8, 9, 10] rfl rfl ?_
  refine v_ifb_eq (tgt := 25) X dX8_as_10 (by decide) (fun c1 => ?_) (fun c1 => ?_)
  · skip
    refine v_ldc X (List.mem_of_getElem? (i := 3) rfl) dX8_as_25 (n := -1000001) (by decide) ?_
    refine v_iret X Y dX8_as_27 (u := sq) ?_ (by rfl)
    first | exact Or.inl ⟨by omega, rfl, rfl⟩ | exact Or.inr ⟨by omega, Or.inl ⟨by unfold okM; assumption, rfl, rfl⟩⟩ | exact Or.inr ⟨by omega, Or.inr ⟨by unfold okM; assumption, rfl, rfl⟩⟩
  · skip
    refine v_iload_n X dX8_as_13 rfl ?_
    refine v_i2l X dX8_as_14 (by omega) ?_
    refine v_lconst0 X dX8_as_15 ?_
    refine v_ldc2 X (List.mem_of_getElem? (i := 2) rfl) dX8_as_16 (n := 5) (by decide) ?_
    refine res_E X (run_S X (c_X8_in (g := g) (by first | assumption | omega) (by first | assumption | omega) (by first | assumption | omega)) gX8_as_X8_in rfl hdX8_in.2 ⟨(Nat.le_of_ble_eq_true rfl), (Nat.le_of_ble_eq_true rfl)⟩ ⟨(Nat.le_of_ble_eq_true rfl), (Nat.le_of_ble_eq_true rfl)⟩ [] rfl rfl rfl rfl (by simp [Value.category]) dX8_as_19) [] rfl rfl ?_
    refine v_ifb_ne (tgt := 28) X dX8_as_22 (by decide) (fun c2 => ?_) (fun c2 => ?_)
    · skip
      refine v_aload_n X dX8_as_28 rfl ?_
      refine v_iconst X dX8_as_29 ?_
      refine v_put X (fun _ h => List.mem_cons_of_mem _ (List.mem_append_right _ h)) tyX8 tyX8_ok nmX8 0 rfl rfl 1 (by decide) rfl (List.mem_of_getElem? (i := 4) rfl) rfl rfl rfl (Nat.le_of_ble_eq_true rfl) dX8_as_30 ?_
      dsimp only [List.set, wMod]
      refine v_aload_n X dX8_as_33 rfl ?_
      refine v_iload_n X dX8_as_34 rfl ?_
      refine v_iconst X dX8_as_35 ?_
      refine res_E X (run_V X (c_X8_of (g := g) (by first | assumption | omega) (by first | assumption | omega) (by first | assumption | omega)) gX8_as_X8_of rfl hdX8_of ⟨(Nat.le_of_ble_eq_true rfl), (Nat.le_of_ble_eq_true rfl)⟩ ⟨(Nat.le_of_ble_eq_true rfl), (Nat.le_of_ble_eq_true rfl)⟩ 0 rfl rfl rfl [0, 1, 2, 3, 4, 5, 6, 7, 8, 9, 10] rfl rfl rfl rfl (by simp [Value.category]) dX8_as_36) [0, 1, 2, 3, 4, 5, 6, 7, 8, 9, 10] rfl rfl ?_
      rw [kM_at (fc := fc) (h := h) (by omega)]
      have q3 := atI_bd (cn := 4) (h := h) (f := kM fc) (lo := 0) (hi := 60) (fun j => hfc _) (by omega) (by omega)
      refine v_iload_n X dX8_as_39 rfl ?_
      refine res_E X (run_S X (c_X8_isOf (g := g) (by first | assumption | omega) (by first | assumption | omega)) gX8_as_X8_isOf rfl hdX8_isOf.2 ⟨(Nat.le_of_ble_eq_true rfl), (Nat.le_of_ble_eq_true rfl)⟩ ⟨(Nat.le_of_ble_eq_true rfl), (Nat.le_of_ble_eq_true rfl)⟩ [] rfl rfl rfl rfl (by simp [Value.category]) dX8_as_40) [] rfl rfl ?_
      refine v_ifb_eq (tgt := 50) X dX8_as_43 (by decide) (fun c3 => ?_) (fun c3 => ?_)
      · skip
        refine v_aload_n X dX8_as_50 rfl ?_
        refine v_iconst X dX8_as_51 ?_
        refine res_F X (run_V X (c_X8_finding (g := g) ) gX8_as_X8_finding rfl hdX8_finding ⟨(Nat.le_of_ble_eq_true rfl), (Nat.le_of_ble_eq_true rfl)⟩ ⟨(Nat.le_of_ble_eq_true rfl), (Nat.le_of_ble_eq_true rfl)⟩ 0 rfl rfl rfl [0, 1, 2, 3, 4, 5, 6, 7, 8, 9, 10] rfl rfl rfl rfl (by simp [Value.category]) dX8_as_52) [0, 1, 2, 3, 4, 5, 6, 7, 8, 9, 10] rfl rfl rfl ?_
        dsimp only [patch, List.set, wMod]
        refine v_iret X Y dX8_as_55 (u := _) ?_ (by rfl)
        first | exact Or.inl ⟨by omega, rfl, rfl⟩ | exact Or.inr ⟨by omega, Or.inl ⟨by unfold okM; assumption, rfl, rfl⟩⟩ | exact Or.inr ⟨by omega, Or.inr ⟨by unfold okM; assumption, rfl, rfl⟩⟩
      · skip
        refine v_iload_n X dX8_as_46 rfl ?_
        refine v_goto (tgt := 55) X dX8_as_47 (by decide) ?_
        refine v_iret X Y dX8_as_55 (u := _) ?_ (by rfl)
        first | exact Or.inl ⟨by omega, rfl, rfl⟩ | exact Or.inr ⟨by omega, Or.inl ⟨by unfold okM; assumption, rfl, rfl⟩⟩ | exact Or.inr ⟨by omega, Or.inr ⟨by unfold okM; assumption, rfl, rfl⟩⟩
    · skip
      refine v_ldc X (List.mem_of_getElem? (i := 3) rfl) dX8_as_25 (n := -1000001) (by decide) ?_
      refine v_iret X Y dX8_as_27 (u := sq) ?_ (by rfl)
      first | exact Or.inl ⟨by omega, rfl, rfl⟩ | exact Or.inr ⟨by omega, Or.inl ⟨by unfold okM; assumption, rfl, rfl⟩⟩ | exact Or.inr ⟨by omega, Or.inr ⟨by unfold okM; assumption, rfl, rfl⟩⟩

theorem hdX8_fault : yX8_fault.cls = RX8 ∧ yX8_fault.cls ≠ "java/lang/invoke/MethodHandle" ∧ yX8_fault.cls ≠ "java/lang/invoke/VarHandle" ∧ (parseMethodDescriptor yX8_fault.desc).map (fun d => d.parameters.length) = some 0 := ⟨rfl, by decide +kernel, by decide +kernel, by decide +kernel⟩
set_option maxHeartbeats 4000000 in
set_option maxRecDepth 100000 in
theorem c_X8_fault {g : Gx} {A : Nat → Nat} {th sq ac td lt ln cu tk sa ti ft fp le lf tr : Int} {fl fm fi fc ff fw ftp fk fe fr : Nat → Int}   : CtE g yX8_fault wsX8_fault 0 0 [.ref (A 0)] (wMod g A th sq ac td lt ln cu tk sa ti ft fp le lf tr fl fm fi fc ff fw ftp fk fe fr) (lt) (wMod g A (0) sq ac td lt ln cu tk sa ti ft fp le lf tr fl fm fi fc ff fw ftp fk fe fr) := by
  refine m_go (cc := cX8_fault) (nL := 1) (by decide +kernel) rfl (Nat.le_of_ble_eq_true rfl) (fun x X Y hnm => ?_)
  refine v_eq (lo2 := [some (.ref (A 0))]) rfl rfl rfl rfl ?_
  refine v_aload_n X dX8_fault_0 rfl ?_
  refine v_iconst X dX8_fault_1 ?_
  refine v_put X (fun _ h => List.mem_cons_of_mem _ (List.mem_append_right _ h)) tyX8 tyX8_ok nmX8 0 rfl rfl 0 (by decide) rfl (List.mem_of_getElem? (i := 1) rfl) rfl rfl rfl (Nat.le_of_ble_eq_true rfl) dX8_fault_2 ?_
  dsimp only [List.set, wMod]
  refine v_aload_n X dX8_fault_5 rfl ?_
  refine v_get X (fun _ h => List.mem_cons_of_mem _ (List.mem_append_right _ h)) 0 rfl rfl 11 (by decide) rfl (List.mem_of_getElem? (i := 2) rfl) rfl dX8_fault_6 ?_
  exact v_iret X Y dX8_fault_9 (u := ()) (by first | rfl | omega | (split <;> omega) | (simp [*]; done)) (by rfl)

theorem hdX8_status : yX8_status.cls = RX8 ∧ yX8_status.cls ≠ "java/lang/invoke/MethodHandle" ∧ yX8_status.cls ≠ "java/lang/invoke/VarHandle" ∧ (parseMethodDescriptor yX8_status.desc).map (fun d => d.parameters.length) = some 0 := ⟨rfl, by decide +kernel, by decide +kernel, by decide +kernel⟩
set_option maxHeartbeats 4000000 in
set_option maxRecDepth 100000 in
theorem c_X8_status {g : Gx} {A : Nat → Nat} {th sq ac td lt ln cu tk sa ti ft fp le lf tr : Int} {fl fm fi fc ff fw ftp fk fe fr : Nat → Int}   : CtE g yX8_status wsX8_status 0 0 [.ref (A 0)] (wMod g A th sq ac td lt ln cu tk sa ti ft fp le lf tr fl fm fi fc ff fw ftp fk fe fr) (sq) (wMod g A (0) sq ac td lt ln cu tk sa ti ft fp le lf tr fl fm fi fc ff fw ftp fk fe fr) := by
  refine m_go (cc := cX8_status) (nL := 1) (by decide +kernel) rfl (Nat.le_of_ble_eq_true rfl) (fun x X Y hnm => ?_)
  refine v_eq (lo2 := [some (.ref (A 0))]) rfl rfl rfl rfl ?_
  refine v_aload_n X dX8_status_0 rfl ?_
  refine v_iconst X dX8_status_1 ?_
  refine v_put X (fun _ h => List.mem_cons_of_mem _ (List.mem_append_right _ h)) tyX8 tyX8_ok nmX8 0 rfl rfl 0 (by decide) rfl (List.mem_of_getElem? (i := 1) rfl) rfl rfl rfl (Nat.le_of_ble_eq_true rfl) dX8_status_2 ?_
  dsimp only [List.set, wMod]
  refine v_aload_n X dX8_status_5 rfl ?_
  refine v_get X (fun _ h => List.mem_cons_of_mem _ (List.mem_append_right _ h)) 0 rfl rfl 1 (by decide) rfl (List.mem_of_getElem? (i := 2) rfl) rfl dX8_status_6 ?_
  exact v_iret X Y dX8_status_9 (u := ()) (by first | rfl | omega | (split <;> omega) | (simp [*]; done)) (by rfl)

