theorem hdX8_began : yX8_began.cls = RX8 ∧ yX8_began.cls ≠ "java/lang/invoke/MethodHandle" ∧ yX8_began.cls ≠ "java/lang/invoke/VarHandle" ∧ (parseMethodDescriptor yX8_began.desc).map (fun d => d.parameters.length) = some 1 := ⟨rfl, by decide +kernel, by decide +kernel, by decide +kernel⟩
set_option maxHeartbeats 4000000 in
set_option maxRecDepth 100000 in
theorem c_X8_began {g : Gx} {A : Nat → Nat} {th sq ac td lt ln cu tk sa ti ft fp le lf tr : Int} {fl fm fi fc ff fw ftp fk fe fr : Nat → Int} {b : Int} (htr : 0 ≤ tr ∧ tr ≤ 16) : CtW g yX8_began wsX8_began 0 0 [.ref (A 0), .int (iI b)] (wMod g A th sq ac td lt ln cu tk sa ti ft fp le lf tr fl fm fi fc ff fw ftp fk fe fr) (wMod g A th sq ac td lt ln cu tk sa ti ft fp le lf ((lvT (fr, tr) b).2) fl fm fi fc ff fw ftp fk fe ((lvT (fr, tr) b).1)) := by
  refine m_go (cc := cX8_began) (nL := 2) (by decide +kernel) rfl (Nat.le_of_ble_eq_true rfl) (fun x X Y hnm => ?_)
  refine v_eq (lo2 := [some (.ref (A 0)), some (.int (iI b))]) rfl rfl rfl rfl ?_
  refine v_aload_n X dX8_began_0 rfl ?_
  refine v_get X (fun _ h => List.mem_cons_of_mem _ (List.mem_append_right _ h)) 0 rfl rfl 24 (by decide) rfl (List.mem_of_getElem? (i := 1) rfl) rfl dX8_began_1 ?_
  refine v_bipush X dX8_began_4 (by decide) ?_
  refine v_icmp_ge (tgt := 29) X dX8_began_6 (by decide) (by omega) (by omega) (fun c1 => ?_) (fun c1 => ?_)
  · skip
    exact v_vret X Y dX8_began_29 (u := ()) trivial (by unfold lvT; (first | rw [if_pos (by assumption)] | rw [if_neg (by show ¬ tr < 16; omega)]) <;> rfl)
  · skip
    refine v_aload_n X dX8_began_9 rfl ?_
    refine v_get X (fun _ h => List.mem_cons_of_mem _ (List.mem_append_right _ h)) 0 rfl rfl 23 (by decide) rfl (List.mem_of_getElem? (i := 2) rfl) rfl dX8_began_10 ?_
    refine v_aload_n X dX8_began_13 rfl ?_
    refine v_get X (fun _ h => List.mem_cons_of_mem _ (List.mem_append_right _ h)) 0 rfl rfl 24 (by decide) rfl (List.mem_of_getElem? (i := 1) rfl) rfl dX8_began_14 ?_
    refine v_iload_n X dX8_began_17 rfl ?_
    refine v_iast X 10 rfl (by omega) (by omega) (by omega) dX8_began_18 ?_
    dsimp only [List.set, wMod]
    refine v_aload_n X dX8_began_19 rfl ?_
    refine v_dup X dX8_began_20 rfl ?_
    refine v_get X (fun _ h => List.mem_cons_of_mem _ (List.mem_append_right _ h)) 0 rfl rfl 24 (by decide) rfl (List.mem_of_getElem? (i := 1) rfl) rfl dX8_began_21 ?_
    refine v_iconst X dX8_began_24 ?_
    refine v_iadd X dX8_began_25 ?_
    refine v_put X (fun _ h => List.mem_cons_of_mem _ (List.mem_append_right _ h)) tyX8 tyX8_ok nmX8 0 rfl rfl 24 (by decide) rfl (List.mem_of_getElem? (i := 1) rfl) rfl rfl rfl (Nat.le_of_ble_eq_true rfl) dX8_began_26 ?_
    dsimp only [List.set, wMod]
    exact v_vret X Y dX8_began_29 (u := ()) trivial (by unfold lvT; (first | rw [if_pos (by assumption)] | rw [if_neg (by show ¬ tr < 16; omega)]) <;> rfl)

theorem hdX8_plainSize : yX8_plainSize.cls = RX8 ∧ yX8_plainSize.cls ≠ "java/lang/invoke/MethodHandle" ∧ yX8_plainSize.cls ≠ "java/lang/invoke/VarHandle" ∧ (parseMethodDescriptor yX8_plainSize.desc).map (fun d => d.parameters.length) = some 1 := ⟨rfl, by decide +kernel, by decide +kernel, by decide +kernel⟩
set_option maxHeartbeats 4000000 in
set_option maxRecDepth 100000 in
theorem c_X8_plainSize {g : Gx} {A : Nat → Nat} {th sq ac td lt ln cu tk sa ti ft fp le lf tr : Int} {fl fm fi fc ff fw ftp fk fe fr : Nat → Int} {h : Int} (hfc : Bd 0 60 fc) (htr : 0 ≤ tr ∧ tr ≤ 16) (hh : 0 ≤ h ∧ h ≤ 3) : CtE g yX8_plainSize wsX8_plainSize 1 22 [.ref (A 0), .int (iI h)] (wMod g A th sq ac td lt ln cu tk sa ti ft fp le lf tr fl fm fi fc ff fw ftp fk fe fr) (atI 4 (tM fc) h) (wMod g A th sq ac td lt ln cu tk sa ti ft fp le lf ((lvT (fr, tr) 10).2) fl fm fi fc ff fw ftp fk fe ((lvT (fr, tr) 10).1)) := by
  refine m_go (cc := cX8_plainSize) (nL := 2) (by decide +kernel) rfl (Nat.le_of_ble_eq_true rfl) (fun x X Y hnm => ?_)
  refine v_eq (lo2 := [some (.ref (A 0)), some (.int (iI h))]) rfl rfl rfl rfl ?_
  refine v_aload_n X dX8_plainSize_0 rfl ?_
  refine v_bipush X dX8_plainSize_1 (by decide) ?_
  refine res_W X (run_V X (c_X8_began (g := g) (by first | assumption | exact ⟨by decide, by decide⟩ | (apply lvT_bd; exact ⟨by decide, by decide⟩) | (apply lvT_bd; apply lvT_bd; exact ⟨by decide, by decide⟩) | (apply lvT_bd; assumption) | (apply lvT_bd; apply lvT_bd; assumption) | (apply lvT_bd; apply lvT_bd; apply lvT_bd; assumption))) gX8_plainSize_X8_began rfl hdX8_began ⟨(Nat.le_of_ble_eq_true rfl), (Nat.le_of_ble_eq_true rfl)⟩ ⟨(Nat.le_of_ble_eq_true rfl), (Nat.le_of_ble_eq_true rfl)⟩ 0 rfl rfl rfl [0, 1, 2, 3, 4, 5, 6, 7, 8, 9, 10] rfl rfl rfl rfl (by simp [Value.category]) dX8_plainSize_3) [0, 1, 2, 3, 4, 5, 6, 7, 8, 9, 10] rfl rfl rfl ?_
  dsimp only [patch, List.set, wMod]
  refine v_aload_n X dX8_plainSize_6 rfl ?_
  refine v_iload_n X dX8_plainSize_7 rfl ?_
  refine v_iconst X dX8_plainSize_8 ?_
  refine res_E X (run_V X (c_X8_of (g := g) (by first | assumption | omega) (by first | assumption | omega) (by first | assumption | omega)) gX8_plainSize_X8_of rfl hdX8_of ⟨(Nat.le_of_ble_eq_true rfl), (Nat.le_of_ble_eq_true rfl)⟩ ⟨(Nat.le_of_ble_eq_true rfl), (Nat.le_of_ble_eq_true rfl)⟩ 0 rfl rfl rfl [0, 1, 2, 3, 4, 5, 6, 7, 8, 9, 10] rfl rfl rfl rfl (by simp [Value.category]) dX8_plainSize_9) [0, 1, 2, 3, 4, 5, 6, 7, 8, 9, 10] rfl rfl ?_
  rw [tM_at (fc := fc) (h := h) hh]
  exact v_iret X Y dX8_plainSize_12 (u := ()) (by first | rfl | omega | (split <;> omega) | (simp [*]; done)) (by rfl)

theorem hdX8_backSize : yX8_backSize.cls = RX8 ∧ yX8_backSize.cls ≠ "java/lang/invoke/MethodHandle" ∧ yX8_backSize.cls ≠ "java/lang/invoke/VarHandle" ∧ (parseMethodDescriptor yX8_backSize.desc).map (fun d => d.parameters.length) = some 1 := ⟨rfl, by decide +kernel, by decide +kernel, by decide +kernel⟩
set_option maxHeartbeats 4000000 in
set_option maxRecDepth 100000 in
theorem c_X8_backSize {g : Gx} {A : Nat → Nat} {th sq ac td lt ln cu tk sa ti ft fp le lf tr : Int} {fl fm fi fc ff fw ftp fk fe fr : Nat → Int} {h : Int} (hfc : Bd 0 60 fc) (htr : 0 ≤ tr ∧ tr ≤ 16) (hh : 0 ≤ h ∧ h ≤ 3) : CtE g yX8_backSize wsX8_backSize 2 43 [.ref (A 0), .int (iI h)] (wMod g A th sq ac td lt ln cu tk sa ti ft fp le lf tr fl fm fi fc ff fw ftp fk fe fr) (bSz 4 (kM fc) (tM fc) h) (wMod g A th sq ac td lt ln cu tk sa ti ft fp le lf ((bSzT 4 (kM fc) h (fr, tr)).2) fl fm fi fc ff fw ftp fk fe ((bSzT 4 (kM fc) h (fr, tr)).1)) := by
  refine m_go (cc := cX8_backSize) (nL := 3) (by decide +kernel) rfl (Nat.le_of_ble_eq_true rfl) (fun x X Y hnm => ?_)
  refine v_eq (lo2 := [some (.ref (A 0)), some (.int (iI h)), none]) rfl rfl rfl rfl ?_
  have q1 := atI_bd (cn := 4) (h := h) (f := kM fc) (lo := 0) (hi := 60) (fun j => hfc _) (by omega) (by omega)
  have q2 := atI_bd (cn := 4) (h := h) (f := tM fc) (lo := 0) (hi := 60) (fun j => hfc _) (by omega) (by omega)
  have q3 := atI_bd (cn := 4) (h := h) (f := sM fc) (lo := 0) (hi := 60) (fun j => hfc _) (by omega) (by omega)
  refine v_aload_n X dX8_backSize_0 rfl ?_
  refine v_iload_n X dX8_backSize_1 rfl ?_
  refine v_iconst X dX8_backSize_2 ?_
  refine res_E X (run_V X (c_X8_of (g := g) (by first | assumption | omega) (by first | assumption | omega) (by first | assumption | omega)) gX8_backSize_X8_of rfl hdX8_of ⟨(Nat.le_of_ble_eq_true rfl), (Nat.le_of_ble_eq_true rfl)⟩ ⟨(Nat.le_of_ble_eq_true rfl), (Nat.le_of_ble_eq_true rfl)⟩ 0 rfl rfl rfl [0, 1, 2, 3, 4, 5, 6, 7, 8, 9, 10] rfl rfl rfl rfl (by simp [Value.category]) dX8_backSize_3) [0, 1, 2, 3, 4, 5, 6, 7, 8, 9, 10] rfl rfl ?_
  rw [kM_at (fc := fc) (h := h) hh]
  refine v_iconst X dX8_backSize_6 ?_
  refine v_icmp_ne (tgt := 16) X dX8_backSize_7 (by decide) (by omega) (by omega) (fun c1 => ?_) (fun c1 => ?_)
  · skip
    refine v_aload_n X dX8_backSize_16 rfl ?_
    refine v_bipush X dX8_backSize_17 (by decide) ?_
    refine res_W X (run_V X (c_X8_began (g := g) (by first | assumption | exact ⟨by decide, by decide⟩ | (apply lvT_bd; exact ⟨by decide, by decide⟩) | (apply lvT_bd; apply lvT_bd; exact ⟨by decide, by decide⟩) | (apply lvT_bd; assumption) | (apply lvT_bd; apply lvT_bd; assumption) | (apply lvT_bd; apply lvT_bd; apply lvT_bd; assumption))) gX8_backSize_X8_began rfl hdX8_began ⟨(Nat.le_of_ble_eq_true rfl), (Nat.le_of_ble_eq_true rfl)⟩ ⟨(Nat.le_of_ble_eq_true rfl), (Nat.le_of_ble_eq_true rfl)⟩ 0 rfl rfl rfl [0, 1, 2, 3, 4, 5, 6, 7, 8, 9, 10] rfl rfl rfl rfl (by simp [Value.category]) dX8_backSize_19) [0, 1, 2, 3, 4, 5, 6, 7, 8, 9, 10] rfl rfl rfl ?_
    dsimp only [patch, List.set, wMod]
    refine v_aload_n X dX8_backSize_22 rfl ?_
    refine v_iload_n X dX8_backSize_23 rfl ?_
    refine res_F X (run_V X (c_X8_plainSize (g := g) (by first | assumption | omega) (by first | assumption | exact ⟨by decide, by decide⟩ | (apply lvT_bd; exact ⟨by decide, by decide⟩) | (apply lvT_bd; apply lvT_bd; exact ⟨by decide, by decide⟩) | (apply lvT_bd; assumption) | (apply lvT_bd; apply lvT_bd; assumption) | (apply lvT_bd; apply lvT_bd; apply lvT_bd; assumption)) (by first | assumption | omega)) gX8_backSize_X8_plainSize rfl hdX8_plainSize ⟨(Nat.le_of_ble_eq_true rfl), (Nat.le_of_ble_eq_true rfl)⟩ ⟨(Nat.le_of_ble_eq_true rfl), (Nat.le_of_ble_eq_true rfl)⟩ 0 rfl rfl rfl [0, 1, 2, 3, 4, 5, 6, 7, 8, 9, 10] rfl rfl rfl rfl (by simp [Value.category]) dX8_backSize_24) [0, 1, 2, 3, 4, 5, 6, 7, 8, 9, 10] rfl rfl rfl ?_
    dsimp only [patch, List.set, wMod]
    refine v_bipush X dX8_backSize_27 (by decide) ?_
    refine v_isub X dX8_backSize_29 ?_
    refine v_istore_n X dX8_backSize_30 2 rfl (by decide) rfl ?_
    dsimp only [List.set]
    refine v_aload_n X dX8_backSize_31 rfl ?_
    refine v_iload_n X dX8_backSize_32 rfl ?_
    refine v_iconst X dX8_backSize_33 ?_
    refine res_E X (run_V X (c_X8_of (g := g) (by first | assumption | omega) (by first | assumption | omega) (by first | assumption | omega)) gX8_backSize_X8_of rfl hdX8_of ⟨(Nat.le_of_ble_eq_true rfl), (Nat.le_of_ble_eq_true rfl)⟩ ⟨(Nat.le_of_ble_eq_true rfl), (Nat.le_of_ble_eq_true rfl)⟩ 0 rfl rfl rfl [0, 1, 2, 3, 4, 5, 6, 7, 8, 9, 10] rfl rfl rfl rfl (by simp [Value.category]) dX8_backSize_34) [0, 1, 2, 3, 4, 5, 6, 7, 8, 9, 10] rfl rfl ?_
    rw [kM_at (fc := fc) (h := h) hh]
    refine v_iconst X dX8_backSize_37 ?_
    refine v_icmp_ne (tgt := 47) X dX8_backSize_38 (by decide) (by omega) (by omega) (fun c2 => ?_) (fun c2 => ?_)
    · skip
      refine v_iload_n X dX8_backSize_47 rfl ?_
      exact v_iret X Y dX8_backSize_48 (u := ()) (by first | (exfalso; omega) | (unfold bSz; first | rw [if_pos (by omega)] | (rw [if_neg (by omega), if_pos (by omega)]) | (rw [if_neg (by omega), if_neg (by omega)]) | (rw [if_neg (by omega)]))) (by (first | (exfalso; omega) | (unfold bSzT; first | rw [if_pos (by omega)] | (rw [if_neg (by omega), if_pos (by omega)]) | (rw [if_neg (by omega), if_neg (by omega)]) | (rw [if_neg (by omega)]))) <;> rfl)
    · skip
      refine v_iconst X dX8_backSize_41 ?_
      refine v_iload_n X dX8_backSize_42 rfl ?_
      refine v_imul X dX8_backSize_43 ?_
      refine v_goto (tgt := 48) X dX8_backSize_44 (by decide) ?_
      exact v_iret X Y dX8_backSize_48 (u := ()) (by first | (exfalso; omega) | (unfold bSz; first | rw [if_pos (by omega)] | (rw [if_neg (by omega), if_pos (by omega)]) | (rw [if_neg (by omega), if_neg (by omega)]) | (rw [if_neg (by omega)]))) (by (first | (exfalso; omega) | (unfold bSzT; first | rw [if_pos (by omega)] | (rw [if_neg (by omega), if_pos (by omega)]) | (rw [if_neg (by omega), if_neg (by omega)]) | (rw [if_neg (by omega)]))) <;> rfl)
  · skip
    refine v_aload_n X dX8_backSize_10 rfl ?_
    refine v_bipush X dX8_backSize_11 (by decide) ?_
    refine res_W X (run_V X (c_X8_began (g := g) (by first | assumption | exact ⟨by decide, by decide⟩ | (apply lvT_bd; exact ⟨by decide, by decide⟩) | (apply lvT_bd; apply lvT_bd; exact ⟨by decide, by decide⟩) | (apply lvT_bd; assumption) | (apply lvT_bd; apply lvT_bd; assumption) | (apply lvT_bd; apply lvT_bd; apply lvT_bd; assumption))) gX8_backSize_X8_began rfl hdX8_began ⟨(Nat.le_of_ble_eq_true rfl), (Nat.le_of_ble_eq_true rfl)⟩ ⟨(Nat.le_of_ble_eq_true rfl), (Nat.le_of_ble_eq_true rfl)⟩ 0 rfl rfl rfl [0, 1, 2, 3, 4, 5, 6, 7, 8, 9, 10] rfl rfl rfl rfl (by simp [Value.category]) dX8_backSize_13) [0, 1, 2, 3, 4, 5, 6, 7, 8, 9, 10] rfl rfl rfl ?_
    dsimp only [patch, List.set, wMod]
    refine v_aload_n X dX8_backSize_16 rfl ?_
    refine v_bipush X dX8_backSize_17 (by decide) ?_
    refine res_W X (run_V X (c_X8_began (g := g) (by first | assumption | exact ⟨by decide, by decide⟩ | (apply lvT_bd; exact ⟨by decide, by decide⟩) | (apply lvT_bd; apply lvT_bd; exact ⟨by decide, by decide⟩) | (apply lvT_bd; assumption) | (apply lvT_bd; apply lvT_bd; assumption) | (apply lvT_bd; apply lvT_bd; apply lvT_bd; assumption))) gX8_backSize_X8_began rfl hdX8_began ⟨(Nat.le_of_ble_eq_true rfl), (Nat.le_of_ble_eq_true rfl)⟩ ⟨(Nat.le_of_ble_eq_true rfl), (Nat.le_of_ble_eq_true rfl)⟩ 0 rfl rfl rfl [0, 1, 2, 3, 4, 5, 6, 7, 8, 9, 10] rfl rfl rfl rfl (by simp [Value.category]) dX8_backSize_19) [0, 1, 2, 3, 4, 5, 6, 7, 8, 9, 10] rfl rfl rfl ?_
    dsimp only [patch, List.set, wMod]
    refine v_aload_n X dX8_backSize_22 rfl ?_
    refine v_iload_n X dX8_backSize_23 rfl ?_
    refine res_F X (run_V X (c_X8_plainSize (g := g) (by first | assumption | omega) (by first | assumption | exact ⟨by decide, by decide⟩ | (apply lvT_bd; exact ⟨by decide, by decide⟩) | (apply lvT_bd; apply lvT_bd; exact ⟨by decide, by decide⟩) | (apply lvT_bd; assumption) | (apply lvT_bd; apply lvT_bd; assumption) | (apply lvT_bd; apply lvT_bd; apply lvT_bd; assumption)) (by first | assumption | omega)) gX8_backSize_X8_plainSize rfl hdX8_plainSize ⟨(Nat.le_of_ble_eq_true rfl), (Nat.le_of_ble_eq_true rfl)⟩ ⟨(Nat.le_of_ble_eq_true rfl), (Nat.le_of_ble_eq_true rfl)⟩ 0 rfl rfl rfl [0, 1, 2, 3, 4, 5, 6, 7, 8, 9, 10] rfl rfl rfl rfl (by simp [Value.category]) dX8_backSize_24) [0, 1, 2, 3, 4, 5, 6, 7, 8, 9, 10] rfl rfl rfl ?_
    dsimp only [patch, List.set, wMod]
    refine v_bipush X dX8_backSize_27 (by decide) ?_
    refine v_isub X dX8_backSize_29 ?_
    refine v_istore_n X dX8_backSize_30 2 rfl (by decide) rfl ?_
    dsimp only [List.set]
    refine v_aload_n X dX8_backSize_31 rfl ?_
    refine v_iload_n X dX8_backSize_32 rfl ?_
    refine v_iconst X dX8_backSize_33 ?_
    refine res_E X (run_V X (c_X8_of (g := g) (by first | assumption | omega) (by first | assumption | omega) (by first | assumption | omega)) gX8_backSize_X8_of rfl hdX8_of ⟨(Nat.le_of_ble_eq_true rfl), (Nat.le_of_ble_eq_true rfl)⟩ ⟨(Nat.le_of_ble_eq_true rfl), (Nat.le_of_ble_eq_true rfl)⟩ 0 rfl rfl rfl [0, 1, 2, 3, 4, 5, 6, 7, 8, 9, 10] rfl rfl rfl rfl (by simp [Value.category]) dX8_backSize_34) [0, 1, 2, 3, 4, 5, 6, 7, 8, 9, 10] rfl rfl ?_
    rw [kM_at (fc := fc) (h := h) hh]
    refine v_iconst X dX8_backSize_37 ?_
    refine v_icmp_ne (tgt := 47) X dX8_backSize_38 (by decide) (by omega) (by omega) (fun c3 => ?_) (fun c3 => ?_)
    · skip
      refine v_iload_n X dX8_backSize_47 rfl ?_
      exact v_iret X Y dX8_backSize_48 (u := ()) (by first | (exfalso; omega) | (unfold bSz; first | rw [if_pos (by omega)] | (rw [if_neg (by omega), if_pos (by omega)]) | (rw [if_neg (by omega), if_neg (by omega)]) | (rw [if_neg (by omega)]))) (by (first | (exfalso; omega) | (unfold bSzT; first | rw [if_pos (by omega)] | (rw [if_neg (by omega), if_pos (by omega)]) | (rw [if_neg (by omega), if_neg (by omega)]) | (rw [if_neg (by omega)]))) <;> rfl)
    · skip
      refine v_iconst X dX8_backSize_41 ?_
      refine v_iload_n X dX8_backSize_42 rfl ?_
      refine v_imul X dX8_backSize_43 ?_
      refine v_goto (tgt := 48) X dX8_backSize_44 (by decide) ?_
      exact v_iret X Y dX8_backSize_48 (u := ()) (by first | (exfalso; omega) | (unfold bSz; first | rw [if_pos (by omega)] | (rw [if_neg (by omega), if_pos (by omega)]) | (rw [if_neg (by omega), if_neg (by omega)]) | (rw [if_neg (by omega)]))) (by (first | (exfalso; omega) | (unfold bSzT; first | rw [if_pos (by omega)] | (rw [if_neg (by omega), if_pos (by omega)]) | (rw [if_neg (by omega), if_neg (by omega)]) | (rw [if_neg (by omega)]))) <;> rfl)

theorem hdX8_markOf : yX8_markOf.cls = RX8 ∧ yX8_markOf.cls ≠ "java/lang/invoke/MethodHandle" ∧ yX8_markOf.cls ≠ "java/lang/invoke/VarHandle" ∧ (parseMethodDescriptor yX8_markOf.desc).map (fun d => d.parameters.length) = some 1 := ⟨rfl, by decide +kernel, by decide +kernel, by decide +kernel⟩
set_option maxHeartbeats 4000000 in
set_option maxRecDepth 100000 in
theorem c_X8_markOf {g : Gx} {A : Nat → Nat} {th sq ac td lt ln cu tk sa ti ft fp le lf tr : Int} {fl fm fi fc ff fw ftp fk fe fr : Nat → Int} {h : Int} (hfc : Bd 0 60 fc) (htr : 0 ≤ tr ∧ tr ≤ 16) (hh : 0 ≤ h ∧ h ≤ 3) (hk : 1 ≤ atI 4 (kM fc) h ∧ atI 4 (kM fc) h ≤ 5) : CtE g yX8_markOf wsX8_markOf 3 65 [.ref (A 0), .int (iI h)] (wMod g A th sq ac td lt ln cu tk sa ti ft fp le lf tr fl fm fi fc ff fw ftp fk fe fr) (if atI 4 (kM fc) h = 4 ∨ atI 4 (kM fc) h = 5 then h - bSz 4 (kM fc) (tM fc) h else hMk 4 (kM fc) (sM fc) h) (wMod g A th sq ac td lt ln cu tk sa ti ft fp le lf ((if atI 4 (kM fc) h = 4 ∨ atI 4 (kM fc) h = 5 then bSzT 4 (kM fc) h (lvT (lvT (fr, tr) 23) 20) else hMkT 4 (kM fc) h (fr, tr)).2) fl fm fi fc ff fw ftp fk fe ((if atI 4 (kM fc) h = 4 ∨ atI 4 (kM fc) h = 5 then bSzT 4 (kM fc) h (lvT (lvT (fr, tr) 23) 20) else hMkT 4 (kM fc) h (fr, tr)).1)) := by
  refine m_go (cc := cX8_markOf) (nL := 4) (by decide +kernel) rfl (Nat.le_of_ble_eq_true rfl) (fun x X Y hnm => ?_)
  refine v_eq (lo2 := [some (.ref (A 0)), some (.int (iI h)), none, none]) rfl rfl rfl rfl ?_
  have q1 := atI_bd (cn := 4) (h := h) (f := kM fc) (lo := 0) (hi := 60) (fun j => hfc _) (by omega) (by omega)
  have q2 := atI_bd (cn := 4) (h := h) (f := tM fc) (lo := 0) (hi := 60) (fun j => hfc _) (by omega) (by omega)
  have q3 := atI_bd (cn := 4) (h := h) (f := sM fc) (lo := 0) (hi := 60) (fun j => hfc _) (by omega) (by omega)
  refine v_aload_n X dX8_markOf_0 rfl ?_
  refine v_iload_n X dX8_markOf_1 rfl ?_
  refine v_iconst X dX8_markOf_2 ?_
  refine res_E X (run_V X (c_X8_of (g := g) (by first | assumption | omega) (by first | assumption | omega) (by first | assumption | omega)) gX8_markOf_X8_of rfl hdX8_of ⟨(Nat.le_of_ble_eq_true rfl), (Nat.le_of_ble_eq_true rfl)⟩ ⟨(Nat.le_of_ble_eq_true rfl), (Nat.le_of_ble_eq_true rfl)⟩ 0 rfl rfl rfl [0, 1, 2, 3, 4, 5, 6, 7, 8, 9, 10] rfl rfl rfl rfl (by simp [Value.category]) dX8_markOf_3) [0, 1, 2, 3, 4, 5, 6, 7, 8, 9, 10] rfl rfl ?_
  rw [kM_at (fc := fc) (h := h) hh]
  refine v_istore_n X dX8_markOf_6 2 rfl (by decide) rfl ?_
  dsimp only [List.set]
  refine v_iload_n X dX8_markOf_7 rfl ?_
  refine v_iconst X dX8_markOf_8 ?_
  refine v_icmp_lt (tgt := 32) X dX8_markOf_9 (by decide) (by omega) (by omega) (fun c1 => ?_) (fun c1 => ?_)
  · skip
    refine v_iload_n X dX8_markOf_32 rfl ?_
    refine v_iconst X dX8_markOf_33 ?_
    refine v_icmp_eq (tgt := 53) X dX8_markOf_34 (by decide) (by omega) (by omega) (fun c2 => ?_) (fun c2 => ?_)
    · skip
      refine v_aload_n X dX8_markOf_53 rfl ?_
      refine v_bipush X dX8_markOf_54 (by decide) ?_
      refine res_W X (run_V X (c_X8_began (g := g) (by first | assumption | exact ⟨by decide, by decide⟩ | (apply lvT_bd; exact ⟨by decide, by decide⟩) | (apply lvT_bd; apply lvT_bd; exact ⟨by decide, by decide⟩) | (apply lvT_bd; assumption) | (apply lvT_bd; apply lvT_bd; assumption) | (apply lvT_bd; apply lvT_bd; apply lvT_bd; assumption))) gX8_markOf_X8_began rfl hdX8_began ⟨(Nat.le_of_ble_eq_true rfl), (Nat.le_of_ble_eq_true rfl)⟩ ⟨(Nat.le_of_ble_eq_true rfl), (Nat.le_of_ble_eq_true rfl)⟩ 0 rfl rfl rfl [0, 1, 2, 3, 4, 5, 6, 7, 8, 9, 10] rfl rfl rfl rfl (by simp [Value.category]) dX8_markOf_56) [0, 1, 2, 3, 4, 5, 6, 7, 8, 9, 10] rfl rfl rfl ?_
      dsimp only [patch, List.set, wMod]
      refine v_aload_n X dX8_markOf_59 rfl ?_
      refine v_bipush X dX8_markOf_60 (by decide) ?_
      refine res_W X (run_V X (c_X8_began (g := g) (by first | assumption | exact ⟨by decide, by decide⟩ | (apply lvT_bd; exact ⟨by decide, by decide⟩) | (apply lvT_bd; apply lvT_bd; exact ⟨by decide, by decide⟩) | (apply lvT_bd; assumption) | (apply lvT_bd; apply lvT_bd; assumption) | (apply lvT_bd; apply lvT_bd; apply lvT_bd; assumption))) gX8_markOf_X8_began rfl hdX8_began ⟨(Nat.le_of_ble_eq_true rfl), (Nat.le_of_ble_eq_true rfl)⟩ ⟨(Nat.le_of_ble_eq_true rfl), (Nat.le_of_ble_eq_true rfl)⟩ 0 rfl rfl rfl [0, 1, 2, 3, 4, 5, 6, 7, 8, 9, 10] rfl rfl rfl rfl (by simp [Value.category]) dX8_markOf_62) [0, 1, 2, 3, 4, 5, 6, 7, 8, 9, 10] rfl rfl rfl ?_
      dsimp only [patch, List.set, wMod]
      refine v_iload_n X dX8_markOf_65 rfl ?_
      refine v_aload_n X dX8_markOf_66 rfl ?_
      refine v_iload_n X dX8_markOf_67 rfl ?_
      refine v_iconst X dX8_markOf_68 ?_
      refine res_E X (run_V X (c_X8_of (g := g) (by first | assumption | omega) (by first | assumption | omega) (by first | assumption | omega)) gX8_markOf_X8_of rfl hdX8_of ⟨(Nat.le_of_ble_eq_true rfl), (Nat.le_of_ble_eq_true rfl)⟩ ⟨(Nat.le_of_ble_eq_true rfl), (Nat.le_of_ble_eq_true rfl)⟩ 0 rfl rfl rfl [0, 1, 2, 3, 4, 5, 6, 7, 8, 9, 10] rfl rfl rfl rfl (by simp [Value.category]) dX8_markOf_69) [0, 1, 2, 3, 4, 5, 6, 7, 8, 9, 10] rfl rfl ?_
      rw [sM_at (fc := fc) (h := h) hh]
      refine v_iadd X dX8_markOf_72 ?_
      refine v_istore_n X dX8_markOf_73 3 rfl (by decide) rfl ?_
      dsimp only [List.set]
      refine v_iload_n X dX8_markOf_74 rfl ?_
      refine v_iconst X dX8_markOf_75 ?_
      refine v_icmp_ne (tgt := 83) X dX8_markOf_76 (by decide) (by omega) (by omega) (fun c3 => ?_) (fun c3 => ?_)
      · skip
        refine v_iload_n X dX8_markOf_83 rfl ?_
        refine v_iconst X dX8_markOf_84 ?_
        refine v_icmp_ne (tgt := 96) X dX8_markOf_85 (by decide) (by omega) (by omega) (fun c4 => ?_) (fun c4 => ?_)
        · skip
          refine v_iconst X dX8_markOf_96 ?_
          refine v_iload_n X dX8_markOf_97 rfl ?_
          refine v_imul X dX8_markOf_98 ?_
          exact v_iret X Y dX8_markOf_99 (u := ()) (by first | (exfalso; omega) | (rw [if_neg (by omega)]; unfold hMk; first | rw [if_pos (by omega)] | (rw [if_neg (by omega), if_pos (by omega)]) | (rw [if_neg (by omega), if_neg (by omega)]))) (by first | (exfalso; omega) | (rw [if_neg (by omega)]; unfold hMkT; (first | rw [if_pos (by omega)] | (rw [if_neg (by omega), if_pos (by omega)]) | (rw [if_neg (by omega), if_neg (by omega)])) <;> rfl))
        · skip
          refine v_iload_n X dX8_markOf_88 rfl ?_
          refine v_sipush X dX8_markOf_89 (by decide) ?_
          refine v_isub X dX8_markOf_92 ?_
          refine v_goto (tgt := 99) X dX8_markOf_93 (by decide) ?_
          exact v_iret X Y dX8_markOf_99 (u := ()) (by first | (exfalso; omega) | (rw [if_neg (by omega)]; unfold hMk; first | rw [if_pos (by omega)] | (rw [if_neg (by omega), if_pos (by omega)]) | (rw [if_neg (by omega), if_neg (by omega)]))) (by first | (exfalso; omega) | (rw [if_neg (by omega)]; unfold hMkT; (first | rw [if_pos (by omega)] | (rw [if_neg (by omega), if_pos (by omega)]) | (rw [if_neg (by omega), if_neg (by omega)])) <;> rfl))
      · skip
        refine v_iload_n X dX8_markOf_79 rfl ?_
        refine v_goto (tgt := 99) X dX8_markOf_80 (by decide) ?_
        exact v_iret X Y dX8_markOf_99 (u := ()) (by first | (exfalso; omega) | (rw [if_neg (by omega)]; unfold hMk; first | rw [if_pos (by omega)] | (rw [if_neg (by omega), if_pos (by omega)]) | (rw [if_neg (by omega), if_neg (by omega)]))) (by first | (exfalso; omega) | (rw [if_neg (by omega)]; unfold hMkT; (first | rw [if_pos (by omega)] | (rw [if_neg (by omega), if_pos (by omega)]) | (rw [if_neg (by omega), if_neg (by omega)])) <;> rfl))
    · skip
      refine v_aload_n X dX8_markOf_37 rfl ?_
      refine v_iload_n X dX8_markOf_38 rfl ?_
      refine v_iconst X dX8_markOf_39 ?_
      refine v_icmp_ne (tgt := 48) X dX8_markOf_40 (by decide) (by omega) (by omega) (fun c5 => ?_) (fun c5 => ?_)
      · skip
        refine v_bipush X dX8_markOf_48 (by decide) ?_
        refine res_W X (run_V X (c_X8_began (g := g) (by first | assumption | exact ⟨by decide, by decide⟩ | (apply lvT_bd; exact ⟨by decide, by decide⟩) | (apply lvT_bd; apply lvT_bd; exact ⟨by decide, by decide⟩) | (apply lvT_bd; assumption) | (apply lvT_bd; apply lvT_bd; assumption) | (apply lvT_bd; apply lvT_bd; apply lvT_bd; assumption))) gX8_markOf_X8_began rfl hdX8_began ⟨(Nat.le_of_ble_eq_true rfl), (Nat.le_of_ble_eq_true rfl)⟩ ⟨(Nat.le_of_ble_eq_true rfl), (Nat.le_of_ble_eq_true rfl)⟩ 0 rfl rfl rfl [0, 1, 2, 3, 4, 5, 6, 7, 8, 9, 10] rfl rfl rfl rfl (by simp [Value.category]) dX8_markOf_50) [0, 1, 2, 3, 4, 5, 6, 7, 8, 9, 10] rfl rfl rfl ?_
        dsimp only [patch, List.set, wMod]
        refine v_aload_n X dX8_markOf_53 rfl ?_
        refine v_bipush X dX8_markOf_54 (by decide) ?_
        refine res_W X (run_V X (c_X8_began (g := g) (by first | assumption | exact ⟨by decide, by decide⟩ | (apply lvT_bd; exact ⟨by decide, by decide⟩) | (apply lvT_bd; apply lvT_bd; exact ⟨by decide, by decide⟩) | (apply lvT_bd; assumption) | (apply lvT_bd; apply lvT_bd; assumption) | (apply lvT_bd; apply lvT_bd; apply lvT_bd; assumption))) gX8_markOf_X8_began rfl hdX8_began ⟨(Nat.le_of_ble_eq_true rfl), (Nat.le_of_ble_eq_true rfl)⟩ ⟨(Nat.le_of_ble_eq_true rfl), (Nat.le_of_ble_eq_true rfl)⟩ 0 rfl rfl rfl [0, 1, 2, 3, 4, 5, 6, 7, 8, 9, 10] rfl rfl rfl rfl (by simp [Value.category]) dX8_markOf_56) [0, 1, 2, 3, 4, 5, 6, 7, 8, 9, 10] rfl rfl rfl ?_
        dsimp only [patch, List.set, wMod]
        refine v_aload_n X dX8_markOf_59 rfl ?_
        refine v_bipush X dX8_markOf_60 (by decide) ?_
        refine res_W X (run_V X (c_X8_began (g := g) (by first | assumption | exact ⟨by decide, by decide⟩ | (apply lvT_bd; exact ⟨by decide, by decide⟩) | (apply lvT_bd; apply lvT_bd; exact ⟨by decide, by decide⟩) | (apply lvT_bd; assumption) | (apply lvT_bd; apply lvT_bd; assumption) | (apply lvT_bd; apply lvT_bd; apply lvT_bd; assumption))) gX8_markOf_X8_began rfl hdX8_began ⟨(Nat.le_of_ble_eq_true rfl), (Nat.le_of_ble_eq_true rfl)⟩ ⟨(Nat.le_of_ble_eq_true rfl), (Nat.le_of_ble_eq_true rfl)⟩ 0 rfl rfl rfl [0, 1, 2, 3, 4, 5, 6, 7, 8, 9, 10] rfl rfl rfl rfl (by simp [Value.category]) dX8_markOf_62) [0, 1, 2, 3, 4, 5, 6, 7, 8, 9, 10] rfl rfl rfl ?_
        dsimp only [patch, List.set, wMod]
        refine v_iload_n X dX8_markOf_65 rfl ?_
        refine v_aload_n X dX8_markOf_66 rfl ?_
        refine v_iload_n X dX8_markOf_67 rfl ?_
        refine v_iconst X dX8_markOf_68 ?_
        refine res_E X (run_V X (c_X8_of (g := g) (by first | assumption | omega) (by first | assumption | omega) (by first | assumption | omega)) gX8_markOf_X8_of rfl hdX8_of ⟨(Nat.le_of_ble_eq_true rfl), (Nat.le_of_ble_eq_true rfl)⟩ ⟨(Nat.le_of_ble_eq_true rfl), (Nat.le_of_ble_eq_true rfl)⟩ 0 rfl rfl rfl [0, 1, 2, 3, 4, 5, 6, 7, 8, 9, 10] rfl rfl rfl rfl (by simp [Value.category]) dX8_markOf_69) [0, 1, 2, 3, 4, 5, 6, 7, 8, 9, 10] rfl rfl ?_
        rw [sM_at (fc := fc) (h := h) hh]
        refine v_iadd X dX8_markOf_72 ?_
        refine v_istore_n X dX8_markOf_73 3 rfl (by decide) rfl ?_
        dsimp only [List.set]
        refine v_iload_n X dX8_markOf_74 rfl ?_
        refine v_iconst X dX8_markOf_75 ?_
        refine v_icmp_ne (tgt := 83) X dX8_markOf_76 (by decide) (by omega) (by omega) (fun c6 => ?_) (fun c6 => ?_)
        · skip
          refine v_iload_n X dX8_markOf_83 rfl ?_
          refine v_iconst X dX8_markOf_84 ?_
          refine v_icmp_ne (tgt := 96) X dX8_markOf_85 (by decide) (by omega) (by omega) (fun c7 => ?_) (fun c7 => ?_)
          · skip
            refine v_iconst X dX8_markOf_96 ?_
            refine v_iload_n X dX8_markOf_97 rfl ?_
            refine v_imul X dX8_markOf_98 ?_
            exact v_iret X Y dX8_markOf_99 (u := ()) (by first | (exfalso; omega) | (rw [if_neg (by omega)]; unfold hMk; first | rw [if_pos (by omega)] | (rw [if_neg (by omega), if_pos (by omega)]) | (rw [if_neg (by omega), if_neg (by omega)]))) (by first | (exfalso; omega) | (rw [if_neg (by omega)]; unfold hMkT; (first | rw [if_pos (by omega)] | (rw [if_neg (by omega), if_pos (by omega)]) | (rw [if_neg (by omega), if_neg (by omega)])) <;> rfl))
          · skip
            refine v_iload_n X dX8_markOf_88 rfl ?_
            refine v_sipush X dX8_markOf_89 (by decide) ?_
            refine v_isub X dX8_markOf_92 ?_
            refine v_goto (tgt := 99) X dX8_markOf_93 (by decide) ?_
            exact v_iret X Y dX8_markOf_99 (u := ()) (by first | (exfalso; omega) | (rw [if_neg (by omega)]; unfold hMk; first | rw [if_pos (by omega)] | (rw [if_neg (by omega), if_pos (by omega)]) | (rw [if_neg (by omega), if_neg (by omega)]))) (by first | (exfalso; omega) | (rw [if_neg (by omega)]; unfold hMkT; (first | rw [if_pos (by omega)] | (rw [if_neg (by omega), if_pos (by omega)]) | (rw [if_neg (by omega), if_neg (by omega)])) <;> rfl))
        · skip
          refine v_iload_n X dX8_markOf_79 rfl ?_
          refine v_goto (tgt := 99) X dX8_markOf_80 (by decide) ?_
          exact v_iret X Y dX8_markOf_99 (u := ()) (by first | (exfalso; omega) | (rw [if_neg (by omega)]; unfold hMk; first | rw [if_pos (by omega)] | (rw [if_neg (by omega), if_pos (by omega)]) | (rw [if_neg (by omega), if_neg (by omega)]))) (by first | (exfalso; omega) | (rw [if_neg (by omega)]; unfold hMkT; (first | rw [if_pos (by omega)] | (rw [if_neg (by omega), if_pos (by omega)]) | (rw [if_neg (by omega), if_neg (by omega)])) <;> rfl))
      · skip
        refine v_bipush X dX8_markOf_43 (by decide) ?_
        refine v_goto (tgt := 50) X dX8_markOf_45 (by decide) ?_
        refine res_W X (run_V X (c_X8_began (g := g) (by first | assumption | exact ⟨by decide, by decide⟩ | (apply lvT_bd; exact ⟨by decide, by decide⟩) | (apply lvT_bd; apply lvT_bd; exact ⟨by decide, by decide⟩) | (apply lvT_bd; assumption) | (apply lvT_bd; apply lvT_bd; assumption) | (apply lvT_bd; apply lvT_bd; apply lvT_bd; assumption))) gX8_markOf_X8_began rfl hdX8_began ⟨(Nat.le_of_ble_eq_true rfl), (Nat.le_of_ble_eq_true rfl)⟩ ⟨(Nat.le_of_ble_eq_true rfl), (Nat.le_of_ble_eq_true rfl)⟩ 0 rfl rfl rfl [0, 1, 2, 3, 4, 5, 6, 7, 8, 9, 10] rfl rfl rfl rfl (by simp [Value.category]) dX8_markOf_50) [0, 1, 2, 3, 4, 5, 6, 7, 8, 9, 10] rfl rfl rfl ?_
        dsimp only [patch, List.set, wMod]
        refine v_aload_n X dX8_markOf_53 rfl ?_
        refine v_bipush X dX8_markOf_54 (by decide) ?_
        refine res_W X (run_V X (c_X8_began (g := g) (by first | assumption | exact ⟨by decide, by decide⟩ | (apply lvT_bd; exact ⟨by decide, by decide⟩) | (apply lvT_bd; apply lvT_bd; exact ⟨by decide, by decide⟩) | (apply lvT_bd; assumption) | (apply lvT_bd; apply lvT_bd; assumption) | (apply lvT_bd; apply lvT_bd; apply lvT_bd; assumption))) gX8_markOf_X8_began rfl hdX8_began ⟨(Nat.le_of_ble_eq_true rfl), (Nat.le_of_ble_eq_true rfl)⟩ ⟨(Nat.le_of_ble_eq_true rfl), (Nat.le_of_ble_eq_true rfl)⟩ 0 rfl rfl rfl [0, 1, 2, 3, 4, 5, 6, 7, 8, 9, 10] rfl rfl rfl rfl (by simp [Value.category]) dX8_markOf_56) [0, 1, 2, 3, 4, 5, 6, 7, 8, 9, 10] rfl rfl rfl ?_
        dsimp only [patch, List.set, wMod]
        refine v_aload_n X dX8_markOf_59 rfl ?_
        refine v_bipush X dX8_markOf_60 (by decide) ?_
        refine res_W X (run_V X (c_X8_began (g := g) (by first | assumption | exact ⟨by decide, by decide⟩ | (apply lvT_bd; exact ⟨by decide, by decide⟩) | (apply lvT_bd; apply lvT_bd; exact ⟨by decide, by decide⟩) | (apply lvT_bd; assumption) | (apply lvT_bd; apply lvT_bd; assumption) | (apply lvT_bd; apply lvT_bd; apply lvT_bd; assumption))) gX8_markOf_X8_began rfl hdX8_began ⟨(Nat.le_of_ble_eq_true rfl), (Nat.le_of_ble_eq_true rfl)⟩ ⟨(Nat.le_of_ble_eq_true rfl), (Nat.le_of_ble_eq_true rfl)⟩ 0 rfl rfl rfl [0, 1, 2, 3, 4, 5, 6, 7, 8, 9, 10] rfl rfl rfl rfl (by simp [Value.category]) dX8_markOf_62) [0, 1, 2, 3, 4, 5, 6, 7, 8, 9, 10] rfl rfl rfl ?_
        dsimp only [patch, List.set, wMod]
        refine v_iload_n X dX8_markOf_65 rfl ?_
        refine v_aload_n X dX8_markOf_66 rfl ?_
        refine v_iload_n X dX8_markOf_67 rfl ?_
        refine v_iconst X dX8_markOf_68 ?_
        refine res_E X (run_V X (c_X8_of (g := g) (by first | assumption | omega) (by first | assumption | omega) (by first | assumption | omega)) gX8_markOf_X8_of rfl hdX8_of ⟨(Nat.le_of_ble_eq_true rfl), (Nat.le_of_ble_eq_true rfl)⟩ ⟨(Nat.le_of_ble_eq_true rfl), (Nat.le_of_ble_eq_true rfl)⟩ 0 rfl rfl rfl [0, 1, 2, 3, 4, 5, 6, 7, 8, 9, 10] rfl rfl rfl rfl (by simp [Value.category]) dX8_markOf_69) [0, 1, 2, 3, 4, 5, 6, 7, 8, 9, 10] rfl rfl ?_
        rw [sM_at (fc := fc) (h := h) hh]
        refine v_iadd X dX8_markOf_72 ?_
        refine v_istore_n X dX8_markOf_73 3 rfl (by decide) rfl ?_
        dsimp only [List.set]
        refine v_iload_n X dX8_markOf_74 rfl ?_
        refine v_iconst X dX8_markOf_75 ?_
        refine v_icmp_ne (tgt := 83) X dX8_markOf_76 (by decide) (by omega) (by omega) (fun c8 => ?_) (fun c8 => ?_)
        · skip
          refine v_iload_n X dX8_markOf_83 rfl ?_
          refine v_iconst X dX8_markOf_84 ?_
          refine v_icmp_ne (tgt := 96) X dX8_markOf_85 (by decide) (by omega) (by omega) (fun c9 => ?_) (fun c9 => ?_)
          · skip
            refine v_iconst X dX8_markOf_96 ?_
            refine v_iload_n X dX8_markOf_97 rfl ?_
            refine v_imul X dX8_markOf_98 ?_
            exact v_iret X Y dX8_markOf_99 (u := ()) (by first | (exfalso; omega) | (rw [if_neg (by omega)]; unfold hMk; first | rw [if_pos (by omega)] | (rw [if_neg (by omega), if_pos (by omega)]) | (rw [if_neg (by omega), if_neg (by omega)]))) (by first | (exfalso; omega) | (rw [if_neg (by omega)]; unfold hMkT; (first | rw [if_pos (by omega)] | (rw [if_neg (by omega), if_pos (by omega)]) | (rw [if_neg (by omega), if_neg (by omega)])) <;> rfl))
          · skip
            refine v_iload_n X dX8_markOf_88 rfl ?_
            refine v_sipush X dX8_markOf_89 (by decide) ?_
            refine v_isub X dX8_markOf_92 ?_
            refine v_goto (tgt := 99) X dX8_markOf_93 (by decide) ?_
            exact v_iret X Y dX8_markOf_99 (u := ()) (by first | (exfalso; omega) | (rw [if_neg (by omega)]; unfold hMk; first | rw [if_pos (by omega)] | (rw [if_neg (by omega), if_pos (by omega)]) | (rw [if_neg (by omega), if_neg (by omega)]))) (by first | (exfalso; omega) | (rw [if_neg (by omega)]; unfold hMkT; (first | rw [if_pos (by omega)] | (rw [if_neg (by omega), if_pos (by omega)]) | (rw [if_neg (by omega), if_neg (by omega)])) <;> rfl))
        · skip
          refine v_iload_n X dX8_markOf_79 rfl ?_
          refine v_goto (tgt := 99) X dX8_markOf_80 (by decide) ?_
          exact v_iret X Y dX8_markOf_99 (u := ()) (by first | (exfalso; omega) | (rw [if_neg (by omega)]; unfold hMk; first | rw [if_pos (by omega)] | (rw [if_neg (by omega), if_pos (by omega)]) | (rw [if_neg (by omega), if_neg (by omega)]))) (by first | (exfalso; omega) | (rw [if_neg (by omega)]; unfold hMkT; (first | rw [if_pos (by omega)] | (rw [if_neg (by omega), if_pos (by omega)]) | (rw [if_neg (by omega), if_neg (by omega)])) <;> rfl))
  · skip
    refine v_aload_n X dX8_markOf_12 rfl ?_
    refine v_bipush X dX8_markOf_13 (by decide) ?_
    refine res_W X (run_V X (c_X8_began (g := g) (by first | assumption | exact ⟨by decide, by decide⟩ | (apply lvT_bd; exact ⟨by decide, by decide⟩) | (apply lvT_bd; apply lvT_bd; exact ⟨by decide, by decide⟩) | (apply lvT_bd; assumption) | (apply lvT_bd; apply lvT_bd; assumption) | (apply lvT_bd; apply lvT_bd; apply lvT_bd; assumption))) gX8_markOf_X8_began rfl hdX8_began ⟨(Nat.le_of_ble_eq_true rfl), (Nat.le_of_ble_eq_true rfl)⟩ ⟨(Nat.le_of_ble_eq_true rfl), (Nat.le_of_ble_eq_true rfl)⟩ 0 rfl rfl rfl [0, 1, 2, 3, 4, 5, 6, 7, 8, 9, 10] rfl rfl rfl rfl (by simp [Value.category]) dX8_markOf_15) [0, 1, 2, 3, 4, 5, 6, 7, 8, 9, 10] rfl rfl rfl ?_
    dsimp only [patch, List.set, wMod]
    refine v_aload_n X dX8_markOf_18 rfl ?_
    refine v_bipush X dX8_markOf_19 (by decide) ?_
    refine res_W X (run_V X (c_X8_began (g := g) (by first | assumption | exact ⟨by decide, by decide⟩ | (apply lvT_bd; exact ⟨by decide, by decide⟩) | (apply lvT_bd; apply lvT_bd; exact ⟨by decide, by decide⟩) | (apply lvT_bd; assumption) | (apply lvT_bd; apply lvT_bd; assumption) | (apply lvT_bd; apply lvT_bd; apply lvT_bd; assumption))) gX8_markOf_X8_began rfl hdX8_began ⟨(Nat.le_of_ble_eq_true rfl), (Nat.le_of_ble_eq_true rfl)⟩ ⟨(Nat.le_of_ble_eq_true rfl), (Nat.le_of_ble_eq_true rfl)⟩ 0 rfl rfl rfl [0, 1, 2, 3, 4, 5, 6, 7, 8, 9, 10] rfl rfl rfl rfl (by simp [Value.category]) dX8_markOf_21) [0, 1, 2, 3, 4, 5, 6, 7, 8, 9, 10] rfl rfl rfl ?_
    dsimp only [patch, List.set, wMod]
    refine v_iload_n X dX8_markOf_24 rfl ?_
    refine v_aload_n X dX8_markOf_25 rfl ?_
    refine v_iload_n X dX8_markOf_26 rfl ?_
    refine res_F X (run_V X (c_X8_backSize (g := g) (by first | assumption | omega) (by first | assumption | exact ⟨by decide, by decide⟩ | (apply lvT_bd; exact ⟨by decide, by decide⟩) | (apply lvT_bd; apply lvT_bd; exact ⟨by decide, by decide⟩) | (apply lvT_bd; assumption) | (apply lvT_bd; apply lvT_bd; assumption) | (apply lvT_bd; apply lvT_bd; apply lvT_bd; assumption)) (by first | assumption | omega)) gX8_markOf_X8_backSize rfl hdX8_backSize ⟨(Nat.le_of_ble_eq_true rfl), (Nat.le_of_ble_eq_true rfl)⟩ ⟨(Nat.le_of_ble_eq_true rfl), (Nat.le_of_ble_eq_true rfl)⟩ 0 rfl rfl rfl [0, 1, 2, 3, 4, 5, 6, 7, 8, 9, 10] rfl rfl rfl rfl (by simp [Value.category]) dX8_markOf_27) [0, 1, 2, 3, 4, 5, 6, 7, 8, 9, 10] rfl rfl rfl ?_
    dsimp only [patch, List.set, wMod]
    refine v_isub X dX8_markOf_30 ?_
    exact v_iret X Y dX8_markOf_31 (u := ()) (by rw [if_pos (by omega)]) (by rw [if_pos (by omega)] <;> rfl)

theorem hdX8_sizeOf : yX8_sizeOf.cls = RX8 ∧ yX8_sizeOf.cls ≠ "java/lang/invoke/MethodHandle" ∧ yX8_sizeOf.cls ≠ "java/lang/invoke/VarHandle" ∧ (parseMethodDescriptor yX8_sizeOf.desc).map (fun d => d.parameters.length) = some 1 := ⟨rfl, by decide +kernel, by decide +kernel, by decide +kernel⟩
set_option maxHeartbeats 4000000 in
set_option maxRecDepth 100000 in
theorem c_X8_sizeOf {g : Gx} {A : Nat → Nat} {th sq ac td lt ln cu tk sa ti ft fp le lf tr : Int} {fl fm fi fc ff fw ftp fk fe fr : Nat → Int} {h : Int} (hfc : Bd 0 60 fc) (htr : 0 ≤ tr ∧ tr ≤ 16) (hh : 0 ≤ h ∧ h ≤ 3) (hk : 1 ≤ atI 4 (kM fc) h ∧ atI 4 (kM fc) h ≤ 5) : CtE g yX8_sizeOf wsX8_sizeOf 4 88 [.ref (A 0), .int (iI h)] (wMod g A th sq ac td lt ln cu tk sa ti ft fp le lf tr fl fm fi fc ff fw ftp fk fe fr) (if atI 4 (kM fc) h = 4 ∨ atI 4 (kM fc) h = 5 then bSz 4 (kM fc) (tM fc) h else hSz 4 (kM fc) (tM fc) (sM fc) h) (wMod g A th sq ac td lt ln cu tk sa ti ft fp le lf ((if atI 4 (kM fc) h = 4 ∨ atI 4 (kM fc) h = 5 then bSzT 4 (kM fc) h (fr, tr) else hSzT 4 (kM fc) h (fr, tr)).2) fl fm fi fc ff fw ftp fk fe ((if atI 4 (kM fc) h = 4 ∨ atI 4 (kM fc) h = 5 then bSzT 4 (kM fc) h (fr, tr) else hSzT 4 (kM fc) h (fr, tr)).1)) := by
  refine m_go (cc := cX8_sizeOf) (nL := 4) (by decide +kernel) rfl (Nat.le_of_ble_eq_true rfl) (fun x X Y hnm => ?_)
  refine v_eq (lo2 := [some (.ref (A 0)), some (.int (iI h)), none, none]) rfl rfl rfl rfl ?_
  have q1 := atI_bd (cn := 4) (h := h) (f := kM fc) (lo := 0) (hi := 60) (fun j => hfc _) (by omega) (by omega)
  have q2 := atI_bd (cn := 4) (h := h) (f := tM fc) (lo := 0) (hi := 60) (fun j => hfc _) (by omega) (by omega)
  have q3 := atI_bd (cn := 4) (h := h) (f := sM fc) (lo := 0) (hi := 60) (fun j => hfc _) (by omega) (by omega)
  have q7 : -1000 ≤ hMk 4 (kM fc) (sM fc) h ∧ hMk 4 (kM fc) (sM fc) h ≤ 1000 := by unfold hMk; (repeat split) <;> omega
  refine v_aload_n X dX8_sizeOf_0 rfl ?_
  refine v_iload_n X dX8_sizeOf_1 rfl ?_
  refine v_iconst X dX8_sizeOf_2 ?_
  refine res_E X (run_V X (c_X8_of (g := g) (by first | assumption | omega) (by first | assumption | omega) (by first | assumption | omega)) gX8_sizeOf_X8_of rfl hdX8_of ⟨(Nat.le_of_ble_eq_true rfl), (Nat.le_of_ble_eq_true rfl)⟩ ⟨(Nat.le_of_ble_eq_true rfl), (Nat.le_of_ble_eq_true rfl)⟩ 0 rfl rfl rfl [0, 1, 2, 3, 4, 5, 6, 7, 8, 9, 10] rfl rfl rfl rfl (by simp [Value.category]) dX8_sizeOf_3) [0, 1, 2, 3, 4, 5, 6, 7, 8, 9, 10] rfl rfl ?_
  rw [kM_at (fc := fc) (h := h) hh]
  refine v_istore_n X dX8_sizeOf_6 2 rfl (by decide) rfl ?_
  dsimp only [List.set]
  refine v_iload_n X dX8_sizeOf_7 rfl ?_
  refine v_iconst X dX8_sizeOf_8 ?_
  refine v_icmp_lt (tgt := 18) X dX8_sizeOf_9 (by decide) (by omega) (by omega) (fun c1 => ?_) (fun c1 => ?_)
  · skip
    refine v_iload_n X dX8_sizeOf_18 rfl ?_
    refine v_iconst X dX8_sizeOf_19 ?_
    refine v_icmp_ne (tgt := 29) X dX8_sizeOf_20 (by decide) (by omega) (by omega) (fun c2 => ?_) (fun c2 => ?_)
    · skip
      refine v_aload_n X dX8_sizeOf_29 rfl ?_
      refine v_bipush X dX8_sizeOf_30 (by decide) ?_
      refine res_W X (run_V X (c_X8_began (g := g) (by first | assumption | exact ⟨by decide, by decide⟩ | (apply lvT_bd; exact ⟨by decide, by decide⟩) | (apply lvT_bd; apply lvT_bd; exact ⟨by decide, by decide⟩) | (apply lvT_bd; assumption) | (apply lvT_bd; apply lvT_bd; assumption) | (apply lvT_bd; apply lvT_bd; apply lvT_bd; assumption))) gX8_sizeOf_X8_began rfl hdX8_began ⟨(Nat.le_of_ble_eq_true rfl), (Nat.le_of_ble_eq_true rfl)⟩ ⟨(Nat.le_of_ble_eq_true rfl), (Nat.le_of_ble_eq_true rfl)⟩ 0 rfl rfl rfl [0, 1, 2, 3, 4, 5, 6, 7, 8, 9, 10] rfl rfl rfl rfl (by simp [Value.category]) dX8_sizeOf_32) [0, 1, 2, 3, 4, 5, 6, 7, 8, 9, 10] rfl rfl rfl ?_
      dsimp only [patch, List.set, wMod]
      refine v_aload_n X dX8_sizeOf_35 rfl ?_
      refine v_iload_n X dX8_sizeOf_36 rfl ?_
      refine res_F X (run_V X (c_X8_plainSize (g := g) (by first | assumption | omega) (by first | assumption | exact ⟨by decide, by decide⟩ | (apply lvT_bd; exact ⟨by decide, by decide⟩) | (apply lvT_bd; apply lvT_bd; exact ⟨by decide, by decide⟩) | (apply lvT_bd; assumption) | (apply lvT_bd; apply lvT_bd; assumption) | (apply lvT_bd; apply lvT_bd; apply lvT_bd; assumption)) (by first | assumption | omega)) gX8_sizeOf_X8_plainSize rfl hdX8_plainSize ⟨(Nat.le_of_ble_eq_true rfl), (Nat.le_of_ble_eq_true rfl)⟩ ⟨(Nat.le_of_ble_eq_true rfl), (Nat.le_of_ble_eq_true rfl)⟩ 0 rfl rfl rfl [0, 1, 2, 3, 4, 5, 6, 7, 8, 9, 10] rfl rfl rfl rfl (by simp [Value.category]) dX8_sizeOf_37) [0, 1, 2, 3, 4, 5, 6, 7, 8, 9, 10] rfl rfl rfl ?_
      dsimp only [patch, List.set, wMod]
      refine v_istore_n X dX8_sizeOf_40 3 rfl (by decide) rfl ?_
      dsimp only [List.set]
      refine v_iload_n X dX8_sizeOf_41 rfl ?_
      refine v_aload_n X dX8_sizeOf_42 rfl ?_
      refine v_iload_n X dX8_sizeOf_43 rfl ?_
      refine res_F X (run_V X (c_X8_markOf (g := g) (by first | assumption | omega) (by first | assumption | exact ⟨by decide, by decide⟩ | (apply lvT_bd; exact ⟨by decide, by decide⟩) | (apply lvT_bd; apply lvT_bd; exact ⟨by decide, by decide⟩) | (apply lvT_bd; assumption) | (apply lvT_bd; apply lvT_bd; assumption) | (apply lvT_bd; apply lvT_bd; apply lvT_bd; assumption)) (by first | assumption | omega) (by first | assumption | omega)) gX8_sizeOf_X8_markOf rfl hdX8_markOf ⟨(Nat.le_of_ble_eq_true rfl), (Nat.le_of_ble_eq_true rfl)⟩ ⟨(Nat.le_of_ble_eq_true rfl), (Nat.le_of_ble_eq_true rfl)⟩ 0 rfl rfl rfl [0, 1, 2, 3, 4, 5, 6, 7, 8, 9, 10] rfl rfl rfl rfl (by simp [Value.category]) dX8_sizeOf_44) [0, 1, 2, 3, 4, 5, 6, 7, 8, 9, 10] rfl rfl rfl ?_
      dsimp only [patch, List.set, wMod]
      rw [if_neg (by omega)]
      simp only [if_neg (show ¬ (atI 4 (kM fc) h = 4 ∨ atI 4 (kM fc) h = 5) by omega)]
      refine v_iadd X dX8_sizeOf_47 ?_
      refine v_istore_n X dX8_sizeOf_48 3 rfl (by decide) rfl ?_
      dsimp only [List.set]
      refine v_iload_n X dX8_sizeOf_49 rfl ?_
      refine v_iconst X dX8_sizeOf_50 ?_
      refine v_icmp_ne (tgt := 59) X dX8_sizeOf_51 (by decide) (by omega) (by omega) (fun c3 => ?_) (fun c3 => ?_)
      · skip
        refine v_iload_n X dX8_sizeOf_59 rfl ?_
        exact v_iret X Y dX8_sizeOf_60 (u := ()) (by first | (exfalso; omega) | (rw [if_neg (by omega)]; unfold hSz; first | rw [if_pos (by omega)] | rw [if_neg (by omega)])) (by first | (exfalso; omega) | (rw [if_neg (by omega)]; unfold hSzT; (first | rw [if_pos (by omega)] | rw [if_neg (by omega)]) <;> rfl))
      · skip
        refine v_iload_n X dX8_sizeOf_54 rfl ?_
        refine v_ineg X dX8_sizeOf_55 ?_
        refine v_goto (tgt := 60) X dX8_sizeOf_56 (by decide) ?_
        exact v_iret X Y dX8_sizeOf_60 (u := ()) (by first | (exfalso; omega) | (rw [if_neg (by omega)]; unfold hSz; first | rw [if_pos (by omega)] | rw [if_neg (by omega)])) (by first | (exfalso; omega) | (rw [if_neg (by omega)]; unfold hSzT; (first | rw [if_pos (by omega)] | rw [if_neg (by omega)]) <;> rfl))
    · skip
      refine v_aload_n X dX8_sizeOf_23 rfl ?_
      refine v_bipush X dX8_sizeOf_24 (by decide) ?_
      refine res_W X (run_V X (c_X8_began (g := g) (by first | assumption | exact ⟨by decide, by decide⟩ | (apply lvT_bd; exact ⟨by decide, by decide⟩) | (apply lvT_bd; apply lvT_bd; exact ⟨by decide, by decide⟩) | (apply lvT_bd; assumption) | (apply lvT_bd; apply lvT_bd; assumption) | (apply lvT_bd; apply lvT_bd; apply lvT_bd; assumption))) gX8_sizeOf_X8_began rfl hdX8_began ⟨(Nat.le_of_ble_eq_true rfl), (Nat.le_of_ble_eq_true rfl)⟩ ⟨(Nat.le_of_ble_eq_true rfl), (Nat.le_of_ble_eq_true rfl)⟩ 0 rfl rfl rfl [0, 1, 2, 3, 4, 5, 6, 7, 8, 9, 10] rfl rfl rfl rfl (by simp [Value.category]) dX8_sizeOf_26) [0, 1, 2, 3, 4, 5, 6, 7, 8, 9, 10] rfl rfl rfl ?_
      dsimp only [patch, List.set, wMod]
      refine v_aload_n X dX8_sizeOf_29 rfl ?_
      refine v_bipush X dX8_sizeOf_30 (by decide) ?_
      refine res_W X (run_V X (c_X8_began (g := g) (by first | assumption | exact ⟨by decide, by decide⟩ | (apply lvT_bd; exact ⟨by decide, by decide⟩) | (apply lvT_bd; apply lvT_bd; exact ⟨by decide, by decide⟩) | (apply lvT_bd; assumption) | (apply lvT_bd; apply lvT_bd; assumption) | (apply lvT_bd; apply lvT_bd; apply lvT_bd; assumption))) gX8_sizeOf_X8_began rfl hdX8_began ⟨(Nat.le_of_ble_eq_true rfl), (Nat.le_of_ble_eq_true rfl)⟩ ⟨(Nat.le_of_ble_eq_true rfl), (Nat.le_of_ble_eq_true rfl)⟩ 0 rfl rfl rfl [0, 1, 2, 3, 4, 5, 6, 7, 8, 9, 10] rfl rfl rfl rfl (by simp [Value.category]) dX8_sizeOf_32) [0, 1, 2, 3, 4, 5, 6, 7, 8, 9, 10] rfl rfl rfl ?_
      dsimp only [patch, List.set, wMod]
      refine v_aload_n X dX8_sizeOf_35 rfl ?_
      refine v_iload_n X dX8_sizeOf_36 rfl ?_
      refine res_F X (run_V X (c_X8_plainSize (g := g) (by first | assumption | omega) (by first | assumption | exact ⟨by decide, by decide⟩ | (apply lvT_bd; exact ⟨by decide, by decide⟩) | (apply lvT_bd; apply lvT_bd; exact ⟨by decide, by decide⟩) | (apply lvT_bd; assumption) | (apply lvT_bd; apply lvT_bd; assumption) | (apply lvT_bd; apply lvT_bd; apply lvT_bd; assumption)) (by first | assumption | omega)) gX8_sizeOf_X8_plainSize rfl hdX8_plainSize ⟨(Nat.le_of_ble_eq_true rfl), (Nat.le_of_ble_eq_true rfl)⟩ ⟨(Nat.le_of_ble_eq_true rfl), (Nat.le_of_ble_eq_true rfl)⟩ 0 rfl rfl rfl [0, 1, 2, 3, 4, 5, 6, 7, 8, 9, 10] rfl rfl rfl rfl (by simp [Value.category]) dX8_sizeOf_37) [0, 1, 2, 3, 4, 5, 6, 7, 8, 9, 10] rfl rfl rfl ?_
      dsimp only [patch, List.set, wMod]
      refine v_istore_n X dX8_sizeOf_40 3 rfl (by decide) rfl ?_
      dsimp only [List.set]
      refine v_iload_n X dX8_sizeOf_41 rfl ?_
      refine v_aload_n X dX8_sizeOf_42 rfl ?_
      refine v_iload_n X dX8_sizeOf_43 rfl ?_
      refine res_F X (run_V X (c_X8_markOf (g := g) (by first | assumption | omega) (by first | assumption | exact ⟨by decide, by decide⟩ | (apply lvT_bd; exact ⟨by decide, by decide⟩) | (apply lvT_bd; apply lvT_bd; exact ⟨by decide, by decide⟩) | (apply lvT_bd; assumption) | (apply lvT_bd; apply lvT_bd; assumption) | (apply lvT_bd; apply lvT_bd; apply lvT_bd; assumption)) (by first | assumption | omega) (by first | assumption | omega)) gX8_sizeOf_X8_markOf rfl hdX8_markOf ⟨(Nat.le_of_ble_eq_true rfl), (Nat.le_of_ble_eq_true rfl)⟩ ⟨(Nat.le_of_ble_eq_true rfl), (Nat.le_of_ble_eq_true rfl)⟩ 0 rfl rfl rfl [0, 1, 2, 3, 4, 5, 6, 7, 8, 9, 10] rfl rfl rfl rfl (by simp [Value.category]) dX8_sizeOf_44) [0, 1, 2, 3, 4, 5, 6, 7, 8, 9, 10] rfl rfl rfl ?_
      dsimp only [patch, List.set, wMod]
      rw [if_neg (by omega)]
      simp only [if_neg (show ¬ (atI 4 (kM fc) h = 4 ∨ atI 4 (kM fc) h = 5) by omega)]
      refine v_iadd X dX8_sizeOf_47 ?_
      refine v_istore_n X dX8_sizeOf_48 3 rfl (by decide) rfl ?_
      dsimp only [List.set]
      refine v_iload_n X dX8_sizeOf_49 rfl ?_
      refine v_iconst X dX8_sizeOf_50 ?_
      refine v_icmp_ne (tgt := 59) X dX8_sizeOf_51 (by decide) (by omega) (by omega) (fun c4 => ?_) (fun c4 => ?_)
      · skip
        refine v_iload_n X dX8_sizeOf_59 rfl ?_
        exact v_iret X Y dX8_sizeOf_60 (u := ()) (by first | (exfalso; omega) | (rw [if_neg (by omega)]; unfold hSz; first | rw [if_pos (by omega)] | rw [if_neg (by omega)])) (by first | (exfalso; omega) | (rw [if_neg (by omega)]; unfold hSzT; (first | rw [if_pos (by omega)] | rw [if_neg (by omega)]) <;> rfl))
      · skip
        refine v_iload_n X dX8_sizeOf_54 rfl ?_
        refine v_ineg X dX8_sizeOf_55 ?_
        refine v_goto (tgt := 60) X dX8_sizeOf_56 (by decide) ?_
        exact v_iret X Y dX8_sizeOf_60 (u := ()) (by first | (exfalso; omega) | (rw [if_neg (by omega)]; unfold hSz; first | rw [if_pos (by omega)] | rw [if_neg (by omega)])) (by first | (exfalso; omega) | (rw [if_neg (by omega)]; unfold hSzT; (first | rw [if_pos (by omega)] | rw [if_neg (by omega)]) <;> rfl))
  · skip
    refine v_aload_n X dX8_sizeOf_12 rfl ?_
    refine v_iload_n X dX8_sizeOf_13 rfl ?_
    refine res_F X (run_V X (c_X8_backSize (g := g) (by first | assumption | omega) (by first | assumption | exact ⟨by decide, by decide⟩ | (apply lvT_bd; exact ⟨by decide, by decide⟩) | (apply lvT_bd; apply lvT_bd; exact ⟨by decide, by decide⟩) | (apply lvT_bd; assumption) | (apply lvT_bd; apply lvT_bd; assumption) | (apply lvT_bd; apply lvT_bd; apply lvT_bd; assumption)) (by first | assumption | omega)) gX8_sizeOf_X8_backSize rfl hdX8_backSize ⟨(Nat.le_of_ble_eq_true rfl), (Nat.le_of_ble_eq_true rfl)⟩ ⟨(Nat.le_of_ble_eq_true rfl), (Nat.le_of_ble_eq_true rfl)⟩ 0 rfl rfl rfl [0, 1, 2, 3, 4, 5, 6, 7, 8, 9, 10] rfl rfl rfl rfl (by simp [Value.category]) dX8_sizeOf_14) [0, 1, 2, 3, 4, 5, 6, 7, 8, 9, 10] rfl rfl rfl ?_
    dsimp only [patch, List.set, wMod]
    exact v_iret X Y dX8_sizeOf_17 (u := ()) (by rw [if_pos (by omega)]) (by rw [if_pos (by omega)] <;> rfl)

theorem hdX8_ask : yX8_ask.cls = RX8 ∧ yX8_ask.cls ≠ "java/lang/invoke/MethodHandle" ∧ yX8_ask.cls ≠ "java/lang/invoke/VarHandle" ∧ (parseMethodDescriptor yX8_ask.desc).map (fun d => d.parameters.length) = some 2 := ⟨rfl, by decide +kernel, by decide +kernel, by decide +kernel⟩
set_option maxHeartbeats 4000000 in
set_option maxRecDepth 100000 in
theorem c_X8_ask {g : Gx} {A : Nat → Nat} {th sq ac td lt ln cu tk sa ti ft fp le lf tr : Int} {fl fm fi fc ff fw ftp fk fe fr : Nat → Int} {h w : Int} (hfc : Bd 0 60 fc) (hc1 : 0 ≤ fc 1 ∧ fc 1 ≤ 4) (htr : 0 ≤ tr ∧ tr ≤ 16) (hk : ∀ i : Int, 0 ≤ i → i < fc 1 → 1 ≤ atI 4 (kM fc) i ∧ atI 4 (kM fc) i ≤ 5) (hh : R32 h) (hw : R32 w) : CtI (S := TS) g yX8_ask wsX8_ask 5 111 [.ref (A 0), .int (iI h), .int (iI w)] (wMod g A th sq ac td lt ln cu tk sa ti ft fp le lf tr fl fm fi fc ff fw ftp fk fe fr) (fun v u => (¬ ((0 ≤ h ∧ h < fc 1) ∧ 0 ≤ w ∧ w ≤ 1) ∧ v = -1000001 ∧ u = (fr, tr)) ∨ (((0 ≤ h ∧ h < fc 1) ∧ 0 ≤ w ∧ w ≤ 1) ∧ v = askF 4 (kM fc) (tM fc) (sM fc) h w ∧ u = askT 4 (kM fc) h w (fr, tr))) (fun u => wMod g A (0) sq ac td lt ln cu tk sa ti ft fp le lf (u.2) fl fm fi fc ff fw ftp fk fe (u.1)) := by
  refine m_go (cc := cX8_ask) (nL := 3) (by decide +kernel) rfl (Nat.le_of_ble_eq_true rfl) (fun x X Y hnm => ?_)
  refine v_eq (lo2 := [some (.ref (A 0)), some (.int (iI h)), some (.int (iI w))]) rfl rfl rfl rfl ?_
  refine v_aload_n X dX8_ask_0 rfl ?_
  refine v_iconst X dX8_ask_1 ?_
  refine v_put X (fun _ h => List.mem_cons_of_mem _ (List.mem_append_right _ h)) tyX8 tyX8_ok nmX8 0 rfl rfl 0 (by decide) rfl (List.mem_of_getElem? (i := 1) rfl) rfl rfl rfl (Nat.le_of_ble_eq_true rfl) dX8_ask_2 ?_
  dsimp only [List.set, wMod]
  refine v_aload_n X dX8_ask_5 rfl ?_
  refine v_iload_n X dX8_ask_6 rfl ?_
  refine res_E X (run_V X (c_X8_isHand (g := g) (by first | assumption | omega) (by first | assumption | omega)) gX8_ask_X8_isHand rfl hdX8_isHand ⟨(Nat.le_of_ble_eq_true rfl), (Nat.le_of_ble_eq_true rfl)⟩ ⟨(Nat.le_of_ble_eq_true rfl), (Nat.le_of_ble_eq_true rfl)⟩ 0 rfl rfl rfl [0, 1, 2, 3, 4, 5, 6, 7, 8, 9, 10] rfl rfl rfl rfl (by simp [Value.category]) dX8_ask_7) [0, 1, 2, 3, 4, 5, 6, 7, 8, 9, 10] rfl rfl ?_
  refine v_ifb_eq (tgt := 23) X dX8_ask_10 (by decide) (fun c1 => ?_) (fun c1 => ?_)
  · skip
    refine v_ldc X (List.mem_of_getElem? (i := 2) rfl) dX8_ask_23 (n := -1000001) (by decide) ?_
    refine v_iret X Y dX8_ask_25 (u := (fr, tr)) ?_ (by rfl)
    exact Or.inl ⟨by omega, rfl, rfl⟩
  · skip
    refine v_iload_n X dX8_ask_13 rfl ?_
    refine v_i2l X dX8_ask_14 (by omega) ?_
    refine v_lconst0 X dX8_ask_15 ?_
    refine v_lconst1 X dX8_ask_16 ?_
    refine res_E X (run_S X (c_X8_in (g := g) (by first | assumption | omega) (by first | assumption | omega) (by first | assumption | omega)) gX8_ask_X8_in rfl hdX8_in.2 ⟨(Nat.le_of_ble_eq_true rfl), (Nat.le_of_ble_eq_true rfl)⟩ ⟨(Nat.le_of_ble_eq_true rfl), (Nat.le_of_ble_eq_true rfl)⟩ [] rfl rfl rfl rfl (by simp [Value.category]) dX8_ask_17) [] rfl rfl ?_
    refine v_ifb_ne (tgt := 26) X dX8_ask_20 (by decide) (fun c2 => ?_) (fun c2 => ?_)
    · skip
      have g1 : (0 ≤ h ∧ h < fc 1) ∧ 0 ≤ w ∧ w ≤ 1 := by omega
      have g2 : 0 ≤ h ∧ h ≤ 3 := by omega
      have g3 := hk h g1.1.1 g1.1.2
      refine v_aload_n X dX8_ask_26 rfl ?_
      refine v_iconst X dX8_ask_27 ?_
      refine v_put X (fun _ h => List.mem_cons_of_mem _ (List.mem_append_right _ h)) tyX8 tyX8_ok nmX8 0 rfl rfl 24 (by decide) rfl (List.mem_of_getElem? (i := 3) rfl) rfl rfl rfl (Nat.le_of_ble_eq_true rfl) dX8_ask_28 ?_
      dsimp only [List.set, wMod]
      refine v_iload_n X dX8_ask_31 rfl ?_
      refine v_if_ne (tgt := 43) X dX8_ask_32 (by decide) (by omega) (fun c3 => ?_) (fun c3 => ?_)
      · skip
        refine v_aload_n X dX8_ask_43 rfl ?_
        refine v_iload_n X dX8_ask_44 rfl ?_
        refine res_F X (run_V X (c_X8_markOf (g := g) (by first | assumption | omega) (by first | assumption | exact ⟨by decide, by decide⟩ | (apply lvT_bd; exact ⟨by decide, by decide⟩) | (apply lvT_bd; apply lvT_bd; exact ⟨by decide, by decide⟩) | (apply lvT_bd; assumption) | (apply lvT_bd; apply lvT_bd; assumption) | (apply lvT_bd; apply lvT_bd; apply lvT_bd; assumption)) (by first | assumption | omega) (by first | assumption | omega)) gX8_ask_X8_markOf rfl hdX8_markOf ⟨(Nat.le_of_ble_eq_true rfl), (Nat.le_of_ble_eq_true rfl)⟩ ⟨(Nat.le_of_ble_eq_true rfl), (Nat.le_of_ble_eq_true rfl)⟩ 0 rfl rfl rfl [0, 1, 2, 3, 4, 5, 6, 7, 8, 9, 10] rfl rfl rfl rfl (by simp [Value.category]) dX8_ask_45) [0, 1, 2, 3, 4, 5, 6, 7, 8, 9, 10] rfl rfl rfl ?_
        dsimp only [patch, List.set, wMod]
        refine v_iret X Y dX8_ask_48 (u := askT 4 (kM fc) h w (fr, tr)) ?_ (by unfold askT; (repeat split) <;> first | (exfalso; omega) | rfl)
        exact Or.inr ⟨g1, by unfold askF; (repeat split) <;> first | rfl | (exfalso; omega), rfl⟩
      · skip
        refine v_aload_n X dX8_ask_35 rfl ?_
        refine v_iload_n X dX8_ask_36 rfl ?_
        refine res_F X (run_V X (c_X8_sizeOf (g := g) (by first | assumption | omega) (by first | assumption | exact ⟨by decide, by decide⟩ | (apply lvT_bd; exact ⟨by decide, by decide⟩) | (apply lvT_bd; apply lvT_bd; exact ⟨by decide, by decide⟩) | (apply lvT_bd; assumption) | (apply lvT_bd; apply lvT_bd; assumption) | (apply lvT_bd; apply lvT_bd; apply lvT_bd; assumption)) (by first | assumption | omega) (by first | assumption | omega)) gX8_ask_X8_sizeOf rfl hdX8_sizeOf ⟨(Nat.le_of_ble_eq_true rfl), (Nat.le_of_ble_eq_true rfl)⟩ ⟨(Nat.le_of_ble_eq_true rfl), (Nat.le_of_ble_eq_true rfl)⟩ 0 rfl rfl rfl [0, 1, 2, 3, 4, 5, 6, 7, 8, 9, 10] rfl rfl rfl rfl (by simp [Value.category]) dX8_ask_37) [0, 1, 2, 3, 4, 5, 6, 7, 8, 9, 10] rfl rfl rfl ?_
        dsimp only [patch, List.set, wMod]
        refine v_goto (tgt := 48) X dX8_ask_40 (by decide) ?_
        refine v_iret X Y dX8_ask_48 (u := askT 4 (kM fc) h w (fr, tr)) ?_ (by unfold askT; (repeat split) <;> first | (exfalso; omega) | rfl)
        exact Or.inr ⟨g1, by unfold askF; (repeat split) <;> first | rfl | (exfalso; omega), rfl⟩
    · skip
      refine v_ldc X (List.mem_of_getElem? (i := 2) rfl) dX8_ask_23 (n := -1000001) (by decide) ?_
      refine v_iret X Y dX8_ask_25 (u := (fr, tr)) ?_ (by rfl)
      exact Or.inl ⟨by omega, rfl, rfl⟩

theorem hdX8_trace : yX8_trace.cls = RX8 ∧ yX8_trace.cls ≠ "java/lang/invoke/MethodHandle" ∧ yX8_trace.cls ≠ "java/lang/invoke/VarHandle" ∧ (parseMethodDescriptor yX8_trace.desc).map (fun d => d.parameters.length) = some 1 := ⟨rfl, by decide +kernel, by decide +kernel, by decide +kernel⟩
set_option maxHeartbeats 4000000 in
set_option maxRecDepth 100000 in
theorem c_X8_trace {g : Gx} {A : Nat → Nat} {th sq ac td lt ln cu tk sa ti ft fp le lf tr : Int} {fl fm fi fc ff fw ftp fk fe fr : Nat → Int} {i : Int} (htr : 0 ≤ tr ∧ tr ≤ 16) (hfr : Bd 0 24 fr) (hi : R32 i) : CtE g yX8_trace wsX8_trace 1 25 [.ref (A 0), .int (iI i)] (wMod g A th sq ac td lt ln cu tk sa ti ft fp le lf tr fl fm fi fc ff fw ftp fk fe fr) (if 0 ≤ i ∧ i < tr then fr i.toNat else -1000000) (wMod g A (0) sq ac td lt ln cu tk sa ti ft fp le lf tr fl fm fi fc ff fw ftp fk fe fr) := by
  refine m_go (cc := cX8_trace) (nL := 2) (by decide +kernel) rfl (Nat.le_of_ble_eq_true rfl) (fun x X Y hnm => ?_)
  refine v_eq (lo2 := [some (.ref (A 0)), some (.int (iI i))]) rfl rfl rfl rfl ?_
  refine v_aload_n X dX8_trace_0 rfl ?_
  refine v_iconst X dX8_trace_1 ?_
  refine v_put X (fun _ h => List.mem_cons_of_mem _ (List.mem_append_right _ h)) tyX8 tyX8_ok nmX8 0 rfl rfl 0 (by decide) rfl (List.mem_of_getElem? (i := 1) rfl) rfl rfl rfl (Nat.le_of_ble_eq_true rfl) dX8_trace_2 ?_
  dsimp only [List.set, wMod]
  refine v_iload_n X dX8_trace_5 rfl ?_
  refine v_i2l X dX8_trace_6 (by omega) ?_
  refine v_lconst0 X dX8_trace_7 ?_
  refine v_aload_n X dX8_trace_8 rfl ?_
  refine v_get X (fun _ h => List.mem_cons_of_mem _ (List.mem_append_right _ h)) 0 rfl rfl 24 (by decide) rfl (List.mem_of_getElem? (i := 2) rfl) rfl dX8_trace_9 ?_
  refine v_iconst X dX8_trace_12 ?_
  refine v_isub X dX8_trace_13 ?_
  refine v_i2l X dX8_trace_14 (by omega) ?_
  refine res_E X (run_S X (c_X8_in (g := g) (by first | assumption | omega) (by first | assumption | omega) (by first | assumption | omega)) gX8_trace_X8_in rfl hdX8_in.2 ⟨(Nat.le_of_ble_eq_true rfl), (Nat.le_of_ble_eq_true rfl)⟩ ⟨(Nat.le_of_ble_eq_true rfl), (Nat.le_of_ble_eq_true rfl)⟩ [] rfl rfl rfl rfl (by simp [Value.category]) dX8_trace_15) [] rfl rfl ?_
  refine v_ifb_eq (tgt := 30) X dX8_trace_18 (by decide) (fun c1 => ?_) (fun c1 => ?_)
  · skip
    refine v_ldc X (List.mem_of_getElem? (i := 4) rfl) dX8_trace_30 (n := -1000000) (by decide) ?_
    exact v_iret X Y dX8_trace_32 (u := ()) (by first | (rw [if_pos (by omega)]; assumption) | rw [if_neg (by omega)]) (by rfl)
  · skip
    refine v_aload_n X dX8_trace_21 rfl ?_
    refine v_get X (fun _ h => List.mem_cons_of_mem _ (List.mem_append_right _ h)) 0 rfl rfl 23 (by decide) rfl (List.mem_of_getElem? (i := 3) rfl) rfl dX8_trace_22 ?_
    refine v_iload_n X dX8_trace_25 rfl ?_
    refine v_iald X 10 rfl (by omega) (by omega) (by omega) dX8_trace_26 hfr (fun z2 ez2 lz2 uz2 => ?_)
    refine v_goto (tgt := 32) X dX8_trace_27 (by decide) ?_
    exact v_iret X Y dX8_trace_32 (u := ()) (by first | (rw [if_pos (by omega)]; assumption) | rw [if_neg (by omega)]) (by rfl)

theorem hdX8_count : yX8_count.cls = RX8 ∧ yX8_count.cls ≠ "java/lang/invoke/MethodHandle" ∧ yX8_count.cls ≠ "java/lang/invoke/VarHandle" ∧ (parseMethodDescriptor yX8_count.desc).map (fun d => d.parameters.length) = some 1 := ⟨rfl, by decide +kernel, by decide +kernel, by decide +kernel⟩
set_option maxHeartbeats 4000000 in
set_option maxRecDepth 100000 in
theorem c_X8_count {g : Gx} {A : Nat → Nat} {th sq ac td lt ln cu tk sa ti ft fp le lf tr : Int} {fl fm fi fc ff fw ftp fk fe fr : Nat → Int} {w : Int} (hfc : Bd 0 60 fc) (hc1 : 0 ≤ fc 1 ∧ fc 1 ≤ 4) (hfl : Bd (-1) 2 fl) (hw : R32 w) : CtE g yX8_count wsX8_count 1 22 [.ref (A 0), .int (iI w)] (wMod g A th sq ac td lt ln cu tk sa ti ft fp le lf tr fl fm fi fc ff fw ftp fk fe fr) (if w = 0 then cntN (fun j => decide (0 ≤ fl j)) 8 else if w = 1 then fc 1 else if w = 2 then fc 0 else if w = 3 then cntN (fun j => decide (0 < sM fc j)) (fc 1).toNat else if w = 4 then ac else if w = 5 then td else -1000001) (wMod g A (0) sq ac td lt ln cu tk sa ti ft fp le lf tr fl fm fi fc ff fw ftp fk fe fr) := by
  refine m_go (cc := cX8_count) (nL := 4) (by decide +kernel) rfl (Nat.le_of_ble_eq_true rfl) (fun x X Y hnm => ?_)
  refine v_eq (lo2 := [some (.ref (A 0)), some (.int (iI w)), none, none]) rfl rfl rfl rfl ?_
  refine v_aload_n X dX8_count_0 rfl ?_
  refine v_iconst X dX8_count_1 ?_
  refine v_put X (fun _ h => List.mem_cons_of_mem _ (List.mem_append_right _ h)) tyX8 tyX8_ok nmX8 0 rfl rfl 0 (by decide) rfl (List.mem_of_getElem? (i := 1) rfl) rfl rfl rfl (Nat.le_of_ble_eq_true rfl) dX8_count_2 ?_
  dsimp only [List.set, wMod]
  refine v_iconst X dX8_count_5 ?_
  refine v_istore_n X dX8_count_6 2 rfl (by decide) rfl ?_
  dsimp only [List.set]
  refine v_iload_n X dX8_count_7 rfl ?_
  by_cases sw0 : w = 0
  · subst sw0
    refine v_tabIn (off := 40) (tgt := 48) X dX8_count_8 (by decide) (by decide) (by decide) rfl (by decide) ?_
    refine v_iconst X dX8_count_48 ?_
    refine v_istore_n X dX8_count_49 3 rfl (by decide) rfl ?_
    dsimp only [List.set]
    have L50 : ∀ (nf : Nat) (k : Int) (i : Int) (h1 : 0 ≤ i ∧ i ≤ 8) (h2 : k = cntN (fun j => decide (0 ≤ fl j)) i.toNat) (h3 : 0 ≤ k ∧ k ≤ i) (_ : (8 - i).toNat < nf), V g x 0 0 (wMod g A (0) sq ac td lt ln cu tk sa ti ft fp le lf tr fl fm fi fc ff fw ftp fk fe fr) [some (.ref (A 0)), some (.int (iI 0)), some (.int (iI k)), some (.int (iI i))] 50 [] := by
      intro nf
      induction nf with
      | zero => intro k i h1 h2 h3 hmu; exact absurd hmu (Nat.not_lt_zero _)
      | succ nf ih50 =>
        intro k i h1 h2 h3 hmu
        refine v_iload_n X dX8_count_50 rfl ?_
        refine v_bipush X dX8_count_51 (by decide) ?_
        refine v_icmp_ge (tgt := 79) X dX8_count_53 (by decide) (by omega) (by omega) (fun c1 => ?_) (fun c1 => ?_)
        · skip
          refine v_iload_n X dX8_count_79 rfl ?_
          exact v_iret X Y dX8_count_80 (u := ()) (by
              have e : i = 8 := by omega
              rw [if_pos (by rfl), h2, e]; rfl) (by rfl)
        · skip
          refine v_iload_n X dX8_count_56 rfl ?_
          refine v_aload_n X dX8_count_57 rfl ?_
          refine v_get X (fun _ h => List.mem_cons_of_mem _ (List.mem_append_right _ h)) 0 rfl rfl 2 (by decide) rfl (List.mem_of_getElem? (i := 2) rfl) rfl dX8_count_58 ?_
          refine v_iload_n X dX8_count_61 rfl ?_
          refine v_iald X 1 rfl (by omega) (by omega) (by omega) dX8_count_62 hfl (fun z2 ez2 lz2 uz2 => ?_)
          refine v_if_lt (tgt := 70) X dX8_count_63 (by decide) (by omega) (fun c3 => ?_) (fun c3 => ?_)
          · skip
            refine v_iconst X dX8_count_70 ?_
            refine v_iadd X dX8_count_71 ?_
            refine v_istore_n X dX8_count_72 2 rfl (by decide) rfl ?_
            dsimp only [List.set]
            refine v_iinc X dX8_count_73 rfl (by decide) rfl ?_
            dsimp only [List.set]
            refine v_goto (tgt := 50) X dX8_count_76 (by decide) ?_
            exact ih50 _ _ (by omega) (by rw [cntN_s h1.1]; simp only [decide_eq_true_eq]; split <;> omega) (by omega) (by omega)
          · skip
            refine v_iconst X dX8_count_66 ?_
            refine v_goto (tgt := 71) X dX8_count_67 (by decide) ?_
            refine v_iadd X dX8_count_71 ?_
            refine v_istore_n X dX8_count_72 2 rfl (by decide) rfl ?_
            dsimp only [List.set]
            refine v_iinc X dX8_count_73 rfl (by decide) rfl ?_
            dsimp only [List.set]
            refine v_goto (tgt := 50) X dX8_count_76 (by decide) ?_
            exact ih50 _ _ (by omega) (by rw [cntN_s h1.1]; simp only [decide_eq_true_eq]; split <;> omega) (by omega) (by omega)
    exact L50 _ _ _ (by omega) (by rfl) (by omega) (Nat.lt_succ_self _)
  by_cases sw1 : w = 1
  · subst sw1
    refine v_tabIn (off := 73) (tgt := 81) X dX8_count_8 (by decide) (by decide) (by decide) rfl (by decide) ?_
    refine v_aload_n X dX8_count_81 rfl ?_
    refine v_get X (fun _ h => List.mem_cons_of_mem _ (List.mem_append_right _ h)) 0 rfl rfl 5 (by decide) rfl (List.mem_of_getElem? (i := 3) rfl) rfl dX8_count_82 ?_
    refine v_iconst X dX8_count_85 ?_
    refine v_iald X 4 rfl (by omega) (by omega) (by omega) dX8_count_86 hfc (fun zq ezq lzq uzq => ?_)
    exact v_iret X Y dX8_count_87 (u := ()) (by rw [ezq]; rfl) (by rfl)
  by_cases sw2 : w = 2
  · subst sw2
    refine v_tabIn (off := 80) (tgt := 88) X dX8_count_8 (by decide) (by decide) (by decide) rfl (by decide) ?_
    refine v_aload_n X dX8_count_88 rfl ?_
    refine v_get X (fun _ h => List.mem_cons_of_mem _ (List.mem_append_right _ h)) 0 rfl rfl 5 (by decide) rfl (List.mem_of_getElem? (i := 3) rfl) rfl dX8_count_89 ?_
    refine v_iconst X dX8_count_92 ?_
    refine v_iald X 4 rfl (by omega) (by omega) (by omega) dX8_count_93 hfc (fun zp ezp lzp uzp => ?_)
    exact v_iret X Y dX8_count_94 (u := ()) (by rw [ezp]; rfl) (by rfl)
  by_cases sw3 : w = 3
  · subst sw3
    refine v_tabIn (off := 87) (tgt := 95) X dX8_count_8 (by decide) (by decide) (by decide) rfl (by decide) ?_
    refine v_iconst X dX8_count_95 ?_
    refine v_istore_n X dX8_count_96 3 rfl (by decide) rfl ?_
    dsimp only [List.set]
    have L97 : ∀ (nf : Nat) (k : Int) (i : Int) (h1 : 0 ≤ i ∧ i ≤ fc 1) (h2 : k = cntN (fun j => decide (0 < sM fc j)) i.toNat) (h3 : 0 ≤ k ∧ k ≤ i) (_ : (fc 1 - i).toNat < nf), V g x 0 0 (wMod g A (0) sq ac td lt ln cu tk sa ti ft fp le lf tr fl fm fi fc ff fw ftp fk fe fr) [some (.ref (A 0)), some (.int (iI 3)), some (.int (iI k)), some (.int (iI i))] 97 [] := by
      intro nf
      induction nf with
      | zero => intro k i h1 h2 h3 hmu; exact absurd hmu (Nat.not_lt_zero _)
      | succ nf ih97 =>
        intro k i h1 h2 h3 hmu
        refine v_iload_n X dX8_count_97 rfl ?_
        refine v_aload_n X dX8_count_98 rfl ?_
        refine v_get X (fun _ h => List.mem_cons_of_mem _ (List.mem_append_right _ h)) 0 rfl rfl 5 (by decide) rfl (List.mem_of_getElem? (i := 3) rfl) rfl dX8_count_99 ?_
        refine v_iconst X dX8_count_102 ?_
        refine v_iald X 4 rfl (by omega) (by omega) (by omega) dX8_count_103 hfc (fun zr ezr lzr uzr => ?_)
        rw [show zr = fc 1 from ezr]
        refine v_icmp_ge (tgt := 130) X dX8_count_104 (by decide) (by omega) (by omega) (fun c7 => ?_) (fun c7 => ?_)
        · skip
          refine v_iload_n X dX8_count_130 rfl ?_
          exact v_iret X Y dX8_count_131 (u := ()) (by
              have e : i = fc 1 := by omega
              rw [if_neg (by decide), if_neg (by decide), if_neg (by decide), if_pos (by rfl), h2, e]) (by rfl)
        · skip
          refine v_iload_n X dX8_count_107 rfl ?_
          refine v_aload_n X dX8_count_108 rfl ?_
          refine v_iload_n X dX8_count_109 rfl ?_
          refine v_iconst X dX8_count_110 ?_
          refine res_E X (run_V X (c_X8_of (g := g) (by first | assumption | omega) (by first | assumption | omega) (by first | assumption | omega)) gX8_count_X8_of rfl hdX8_of ⟨(Nat.le_of_ble_eq_true rfl), (Nat.le_of_ble_eq_true rfl)⟩ ⟨(Nat.le_of_ble_eq_true rfl), (Nat.le_of_ble_eq_true rfl)⟩ 0 rfl rfl rfl [0, 1, 2, 3, 4, 5, 6, 7, 8, 9, 10] rfl rfl rfl rfl (by simp [Value.category]) dX8_count_111) [0, 1, 2, 3, 4, 5, 6, 7, 8, 9, 10] rfl rfl ?_
          rw [sM_at (fc := fc) (h := i) (by omega)]
          have q5 := hfc (4 + 3 * i.toNat)
          have q6 : atI 4 (sM fc) i = sM fc i.toNat := if_pos (by omega)
          rw [q6]
          have q7 : sM fc i.toNat = fc (4 + 3 * i.toNat) := rfl
          refine v_if_le (tgt := 121) X dX8_count_114 (by decide) (by omega) (fun c8 => ?_) (fun c8 => ?_)
          · skip
            refine v_iconst X dX8_count_121 ?_
            refine v_iadd X dX8_count_122 ?_
            refine v_istore_n X dX8_count_123 2 rfl (by decide) rfl ?_
            dsimp only [List.set]
            refine v_iinc X dX8_count_124 rfl (by decide) rfl ?_
            dsimp only [List.set]
            refine v_goto (tgt := 97) X dX8_count_127 (by decide) ?_
            exact ih97 _ _ (by omega) (by rw [cntN_s h1.1]; simp only [decide_eq_true_eq]; split <;> omega) (by omega) (by omega)
          · skip
            refine v_iconst X dX8_count_117 ?_
            refine v_goto (tgt := 122) X dX8_count_118 (by decide) ?_
            refine v_iadd X dX8_count_122 ?_
            refine v_istore_n X dX8_count_123 2 rfl (by decide) rfl ?_
            dsimp only [List.set]
            refine v_iinc X dX8_count_124 rfl (by decide) rfl ?_
            dsimp only [List.set]
            refine v_goto (tgt := 97) X dX8_count_127 (by decide) ?_
            exact ih97 _ _ (by omega) (by rw [cntN_s h1.1]; simp only [decide_eq_true_eq]; split <;> omega) (by omega) (by omega)
    exact L97 _ _ _ (by omega) (by rfl) (by omega) (Nat.lt_succ_self _)
  by_cases sw4 : w = 4
  · subst sw4
    refine v_tabIn (off := 124) (tgt := 132) X dX8_count_8 (by decide) (by decide) (by decide) rfl (by decide) ?_
    refine v_aload_n X dX8_count_132 rfl ?_
    refine v_get X (fun _ h => List.mem_cons_of_mem _ (List.mem_append_right _ h)) 0 rfl rfl 8 (by decide) rfl (List.mem_of_getElem? (i := 4) rfl) rfl dX8_count_133 ?_
    exact v_iret X Y dX8_count_136 (u := ()) (by rfl) (by rfl)
  by_cases sw5 : w = 5
  · subst sw5
    refine v_tabIn (off := 129) (tgt := 137) X dX8_count_8 (by decide) (by decide) (by decide) rfl (by decide) ?_
    refine v_aload_n X dX8_count_137 rfl ?_
    refine v_get X (fun _ h => List.mem_cons_of_mem _ (List.mem_append_right _ h)) 0 rfl rfl 10 (by decide) rfl (List.mem_of_getElem? (i := 5) rfl) rfl dX8_count_138 ?_
    exact v_iret X Y dX8_count_141 (u := ()) (by rfl) (by rfl)
  refine v_tabOut (tgt := 142) X dX8_count_8 (by omega) (by omega) (by decide) ?_
  refine v_ldc X (List.mem_of_getElem? (i := 6) rfl) dX8_count_142 (n := -1000001) (by decide) ?_
  exact v_iret X Y dX8_count_144 (u := ()) (by rw [if_neg (by assumption), if_neg (by assumption), if_neg (by assumption), if_neg (by assumption), if_neg (by assumption), if_neg (by assumption)]) (by rfl)

theorem hdX8_image : yX8_image.cls = RX8 ∧ yX8_image.cls ≠ "java/lang/invoke/MethodHandle" ∧ yX8_image.cls ≠ "java/lang/invoke/VarHandle" ∧ (parseMethodDescriptor yX8_image.desc).map (fun d => d.parameters.length) = some 1 := ⟨rfl, by decide +kernel, by decide +kernel, by decide +kernel⟩
set_option maxHeartbeats 4000000 in
set_option maxRecDepth 100000 in
theorem c_X8_image {g : Gx} {A : Nat → Nat} {th sq ac td lt ln cu tk sa ti ft fp le lf tr : Int} {fl fm fi fc ff fw ftp fk fe fr : Nat → Int} {k : Int} (hfc : Bd 0 60 fc) (hk : R32 k) : CtI (S := (Nat → Int) × (Nat → Int)) g yX8_image wsX8_image 1 25 [.ref (A 0), .int (iI k)] (wMod g A th sq ac td lt ln cu tk sa ti ft fp le lf tr fl fm fi fc ff fw ftp fk fe fr) (fun v u => (¬ (0 ≤ k ∧ k ≤ 1) ∧ v = -1000001 ∧ u = (fk, fe)) ∨ ((0 ≤ k ∧ k ≤ 1) ∧ ((¬ 0 < fc 0 ∧ v = -1000002 ∧ u = (fk, fe)) ∨ (0 < fc 0 ∧ v = 1 ∧ u = (updI fk k.toNat 1, keM fc fe k))))) (fun u => wMod g A (0) sq ac td lt ln cu tk sa ti ft fp le lf tr fl fm fi fc ff fw ftp (u.1) (u.2) fr) := by
  refine m_go (cc := cX8_image) (nL := 3) (by decide +kernel) rfl (Nat.le_of_ble_eq_true rfl) (fun x X Y hnm => ?_)
  refine v_eq (lo2 := [some (.ref (A 0)), some (.int (iI k)), none]) rfl rfl rfl rfl ?_
  refine v_aload_n X dX8_image_0 rfl ?_
  refine v_iconst X dX8_image_1 ?_
  refine v_put X (fun _ h => List.mem_cons_of_mem _ (List.mem_append_right _ h)) tyX8 tyX8_ok nmX8 0 rfl rfl 0 (by decide) rfl (List.mem_of_getElem? (i := 1) rfl) rfl rfl rfl (Nat.le_of_ble_eq_true rfl) dX8_image_2 ?_
  dsimp only [List.set, wMod]
  refine v_iload_n X dX8_image_5 rfl ?_
  refine v_i2l X dX8_image_6 (by omega) ?_
  refine v_lconst0 X dX8_image_7 ?_
  refine v_lconst1 X dX8_image_8 ?_
  refine res_E X (run_S X (c_X8_in (g := g) (by first | assumption | omega) (by first | assumption | omega) (by first | assumption | omega)) gX8_image_X8_in rfl hdX8_in.2 ⟨(Nat.le_of_ble_eq_true rfl), (Nat.le_of_ble_eq_true rfl)⟩ ⟨(Nat.le_of_ble_eq_true rfl), (Nat.le_of_ble_eq_true rfl)⟩ [] rfl rfl rfl rfl (by simp [Value.category]) dX8_image_9) [] rfl rfl ?_
  refine v_ifb_ne (tgt := 18) X dX8_image_12 (by decide) (fun c1 => ?_) (fun c1 => ?_)
  · skip
    refine v_aload_n X dX8_image_18 rfl ?_
    refine res_E X (run_V X (c_X8_isThere (g := g) (by first | assumption | omega)) gX8_image_X8_isThere rfl hdX8_isThere ⟨(Nat.le_of_ble_eq_true rfl), (Nat.le_of_ble_eq_true rfl)⟩ ⟨(Nat.le_of_ble_eq_true rfl), (Nat.le_of_ble_eq_true rfl)⟩ 0 rfl rfl rfl [0, 1, 2, 3, 4, 5, 6, 7, 8, 9, 10] rfl rfl rfl rfl (by simp [Value.category]) dX8_image_19) [0, 1, 2, 3, 4, 5, 6, 7, 8, 9, 10] rfl rfl ?_
    refine v_ifb_ne (tgt := 28) X dX8_image_22 (by decide) (fun c2 => ?_) (fun c2 => ?_)
    · skip
      refine v_iconst X dX8_image_28 ?_
      refine v_istore_n X dX8_image_29 2 rfl (by decide) rfl ?_
      dsimp only [List.set]
      have L30 : ∀ (nf : Nat) (f : Nat → Int) (i : Int) (h1 : 0 ≤ i ∧ i ≤ 14) (h2 : ∀ j : Nat, f j = if 14 * k ≤ (j : Int) ∧ (j : Int) < 14 * k + i then fc (j - (14 * k).toNat) else fe j) (_ : (14 - i).toNat < nf), V g x 0 0 (wMod g A (0) sq ac td lt ln cu tk sa ti ft fp le lf tr fl fm fi fc ff fw ftp fk (f) fr) [some (.ref (A 0)), some (.int (iI k)), some (.int (iI i))] 30 [] := by
        intro nf
        induction nf with
        | zero => intro f i h1 h2 hmu; exact absurd hmu (Nat.not_lt_zero _)
        | succ nf ih30 =>
          intro f i h1 h2 hmu
          refine v_iload_n X dX8_image_30 rfl ?_
          refine v_bipush X dX8_image_31 (by decide) ?_
          refine v_icmp_ge (tgt := 59) X dX8_image_33 (by decide) (by omega) (by omega) (fun c3 => ?_) (fun c3 => ?_)
          · skip
            refine v_aload_n X dX8_image_59 rfl ?_
            refine v_get X (fun _ h => List.mem_cons_of_mem _ (List.mem_append_right _ h)) 0 rfl rfl 21 (by decide) rfl (List.mem_of_getElem? (i := 6) rfl) rfl dX8_image_60 ?_
            refine v_iload_n X dX8_image_63 rfl ?_
            refine v_iconst X dX8_image_64 ?_
            refine v_zast X 8 rfl (by omega) (by omega) (by omega) (by omega) dX8_image_65 ?_
            dsimp only [List.set, wMod]
            refine v_iconst X dX8_image_66 ?_
            refine v_iret X Y dX8_image_67 (u := (updI fk k.toNat 1, keM fc fe k)) ?_ (by rw [show f = keM fc fe k from funext (fun j => by rw [h2 j, show i = 14 by omega]; rfl)])
            exact Or.inr ⟨by omega, Or.inr ⟨by omega, rfl, rfl⟩⟩
          · skip
            refine v_aload_n X dX8_image_36 rfl ?_
            refine v_get X (fun _ h => List.mem_cons_of_mem _ (List.mem_append_right _ h)) 0 rfl rfl 22 (by decide) rfl (List.mem_of_getElem? (i := 4) rfl) rfl dX8_image_37 ?_
            refine v_bipush X dX8_image_40 (by decide) ?_
            refine v_iload_n X dX8_image_42 rfl ?_
            refine v_imul X dX8_image_43 ?_
            refine v_iload_n X dX8_image_44 rfl ?_
            refine v_iadd X dX8_image_45 ?_
            refine v_aload_n X dX8_image_46 rfl ?_
            refine v_get X (fun _ h => List.mem_cons_of_mem _ (List.mem_append_right _ h)) 0 rfl rfl 5 (by decide) rfl (List.mem_of_getElem? (i := 5) rfl) rfl dX8_image_47 ?_
            refine v_iload_n X dX8_image_50 rfl ?_
            refine v_iald X 4 rfl (by omega) (by omega) (by omega) dX8_image_51 hfc (fun zz ezz lzz uzz => ?_)
            refine v_iast X 9 rfl (by omega) (by omega) (by omega) dX8_image_52 ?_
            dsimp only [List.set, wMod]
            refine v_iinc X dX8_image_53 rfl (by decide) rfl ?_
            dsimp only [List.set]
            refine v_goto (tgt := 30) X dX8_image_56 (by decide) ?_
            exact ih30 _ _ (by omega) (by
                intro j
                have q := h2 j
                rw [updI_e]
                by_cases e : j = (14 * k + i).toNat
                · rw [if_pos e, if_pos (by omega), ezz]; congr 1; omega
                · rw [if_neg e, q]
                  by_cases e2 : 14 * k ≤ (j : Int) ∧ (j : Int) < 14 * k + i
                  · rw [if_pos e2, if_pos (by omega)]
                  · rw [if_neg e2, if_neg (by omega)]) (by omega)
      exact L30 _ _ _ (by omega) (by intro j; rw [if_neg (by omega)]) (Nat.lt_succ_self _)
    · skip
      refine v_ldc X (List.mem_of_getElem? (i := 3) rfl) dX8_image_25 (n := -1000002) (by decide) ?_
      refine v_iret X Y dX8_image_27 (u := (fk, fe)) ?_ (by rfl)
      exact Or.inr ⟨by omega, Or.inl ⟨by omega, rfl, rfl⟩⟩
  · skip
    refine v_ldc X (List.mem_of_getElem? (i := 2) rfl) dX8_image_15 (n := -1000001) (by decide) ?_
    refine v_iret X Y dX8_image_17 (u := (fk, fe)) ?_ (by rfl)
    exact Or.inl ⟨by omega, rfl, rfl⟩

theorem hdX8_restore : yX8_restore.cls = RX8 ∧ yX8_restore.cls ≠ "java/lang/invoke/MethodHandle" ∧ yX8_restore.cls ≠ "java/lang/invoke/VarHandle" ∧ (parseMethodDescriptor yX8_restore.desc).map (fun d => d.parameters.length) = some 1 := ⟨rfl, by decide +kernel, by decide +kernel, by decide +kernel⟩
set_option maxHeartbeats 4000000 in
set_option maxRecDepth 100000 in
theorem c_X8_restore {g : Gx} {A : Nat → Nat} {th sq ac td lt ln cu tk sa ti ft fp le lf tr : Int} {fl fm fi fc ff fw ftp fk fe fr : Nat → Int} {k : Int} (hfc : Bd 0 60 fc) (hfk : Bd 0 1 fk) (hfe : Bd 0 60 fe) (hk : R32 k) : CtI (S := (Nat → Int) × Int) g yX8_restore wsX8_restore 1 25 [.ref (A 0), .int (iI k)] (wMod g A th sq ac td lt ln cu tk sa ti ft fp le lf tr fl fm fi fc ff fw ftp fk fe fr) (fun v u => (¬ (0 ≤ k ∧ k ≤ 1) ∧ v = -1000001 ∧ u = (fc, ac)) ∨ ((0 ≤ k ∧ k ≤ 1) ∧ ((fk k.toNat = 0 ∧ v = -1000002 ∧ u = (fc, ac)) ∨ (fk k.toNat ≠ 0 ∧ v = 1 ∧ u = (reM fc fe k, 0))))) (fun u => wMod g A (0) sq (u.2) td lt ln cu tk sa ti ft fp le lf tr fl fm fi (u.1) ff fw ftp fk fe fr) := by
  refine m_go (cc := cX8_restore) (nL := 3) (by decide +kernel) rfl (Nat.le_of_ble_eq_true rfl) (fun x X Y hnm => ?_)
  refine v_eq (lo2 := [some (.ref (A 0)), some (.int (iI k)), none]) rfl rfl rfl rfl ?_
  refine v_aload_n X dX8_restore_0 rfl ?_
  refine v_iconst X dX8_restore_1 ?_
  refine v_put X (fun _ h => List.mem_cons_of_mem _ (List.mem_append_right _ h)) tyX8 tyX8_ok nmX8 0 rfl rfl 0 (by decide) rfl (List.mem_of_getElem? (i := 1) rfl) rfl rfl rfl (Nat.le_of_ble_eq_true rfl) dX8_restore_2 ?_
  dsimp only [List.set, wMod]
  refine v_iload_n X dX8_restore_5 rfl ?_
  refine v_i2l X dX8_restore_6 (by omega) ?_
  refine v_lconst0 X dX8_restore_7 ?_
  refine v_lconst1 X dX8_restore_8 ?_
  refine res_E X (run_S X (c_X8_in (g := g) (by first | assumption | omega) (by first | assumption | omega) (by first | assumption | omega)) gX8_restore_X8_in rfl hdX8_in.2 ⟨(Nat.le_of_ble_eq_true rfl), (Nat.le_of_ble_eq_true rfl)⟩ ⟨(Nat.le_of_ble_eq_true rfl), (Nat.le_of_ble_eq_true rfl)⟩ [] rfl rfl rfl rfl (by simp [Value.category]) dX8_restore_9) [] rfl rfl ?_
  refine v_ifb_ne (tgt := 18) X dX8_restore_12 (by decide) (fun c1 => ?_) (fun c1 => ?_)
  · skip
    refine v_aload_n X dX8_restore_18 rfl ?_
    refine v_get X (fun _ h => List.mem_cons_of_mem _ (List.mem_append_right _ h)) 0 rfl rfl 21 (by decide) rfl (List.mem_of_getElem? (i := 3) rfl) rfl dX8_restore_19 ?_
    refine v_iload_n X dX8_restore_22 rfl ?_
    refine v_zald X 8 rfl (by omega) (by omega) (by omega) dX8_restore_23 hfk (fun z2 ez2 lz2 uz2 => ?_)
    refine v_if_ne (tgt := 30) X dX8_restore_24 (by decide) (by omega) (fun c3 => ?_) (fun c3 => ?_)
    · skip
      refine v_iconst X dX8_restore_30 ?_
      refine v_istore_n X dX8_restore_31 2 rfl (by decide) rfl ?_
      dsimp only [List.set]
      have L32 : ∀ (nf : Nat) (f : Nat → Int) (i : Int) (h1 : 0 ≤ i ∧ i ≤ 14) (h2 : ∀ j : Nat, f j = if (j : Int) < i then fe ((14 * k).toNat + j) else fc j) (_ : (14 - i).toNat < nf), V g x 0 0 (wMod g A (0) sq ac td lt ln cu tk sa ti ft fp le lf tr fl fm fi (f) ff fw ftp fk fe fr) [some (.ref (A 0)), some (.int (iI k)), some (.int (iI i))] 32 [] := by
        intro nf
        induction nf with
        | zero => intro f i h1 h2 hmu; exact absurd hmu (Nat.not_lt_zero _)
        | succ nf ih32 =>
          intro f i h1 h2 hmu
          refine v_iload_n X dX8_restore_32 rfl ?_
          refine v_bipush X dX8_restore_33 (by decide) ?_
          refine v_icmp_ge (tgt := 61) X dX8_restore_35 (by decide) (by omega) (by omega) (fun c4 => ?_) (fun c4 => ?_)
          · skip
            refine v_aload_n X dX8_restore_61 rfl ?_
            refine v_iconst X dX8_restore_62 ?_
            refine v_put X (fun _ h => List.mem_cons_of_mem _ (List.mem_append_right _ h)) tyX8 tyX8_ok nmX8 0 rfl rfl 8 (by decide) rfl (List.mem_of_getElem? (i := 7) rfl) rfl rfl rfl (Nat.le_of_ble_eq_true rfl) dX8_restore_63 ?_
            dsimp only [List.set, wMod]
            refine v_iconst X dX8_restore_66 ?_
            refine v_iret X Y dX8_restore_67 (u := (reM fc fe k, 0)) ?_ (by rw [show f = reM fc fe k from funext (fun j => reM_of (by omega) h2 j)])
            exact Or.inr ⟨by omega, Or.inr ⟨by omega, rfl, rfl⟩⟩
          · skip
            refine v_aload_n X dX8_restore_38 rfl ?_
            refine v_get X (fun _ h => List.mem_cons_of_mem _ (List.mem_append_right _ h)) 0 rfl rfl 5 (by decide) rfl (List.mem_of_getElem? (i := 5) rfl) rfl dX8_restore_39 ?_
            refine v_iload_n X dX8_restore_42 rfl ?_
            refine v_aload_n X dX8_restore_43 rfl ?_
            refine v_get X (fun _ h => List.mem_cons_of_mem _ (List.mem_append_right _ h)) 0 rfl rfl 22 (by decide) rfl (List.mem_of_getElem? (i := 6) rfl) rfl dX8_restore_44 ?_
            refine v_bipush X dX8_restore_47 (by decide) ?_
            refine v_iload_n X dX8_restore_49 rfl ?_
            refine v_imul X dX8_restore_50 ?_
            refine v_iload_n X dX8_restore_51 rfl ?_
            refine v_iadd X dX8_restore_52 ?_
            refine v_iald X 9 rfl (by omega) (by omega) (by omega) dX8_restore_53 hfe (fun zz ezz lzz uzz => ?_)
            refine v_iast X 4 rfl (by omega) (by omega) (by omega) dX8_restore_54 ?_
            dsimp only [List.set, wMod]
            refine v_iinc X dX8_restore_55 rfl (by decide) rfl ?_
            dsimp only [List.set]
            refine v_goto (tgt := 32) X dX8_restore_58 (by decide) ?_
            exact ih32 _ _ (by omega) (by
                intro j
                have q := h2 j
                rw [updI_e]
                by_cases e : j = i.toNat
                · rw [if_pos e, if_pos (by omega), ezz]; congr 1; omega
                · rw [if_neg e, q]
                  by_cases e2 : (j : Int) < i
                  · rw [if_pos e2, if_pos (by omega)]
                  · rw [if_neg e2, if_neg (by omega)]) (by omega)
      exact L32 _ _ _ (by omega) (by intro j; rw [if_neg (by omega)]) (Nat.lt_succ_self _)
    · skip
      refine v_ldc X (List.mem_of_getElem? (i := 4) rfl) dX8_restore_27 (n := -1000002) (by decide) ?_
      refine v_iret X Y dX8_restore_29 (u := (fc, ac)) ?_ (by rfl)
      exact Or.inr ⟨by omega, Or.inl ⟨by omega, rfl, rfl⟩⟩
  · skip
    refine v_ldc X (List.mem_of_getElem? (i := 2) rfl) dX8_restore_15 (n := -1000001) (by decide) ?_
    refine v_iret X Y dX8_restore_17 (u := (fc, ac)) ?_ (by rfl)
    exact Or.inl ⟨by omega, rfl, rfl⟩

theorem hdX8_glass : yX8_glass.cls = RX8 ∧ yX8_glass.cls ≠ "java/lang/invoke/MethodHandle" ∧ yX8_glass.cls ≠ "java/lang/invoke/VarHandle" ∧ (parseMethodDescriptor yX8_glass.desc).map (fun d => d.parameters.length) = some 3 := ⟨rfl, by decide +kernel, by decide +kernel, by decide +kernel⟩
set_option maxHeartbeats 4000000 in
set_option maxRecDepth 100000 in
theorem c_X8_glass {g : Gx} {A : Nat → Nat} {th sq ac td lt ln cu tk sa ti ft fp le lf tr : Int} {fl fm fi fc ff fw ftp fk fe fr : Nat → Int} {p q w : Int} (hfc : Bd 0 60 fc) (hc1 : 0 ≤ fc 1 ∧ fc 1 ≤ 4) (ht3 : Bd 0 12 (tM fc)) (hp : R32 p) (hq : R32 q) (hw : R32 w) : CtE g yX8_glass wsX8_glass 3 66 [.ref (A 0), .int (iI p), .int (iI q), .int (iI w)] (wMod g A th sq ac td lt ln cu tk sa ti ft fp le lf tr fl fm fi fc ff fw ftp fk fe fr) (if 0 < fc 0 then (if (1 ≤ q ∧ q ≤ 9999 ∧ 0 ≤ p ∧ p < q) ∧ 0 ≤ w ∧ w ≤ 2 then (if w < 2 then toldI (if p = 0 then 0 else q - p) q w else trueM fc p q) else -1000001) else -1000002) (wMod g A (0) sq ac td lt ln cu tk sa ti ft fp le lf tr fl fm fi fc ff fw ftp fk fe fr) := by
  refine m_go (cc := cX8_glass) (nL := 6) (by decide +kernel) rfl (Nat.le_of_ble_eq_true rfl) (fun x X Y hnm => ?_)
  refine v_eq (lo2 := [some (.ref (A 0)), some (.int (iI p)), some (.int (iI q)), some (.int (iI w)), none, none]) rfl rfl rfl rfl ?_
  refine v_aload_n X dX8_glass_0 rfl ?_
  refine v_iconst X dX8_glass_1 ?_
  refine v_put X (fun _ h => List.mem_cons_of_mem _ (List.mem_append_right _ h)) tyX8 tyX8_ok nmX8 0 rfl rfl 0 (by decide) rfl (List.mem_of_getElem? (i := 1) rfl) rfl rfl rfl (Nat.le_of_ble_eq_true rfl) dX8_glass_2 ?_
  dsimp only [List.set, wMod]
  refine v_aload_n X dX8_glass_5 rfl ?_
  refine res_E X (run_V X (c_X8_isThere (g := g) (by first | assumption | omega)) gX8_glass_X8_isThere rfl hdX8_isThere ⟨(Nat.le_of_ble_eq_true rfl), (Nat.le_of_ble_eq_true rfl)⟩ ⟨(Nat.le_of_ble_eq_true rfl), (Nat.le_of_ble_eq_true rfl)⟩ 0 rfl rfl rfl [0, 1, 2, 3, 4, 5, 6, 7, 8, 9, 10] rfl rfl rfl rfl (by simp [Value.category]) dX8_glass_6) [0, 1, 2, 3, 4, 5, 6, 7, 8, 9, 10] rfl rfl ?_
  refine v_ifb_ne (tgt := 15) X dX8_glass_9 (by decide) (fun c1 => ?_) (fun c1 => ?_)
  · skip
    refine v_iload_n X dX8_glass_15 rfl ?_
    refine v_iload_n X dX8_glass_16 rfl ?_
    refine res_E X (run_S X (c_X8_isMoment (g := g) (by first | assumption | omega) (by first | assumption | omega)) gX8_glass_X8_isMoment rfl hdX8_isMoment.2 ⟨(Nat.le_of_ble_eq_true rfl), (Nat.le_of_ble_eq_true rfl)⟩ ⟨(Nat.le_of_ble_eq_true rfl), (Nat.le_of_ble_eq_true rfl)⟩ [] rfl rfl rfl rfl (by simp [Value.category]) dX8_glass_17) [] rfl rfl ?_
    refine v_ifb_eq (tgt := 35) X dX8_glass_20 (by decide) (fun c2 => ?_) (fun c2 => ?_)
    · skip
      refine v_ldc X (List.mem_of_getElem? (i := 4) rfl) dX8_glass_35 (n := -1000001) (by decide) ?_
      exact v_iret X Y dX8_glass_37 (u := ()) (by rw [if_pos (by assumption), if_neg (by omega)]) (by rfl)
    · skip
      refine v_iload_n X dX8_glass_23 rfl ?_
      refine v_i2l X dX8_glass_24 (by omega) ?_
      refine v_lconst0 X dX8_glass_25 ?_
      refine v_ldc2 X (List.mem_of_getElem? (i := 3) rfl) dX8_glass_26 (n := 2) (by decide) ?_
      refine res_E X (run_S X (c_X8_in (g := g) (by first | assumption | omega) (by first | assumption | omega) (by first | assumption | omega)) gX8_glass_X8_in rfl hdX8_in.2 ⟨(Nat.le_of_ble_eq_true rfl), (Nat.le_of_ble_eq_true rfl)⟩ ⟨(Nat.le_of_ble_eq_true rfl), (Nat.le_of_ble_eq_true rfl)⟩ [] rfl rfl rfl rfl (by simp [Value.category]) dX8_glass_29) [] rfl rfl ?_
      refine v_ifb_ne (tgt := 38) X dX8_glass_32 (by decide) (fun c3 => ?_) (fun c3 => ?_)
      · skip
        have q0 := hfc 0
        refine v_iload_n X dX8_glass_38 rfl ?_
        refine v_iconst X dX8_glass_39 ?_
        refine v_icmp_ge (tgt := 60) X dX8_glass_40 (by decide) (by omega) (by omega) (fun c4 => ?_) (fun c4 => ?_)
        · skip
          refine v_iconst X dX8_glass_60 ?_
          refine v_istore X dX8_glass_61 (by decide) rfl ?_
          dsimp only [List.set]
          have q6 := mul_nn (show 0 ≤ q ∧ q ≤ 9999 by omega) q0
          have q7 := Int.mul_pos (show 0 < q by omega) (show 0 < fc 0 by omega)
          have q8 := fun (h : Int) => arcM_bd (fc := fc) (h := h) (p := p) (q := q) q6.2
          refine v_iconst X dX8_glass_63 ?_
          refine v_istore X dX8_glass_64 (by decide) rfl ?_
          dsimp only [List.set]
          have L66 : ∀ (nf : Nat) (b : Int) (h : Int) (h1 : 0 ≤ h ∧ h ≤ fc 1) (h2 : b = bitsN (fun h => decide ((2 * arcM fc h p q) % (q * fc 0) = 0)) h.toNat) (_ : (fc 1 - h).toNat < nf), V g x 0 0 (wMod g A (0) sq ac td lt ln cu tk sa ti ft fp le lf tr fl fm fi fc ff fw ftp fk fe fr) [some (.ref (A 0)), some (.int (iI p)), some (.int (iI q)), some (.int (iI w)), some (.int (iI b)), some (.int (iI h))] 66 [] := by
            intro nf
            induction nf with
            | zero => intro b h h1 h2 hmu; exact absurd hmu (Nat.not_lt_zero _)
            | succ nf ih66 =>
              intro b h h1 h2 hmu
              refine v_iload X dX8_glass_66 rfl ?_
              refine v_aload_n X dX8_glass_68 rfl ?_
              refine v_get X (fun _ h => List.mem_cons_of_mem _ (List.mem_append_right _ h)) 0 rfl rfl 5 (by decide) rfl (List.mem_of_getElem? (i := 5) rfl) rfl dX8_glass_69 ?_
              refine v_iconst X dX8_glass_72 ?_
              refine v_iald X 4 rfl (by omega) (by omega) (by omega) dX8_glass_73 hfc (fun zc ezc lzc uzc => ?_)
              rw [show zc = fc 1 from ezc]
              refine v_icmp_ge (tgt := 118) X dX8_glass_74 (by decide) (by omega) (by omega) (fun c6 => ?_) (fun c6 => ?_)
              · skip
                refine v_iload X dX8_glass_118 rfl ?_
                exact v_iret X Y dX8_glass_120 (u := ()) (by
                    have e : h = fc 1 := by omega
                    rw [if_pos (by assumption), if_pos (by omega), if_neg (by omega)]; unfold trueM; rw [h2, e]) (by rfl)
              · skip
                refine v_iload X dX8_glass_77 rfl ?_
                refine v_iconst X dX8_glass_79 ?_
                refine v_aload_n X dX8_glass_80 rfl ?_
                refine v_iload X dX8_glass_81 rfl ?_
                refine v_iload_n X dX8_glass_83 rfl ?_
                refine v_iload_n X dX8_glass_84 rfl ?_
                refine res_E X (run_V X (c_X8_arc (g := g) (by first | assumption | omega) (by first | assumption | omega) (by first | assumption | omega) (by first | assumption | omega) (by first | assumption | omega) (by first | assumption | omega) (by first | assumption | omega)) gX8_glass_X8_arc rfl hdX8_arc ⟨(Nat.le_of_ble_eq_true rfl), (Nat.le_of_ble_eq_true rfl)⟩ ⟨(Nat.le_of_ble_eq_true rfl), (Nat.le_of_ble_eq_true rfl)⟩ 0 rfl rfl rfl [0, 1, 2, 3, 4, 5, 6, 7, 8, 9, 10] rfl rfl rfl rfl (by simp [Value.category]) dX8_glass_85) [0, 1, 2, 3, 4, 5, 6, 7, 8, 9, 10] rfl rfl ?_
                have q9 := q8 h
                have q10 : (2 * arcM fc h p q).tmod (q * fc 0) = (2 * arcM fc h p q) % (q * fc 0) := Int.tmod_eq_emod_of_nonneg (by omega)
                refine v_imul X dX8_glass_88 ?_
                refine v_iload_n X dX8_glass_89 rfl ?_
                refine v_aload_n X dX8_glass_90 rfl ?_
                refine v_get X (fun _ h => List.mem_cons_of_mem _ (List.mem_append_right _ h)) 0 rfl rfl 5 (by decide) rfl (List.mem_of_getElem? (i := 5) rfl) rfl dX8_glass_91 ?_
                refine v_iconst X dX8_glass_94 ?_
                refine v_iald X 4 rfl (by omega) (by omega) (by omega) dX8_glass_95 hfc (fun zd ezd lzd uzd => ?_)
                rw [show zd = fc 0 from ezd]
                refine v_imul X dX8_glass_96 ?_
                refine v_irem X dX8_glass_97 (by omega) (by omega) (by omega) ?_
                rw [q10]
                have q11 := Int.emod_nonneg (2 * arcM fc h p q) (show q * fc 0 ≠ 0 by omega)
                have q12 := Int.emod_lt_of_pos (2 * arcM fc h p q) q7
                refine v_if_ne (tgt := 108) X dX8_glass_98 (by decide) (by omega) (fun c8 => ?_) (fun c8 => ?_)
                · skip
                  refine v_iconst X dX8_glass_108 ?_
                  refine v_ior X dX8_glass_109 ?_
                  refine v_istore X dX8_glass_110 (by decide) rfl ?_
                  dsimp only [List.set]
                  refine v_iinc X dX8_glass_112 rfl (by decide) rfl ?_
                  dsimp only [List.set]
                  refine v_goto (tgt := 66) X dX8_glass_115 (by decide) ?_
                  exact ih66 _ _ (by omega) (by
                      first
                      | exact bits_step h1.1 h2 (by simp only [show ((h.toNat : Nat) : Int) = h by omega, decide_eq_true_eq]; first | rw [if_pos (by omega)] | rw [if_neg (by omega)])) (by omega)
                · skip
                  refine v_iconst X dX8_glass_101 ?_
                  refine v_iload X dX8_glass_102 rfl ?_
                  refine v_ishl X dX8_glass_104 ?_
                  refine v_goto (tgt := 109) X dX8_glass_105 (by decide) ?_
                  refine v_ior X dX8_glass_109 ?_
                  refine v_istore X dX8_glass_110 (by decide) rfl ?_
                  dsimp only [List.set]
                  refine v_iinc X dX8_glass_112 rfl (by decide) rfl ?_
                  dsimp only [List.set]
                  refine v_goto (tgt := 66) X dX8_glass_115 (by decide) ?_
                  exact ih66 _ _ (by omega) (by
                      first
                      | exact bits_step h1.1 h2 (by simp only [show ((h.toNat : Nat) : Int) = h by omega, decide_eq_true_eq]; first | rw [if_pos (by omega)] | rw [if_neg (by omega)])) (by omega)
          exact L66 _ _ _ (by omega) (by rfl) (Nat.lt_succ_self _)
        · skip
          refine v_iload_n X dX8_glass_43 rfl ?_
          refine v_if_ne (tgt := 51) X dX8_glass_44 (by decide) (by omega) (fun c9 => ?_) (fun c9 => ?_)
          · skip
            refine v_iload_n X dX8_glass_51 rfl ?_
            refine v_iload_n X dX8_glass_52 rfl ?_
            refine v_isub X dX8_glass_53 ?_
            refine v_iload_n X dX8_glass_54 rfl ?_
            refine v_iload_n X dX8_glass_55 rfl ?_
            refine res_E X (run_S X (c_X8_told (g := g) (by first | assumption | omega) (by first | assumption | omega) (by first | assumption | omega) (by first | assumption | omega) (by first | assumption | omega)) gX8_glass_X8_told rfl hdX8_told.2 ⟨(Nat.le_of_ble_eq_true rfl), (Nat.le_of_ble_eq_true rfl)⟩ ⟨(Nat.le_of_ble_eq_true rfl), (Nat.le_of_ble_eq_true rfl)⟩ [] rfl rfl rfl rfl (by simp [Value.category]) dX8_glass_56) [] rfl rfl ?_
            exact v_iret X Y dX8_glass_59 (u := ()) (by rw [if_pos (by assumption), if_pos (by omega), if_pos (by assumption)]; first | rw [if_pos (by assumption)] | rw [if_neg (by assumption)]) (by rfl)
          · skip
            refine v_iconst X dX8_glass_47 ?_
            refine v_goto (tgt := 54) X dX8_glass_48 (by decide) ?_
            refine v_iload_n X dX8_glass_54 rfl ?_
            refine v_iload_n X dX8_glass_55 rfl ?_
            refine res_E X (run_S X (c_X8_told (g := g) (by first | assumption | omega) (by first | assumption | omega) (by first | assumption | omega) (by first | assumption | omega) (by first | assumption | omega)) gX8_glass_X8_told rfl hdX8_told.2 ⟨(Nat.le_of_ble_eq_true rfl), (Nat.le_of_ble_eq_true rfl)⟩ ⟨(Nat.le_of_ble_eq_true rfl), (Nat.le_of_ble_eq_true rfl)⟩ [] rfl rfl rfl rfl (by simp [Value.category]) dX8_glass_56) [] rfl rfl ?_
            exact v_iret X Y dX8_glass_59 (u := ()) (by rw [if_pos (by assumption), if_pos (by omega), if_pos (by assumption)]; first | rw [if_pos (by assumption)] | rw [if_neg (by assumption)]) (by rfl)
      · skip
        refine v_ldc X (List.mem_of_getElem? (i := 4) rfl) dX8_glass_35 (n := -1000001) (by decide) ?_
        exact v_iret X Y dX8_glass_37 (u := ()) (by rw [if_pos (by assumption), if_neg (by omega)]) (by rfl)
  · skip
    refine v_ldc X (List.mem_of_getElem? (i := 2) rfl) dX8_glass_12 (n := -1000002) (by decide) ?_
    exact v_iret X Y dX8_glass_14 (u := ()) (by rw [if_neg (by omega)]) (by rfl)

