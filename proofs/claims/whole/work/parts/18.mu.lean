theorem hdX6_hasRoom : yX6_hasRoom.cls = RX6 ∧ yX6_hasRoom.cls ≠ "java/lang/invoke/MethodHandle" ∧ yX6_hasRoom.cls ≠ "java/lang/invoke/VarHandle" ∧ (parseMethodDescriptor yX6_hasRoom.desc).map (fun d => d.parameters.length) = some 1 := ⟨rfl, by decide +kernel, by decide +kernel, by decide +kernel⟩
set_option maxHeartbeats 4000000 in
set_option maxRecDepth 100000 in
theorem c_X6_hasRoom {g : Gx} {a a1 : Nat} {bt : Nat → Int} {tln tk fm tt tf : Int} {n : Int} (htl : 0 ≤ tln ∧ tln ≤ 200) (hn : 1 ≤ n ∧ n ≤ 8) : CtE g yX6_hasRoom wsX6_hasRoom 0 0 [.ref a, .int (iI n)] (wTap g a a1 bt tln tk fm tt tf) (if tln ≤ 200 - n then 1 else 0) (wTap g a a1 bt tln tk fm tt tf) := by
  refine m_go (cc := cX6_hasRoom) (nL := 2) (by decide +kernel) rfl (Nat.le_of_ble_eq_true rfl) (fun x X Y hnm => ?_)
  refine v_eq (lo2 := [some (.ref a), some (.int (iI n))]) rfl rfl rfl rfl ?_
  refine v_aload_n X dX6_hasRoom_0 rfl ?_
  refine v_get X (fun _ h => List.mem_cons_of_mem _ (List.mem_append_right _ h)) 0 rfl rfl 1 (by decide) rfl (List.mem_of_getElem? (i := 1) rfl) rfl dX6_hasRoom_1 ?_
  refine v_sipush X dX6_hasRoom_4 (by decide) ?_
  refine v_iload_n X dX6_hasRoom_7 rfl ?_
  refine v_isub X dX6_hasRoom_8 ?_
  refine v_icmp_gt (tgt := 16) X dX6_hasRoom_9 (by decide) (by omega) (by omega) (fun c1 => ?_) (fun c1 => ?_)
  · skip
    refine v_iconst X dX6_hasRoom_16 ?_
    exact v_zret X Y dX6_hasRoom_17 (by first | decide | omega | (split <;> omega)) (u := ()) (by first | rfl | omega | (split <;> omega) | (simp [*]; done)) (by rfl)
  · skip
    refine v_iconst X dX6_hasRoom_12 ?_
    refine v_goto (tgt := 17) X dX6_hasRoom_13 (by decide) ?_
    exact v_zret X Y dX6_hasRoom_17 (by first | decide | omega | (split <;> omega)) (u := ()) (by first | rfl | omega | (split <;> omega) | (simp [*]; done)) (by rfl)

theorem hdX6_append : yX6_append.cls = RX6 ∧ yX6_append.cls ≠ "java/lang/invoke/MethodHandle" ∧ yX6_append.cls ≠ "java/lang/invoke/VarHandle" ∧ (parseMethodDescriptor yX6_append.desc).map (fun d => d.parameters.length) = some 1 := ⟨rfl, by decide +kernel, by decide +kernel, by decide +kernel⟩
set_option maxHeartbeats 4000000 in
set_option maxRecDepth 100000 in
theorem c_X6_append {g : Gx} {a a1 : Nat} {bt : Nat → Int} {tln tk fm tt tf : Int} {b : Int} (htl : 0 ≤ tln ∧ tln < 200) : CtW g yX6_append wsX6_append 0 0 [.ref a, .int (iI b)] (wTap g a a1 bt tln tk fm tt tf) (wTap g a a1 (updI bt tln.toNat b) (tln + 1) tk fm tt tf) := by
  refine m_go (cc := cX6_append) (nL := 2) (by decide +kernel) rfl (Nat.le_of_ble_eq_true rfl) (fun x X Y hnm => ?_)
  refine v_eq (lo2 := [some (.ref a), some (.int (iI b))]) rfl rfl rfl rfl ?_
  refine v_aload_n X dX6_append_0 rfl ?_
  refine v_get X (fun _ h => List.mem_cons_of_mem _ (List.mem_append_right _ h)) 0 rfl rfl 1 (by decide) rfl (List.mem_of_getElem? (i := 1) rfl) rfl dX6_append_1 ?_
  refine v_if_lt (tgt := 37) X dX6_append_4 (by decide) (by omega) (fun c1 => ?_) (fun c1 => ?_)
  · skip
    exfalso; omega
  · skip
    refine v_aload_n X dX6_append_7 rfl ?_
    refine v_get X (fun _ h => List.mem_cons_of_mem _ (List.mem_append_right _ h)) 0 rfl rfl 1 (by decide) rfl (List.mem_of_getElem? (i := 1) rfl) rfl dX6_append_8 ?_
    refine v_sipush X dX6_append_11 (by decide) ?_
    refine v_icmp_ge (tgt := 37) X dX6_append_14 (by decide) (by omega) (by omega) (fun c2 => ?_) (fun c2 => ?_)
    · skip
      exfalso; omega
    · skip
      refine v_aload_n X dX6_append_17 rfl ?_
      refine v_get X (fun _ h => List.mem_cons_of_mem _ (List.mem_append_right _ h)) 0 rfl rfl 0 (by decide) rfl (List.mem_of_getElem? (i := 2) rfl) rfl dX6_append_18 ?_
      refine v_aload_n X dX6_append_21 rfl ?_
      refine v_get X (fun _ h => List.mem_cons_of_mem _ (List.mem_append_right _ h)) 0 rfl rfl 1 (by decide) rfl (List.mem_of_getElem? (i := 1) rfl) rfl dX6_append_22 ?_
      refine v_iload_n X dX6_append_25 rfl ?_
      refine v_iast X 1 rfl (by omega) (by omega) (by omega) dX6_append_26 ?_
      dsimp only [List.set, wTap]
      refine v_aload_n X dX6_append_27 rfl ?_
      refine v_dup X dX6_append_28 rfl ?_
      refine v_get X (fun _ h => List.mem_cons_of_mem _ (List.mem_append_right _ h)) 0 rfl rfl 1 (by decide) rfl (List.mem_of_getElem? (i := 1) rfl) rfl dX6_append_29 ?_
      refine v_iconst X dX6_append_32 ?_
      refine v_iadd X dX6_append_33 ?_
      refine v_put X (fun _ h => List.mem_cons_of_mem _ (List.mem_append_right _ h)) tyX6 tyX6_ok nmX6 0 rfl rfl 1 (by decide) rfl (List.mem_of_getElem? (i := 1) rfl) rfl rfl rfl (Nat.le_of_ble_eq_true rfl) dX6_append_34 ?_
      dsimp only [List.set, wTap]
      exact v_vret X Y dX6_append_37 (u := ()) trivial (by rfl)

theorem hdX6_at : yX6_at.cls = RX6 ∧ yX6_at.cls ≠ "java/lang/invoke/MethodHandle" ∧ yX6_at.cls ≠ "java/lang/invoke/VarHandle" ∧ (parseMethodDescriptor yX6_at.desc).map (fun d => d.parameters.length) = some 1 := ⟨rfl, by decide +kernel, by decide +kernel, by decide +kernel⟩
set_option maxHeartbeats 4000000 in
set_option maxRecDepth 100000 in
theorem c_X6_at {g : Gx} {a a1 : Nat} {bt : Nat → Int} {tln tk fm tt tf : Int} {i : Int} (hbt : Bd 0 255 bt) (htl : 0 ≤ tln ∧ tln ≤ 200) (hi : R32 i) : CtE g yX6_at wsX6_at 0 0 [.ref a, .int (iI i)] (wTap g a a1 bt tln tk fm tt tf) (atI tln bt i) (wTap g a a1 bt tln tk fm tt tf) := by
  refine m_go (cc := cX6_at) (nL := 2) (by decide +kernel) rfl (Nat.le_of_ble_eq_true rfl) (fun x X Y hnm => ?_)
  refine v_eq (lo2 := [some (.ref a), some (.int (iI i))]) rfl rfl rfl rfl ?_
  refine v_iload_n X dX6_at_0 rfl ?_
  refine v_if_lt (tgt := 28) X dX6_at_1 (by decide) (by omega) (fun c1 => ?_) (fun c1 => ?_)
  · skip
    refine v_iconst X dX6_at_28 ?_
    exact v_iret X Y dX6_at_29 (u := ()) (by unfold atI; first | (rw [if_pos (by omega)]; assumption) | rw [if_neg (by omega)]) (by rfl)
  · skip
    refine v_iload_n X dX6_at_4 rfl ?_
    refine v_aload_n X dX6_at_5 rfl ?_
    refine v_get X (fun _ h => List.mem_cons_of_mem _ (List.mem_append_right _ h)) 0 rfl rfl 1 (by decide) rfl (List.mem_of_getElem? (i := 1) rfl) rfl dX6_at_6 ?_
    refine v_icmp_ge (tgt := 28) X dX6_at_9 (by decide) (by omega) (by omega) (fun c2 => ?_) (fun c2 => ?_)
    · skip
      refine v_iconst X dX6_at_28 ?_
      exact v_iret X Y dX6_at_29 (u := ()) (by unfold atI; first | (rw [if_pos (by omega)]; assumption) | rw [if_neg (by omega)]) (by rfl)
    · skip
      refine v_iload_n X dX6_at_12 rfl ?_
      refine v_sipush X dX6_at_13 (by decide) ?_
      refine v_icmp_ge (tgt := 28) X dX6_at_16 (by decide) (by omega) (by omega) (fun c3 => ?_) (fun c3 => ?_)
      · skip
        refine v_iconst X dX6_at_28 ?_
        exact v_iret X Y dX6_at_29 (u := ()) (by unfold atI; first | (rw [if_pos (by omega)]; assumption) | rw [if_neg (by omega)]) (by rfl)
      · skip
        refine v_aload_n X dX6_at_19 rfl ?_
        refine v_get X (fun _ h => List.mem_cons_of_mem _ (List.mem_append_right _ h)) 0 rfl rfl 0 (by decide) rfl (List.mem_of_getElem? (i := 2) rfl) rfl dX6_at_20 ?_
        refine v_iload_n X dX6_at_23 rfl ?_
        refine v_iald X 1 rfl (by omega) (by omega) (by omega) dX6_at_24 hbt (fun z4 ez4 lz4 uz4 => ?_)
        refine v_goto (tgt := 29) X dX6_at_25 (by decide) ?_
        exact v_iret X Y dX6_at_29 (u := ()) (by unfold atI; first | (rw [if_pos (by omega)]; assumption) | rw [if_neg (by omega)]) (by rfl)

theorem hdX6_isLetter : yX6_isLetter.cls = RX6 ∧ yX6_isLetter.cls ≠ "java/lang/invoke/MethodHandle" ∧ yX6_isLetter.cls ≠ "java/lang/invoke/VarHandle" ∧ (parseMethodDescriptor yX6_isLetter.desc).map (fun d => d.parameters.length) = some 1 := ⟨rfl, by decide +kernel, by decide +kernel, by decide +kernel⟩
set_option maxHeartbeats 4000000 in
set_option maxRecDepth 100000 in
theorem c_X6_isLetter {g : Gx} {b : Int} (hb : R32 b) : CtE g yX6_isLetter wsX6_isLetter 0 0 [.int (iI b)] ([]) (if 97 ≤ b ∧ b ≤ 122 then 1 else 0) ([]) := by
  refine m_go (cc := cX6_isLetter) (nL := 1) (by decide +kernel) rfl (Nat.le_of_ble_eq_true rfl) (fun x X Y hnm => ?_)
  refine v_eq (lo2 := [some (.int (iI b))]) rfl rfl rfl rfl ?_
  refine v_iload_n X dX6_isLetter_0 rfl ?_
  refine v_bipush X dX6_isLetter_1 (by decide) ?_
  refine v_icmp_lt (tgt := 16) X dX6_isLetter_3 (by decide) (by omega) (by omega) (fun c1 => ?_) (fun c1 => ?_)
  · skip
    refine v_iconst X dX6_isLetter_16 ?_
    exact v_zret X Y dX6_isLetter_17 (by first | decide | omega | (split <;> omega)) (u := ()) (by first | rfl | omega | (split <;> omega) | (simp [*]; done)) (by rfl)
  · skip
    refine v_iload_n X dX6_isLetter_6 rfl ?_
    refine v_bipush X dX6_isLetter_7 (by decide) ?_
    refine v_icmp_gt (tgt := 16) X dX6_isLetter_9 (by decide) (by omega) (by omega) (fun c2 => ?_) (fun c2 => ?_)
    · skip
      refine v_iconst X dX6_isLetter_16 ?_
      exact v_zret X Y dX6_isLetter_17 (by first | decide | omega | (split <;> omega)) (u := ()) (by first | rfl | omega | (split <;> omega) | (simp [*]; done)) (by rfl)
    · skip
      refine v_iconst X dX6_isLetter_12 ?_
      refine v_goto (tgt := 17) X dX6_isLetter_13 (by decide) ?_
      exact v_zret X Y dX6_isLetter_17 (by first | decide | omega | (split <;> omega)) (u := ()) (by first | rfl | omega | (split <;> omega) | (simp [*]; done)) (by rfl)

theorem hdX6_isFigure : yX6_isFigure.cls = RX6 ∧ yX6_isFigure.cls ≠ "java/lang/invoke/MethodHandle" ∧ yX6_isFigure.cls ≠ "java/lang/invoke/VarHandle" ∧ (parseMethodDescriptor yX6_isFigure.desc).map (fun d => d.parameters.length) = some 1 := ⟨rfl, by decide +kernel, by decide +kernel, by decide +kernel⟩
set_option maxHeartbeats 4000000 in
set_option maxRecDepth 100000 in
theorem c_X6_isFigure {g : Gx} {b : Int} (hb : R32 b) : CtE g yX6_isFigure wsX6_isFigure 0 0 [.int (iI b)] ([]) (if 48 ≤ b ∧ b ≤ 57 then 1 else 0) ([]) := by
  refine m_go (cc := cX6_isFigure) (nL := 1) (by decide +kernel) rfl (Nat.le_of_ble_eq_true rfl) (fun x X Y hnm => ?_)
  refine v_eq (lo2 := [some (.int (iI b))]) rfl rfl rfl rfl ?_
  refine v_iload_n X dX6_isFigure_0 rfl ?_
  refine v_bipush X dX6_isFigure_1 (by decide) ?_
  refine v_icmp_lt (tgt := 16) X dX6_isFigure_3 (by decide) (by omega) (by omega) (fun c1 => ?_) (fun c1 => ?_)
  · skip
    refine v_iconst X dX6_isFigure_16 ?_
    exact v_zret X Y dX6_isFigure_17 (by first | decide | omega | (split <;> omega)) (u := ()) (by first | rfl | omega | (split <;> omega) | (simp [*]; done)) (by rfl)
  · skip
    refine v_iload_n X dX6_isFigure_6 rfl ?_
    refine v_bipush X dX6_isFigure_7 (by decide) ?_
    refine v_icmp_gt (tgt := 16) X dX6_isFigure_9 (by decide) (by omega) (by omega) (fun c2 => ?_) (fun c2 => ?_)
    · skip
      refine v_iconst X dX6_isFigure_16 ?_
      exact v_zret X Y dX6_isFigure_17 (by first | decide | omega | (split <;> omega)) (u := ()) (by first | rfl | omega | (split <;> omega) | (simp [*]; done)) (by rfl)
    · skip
      refine v_iconst X dX6_isFigure_12 ?_
      refine v_goto (tgt := 17) X dX6_isFigure_13 (by decide) ?_
      exact v_zret X Y dX6_isFigure_17 (by first | decide | omega | (split <;> omega)) (u := ()) (by first | rfl | omega | (split <;> omega) | (simp [*]; done)) (by rfl)

theorem hdX6_advance : yX6_advance.cls = RX6 ∧ yX6_advance.cls ≠ "java/lang/invoke/MethodHandle" ∧ yX6_advance.cls ≠ "java/lang/invoke/VarHandle" ∧ (parseMethodDescriptor yX6_advance.desc).map (fun d => d.parameters.length) = some 0 := ⟨rfl, by decide +kernel, by decide +kernel, by decide +kernel⟩
set_option maxHeartbeats 4000000 in
set_option maxRecDepth 100000 in
theorem c_X6_advance {g : Gx} {a a1 : Nat} {bt : Nat → Int} {tln tk fm tt tf : Int}  (hbt : Bd 0 255 bt) (htl : 0 ≤ tln ∧ tln ≤ 200) (htt : 0 ≤ tt ∧ tt ≤ tln) : CtW g yX6_advance wsX6_advance 1 21 [.ref a] (wTap g a a1 bt tln tk fm tt tf) (wTap g a a1 bt tln (tkC bt tln tt) (tkS bt tln tt) (tkE bt tln tt) tf) := by
  refine m_go (cc := cX6_advance) (nL := 1) (by decide +kernel) rfl (Nat.le_of_ble_eq_true rfl) (fun x X Y hnm => ?_)
  refine v_eq (lo2 := [some (.ref a)]) rfl rfl rfl rfl ?_
  have qa := fun (h : Int) => atI_bd (cn := tln) (h := h) hbt (by decide) (by decide)
  have qb : ∀ h : Int, 0 ≤ h ∧ h < tln → atI tln bt h = bt h.toNat := fun h z => if_pos z
  refine v_aload_n X dX6_advance_0 rfl ?_
  refine v_aload_n X dX6_advance_1 rfl ?_
  refine v_get X (fun _ h => List.mem_cons_of_mem _ (List.mem_append_right _ h)) 0 rfl rfl 4 (by decide) rfl (List.mem_of_getElem? (i := 1) rfl) rfl dX6_advance_2 ?_
  refine v_put X (fun _ h => List.mem_cons_of_mem _ (List.mem_append_right _ h)) tyX6 tyX6_ok nmX6 0 rfl rfl 3 (by decide) rfl (List.mem_of_getElem? (i := 2) rfl) rfl rfl rfl (Nat.le_of_ble_eq_true rfl) dX6_advance_5 ?_
  dsimp only [List.set, wTap]
  have J58 : ∀ (i : Int) (g0 : tt ≤ i ∧ i ≤ tln) (h5 : tkS bt tln tt = i), V g x 0 0 (wTap g a a1 bt tln tk (i) tt tf) [some (.ref a)] 58 [] := by
    intro i g0 h5
    refine v_aload_n X dX6_advance_58 rfl ?_
    refine v_aload_n X dX6_advance_59 rfl ?_
    refine v_get X (fun _ h => List.mem_cons_of_mem _ (List.mem_append_right _ h)) 0 rfl rfl 3 (by decide) rfl (List.mem_of_getElem? (i := 2) rfl) rfl dX6_advance_60 ?_
    refine v_put X (fun _ h => List.mem_cons_of_mem _ (List.mem_append_right _ h)) tyX6 tyX6_ok nmX6 0 rfl rfl 4 (by decide) rfl (List.mem_of_getElem? (i := 1) rfl) rfl rfl rfl (Nat.le_of_ble_eq_true rfl) dX6_advance_63 ?_
    dsimp only [List.set, wTap]
    have q3 : (i < tln ∧ atI tln bt i = bt i.toNat) ∨ (tln ≤ i ∧ atI tln bt i = 0) := by unfold atI; split <;> omega
    have q2 := qa i
    refine v_aload_n X dX6_advance_66 rfl ?_
    refine v_aload_n X dX6_advance_67 rfl ?_
    refine v_get X (fun _ h => List.mem_cons_of_mem _ (List.mem_append_right _ h)) 0 rfl rfl 3 (by decide) rfl (List.mem_of_getElem? (i := 2) rfl) rfl dX6_advance_68 ?_
    refine res_E X (run_V X (c_X6_at (g := g) (by first | assumption | omega) (by first | assumption | omega) (by first | assumption | omega)) gX6_advance_X6_at rfl hdX6_at ⟨(Nat.le_of_ble_eq_true rfl), (Nat.le_of_ble_eq_true rfl)⟩ ⟨(Nat.le_of_ble_eq_true rfl), (Nat.le_of_ble_eq_true rfl)⟩ 0 rfl rfl rfl [0, 1] rfl rfl rfl rfl (by simp [Value.category]) dX6_advance_71) [0, 1] rfl rfl ?_
    refine res_E X (run_S X (c_X6_isLetter (g := g) (by first | assumption | omega)) gX6_advance_X6_isLetter rfl hdX6_isLetter.2 ⟨(Nat.le_of_ble_eq_true rfl), (Nat.le_of_ble_eq_true rfl)⟩ ⟨(Nat.le_of_ble_eq_true rfl), (Nat.le_of_ble_eq_true rfl)⟩ [] rfl rfl rfl rfl (by simp [Value.category]) dX6_advance_74) [] rfl rfl ?_
    refine v_ifb_eq (tgt := 126) X dX6_advance_77 (by decide) (fun c1 => ?_) (fun c1 => ?_)
    · skip
      refine v_aload_n X dX6_advance_126 rfl ?_
      refine v_aload_n X dX6_advance_127 rfl ?_
      refine v_get X (fun _ h => List.mem_cons_of_mem _ (List.mem_append_right _ h)) 0 rfl rfl 3 (by decide) rfl (List.mem_of_getElem? (i := 2) rfl) rfl dX6_advance_128 ?_
      refine res_E X (run_V X (c_X6_at (g := g) (by first | assumption | omega) (by first | assumption | omega) (by first | assumption | omega)) gX6_advance_X6_at rfl hdX6_at ⟨(Nat.le_of_ble_eq_true rfl), (Nat.le_of_ble_eq_true rfl)⟩ ⟨(Nat.le_of_ble_eq_true rfl), (Nat.le_of_ble_eq_true rfl)⟩ 0 rfl rfl rfl [0, 1] rfl rfl rfl rfl (by simp [Value.category]) dX6_advance_131) [0, 1] rfl rfl ?_
      refine res_E X (run_S X (c_X6_isFigure (g := g) (by first | assumption | omega)) gX6_advance_X6_isFigure rfl hdX6_isFigure.2 ⟨(Nat.le_of_ble_eq_true rfl), (Nat.le_of_ble_eq_true rfl)⟩ ⟨(Nat.le_of_ble_eq_true rfl), (Nat.le_of_ble_eq_true rfl)⟩ [] rfl rfl rfl rfl (by simp [Value.category]) dX6_advance_134) [] rfl rfl ?_
      refine v_ifb_eq (tgt := 203) X dX6_advance_137 (by decide) (fun c2 => ?_) (fun c2 => ?_)
      · skip
        refine v_aload_n X dX6_advance_203 rfl ?_
        refine v_get X (fun _ h => List.mem_cons_of_mem _ (List.mem_append_right _ h)) 0 rfl rfl 3 (by decide) rfl (List.mem_of_getElem? (i := 2) rfl) rfl dX6_advance_204 ?_
        refine v_aload_n X dX6_advance_207 rfl ?_
        refine v_get X (fun _ h => List.mem_cons_of_mem _ (List.mem_append_right _ h)) 0 rfl rfl 1 (by decide) rfl (List.mem_of_getElem? (i := 3) rfl) rfl dX6_advance_208 ?_
        refine v_icmp_lt (tgt := 222) X dX6_advance_211 (by decide) (by first | omega | (have := qa fm; omega)) (by first | omega | (have := qa fm; omega)) (fun c3 => ?_) (fun c3 => ?_)
        · skip
          have e1 := tk_el h5 (by omega) (by omega) (by omega)
          refine v_aload_n X dX6_advance_222 rfl ?_
          refine v_dup X dX6_advance_223 rfl ?_
          refine v_get X (fun _ h => List.mem_cons_of_mem _ (List.mem_append_right _ h)) 0 rfl rfl 4 (by decide) rfl (List.mem_of_getElem? (i := 1) rfl) rfl dX6_advance_224 ?_
          refine v_iconst X dX6_advance_227 ?_
          refine v_iadd X dX6_advance_228 ?_
          refine v_put X (fun _ h => List.mem_cons_of_mem _ (List.mem_append_right _ h)) tyX6 tyX6_ok nmX6 0 rfl rfl 4 (by decide) rfl (List.mem_of_getElem? (i := 1) rfl) rfl rfl rfl (Nat.le_of_ble_eq_true rfl) dX6_advance_229 ?_
          dsimp only [List.set, wTap]
          refine v_aload_n X dX6_advance_232 rfl ?_
          refine v_aload_n X dX6_advance_233 rfl ?_
          refine v_aload_n X dX6_advance_234 rfl ?_
          refine v_get X (fun _ h => List.mem_cons_of_mem _ (List.mem_append_right _ h)) 0 rfl rfl 3 (by decide) rfl (List.mem_of_getElem? (i := 2) rfl) rfl dX6_advance_235 ?_
          refine res_E X (run_V X (c_X6_at (g := g) (by first | assumption | omega) (by first | assumption | omega) (by first | assumption | omega)) gX6_advance_X6_at rfl hdX6_at ⟨(Nat.le_of_ble_eq_true rfl), (Nat.le_of_ble_eq_true rfl)⟩ ⟨(Nat.le_of_ble_eq_true rfl), (Nat.le_of_ble_eq_true rfl)⟩ 0 rfl rfl rfl [0, 1] rfl rfl rfl rfl (by simp [Value.category]) dX6_advance_238) [0, 1] rfl rfl ?_
          refine v_bipush X dX6_advance_241 (by decide) ?_
          refine v_icmp_ne (tgt := 250) X dX6_advance_243 (by decide) (by first | omega | (have := qa fm; omega)) (by first | omega | (have := qa fm; omega)) (fun c4 => ?_) (fun c4 => ?_)
          · skip
            rw [if_neg (by omega)] at e1
            have e2 : tkC bt tln tt = 4 ∧ tkE bt tln tt = i + 1 := ⟨e1.1, e1.2.1⟩
            refine v_iconst X dX6_advance_250 ?_
            refine v_put X (fun _ h => List.mem_cons_of_mem _ (List.mem_append_right _ h)) tyX6 tyX6_ok nmX6 0 rfl rfl 2 (by decide) rfl (List.mem_of_getElem? (i := 4) rfl) rfl rfl rfl (Nat.le_of_ble_eq_true rfl) dX6_advance_251 ?_
            dsimp only [List.set, wTap]
            exact v_vret X Y dX6_advance_254 (u := ()) trivial (by rw [e2.1, e2.2, h5] <;> rfl)
          · skip
            rw [if_pos (by omega)] at e1
            have e2 : tkC bt tln tt = 3 ∧ tkE bt tln tt = i + 1 := ⟨e1.1, e1.2.1⟩
            refine v_iconst X dX6_advance_246 ?_
            refine v_goto (tgt := 251) X dX6_advance_247 (by decide) ?_
            refine v_put X (fun _ h => List.mem_cons_of_mem _ (List.mem_append_right _ h)) tyX6 tyX6_ok nmX6 0 rfl rfl 2 (by decide) rfl (List.mem_of_getElem? (i := 4) rfl) rfl rfl rfl (Nat.le_of_ble_eq_true rfl) dX6_advance_251 ?_
            dsimp only [List.set, wTap]
            exact v_vret X Y dX6_advance_254 (u := ()) trivial (by rw [e2.1, e2.2, h5] <;> rfl)
        · skip
          have e1 := tk_en h5 (by omega)
          have e2 : tkC bt tln tt = 0 ∧ tkE bt tln tt = i := ⟨e1.1, e1.2.1⟩
          refine v_aload_n X dX6_advance_214 rfl ?_
          refine v_iconst X dX6_advance_215 ?_
          refine v_put X (fun _ h => List.mem_cons_of_mem _ (List.mem_append_right _ h)) tyX6 tyX6_ok nmX6 0 rfl rfl 2 (by decide) rfl (List.mem_of_getElem? (i := 4) rfl) rfl rfl rfl (Nat.le_of_ble_eq_true rfl) dX6_advance_216 ?_
          dsimp only [List.set, wTap]
          refine v_goto (tgt := 254) X dX6_advance_219 (by decide) ?_
          exact v_vret X Y dX6_advance_254 (u := ()) trivial (by rw [e2.1, e2.2, h5] <;> rfl)
      · skip
        have L140 : ∀ (nf : Nat) (m : Int) (g1 : i ≤ m ∧ m ≤ tln) (g2 : scW fiB bt tln i = scW fiB bt tln m) (_ : (tln - m).toNat < nf), V g x 0 0 (wTap g a a1 bt tln tk (i) (m) tf) [some (.ref a)] 140 [] := by
          intro nf
          induction nf with
          | zero => intro m g1 g2 hmu; exact absurd hmu (Nat.not_lt_zero _)
          | succ nf ih140 =>
            intro m g1 g2 hmu
            refine v_aload_n X dX6_advance_140 rfl ?_
            refine v_get X (fun _ h => List.mem_cons_of_mem _ (List.mem_append_right _ h)) 0 rfl rfl 4 (by decide) rfl (List.mem_of_getElem? (i := 1) rfl) rfl dX6_advance_141 ?_
            refine v_aload_n X dX6_advance_144 rfl ?_
            refine v_get X (fun _ h => List.mem_cons_of_mem _ (List.mem_append_right _ h)) 0 rfl rfl 1 (by decide) rfl (List.mem_of_getElem? (i := 3) rfl) rfl dX6_advance_145 ?_
            refine v_icmp_ge (tgt := 178) X dX6_advance_148 (by decide) (by first | omega | (have := qa fm; omega)) (by first | omega | (have := qa fm; omega)) (fun c5 => ?_) (fun c5 => ?_)
            · skip
              have e0 : scW fiB bt tln i = m := by rw [g2, scW_s, if_neg (by first | omega | (exact fun z => absurd (fiB_iff.mp z.2) (by omega)))]
              have e1 := tk_fi h5 (by omega) (by omega)
              rw [e0] at e1
              refine v_aload_n X dX6_advance_178 rfl ?_
              refine v_aload_n X dX6_advance_179 rfl ?_
              refine v_get X (fun _ h => List.mem_cons_of_mem _ (List.mem_append_right _ h)) 0 rfl rfl 4 (by decide) rfl (List.mem_of_getElem? (i := 1) rfl) rfl dX6_advance_180 ?_
              refine v_aload_n X dX6_advance_183 rfl ?_
              refine v_get X (fun _ h => List.mem_cons_of_mem _ (List.mem_append_right _ h)) 0 rfl rfl 3 (by decide) rfl (List.mem_of_getElem? (i := 2) rfl) rfl dX6_advance_184 ?_
              refine v_isub X dX6_advance_187 ?_
              refine v_iconst X dX6_advance_188 ?_
              refine v_icmp_le (tgt := 196) X dX6_advance_189 (by decide) (by first | omega | (have := qa fm; omega)) (by first | omega | (have := qa fm; omega)) (fun c6 => ?_) (fun c6 => ?_)
              · skip
                rw [if_neg (by omega)] at e1
                have e2 : tkC bt tln tt = 2 ∧ tkE bt tln tt = m := ⟨e1.1, e1.2.1⟩
                refine v_iconst X dX6_advance_196 ?_
                refine v_put X (fun _ h => List.mem_cons_of_mem _ (List.mem_append_right _ h)) tyX6 tyX6_ok nmX6 0 rfl rfl 2 (by decide) rfl (List.mem_of_getElem? (i := 4) rfl) rfl rfl rfl (Nat.le_of_ble_eq_true rfl) dX6_advance_197 ?_
                dsimp only [List.set, wTap]
                refine v_goto (tgt := 254) X dX6_advance_200 (by decide) ?_
                exact v_vret X Y dX6_advance_254 (u := ()) trivial (by rw [e2.1, e2.2, h5] <;> rfl)
              · skip
                rw [if_pos (by omega)] at e1
                have e2 : tkC bt tln tt = 4 ∧ tkE bt tln tt = m := ⟨e1.1, e1.2.1⟩
                refine v_iconst X dX6_advance_192 ?_
                refine v_goto (tgt := 197) X dX6_advance_193 (by decide) ?_
                refine v_put X (fun _ h => List.mem_cons_of_mem _ (List.mem_append_right _ h)) tyX6 tyX6_ok nmX6 0 rfl rfl 2 (by decide) rfl (List.mem_of_getElem? (i := 4) rfl) rfl rfl rfl (Nat.le_of_ble_eq_true rfl) dX6_advance_197 ?_
                dsimp only [List.set, wTap]
                refine v_goto (tgt := 254) X dX6_advance_200 (by decide) ?_
                exact v_vret X Y dX6_advance_254 (u := ()) trivial (by rw [e2.1, e2.2, h5] <;> rfl)
            · skip
              have q4 := qb m (by omega)
              have q5 := hbt m.toNat
              refine v_aload_n X dX6_advance_151 rfl ?_
              refine v_aload_n X dX6_advance_152 rfl ?_
              refine v_get X (fun _ h => List.mem_cons_of_mem _ (List.mem_append_right _ h)) 0 rfl rfl 4 (by decide) rfl (List.mem_of_getElem? (i := 1) rfl) rfl dX6_advance_153 ?_
              refine res_E X (run_V X (c_X6_at (g := g) (by first | assumption | omega) (by first | assumption | omega) (by first | assumption | omega)) gX6_advance_X6_at rfl hdX6_at ⟨(Nat.le_of_ble_eq_true rfl), (Nat.le_of_ble_eq_true rfl)⟩ ⟨(Nat.le_of_ble_eq_true rfl), (Nat.le_of_ble_eq_true rfl)⟩ 0 rfl rfl rfl [0, 1] rfl rfl rfl rfl (by simp [Value.category]) dX6_advance_156) [0, 1] rfl rfl ?_
              refine res_E X (run_S X (c_X6_isFigure (g := g) (by first | assumption | omega)) gX6_advance_X6_isFigure rfl hdX6_isFigure.2 ⟨(Nat.le_of_ble_eq_true rfl), (Nat.le_of_ble_eq_true rfl)⟩ ⟨(Nat.le_of_ble_eq_true rfl), (Nat.le_of_ble_eq_true rfl)⟩ [] rfl rfl rfl rfl (by simp [Value.category]) dX6_advance_159) [] rfl rfl ?_
              refine v_ifb_eq (tgt := 178) X dX6_advance_162 (by decide) (fun c7 => ?_) (fun c7 => ?_)
              · skip
                have e0 : scW fiB bt tln i = m := by rw [g2, scW_s, if_neg (by first | omega | (exact fun z => absurd (fiB_iff.mp z.2) (by omega)))]
                have e1 := tk_fi h5 (by omega) (by omega)
                rw [e0] at e1
                refine v_aload_n X dX6_advance_178 rfl ?_
                refine v_aload_n X dX6_advance_179 rfl ?_
                refine v_get X (fun _ h => List.mem_cons_of_mem _ (List.mem_append_right _ h)) 0 rfl rfl 4 (by decide) rfl (List.mem_of_getElem? (i := 1) rfl) rfl dX6_advance_180 ?_
                refine v_aload_n X dX6_advance_183 rfl ?_
                refine v_get X (fun _ h => List.mem_cons_of_mem _ (List.mem_append_right _ h)) 0 rfl rfl 3 (by decide) rfl (List.mem_of_getElem? (i := 2) rfl) rfl dX6_advance_184 ?_
                refine v_isub X dX6_advance_187 ?_
                refine v_iconst X dX6_advance_188 ?_
                refine v_icmp_le (tgt := 196) X dX6_advance_189 (by decide) (by first | omega | (have := qa fm; omega)) (by first | omega | (have := qa fm; omega)) (fun c8 => ?_) (fun c8 => ?_)
                · skip
                  rw [if_neg (by omega)] at e1
                  have e2 : tkC bt tln tt = 2 ∧ tkE bt tln tt = m := ⟨e1.1, e1.2.1⟩
                  refine v_iconst X dX6_advance_196 ?_
                  refine v_put X (fun _ h => List.mem_cons_of_mem _ (List.mem_append_right _ h)) tyX6 tyX6_ok nmX6 0 rfl rfl 2 (by decide) rfl (List.mem_of_getElem? (i := 4) rfl) rfl rfl rfl (Nat.le_of_ble_eq_true rfl) dX6_advance_197 ?_
                  dsimp only [List.set, wTap]
                  refine v_goto (tgt := 254) X dX6_advance_200 (by decide) ?_
                  exact v_vret X Y dX6_advance_254 (u := ()) trivial (by rw [e2.1, e2.2, h5] <;> rfl)
                · skip
                  rw [if_pos (by omega)] at e1
                  have e2 : tkC bt tln tt = 4 ∧ tkE bt tln tt = m := ⟨e1.1, e1.2.1⟩
                  refine v_iconst X dX6_advance_192 ?_
                  refine v_goto (tgt := 197) X dX6_advance_193 (by decide) ?_
                  refine v_put X (fun _ h => List.mem_cons_of_mem _ (List.mem_append_right _ h)) tyX6 tyX6_ok nmX6 0 rfl rfl 2 (by decide) rfl (List.mem_of_getElem? (i := 4) rfl) rfl rfl rfl (Nat.le_of_ble_eq_true rfl) dX6_advance_197 ?_
                  dsimp only [List.set, wTap]
                  refine v_goto (tgt := 254) X dX6_advance_200 (by decide) ?_
                  exact v_vret X Y dX6_advance_254 (u := ()) trivial (by rw [e2.1, e2.2, h5] <;> rfl)
              · skip
                refine v_aload_n X dX6_advance_165 rfl ?_
                refine v_dup X dX6_advance_166 rfl ?_
                refine v_get X (fun _ h => List.mem_cons_of_mem _ (List.mem_append_right _ h)) 0 rfl rfl 4 (by decide) rfl (List.mem_of_getElem? (i := 1) rfl) rfl dX6_advance_167 ?_
                refine v_iconst X dX6_advance_170 ?_
                refine v_iadd X dX6_advance_171 ?_
                refine v_put X (fun _ h => List.mem_cons_of_mem _ (List.mem_append_right _ h)) tyX6 tyX6_ok nmX6 0 rfl rfl 4 (by decide) rfl (List.mem_of_getElem? (i := 1) rfl) rfl rfl rfl (Nat.le_of_ble_eq_true rfl) dX6_advance_172 ?_
                dsimp only [List.set, wTap]
                refine v_goto (tgt := 140) X dX6_advance_175 (by decide) ?_
                exact ih140 _ (by omega) (by rw [g2, scW_s, if_pos ⟨by omega, fiB_iff.mpr (by omega)⟩]) (by omega)
        exact L140 _ _ (by omega) (by rfl) (Nat.lt_succ_self _)
    · skip
      have L80 : ∀ (nf : Nat) (j : Int) (g1 : i ≤ j ∧ j ≤ tln) (g2 : scW leB bt tln i = scW leB bt tln j) (_ : (tln - j).toNat < nf), V g x 0 0 (wTap g a a1 bt tln tk (i) (j) tf) [some (.ref a)] 80 [] := by
        intro nf
        induction nf with
        | zero => intro j g1 g2 hmu; exact absurd hmu (Nat.not_lt_zero _)
        | succ nf ih80 =>
          intro j g1 g2 hmu
          refine v_aload_n X dX6_advance_80 rfl ?_
          refine v_get X (fun _ h => List.mem_cons_of_mem _ (List.mem_append_right _ h)) 0 rfl rfl 4 (by decide) rfl (List.mem_of_getElem? (i := 1) rfl) rfl dX6_advance_81 ?_
          refine v_aload_n X dX6_advance_84 rfl ?_
          refine v_get X (fun _ h => List.mem_cons_of_mem _ (List.mem_append_right _ h)) 0 rfl rfl 1 (by decide) rfl (List.mem_of_getElem? (i := 3) rfl) rfl dX6_advance_85 ?_
          refine v_icmp_ge (tgt := 118) X dX6_advance_88 (by decide) (by first | omega | (have := qa fm; omega)) (by first | omega | (have := qa fm; omega)) (fun c9 => ?_) (fun c9 => ?_)
          · skip
            have e0 : scW leB bt tln i = j := by rw [g2, scW_s, if_neg (by first | omega | (exact fun z => absurd (leB_iff.mp z.2) (by omega)))]
            have e1 := tk_le h5 (by omega) (by omega)
            have e2 : tkC bt tln tt = 1 ∧ tkE bt tln tt = j := ⟨e1.1, by rw [e1.2.1, e0]⟩
            refine v_aload_n X dX6_advance_118 rfl ?_
            refine v_iconst X dX6_advance_119 ?_
            refine v_put X (fun _ h => List.mem_cons_of_mem _ (List.mem_append_right _ h)) tyX6 tyX6_ok nmX6 0 rfl rfl 2 (by decide) rfl (List.mem_of_getElem? (i := 4) rfl) rfl rfl rfl (Nat.le_of_ble_eq_true rfl) dX6_advance_120 ?_
            dsimp only [List.set, wTap]
            refine v_goto (tgt := 254) X dX6_advance_123 (by decide) ?_
            exact v_vret X Y dX6_advance_254 (u := ()) trivial (by rw [e2.1, e2.2, h5] <;> rfl)
          · skip
            have q4 := qb j (by omega)
            have q5 := hbt j.toNat
            refine v_aload_n X dX6_advance_91 rfl ?_
            refine v_aload_n X dX6_advance_92 rfl ?_
            refine v_get X (fun _ h => List.mem_cons_of_mem _ (List.mem_append_right _ h)) 0 rfl rfl 4 (by decide) rfl (List.mem_of_getElem? (i := 1) rfl) rfl dX6_advance_93 ?_
            refine res_E X (run_V X (c_X6_at (g := g) (by first | assumption | omega) (by first | assumption | omega) (by first | assumption | omega)) gX6_advance_X6_at rfl hdX6_at ⟨(Nat.le_of_ble_eq_true rfl), (Nat.le_of_ble_eq_true rfl)⟩ ⟨(Nat.le_of_ble_eq_true rfl), (Nat.le_of_ble_eq_true rfl)⟩ 0 rfl rfl rfl [0, 1] rfl rfl rfl rfl (by simp [Value.category]) dX6_advance_96) [0, 1] rfl rfl ?_
            refine res_E X (run_S X (c_X6_isLetter (g := g) (by first | assumption | omega)) gX6_advance_X6_isLetter rfl hdX6_isLetter.2 ⟨(Nat.le_of_ble_eq_true rfl), (Nat.le_of_ble_eq_true rfl)⟩ ⟨(Nat.le_of_ble_eq_true rfl), (Nat.le_of_ble_eq_true rfl)⟩ [] rfl rfl rfl rfl (by simp [Value.category]) dX6_advance_99) [] rfl rfl ?_
            refine v_ifb_eq (tgt := 118) X dX6_advance_102 (by decide) (fun c10 => ?_) (fun c10 => ?_)
            · skip
              have e0 : scW leB bt tln i = j := by rw [g2, scW_s, if_neg (by first | omega | (exact fun z => absurd (leB_iff.mp z.2) (by omega)))]
              have e1 := tk_le h5 (by omega) (by omega)
              have e2 : tkC bt tln tt = 1 ∧ tkE bt tln tt = j := ⟨e1.1, by rw [e1.2.1, e0]⟩
              refine v_aload_n X dX6_advance_118 rfl ?_
              refine v_iconst X dX6_advance_119 ?_
              refine v_put X (fun _ h => List.mem_cons_of_mem _ (List.mem_append_right _ h)) tyX6 tyX6_ok nmX6 0 rfl rfl 2 (by decide) rfl (List.mem_of_getElem? (i := 4) rfl) rfl rfl rfl (Nat.le_of_ble_eq_true rfl) dX6_advance_120 ?_
              dsimp only [List.set, wTap]
              refine v_goto (tgt := 254) X dX6_advance_123 (by decide) ?_
              exact v_vret X Y dX6_advance_254 (u := ()) trivial (by rw [e2.1, e2.2, h5] <;> rfl)
            · skip
              refine v_aload_n X dX6_advance_105 rfl ?_
              refine v_dup X dX6_advance_106 rfl ?_
              refine v_get X (fun _ h => List.mem_cons_of_mem _ (List.mem_append_right _ h)) 0 rfl rfl 4 (by decide) rfl (List.mem_of_getElem? (i := 1) rfl) rfl dX6_advance_107 ?_
              refine v_iconst X dX6_advance_110 ?_
              refine v_iadd X dX6_advance_111 ?_
              refine v_put X (fun _ h => List.mem_cons_of_mem _ (List.mem_append_right _ h)) tyX6 tyX6_ok nmX6 0 rfl rfl 4 (by decide) rfl (List.mem_of_getElem? (i := 1) rfl) rfl rfl rfl (Nat.le_of_ble_eq_true rfl) dX6_advance_112 ?_
              dsimp only [List.set, wTap]
              refine v_goto (tgt := 80) X dX6_advance_115 (by decide) ?_
              exact ih80 _ (by omega) (by rw [g2, scW_s, if_pos ⟨by omega, leB_iff.mpr (by omega)⟩]) (by omega)
      exact L80 _ _ (by omega) (by rfl) (Nat.lt_succ_self _)
  have L8 : ∀ (nf : Nat) (i : Int) (h1 : tt ≤ i ∧ i ≤ tln) (h2 : scW spB bt tln tt = scW spB bt tln i) (_ : (tln - i).toNat < nf), V g x 0 0 (wTap g a a1 bt tln tk (i) tt tf) [some (.ref a)] 8 [] := by
    intro nf
    induction nf with
    | zero => intro i h1 h2 hmu; exact absurd hmu (Nat.not_lt_zero _)
    | succ nf ih8 =>
      intro i h1 h2 hmu
      refine v_aload_n X dX6_advance_8 rfl ?_
      refine v_get X (fun _ h => List.mem_cons_of_mem _ (List.mem_append_right _ h)) 0 rfl rfl 3 (by decide) rfl (List.mem_of_getElem? (i := 2) rfl) rfl dX6_advance_9 ?_
      refine v_aload_n X dX6_advance_12 rfl ?_
      refine v_get X (fun _ h => List.mem_cons_of_mem _ (List.mem_append_right _ h)) 0 rfl rfl 1 (by decide) rfl (List.mem_of_getElem? (i := 3) rfl) rfl dX6_advance_13 ?_
      refine v_icmp_ge (tgt := 58) X dX6_advance_16 (by decide) (by first | omega | (have := qa fm; omega)) (by first | omega | (have := qa fm; omega)) (fun c11 => ?_) (fun c11 => ?_)
      · skip
        exact J58 _ (by omega) (by unfold tkS; rw [h2, scW_s, if_neg (by first | omega | (exact fun z => absurd (spB_iff.mp z.2) (by omega)))])
      · skip
        have q1 := qb i (by omega)
        have q2 := hbt i.toNat
        refine v_aload_n X dX6_advance_19 rfl ?_
        refine v_aload_n X dX6_advance_20 rfl ?_
        refine v_get X (fun _ h => List.mem_cons_of_mem _ (List.mem_append_right _ h)) 0 rfl rfl 3 (by decide) rfl (List.mem_of_getElem? (i := 2) rfl) rfl dX6_advance_21 ?_
        refine res_E X (run_V X (c_X6_at (g := g) (by first | assumption | omega) (by first | assumption | omega) (by first | assumption | omega)) gX6_advance_X6_at rfl hdX6_at ⟨(Nat.le_of_ble_eq_true rfl), (Nat.le_of_ble_eq_true rfl)⟩ ⟨(Nat.le_of_ble_eq_true rfl), (Nat.le_of_ble_eq_true rfl)⟩ 0 rfl rfl rfl [0, 1] rfl rfl rfl rfl (by simp [Value.category]) dX6_advance_24) [0, 1] rfl rfl ?_
        refine v_bipush X dX6_advance_27 (by decide) ?_
        refine v_icmp_eq (tgt := 45) X dX6_advance_29 (by decide) (by first | omega | (have := qa fm; omega)) (by first | omega | (have := qa fm; omega)) (fun c12 => ?_) (fun c12 => ?_)
        · skip
          refine v_aload_n X dX6_advance_45 rfl ?_
          refine v_dup X dX6_advance_46 rfl ?_
          refine v_get X (fun _ h => List.mem_cons_of_mem _ (List.mem_append_right _ h)) 0 rfl rfl 3 (by decide) rfl (List.mem_of_getElem? (i := 2) rfl) rfl dX6_advance_47 ?_
          refine v_iconst X dX6_advance_50 ?_
          refine v_iadd X dX6_advance_51 ?_
          refine v_put X (fun _ h => List.mem_cons_of_mem _ (List.mem_append_right _ h)) tyX6 tyX6_ok nmX6 0 rfl rfl 3 (by decide) rfl (List.mem_of_getElem? (i := 2) rfl) rfl rfl rfl (Nat.le_of_ble_eq_true rfl) dX6_advance_52 ?_
          dsimp only [List.set, wTap]
          refine v_goto (tgt := 8) X dX6_advance_55 (by decide) ?_
          exact ih8 _ (by omega) (by rw [h2, scW_s, if_pos ⟨by omega, spB_iff.mpr (by omega)⟩]) (by omega)
        · skip
          refine v_aload_n X dX6_advance_32 rfl ?_
          refine v_aload_n X dX6_advance_33 rfl ?_
          refine v_get X (fun _ h => List.mem_cons_of_mem _ (List.mem_append_right _ h)) 0 rfl rfl 3 (by decide) rfl (List.mem_of_getElem? (i := 2) rfl) rfl dX6_advance_34 ?_
          refine res_E X (run_V X (c_X6_at (g := g) (by first | assumption | omega) (by first | assumption | omega) (by first | assumption | omega)) gX6_advance_X6_at rfl hdX6_at ⟨(Nat.le_of_ble_eq_true rfl), (Nat.le_of_ble_eq_true rfl)⟩ ⟨(Nat.le_of_ble_eq_true rfl), (Nat.le_of_ble_eq_true rfl)⟩ 0 rfl rfl rfl [0, 1] rfl rfl rfl rfl (by simp [Value.category]) dX6_advance_37) [0, 1] rfl rfl ?_
          refine v_bipush X dX6_advance_40 (by decide) ?_
          refine v_icmp_ne (tgt := 58) X dX6_advance_42 (by decide) (by first | omega | (have := qa fm; omega)) (by first | omega | (have := qa fm; omega)) (fun c13 => ?_) (fun c13 => ?_)
          · skip
            exact J58 _ (by omega) (by unfold tkS; rw [h2, scW_s, if_neg (by first | omega | (exact fun z => absurd (spB_iff.mp z.2) (by omega)))])
          · skip
            refine v_aload_n X dX6_advance_45 rfl ?_
            refine v_dup X dX6_advance_46 rfl ?_
            refine v_get X (fun _ h => List.mem_cons_of_mem _ (List.mem_append_right _ h)) 0 rfl rfl 3 (by decide) rfl (List.mem_of_getElem? (i := 2) rfl) rfl dX6_advance_47 ?_
            refine v_iconst X dX6_advance_50 ?_
            refine v_iadd X dX6_advance_51 ?_
            refine v_put X (fun _ h => List.mem_cons_of_mem _ (List.mem_append_right _ h)) tyX6 tyX6_ok nmX6 0 rfl rfl 3 (by decide) rfl (List.mem_of_getElem? (i := 2) rfl) rfl rfl rfl (Nat.le_of_ble_eq_true rfl) dX6_advance_52 ?_
            dsimp only [List.set, wTap]
            refine v_goto (tgt := 8) X dX6_advance_55 (by decide) ?_
            exact ih8 _ (by omega) (by rw [h2, scW_s, if_pos ⟨by omega, spB_iff.mpr (by omega)⟩]) (by omega)
  exact L8 _ _ (by omega) (by rfl) (Nat.lt_succ_self _)

theorem hdX6_pass : yX6_pass.cls = RX6 ∧ yX6_pass.cls ≠ "java/lang/invoke/MethodHandle" ∧ yX6_pass.cls ≠ "java/lang/invoke/VarHandle" ∧ (parseMethodDescriptor yX6_pass.desc).map (fun d => d.parameters.length) = some 2 := ⟨rfl, by decide +kernel, by decide +kernel, by decide +kernel⟩
set_option maxHeartbeats 4000000 in
set_option maxRecDepth 100000 in
theorem c_X6_pass {g : Gx} {a a1 : Nat} {bt : Nat → Int} {tln tk fm tt tf : Int} {b k : Int} (hbt : Bd 0 255 bt) (htl : 0 ≤ tln ∧ tln ≤ 200) (htt : 0 ≤ tt ∧ tt ≤ tln) (hb : 0 ≤ b ∧ b ≤ 1) (hf : R32 tf) : CtW g yX6_pass wsX6_pass 2 41 [.ref a, .int (iI b), .int (iI k)] (wTap g a a1 bt tln tk fm tt tf) (wTap g a a1 bt tln ((pasI bt tln b k (tk, fm, tt, tf)).1) ((pasI bt tln b k (tk, fm, tt, tf)).2.1) ((pasI bt tln b k (tk, fm, tt, tf)).2.2.1) ((pasI bt tln b k (tk, fm, tt, tf)).2.2.2)) := by
  refine m_go (cc := cX6_pass) (nL := 3) (by decide +kernel) rfl (Nat.le_of_ble_eq_true rfl) (fun x X Y hnm => ?_)
  refine v_eq (lo2 := [some (.ref a), some (.int (iI b)), some (.int (iI k))]) rfl rfl rfl rfl ?_
  refine v_aload_n X dX6_pass_0 rfl ?_
  refine v_get X (fun _ h => List.mem_cons_of_mem _ (List.mem_append_right _ h)) 0 rfl rfl 5 (by decide) rfl (List.mem_of_getElem? (i := 1) rfl) rfl dX6_pass_1 ?_
  refine v_if_eq (tgt := 8) X dX6_pass_4 (by decide) (by omega) (fun c1 => ?_) (fun c1 => ?_)
  · skip
    refine v_iload_n X dX6_pass_8 rfl ?_
    refine v_if_eq (tgt := 19) X dX6_pass_9 (by decide) (by omega) (fun c2 => ?_) (fun c2 => ?_)
    · skip
      refine v_aload_n X dX6_pass_19 rfl ?_
      refine v_iload_n X dX6_pass_20 rfl ?_
      refine v_put X (fun _ h => List.mem_cons_of_mem _ (List.mem_append_right _ h)) tyX6 tyX6_ok nmX6 0 rfl rfl 5 (by decide) rfl (List.mem_of_getElem? (i := 1) rfl) rfl rfl rfl (Nat.le_of_ble_eq_true rfl) dX6_pass_21 ?_
      dsimp only [List.set, wTap]
      exact v_vret X Y dX6_pass_24 (u := ()) trivial (by dsimp only [pasI]; first | (rw [if_pos (by assumption)] <;> rfl) | (rw [if_neg (by omega), if_pos (by assumption)] <;> rfl) | (rw [if_neg (by omega), if_neg (by omega)] <;> rfl))
    · skip
      refine v_aload_n X dX6_pass_12 rfl ?_
      refine res_W X (run_V X (c_X6_advance (g := g) (by first | assumption | omega) (by first | assumption | omega) (by first | assumption | omega)) gX6_pass_X6_advance rfl hdX6_advance ⟨(Nat.le_of_ble_eq_true rfl), (Nat.le_of_ble_eq_true rfl)⟩ ⟨(Nat.le_of_ble_eq_true rfl), (Nat.le_of_ble_eq_true rfl)⟩ 0 rfl rfl rfl [0, 1] rfl rfl rfl rfl (by simp [Value.category]) dX6_pass_13) [0, 1] rfl rfl rfl ?_
      dsimp only [patch, List.set, wTap]
      refine v_goto (tgt := 24) X dX6_pass_16 (by decide) ?_
      exact v_vret X Y dX6_pass_24 (u := ()) trivial (by dsimp only [pasI]; first | (rw [if_pos (by assumption)] <;> rfl) | (rw [if_neg (by omega), if_pos (by assumption)] <;> rfl) | (rw [if_neg (by omega), if_neg (by omega)] <;> rfl))
  · skip
    exact v_vret X Y dX6_pass_7 (u := ()) trivial (by dsimp only [pasI]; first | (rw [if_pos (by assumption)] <;> rfl) | (rw [if_neg (by omega), if_pos (by assumption)] <;> rfl) | (rw [if_neg (by omega), if_neg (by omega)] <;> rfl))

theorem hdX6_takeSign : yX6_takeSign.cls = RX6 ∧ yX6_takeSign.cls ≠ "java/lang/invoke/MethodHandle" ∧ yX6_takeSign.cls ≠ "java/lang/invoke/VarHandle" ∧ (parseMethodDescriptor yX6_takeSign.desc).map (fun d => d.parameters.length) = some 0 := ⟨rfl, by decide +kernel, by decide +kernel, by decide +kernel⟩
set_option maxHeartbeats 4000000 in
set_option maxRecDepth 100000 in
theorem c_X6_takeSign {g : Gx} {a a1 : Nat} {bt : Nat → Int} {tln tk fm tt tf : Int}  (hbt : Bd 0 255 bt) (htl : 0 ≤ tln ∧ tln ≤ 200) (htt : 0 ≤ tt ∧ tt ≤ tln) (hk : R32 tk) (hf : R32 tf) : CtW g yX6_takeSign wsX6_takeSign 3 63 [.ref a] (wTap g a a1 bt tln tk fm tt tf) (wTap g a a1 bt tln ((pasI bt tln (if tk = 3 then 1 else 0) 1 (tk, fm, tt, tf)).1) ((pasI bt tln (if tk = 3 then 1 else 0) 1 (tk, fm, tt, tf)).2.1) ((pasI bt tln (if tk = 3 then 1 else 0) 1 (tk, fm, tt, tf)).2.2.1) ((pasI bt tln (if tk = 3 then 1 else 0) 1 (tk, fm, tt, tf)).2.2.2)) := by
  refine m_go (cc := cX6_takeSign) (nL := 1) (by decide +kernel) rfl (Nat.le_of_ble_eq_true rfl) (fun x X Y hnm => ?_)
  refine v_eq (lo2 := [some (.ref a)]) rfl rfl rfl rfl ?_
  refine v_aload_n X dX6_takeSign_0 rfl ?_
  refine v_aload_n X dX6_takeSign_1 rfl ?_
  refine v_get X (fun _ h => List.mem_cons_of_mem _ (List.mem_append_right _ h)) 0 rfl rfl 2 (by decide) rfl (List.mem_of_getElem? (i := 1) rfl) rfl dX6_takeSign_2 ?_
  refine v_iconst X dX6_takeSign_5 ?_
  refine v_icmp_ne (tgt := 13) X dX6_takeSign_6 (by decide) (by omega) (by omega) (fun c1 => ?_) (fun c1 => ?_)
  · skip
    refine v_iconst X dX6_takeSign_13 ?_
    refine v_iconst X dX6_takeSign_14 ?_
    refine res_W X (run_V X (c_X6_pass (g := g) (by first | assumption | omega) (by first | assumption | omega) (by first | assumption | omega) (by first | assumption | omega) (by first | assumption | omega)) gX6_takeSign_X6_pass rfl hdX6_pass ⟨(Nat.le_of_ble_eq_true rfl), (Nat.le_of_ble_eq_true rfl)⟩ ⟨(Nat.le_of_ble_eq_true rfl), (Nat.le_of_ble_eq_true rfl)⟩ 0 rfl rfl rfl [0, 1] rfl rfl rfl rfl (by simp [Value.category]) dX6_takeSign_15) [0, 1] rfl rfl rfl ?_
    dsimp only [patch, List.set, wTap]
    exact v_vret X Y dX6_takeSign_18 (u := ()) trivial (by (first | rw [if_pos (by assumption)] | rw [if_neg (by assumption)]) <;> rfl)
  · skip
    refine v_iconst X dX6_takeSign_9 ?_
    refine v_goto (tgt := 14) X dX6_takeSign_10 (by decide) ?_
    refine v_iconst X dX6_takeSign_14 ?_
    refine res_W X (run_V X (c_X6_pass (g := g) (by first | assumption | omega) (by first | assumption | omega) (by first | assumption | omega) (by first | assumption | omega) (by first | assumption | omega)) gX6_takeSign_X6_pass rfl hdX6_pass ⟨(Nat.le_of_ble_eq_true rfl), (Nat.le_of_ble_eq_true rfl)⟩ ⟨(Nat.le_of_ble_eq_true rfl), (Nat.le_of_ble_eq_true rfl)⟩ 0 rfl rfl rfl [0, 1] rfl rfl rfl rfl (by simp [Value.category]) dX6_takeSign_15) [0, 1] rfl rfl rfl ?_
    dsimp only [patch, List.set, wTap]
    exact v_vret X Y dX6_takeSign_18 (u := ()) trivial (by (first | rw [if_pos (by assumption)] | rw [if_neg (by assumption)]) <;> rfl)

theorem hdX6_numberHere : yX6_numberHere.cls = RX6 ∧ yX6_numberHere.cls ≠ "java/lang/invoke/MethodHandle" ∧ yX6_numberHere.cls ≠ "java/lang/invoke/VarHandle" ∧ (parseMethodDescriptor yX6_numberHere.desc).map (fun d => d.parameters.length) = some 0 := ⟨rfl, by decide +kernel, by decide +kernel, by decide +kernel⟩
set_option maxHeartbeats 4000000 in
set_option maxRecDepth 100000 in
theorem c_X6_numberHere {g : Gx} {a a1 : Nat} {bt : Nat → Int} {tln tk fm tt tf : Int}  (hbt : Bd 0 255 bt) (htl : 0 ≤ tln ∧ tln ≤ 200) (htt : 0 ≤ tt ∧ tt ≤ tln) (hfm : 0 ≤ fm ∧ fm ≤ tt) (hno : tt - fm ≤ 3 ∧ ∀ j : Int, fm ≤ j → j < tt → 48 ≤ bt j.toNat ∧ bt j.toNat ≤ 57) : CtE g yX6_numberHere wsX6_numberHere 1 21 [.ref a] (wTap g a a1 bt tln tk fm tt tf) (nmI bt fm (tt - fm).toNat) (wTap g a a1 bt tln tk fm tt tf) := by
  refine m_go (cc := cX6_numberHere) (nL := 3) (by decide +kernel) rfl (Nat.le_of_ble_eq_true rfl) (fun x X Y hnm => ?_)
  refine v_eq (lo2 := [some (.ref a), none, none]) rfl rfl rfl rfl ?_
  refine v_iconst X dX6_numberHere_0 ?_
  refine v_istore_n X dX6_numberHere_1 1 rfl (by decide) rfl ?_
  dsimp only [List.set]
  refine v_aload_n X dX6_numberHere_2 rfl ?_
  refine v_get X (fun _ h => List.mem_cons_of_mem _ (List.mem_append_right _ h)) 0 rfl rfl 3 (by decide) rfl (List.mem_of_getElem? (i := 1) rfl) rfl dX6_numberHere_3 ?_
  refine v_istore_n X dX6_numberHere_6 2 rfl (by decide) rfl ?_
  dsimp only [List.set]
  have L7 : ∀ (nf : Nat) (v : Int) (i : Int) (h1 : fm ≤ i ∧ i ≤ tt) (h2 : v = nmI bt fm (i - fm).toNat) (h3 : (i = fm ∧ v = 0) ∨ (i = fm + 1 ∧ 0 ≤ v ∧ v ≤ 9) ∨ (i = fm + 2 ∧ 0 ≤ v ∧ v ≤ 99) ∨ (i = fm + 3 ∧ 0 ≤ v ∧ v ≤ 999)) (_ : (tt - i).toNat < nf), V g x 0 0 (wTap g a a1 bt tln tk fm tt tf) [some (.ref a), some (.int (iI v)), some (.int (iI i))] 7 [] := by
    intro nf
    induction nf with
    | zero => intro v i h1 h2 h3 hmu; exact absurd hmu (Nat.not_lt_zero _)
    | succ nf ih7 =>
      intro v i h1 h2 h3 hmu
      refine v_iload_n X dX6_numberHere_7 rfl ?_
      refine v_aload_n X dX6_numberHere_8 rfl ?_
      refine v_get X (fun _ h => List.mem_cons_of_mem _ (List.mem_append_right _ h)) 0 rfl rfl 4 (by decide) rfl (List.mem_of_getElem? (i := 2) rfl) rfl dX6_numberHere_9 ?_
      refine v_icmp_ge (tgt := 35) X dX6_numberHere_12 (by decide) (by omega) (by omega) (fun c1 => ?_) (fun c1 => ?_)
      · skip
        refine v_iload_n X dX6_numberHere_35 rfl ?_
        exact v_iret X Y dX6_numberHere_36 (u := ()) (by rw [h2, show i = tt by omega]) (by rfl)
      · skip
        have q1 : atI tln bt i = bt i.toNat := if_pos (by omega)
        have q2 := hno.2 i (by omega) (by omega)
        refine v_bipush X dX6_numberHere_15 (by decide) ?_
        refine v_iload_n X dX6_numberHere_17 rfl ?_
        refine v_imul X dX6_numberHere_18 ?_
        refine v_aload_n X dX6_numberHere_19 rfl ?_
        refine v_iload_n X dX6_numberHere_20 rfl ?_
        refine res_E X (run_V X (c_X6_at (g := g) (by first | assumption | omega) (by first | assumption | omega) (by first | assumption | omega)) gX6_numberHere_X6_at rfl hdX6_at ⟨(Nat.le_of_ble_eq_true rfl), (Nat.le_of_ble_eq_true rfl)⟩ ⟨(Nat.le_of_ble_eq_true rfl), (Nat.le_of_ble_eq_true rfl)⟩ 0 rfl rfl rfl [0, 1] rfl rfl rfl rfl (by simp [Value.category]) dX6_numberHere_21) [0, 1] rfl rfl ?_
        refine v_iadd X dX6_numberHere_24 ?_
        refine v_bipush X dX6_numberHere_25 (by decide) ?_
        refine v_isub X dX6_numberHere_27 ?_
        refine v_istore_n X dX6_numberHere_28 1 rfl (by decide) rfl ?_
        dsimp only [List.set]
        refine v_iinc X dX6_numberHere_29 rfl (by decide) rfl ?_
        dsimp only [List.set]
        refine v_goto (tgt := 7) X dX6_numberHere_32 (by decide) ?_
        exact ih7 _ _ (by omega) (by rw [nmI_s h1.1, ← h2, ← q1]) (by omega) (by omega)
  exact L7 _ _ _ (by omega) (by rw [show (fm - fm).toNat = 0 by omega]; rfl) (by omega) (Nat.lt_succ_self _)

theorem hdX6_takeNumber : yX6_takeNumber.cls = RX6 ∧ yX6_takeNumber.cls ≠ "java/lang/invoke/MethodHandle" ∧ yX6_takeNumber.cls ≠ "java/lang/invoke/VarHandle" ∧ (parseMethodDescriptor yX6_takeNumber.desc).map (fun d => d.parameters.length) = some 2 := ⟨rfl, by decide +kernel, by decide +kernel, by decide +kernel⟩
set_option maxHeartbeats 4000000 in
set_option maxRecDepth 100000 in
theorem c_X6_takeNumber {g : Gx} {a a1 : Nat} {bt : Nat → Int} {tln tk fm tt tf : Int} {l m : Int} (hbt : Bd 0 255 bt) (htl : 0 ≤ tln ∧ tln ≤ 200) (hok : tkOK bt tln tk fm tt) (hk : R32 tk) (hf : R32 tf) (hl : R32 l) (hm : R32 m) : CtE g yX6_takeNumber wsX6_takeNumber 3 63 [.ref a, .int (iI l), .int (iI m)] (wTap g a a1 bt tln tk fm tt tf) ((if tk = 2 then nmI bt fm (tt - fm).toNat else 0)) (wTap g a a1 bt tln ((pasI bt tln (if l ≤ (if tk = 2 then nmI bt fm (tt - fm).toNat else 0) ∧ (if tk = 2 then nmI bt fm (tt - fm).toNat else 0) ≤ m then 1 else 0) (if tk = 2 then 2 else 1) (tk, fm, tt, tf)).1) ((pasI bt tln (if l ≤ (if tk = 2 then nmI bt fm (tt - fm).toNat else 0) ∧ (if tk = 2 then nmI bt fm (tt - fm).toNat else 0) ≤ m then 1 else 0) (if tk = 2 then 2 else 1) (tk, fm, tt, tf)).2.1) ((pasI bt tln (if l ≤ (if tk = 2 then nmI bt fm (tt - fm).toNat else 0) ∧ (if tk = 2 then nmI bt fm (tt - fm).toNat else 0) ≤ m then 1 else 0) (if tk = 2 then 2 else 1) (tk, fm, tt, tf)).2.2.1) ((pasI bt tln (if l ≤ (if tk = 2 then nmI bt fm (tt - fm).toNat else 0) ∧ (if tk = 2 then nmI bt fm (tt - fm).toNat else 0) ≤ m then 1 else 0) (if tk = 2 then 2 else 1) (tk, fm, tt, tf)).2.2.2)) := by
  refine m_go (cc := cX6_takeNumber) (nL := 4) (by decide +kernel) rfl (Nat.le_of_ble_eq_true rfl) (fun x X Y hnm => ?_)
  refine v_eq (lo2 := [some (.ref a), some (.int (iI l)), some (.int (iI m)), none]) rfl rfl rfl rfl ?_
  have htt : 0 ≤ tt ∧ tt ≤ tln := by have q := hok.1; omega
  have hfm : 0 ≤ fm ∧ fm ≤ tt := by have q := hok.1; omega
  refine v_aload_n X dX6_takeNumber_0 rfl ?_
  refine v_get X (fun _ h => List.mem_cons_of_mem _ (List.mem_append_right _ h)) 0 rfl rfl 2 (by decide) rfl (List.mem_of_getElem? (i := 1) rfl) rfl dX6_takeNumber_1 ?_
  refine v_iconst X dX6_takeNumber_4 ?_
  refine v_icmp_ne (tgt := 15) X dX6_takeNumber_5 (by decide) (by first | omega | (split <;> omega)) (by first | omega | (split <;> omega)) (fun c1 => ?_) (fun c1 => ?_)
  · skip
    refine v_iconst X dX6_takeNumber_15 ?_
    refine v_istore_n X dX6_takeNumber_16 3 rfl (by decide) rfl ?_
    dsimp only [List.set]
    refine v_aload_n X dX6_takeNumber_17 rfl ?_
    refine v_iload_n X dX6_takeNumber_18 rfl ?_
    refine v_iload_n X dX6_takeNumber_19 rfl ?_
    refine v_iload_n X dX6_takeNumber_20 rfl ?_
    refine res_E X (run_SN X (c_X7_isWithin (g := g) (by first | assumption | omega) (by first | assumption | omega) (by first | assumption | omega)) gX6_takeNumber_X7_isWithin_n80 rfl (List.mem_of_getElem? (i := 8) rfl) (List.mem_of_getElem? (i := 16) rfl) (List.mem_of_getElem? (i := 15) rfl) hdX7_isWithin.2 ⟨(Nat.le_of_ble_eq_true rfl), (Nat.le_of_ble_eq_true rfl)⟩ ⟨(Nat.le_of_ble_eq_true rfl), (Nat.le_of_ble_eq_true rfl)⟩ [] rfl rfl rfl rfl (by simp [Value.category]) dX6_takeNumber_21) [] rfl rfl ?_
    refine v_aload_n X dX6_takeNumber_24 rfl ?_
    refine v_get X (fun _ h => List.mem_cons_of_mem _ (List.mem_append_right _ h)) 0 rfl rfl 2 (by decide) rfl (List.mem_of_getElem? (i := 1) rfl) rfl dX6_takeNumber_25 ?_
    refine v_iconst X dX6_takeNumber_28 ?_
    refine v_icmp_ne (tgt := 36) X dX6_takeNumber_29 (by decide) (by first | omega | (split <;> omega)) (by first | omega | (split <;> omega)) (fun c2 => ?_) (fun c2 => ?_)
    · skip
      refine v_iconst X dX6_takeNumber_36 ?_
      refine res_W X (run_V X (c_X6_pass (g := g) (by first | assumption | omega) (by first | assumption | omega) (by first | assumption | omega) (by split <;> omega) (by first | assumption | omega)) gX6_takeNumber_X6_pass rfl hdX6_pass ⟨(Nat.le_of_ble_eq_true rfl), (Nat.le_of_ble_eq_true rfl)⟩ ⟨(Nat.le_of_ble_eq_true rfl), (Nat.le_of_ble_eq_true rfl)⟩ 0 rfl rfl rfl [0, 1] rfl rfl rfl rfl (by simp [Value.category]) dX6_takeNumber_37) [0, 1] rfl rfl rfl ?_
      dsimp only [patch, List.set, wTap]
      refine v_iload_n X dX6_takeNumber_40 rfl ?_
      exact v_iret X Y dX6_takeNumber_41 (u := ()) (by first | (exfalso; omega) | rw [if_pos (by assumption)] | rw [if_neg (by assumption)]) (by first | (exfalso; omega) | (simp only [if_pos (show tk = 2 by assumption)] <;> rfl) | (simp only [if_neg (show ¬ tk = 2 by assumption)] <;> rfl))
    · skip
      refine v_iconst X dX6_takeNumber_32 ?_
      refine v_goto (tgt := 37) X dX6_takeNumber_33 (by decide) ?_
      refine res_W X (run_V X (c_X6_pass (g := g) (by first | assumption | omega) (by first | assumption | omega) (by first | assumption | omega) (by split <;> omega) (by first | assumption | omega)) gX6_takeNumber_X6_pass rfl hdX6_pass ⟨(Nat.le_of_ble_eq_true rfl), (Nat.le_of_ble_eq_true rfl)⟩ ⟨(Nat.le_of_ble_eq_true rfl), (Nat.le_of_ble_eq_true rfl)⟩ 0 rfl rfl rfl [0, 1] rfl rfl rfl rfl (by simp [Value.category]) dX6_takeNumber_37) [0, 1] rfl rfl rfl ?_
      dsimp only [patch, List.set, wTap]
      refine v_iload_n X dX6_takeNumber_40 rfl ?_
      exact v_iret X Y dX6_takeNumber_41 (u := ()) (by first | (exfalso; omega) | rw [if_pos (by assumption)] | rw [if_neg (by assumption)]) (by first | (exfalso; omega) | (simp only [if_pos (show tk = 2 by assumption)] <;> rfl) | (simp only [if_neg (show ¬ tk = 2 by assumption)] <;> rfl))
  · skip
    have hno := hok.2.1 (by assumption)
    have q1 := nmI_bd hno.1 hno.2
    refine v_aload_n X dX6_takeNumber_8 rfl ?_
    refine res_E X (run_V X (c_X6_numberHere (g := g) (by first | assumption | omega) (by first | assumption | omega) (by first | assumption | omega) (by first | assumption | omega) (by first | assumption | omega)) gX6_takeNumber_X6_numberHere rfl hdX6_numberHere ⟨(Nat.le_of_ble_eq_true rfl), (Nat.le_of_ble_eq_true rfl)⟩ ⟨(Nat.le_of_ble_eq_true rfl), (Nat.le_of_ble_eq_true rfl)⟩ 0 rfl rfl rfl [0, 1] rfl rfl rfl rfl (by simp [Value.category]) dX6_takeNumber_9) [0, 1] rfl rfl ?_
    refine v_goto (tgt := 16) X dX6_takeNumber_12 (by decide) ?_
    refine v_istore_n X dX6_takeNumber_16 3 rfl (by decide) rfl ?_
    dsimp only [List.set]
    refine v_aload_n X dX6_takeNumber_17 rfl ?_
    refine v_iload_n X dX6_takeNumber_18 rfl ?_
    refine v_iload_n X dX6_takeNumber_19 rfl ?_
    refine v_iload_n X dX6_takeNumber_20 rfl ?_
    refine res_E X (run_SN X (c_X7_isWithin (g := g) (by first | assumption | omega) (by first | assumption | omega) (by first | assumption | omega)) gX6_takeNumber_X7_isWithin_n80 rfl (List.mem_of_getElem? (i := 8) rfl) (List.mem_of_getElem? (i := 16) rfl) (List.mem_of_getElem? (i := 15) rfl) hdX7_isWithin.2 ⟨(Nat.le_of_ble_eq_true rfl), (Nat.le_of_ble_eq_true rfl)⟩ ⟨(Nat.le_of_ble_eq_true rfl), (Nat.le_of_ble_eq_true rfl)⟩ [] rfl rfl rfl rfl (by simp [Value.category]) dX6_takeNumber_21) [] rfl rfl ?_
    refine v_aload_n X dX6_takeNumber_24 rfl ?_
    refine v_get X (fun _ h => List.mem_cons_of_mem _ (List.mem_append_right _ h)) 0 rfl rfl 2 (by decide) rfl (List.mem_of_getElem? (i := 1) rfl) rfl dX6_takeNumber_25 ?_
    refine v_iconst X dX6_takeNumber_28 ?_
    refine v_icmp_ne (tgt := 36) X dX6_takeNumber_29 (by decide) (by first | omega | (split <;> omega)) (by first | omega | (split <;> omega)) (fun c3 => ?_) (fun c3 => ?_)
    · skip
      refine v_iconst X dX6_takeNumber_36 ?_
      refine res_W X (run_V X (c_X6_pass (g := g) (by first | assumption | omega) (by first | assumption | omega) (by first | assumption | omega) (by split <;> omega) (by first | assumption | omega)) gX6_takeNumber_X6_pass rfl hdX6_pass ⟨(Nat.le_of_ble_eq_true rfl), (Nat.le_of_ble_eq_true rfl)⟩ ⟨(Nat.le_of_ble_eq_true rfl), (Nat.le_of_ble_eq_true rfl)⟩ 0 rfl rfl rfl [0, 1] rfl rfl rfl rfl (by simp [Value.category]) dX6_takeNumber_37) [0, 1] rfl rfl rfl ?_
      dsimp only [patch, List.set, wTap]
      refine v_iload_n X dX6_takeNumber_40 rfl ?_
      exact v_iret X Y dX6_takeNumber_41 (u := ()) (by first | (exfalso; omega) | rw [if_pos (by assumption)] | rw [if_neg (by assumption)]) (by first | (exfalso; omega) | (simp only [if_pos (show tk = 2 by assumption)] <;> rfl) | (simp only [if_neg (show ¬ tk = 2 by assumption)] <;> rfl))
    · skip
      refine v_iconst X dX6_takeNumber_32 ?_
      refine v_goto (tgt := 37) X dX6_takeNumber_33 (by decide) ?_
      refine res_W X (run_V X (c_X6_pass (g := g) (by first | assumption | omega) (by first | assumption | omega) (by first | assumption | omega) (by split <;> omega) (by first | assumption | omega)) gX6_takeNumber_X6_pass rfl hdX6_pass ⟨(Nat.le_of_ble_eq_true rfl), (Nat.le_of_ble_eq_true rfl)⟩ ⟨(Nat.le_of_ble_eq_true rfl), (Nat.le_of_ble_eq_true rfl)⟩ 0 rfl rfl rfl [0, 1] rfl rfl rfl rfl (by simp [Value.category]) dX6_takeNumber_37) [0, 1] rfl rfl rfl ?_
      dsimp only [patch, List.set, wTap]
      refine v_iload_n X dX6_takeNumber_40 rfl ?_
      exact v_iret X Y dX6_takeNumber_41 (u := ()) (by first | (exfalso; omega) | rw [if_pos (by assumption)] | rw [if_neg (by assumption)]) (by first | (exfalso; omega) | (simp only [if_pos (show tk = 2 by assumption)] <;> rfl) | (simp only [if_neg (show ¬ tk = 2 by assumption)] <;> rfl))

theorem hdX7_feed : yX7_feed.cls = RX7 ∧ yX7_feed.cls ≠ "java/lang/invoke/MethodHandle" ∧ yX7_feed.cls ≠ "java/lang/invoke/VarHandle" ∧ (parseMethodDescriptor yX7_feed.desc).map (fun d => d.parameters.length) = some 2 := ⟨rfl, by decide +kernel, by decide +kernel, by decide +kernel⟩
set_option maxHeartbeats 4000000 in
set_option maxRecDepth 100000 in
theorem c_X7_feed {g : Gx} {B : Nat → Nat} {lf fi : Int} {bt : Nat → Int} {tln tk fm tt tf : Int} {w : Int64} {n : Int} (hbt : Bd 0 255 bt) (htl : 0 ≤ tln ∧ tln ≤ 200) (hn : R32 n) : CtI (S := (Nat → Int) × Int) g yX7_feed wsX7_feed 1 22 [.ref (B 0), .long w, .int (iI n)] (oAH g B (lf) (fi) :: (wTap g (B 2) (B 14) bt tln tk fm tt tf)) (fun v u => (¬ (1 ≤ n ∧ n ≤ 8) ∧ v = -1000001 ∧ u = (bt, tln)) ∨ ((1 ≤ n ∧ n ≤ 8) ∧ ((200 < tln + n ∧ v = -1000003 ∧ u = (bt, tln)) ∨ (tln + n ≤ 200 ∧ v = tln + n ∧ u = (fdN (fbC w) bt tln n n.toNat, tln + n))))) (fun u => oAH g B (lf) (fi) :: (wTap g (B 2) (B 14) (u.1) (u.2) tk fm tt tf)) := by
  refine m_go (cc := cX7_feed) (nL := 5) (by decide +kernel) rfl (Nat.le_of_ble_eq_true rfl) (fun x X Y hnm => ?_)
  refine v_eq (lo2 := [some (.ref (B 0)), some (.long w), none, some (.int (iI n)), none]) rfl rfl rfl rfl ?_
  refine v_iload_n X dX7_feed_0 rfl ?_
  refine v_iconst X dX7_feed_1 ?_
  refine v_bipush X dX7_feed_2 (by decide) ?_
  refine res_E X (run_S X (c_X7_isWithin (g := g) (by first | assumption | omega) (by first | assumption | omega) (by first | assumption | omega)) gX7_feed_X7_isWithin rfl hdX7_isWithin.2 ⟨(Nat.le_of_ble_eq_true rfl), (Nat.le_of_ble_eq_true rfl)⟩ ⟨(Nat.le_of_ble_eq_true rfl), (Nat.le_of_ble_eq_true rfl)⟩ [] rfl rfl rfl rfl (by simp [Value.category]) dX7_feed_4) [] rfl rfl ?_
  refine v_ifb_ne (tgt := 13) X dX7_feed_7 (by decide) (fun c1 => ?_) (fun c1 => ?_)
  · skip
    refine v_aload_n X dX7_feed_13 rfl ?_
    refine v_get X (fun _ h => List.mem_cons_of_mem _ (List.mem_append_left _ (List.mem_append_right _ h))) 0 rfl rfl 1 (by decide) rfl (List.mem_of_getElem? (i := 2) rfl) rfl dX7_feed_14 ?_
    refine v_iload_n X dX7_feed_17 rfl ?_
    refine res_E X (run_V X (c_X6_hasRoom (g := g) (by first | assumption | omega) (by first | assumption | omega)) gX7_feed_X6_hasRoom rfl hdX6_hasRoom ⟨(Nat.le_of_ble_eq_true rfl), (Nat.le_of_ble_eq_true rfl)⟩ ⟨(Nat.le_of_ble_eq_true rfl), (Nat.le_of_ble_eq_true rfl)⟩ 1 rfl rfl rfl [1, 2] rfl rfl rfl rfl (by simp [Value.category]) dX7_feed_18) [1, 2] rfl rfl ?_
    refine v_ifb_ne (tgt := 27) X dX7_feed_21 (by decide) (fun c2 => ?_) (fun c2 => ?_)
    · skip
      refine v_iload_n X dX7_feed_27 rfl ?_
      refine v_iconst X dX7_feed_28 ?_
      refine v_isub X dX7_feed_29 ?_
      refine v_istore X dX7_feed_30 (by decide) rfl ?_
      dsimp only [List.set]
      have L32 : ∀ (nf : Nat) (f : Nat → Int) (tn : Int) (k : Int) (h1 : -1 ≤ k ∧ k < n) (h3 : tn = tln + (n - 1 - k)) (h2 : f = fdN (fbC w) bt tln n (n - 1 - k).toNat) (_ : (k + 1).toNat < nf), V g x 0 0 (oAH g B (lf) (fi) :: (wTap g (B 2) (B 14) (f) (tn) tk fm tt tf)) [some (.ref (B 0)), some (.long w), none, some (.int (iI n)), some (.int (iI k))] 32 [] := by
        intro nf
        induction nf with
        | zero => intro f tn k h1 h3 h2 hmu; exact absurd hmu (Nat.not_lt_zero _)
        | succ nf ih32 =>
          intro f tn k h1 h3 h2 hmu
          refine v_iload X dX7_feed_32 rfl ?_
          refine v_if_lt (tgt := 62) X dX7_feed_34 (by decide) (by first | omega | (split <;> omega)) (fun c3 => ?_) (fun c3 => ?_)
          · skip
            refine v_aload_n X dX7_feed_62 rfl ?_
            refine v_get X (fun _ h => List.mem_cons_of_mem _ (List.mem_append_left _ (List.mem_append_right _ h))) 0 rfl rfl 1 (by decide) rfl (List.mem_of_getElem? (i := 2) rfl) rfl dX7_feed_63 ?_
            refine v_get X (fun _ h => List.mem_cons_of_mem _ (List.mem_append_right _ h)) 1 rfl rfl 1 (by decide) rfl (List.mem_of_getElem? (i := 4) rfl) rfl dX7_feed_66 ?_
            refine v_iret X Y dX7_feed_69 (u := (fdN (fbC w) bt tln n n.toNat, tln + n)) ?_ (by rw [h2, h3, show k = -1 by omega, show n - 1 - -1 = n by omega] <;> rfl)
            exact Or.inr ⟨by omega, Or.inr ⟨by omega, by omega, rfl⟩⟩
          · skip
            refine v_aload_n X dX7_feed_37 rfl ?_
            refine v_get X (fun _ h => List.mem_cons_of_mem _ (List.mem_append_left _ (List.mem_append_right _ h))) 0 rfl rfl 1 (by decide) rfl (List.mem_of_getElem? (i := 2) rfl) rfl dX7_feed_38 ?_
            refine v_lload_n X dX7_feed_41 rfl ?_
            refine v_bipush X dX7_feed_42 (by decide) ?_
            refine v_iload X dX7_feed_44 rfl ?_
            refine v_imul X dX7_feed_46 ?_
            refine v_lushr X dX7_feed_47 ?_
            refine v_l2i X dX7_feed_48 ?_
            refine v_sipush X dX7_feed_49 (by decide) ?_
            refine v_iand X dX7_feed_52 ?_
            refine res_W X (run_V X (c_X6_append (g := g) (by first | assumption | omega)) gX7_feed_X6_append rfl hdX6_append ⟨(Nat.le_of_ble_eq_true rfl), (Nat.le_of_ble_eq_true rfl)⟩ ⟨(Nat.le_of_ble_eq_true rfl), (Nat.le_of_ble_eq_true rfl)⟩ 1 rfl rfl rfl [1, 2] rfl rfl rfl rfl (by simp [Value.category]) dX7_feed_53) [1, 2] rfl rfl rfl ?_
            dsimp only [patch, List.set, List.cons_append, List.nil_append, oAH, wTap]
            refine v_iinc X dX7_feed_56 rfl (by decide) rfl ?_
            dsimp only [List.set]
            refine v_goto (tgt := 32) X dX7_feed_59 (by decide) ?_
            exact ih32 _ _ _ (by omega) (by omega) (by rw [show n - 1 - (k + -1) = n - k by omega, fdN_s (by omega) h1.2, ← h2, ← h3]; rfl) (by omega)
      exact L32 _ _ _ _ (by omega) (by omega) (by rw [show n - 1 - (n - 1) = 0 by omega]; rfl) (Nat.lt_succ_self _)
    · skip
      refine v_ldc X (List.mem_of_getElem? (i := 3) rfl) dX7_feed_24 (n := -1000003) (by decide) ?_
      refine v_iret X Y dX7_feed_26 (u := (bt, tln)) ?_ (by rfl)
      exact Or.inr ⟨by omega, Or.inl ⟨by omega, rfl, rfl⟩⟩
  · skip
    refine v_ldc X (List.mem_of_getElem? (i := 1) rfl) dX7_feed_10 (n := -1000001) (by decide) ?_
    refine v_iret X Y dX7_feed_12 (u := (bt, tln)) ?_ (by rfl)
    exact Or.inl ⟨by omega, rfl, rfl⟩

