theorem hdX0_init : yX0_init.cls = RX0 ∧ yX0_init.cls ≠ "java/lang/invoke/MethodHandle" ∧ yX0_init.cls ≠ "java/lang/invoke/VarHandle" ∧ (parseMethodDescriptor yX0_init.desc).map (fun d => d.parameters.length) = some 0 := ⟨rfl, by decide +kernel, by decide +kernel, by decide +kernel⟩
set_option maxHeartbeats 4000000 in
set_option maxRecDepth 100000 in
theorem c_X0_init {g : Gx} {a : Nat}  : CtN (S := Nat × Nat) g yX0_init wsX0_init 1 2 48 24 [.ref a] ([(a, .inr (0, [.null, .null, .int (iI 0)]))]) (fun _ => True) (fun u => wAct g a u.1 u.2 (fun _ => 0) (fun _ => 0) 0) := by
  refine m_go (cc := cX0_init) (nL := 1) (by decide +kernel) rfl (Nat.le_of_ble_eq_true rfl) (fun x X Y hnm => ?_)
  refine v_eq (lo2 := [some (.ref a)]) rfl rfl rfl rfl ?_
  have hini : x.2.2.1.name = "<init>" := hnm
  refine v_aload_n X dX0_init_0 rfl ?_
  refine v_obj X (List.mem_of_getElem? (i := 1) rfl) (List.mem_of_getElem? (i := 2) rfl) (List.mem_of_getElem? (i := 3) rfl) ⟨(Nat.le_of_ble_eq_true rfl), (Nat.le_of_ble_eq_true rfl)⟩ dX0_init_1 ?_
  refine v_aload_n X dX0_init_4 rfl ?_
  refine v_bipush X dX0_init_5 (by decide) ?_
  refine v_newa X (List.mem_of_getElem? (i := 4) rfl) ⟨by decide, by decide⟩ (Nat.le_of_ble_eq_true rfl) (Nat.le_of_ble_eq_true rfl) dX0_init_7 (fun q1 => ?_)
  refine v_cs (c2 := 1) (s2 := 24) rfl rfl ?_
  dsimp only [List.set, List.cons_append, List.nil_append]
  refine v_putF X hini (fun _ h => List.mem_cons_of_mem _ (List.mem_append_right _ h)) tyX0 tyX0_ok nmX0 0 rfl rfl 0 (by decide) rfl (List.mem_of_getElem? (i := 5) rfl) rfl rfl rfl (Nat.le_of_ble_eq_true rfl) dX0_init_9 ?_
  dsimp only [List.set, List.cons_append, List.nil_append]
  refine v_aload_n X dX0_init_12 rfl ?_
  refine v_bipush X dX0_init_13 (by decide) ?_
  refine v_newa X (List.mem_of_getElem? (i := 4) rfl) ⟨by decide, by decide⟩ (Nat.le_of_ble_eq_true rfl) (Nat.le_of_ble_eq_true rfl) dX0_init_15 (fun q2 => ?_)
  refine v_cs (c2 := 2) (s2 := 48) rfl rfl ?_
  dsimp only [List.set, List.cons_append, List.nil_append]
  refine v_putF X hini (fun _ h => List.mem_cons_of_mem _ (List.mem_append_right _ h)) tyX0 tyX0_ok nmX0 0 rfl rfl 1 (by decide) rfl (List.mem_of_getElem? (i := 6) rfl) rfl rfl rfl (Nat.le_of_ble_eq_true rfl) dX0_init_17 ?_
  dsimp only [List.set, List.cons_append, List.nil_append]
  refine v_vret X Y dX0_init_20 (u := (q1, q2)) ?_ (by rfl)
  trivial

theorem hdX1_init : yX1_init.cls = RX1 ∧ yX1_init.cls ≠ "java/lang/invoke/MethodHandle" ∧ yX1_init.cls ≠ "java/lang/invoke/VarHandle" ∧ (parseMethodDescriptor yX1_init.desc).map (fun d => d.parameters.length) = some 0 := ⟨rfl, by decide +kernel, by decide +kernel, by decide +kernel⟩
set_option maxHeartbeats 4000000 in
set_option maxRecDepth 100000 in
theorem c_X1_init {g : Gx} {a : Nat}  : CtN (S := Nat) g yX1_init wsX1_init 1 1 16 24 [.ref a] ([(a, .inr (1, [.null, .int (iI 0)]))]) (fun _ => True) (fun u => wAsk g a u (fun _ => 0) 0) := by
  refine m_go (cc := cX1_init) (nL := 1) (by decide +kernel) rfl (Nat.le_of_ble_eq_true rfl) (fun x X Y hnm => ?_)
  refine v_eq (lo2 := [some (.ref a)]) rfl rfl rfl rfl ?_
  have hini : x.2.2.1.name = "<init>" := hnm
  refine v_aload_n X dX1_init_0 rfl ?_
  refine v_obj X (List.mem_of_getElem? (i := 1) rfl) (List.mem_of_getElem? (i := 2) rfl) (List.mem_of_getElem? (i := 3) rfl) ⟨(Nat.le_of_ble_eq_true rfl), (Nat.le_of_ble_eq_true rfl)⟩ dX1_init_1 ?_
  refine v_aload_n X dX1_init_4 rfl ?_
  refine v_bipush X dX1_init_5 (by decide) ?_
  refine v_newa X (List.mem_of_getElem? (i := 4) rfl) ⟨by decide, by decide⟩ (Nat.le_of_ble_eq_true rfl) (Nat.le_of_ble_eq_true rfl) dX1_init_7 (fun q1 => ?_)
  refine v_cs (c2 := 1) (s2 := 16) rfl rfl ?_
  dsimp only [List.set, List.cons_append, List.nil_append]
  refine v_putF X hini (fun _ h => List.mem_cons_of_mem _ (List.mem_append_right _ h)) tyX1 tyX1_ok nmX1 0 rfl rfl 0 (by decide) rfl (List.mem_of_getElem? (i := 5) rfl) rfl rfl rfl (Nat.le_of_ble_eq_true rfl) dX1_init_9 ?_
  dsimp only [List.set, List.cons_append, List.nil_append]
  refine v_vret X Y dX1_init_12 (u := q1) ?_ (by rfl)
  trivial

theorem hdX2_init : yX2_init.cls = RX2 ∧ yX2_init.cls ≠ "java/lang/invoke/MethodHandle" ∧ yX2_init.cls ≠ "java/lang/invoke/VarHandle" ∧ (parseMethodDescriptor yX2_init.desc).map (fun d => d.parameters.length) = some 0 := ⟨rfl, by decide +kernel, by decide +kernel, by decide +kernel⟩
set_option maxHeartbeats 4000000 in
set_option maxRecDepth 100000 in
theorem c_X2_init {g : Gx} {a : Nat}  : CtN (S := Nat × Nat × Nat) g yX2_init wsX2_init 1 3 12 24 [.ref a] ([(a, .inr (2, [.null, .null, .null, .int (iI 0), .int (iI 0)]))]) (fun _ => True) (fun u => wClk g a u.1 u.2.1 u.2.2 0 0 (fun _ => 0) (fun _ => 0) (fun _ => 0)) := by
  refine m_go (cc := cX2_init) (nL := 1) (by decide +kernel) rfl (Nat.le_of_ble_eq_true rfl) (fun x X Y hnm => ?_)
  refine v_eq (lo2 := [some (.ref a)]) rfl rfl rfl rfl ?_
  have hini : x.2.2.1.name = "<init>" := hnm
  refine v_aload_n X dX2_init_0 rfl ?_
  refine v_obj X (List.mem_of_getElem? (i := 1) rfl) (List.mem_of_getElem? (i := 2) rfl) (List.mem_of_getElem? (i := 3) rfl) ⟨(Nat.le_of_ble_eq_true rfl), (Nat.le_of_ble_eq_true rfl)⟩ dX2_init_1 ?_
  refine v_aload_n X dX2_init_4 rfl ?_
  refine v_iconst X dX2_init_5 ?_
  refine v_newa X (List.mem_of_getElem? (i := 4) rfl) ⟨by decide, by decide⟩ (Nat.le_of_ble_eq_true rfl) (Nat.le_of_ble_eq_true rfl) dX2_init_6 (fun q1 => ?_)
  refine v_cs (c2 := 1) (s2 := 4) rfl rfl ?_
  dsimp only [List.set, List.cons_append, List.nil_append]
  refine v_putF X hini (fun _ h => List.mem_cons_of_mem _ (List.mem_append_right _ h)) tyX2 tyX2_ok nmX2 0 rfl rfl 0 (by decide) rfl (List.mem_of_getElem? (i := 5) rfl) rfl rfl rfl (Nat.le_of_ble_eq_true rfl) dX2_init_8 ?_
  dsimp only [List.set, List.cons_append, List.nil_append]
  refine v_aload_n X dX2_init_11 rfl ?_
  refine v_iconst X dX2_init_12 ?_
  refine v_newa X (List.mem_of_getElem? (i := 4) rfl) ⟨by decide, by decide⟩ (Nat.le_of_ble_eq_true rfl) (Nat.le_of_ble_eq_true rfl) dX2_init_13 (fun q2 => ?_)
  refine v_cs (c2 := 2) (s2 := 8) rfl rfl ?_
  dsimp only [List.set, List.cons_append, List.nil_append]
  refine v_putF X hini (fun _ h => List.mem_cons_of_mem _ (List.mem_append_right _ h)) tyX2 tyX2_ok nmX2 0 rfl rfl 1 (by decide) rfl (List.mem_of_getElem? (i := 6) rfl) rfl rfl rfl (Nat.le_of_ble_eq_true rfl) dX2_init_15 ?_
  dsimp only [List.set, List.cons_append, List.nil_append]
  refine v_aload_n X dX2_init_18 rfl ?_
  refine v_iconst X dX2_init_19 ?_
  refine v_newa X (List.mem_of_getElem? (i := 4) rfl) ⟨by decide, by decide⟩ (Nat.le_of_ble_eq_true rfl) (Nat.le_of_ble_eq_true rfl) dX2_init_20 (fun q3 => ?_)
  refine v_cs (c2 := 3) (s2 := 12) rfl rfl ?_
  dsimp only [List.set, List.cons_append, List.nil_append]
  refine v_putF X hini (fun _ h => List.mem_cons_of_mem _ (List.mem_append_right _ h)) tyX2 tyX2_ok nmX2 0 rfl rfl 2 (by decide) rfl (List.mem_of_getElem? (i := 7) rfl) rfl rfl rfl (Nat.le_of_ble_eq_true rfl) dX2_init_22 ?_
  dsimp only [List.set, List.cons_append, List.nil_append]
  refine v_vret X Y dX2_init_25 (u := (q1, q2, q3)) ?_ (by rfl)
  trivial

theorem hdX3_init : yX3_init.cls = RX3 ∧ yX3_init.cls ≠ "java/lang/invoke/MethodHandle" ∧ yX3_init.cls ≠ "java/lang/invoke/VarHandle" ∧ (parseMethodDescriptor yX3_init.desc).map (fun d => d.parameters.length) = some 0 := ⟨rfl, by decide +kernel, by decide +kernel, by decide +kernel⟩
set_option maxHeartbeats 4000000 in
set_option maxRecDepth 100000 in
theorem c_X3_init {g : Gx} {a : Nat}  : CtN (S := Unit) g yX3_init wsX3_init 1 0 0 24 [.ref a] ([(a, .inr (3, [.int (iI 0), .int (iI 0), .int (iI 0), .int (iI 0)]))]) (fun _ => True) (fun _ => wDou g a 0 0 0 0) := by
  refine m_go (cc := cX3_init) (nL := 1) (by decide +kernel) rfl (Nat.le_of_ble_eq_true rfl) (fun x X Y hnm => ?_)
  refine v_eq (lo2 := [some (.ref a)]) rfl rfl rfl rfl ?_
  have hini : x.2.2.1.name = "<init>" := hnm
  refine v_aload_n X dX3_init_0 rfl ?_
  refine v_obj X (List.mem_of_getElem? (i := 1) rfl) (List.mem_of_getElem? (i := 2) rfl) (List.mem_of_getElem? (i := 3) rfl) ⟨(Nat.le_of_ble_eq_true rfl), (Nat.le_of_ble_eq_true rfl)⟩ dX3_init_1 ?_
  refine v_vret X Y dX3_init_4 (u := ()) ?_ (by rfl)
  trivial

theorem hdX4_init : yX4_init.cls = RX4 ∧ yX4_init.cls ≠ "java/lang/invoke/MethodHandle" ∧ yX4_init.cls ≠ "java/lang/invoke/VarHandle" ∧ (parseMethodDescriptor yX4_init.desc).map (fun d => d.parameters.length) = some 0 := ⟨rfl, by decide +kernel, by decide +kernel, by decide +kernel⟩
set_option maxHeartbeats 4000000 in
set_option maxRecDepth 100000 in
theorem c_X4_init {g : Gx} {a : Nat}  : CtN (S := Nat × Nat) g yX4_init wsX4_init 1 2 8 24 [.ref a] ([(a, .inr (4, [.null, .null, .int (iI 0), .int (iI 0)]))]) (fun _ => True) (fun u => wRea g a u.1 u.2 (fun _ => 0) (fun _ => 0) 0 0) := by
  refine m_go (cc := cX4_init) (nL := 1) (by decide +kernel) rfl (Nat.le_of_ble_eq_true rfl) (fun x X Y hnm => ?_)
  refine v_eq (lo2 := [some (.ref a)]) rfl rfl rfl rfl ?_
  have hini : x.2.2.1.name = "<init>" := hnm
  refine v_aload_n X dX4_init_0 rfl ?_
  refine v_obj X (List.mem_of_getElem? (i := 1) rfl) (List.mem_of_getElem? (i := 2) rfl) (List.mem_of_getElem? (i := 3) rfl) ⟨(Nat.le_of_ble_eq_true rfl), (Nat.le_of_ble_eq_true rfl)⟩ dX4_init_1 ?_
  refine v_aload_n X dX4_init_4 rfl ?_
  refine v_iconst X dX4_init_5 ?_
  refine v_newa X (List.mem_of_getElem? (i := 4) rfl) ⟨by decide, by decide⟩ (Nat.le_of_ble_eq_true rfl) (Nat.le_of_ble_eq_true rfl) dX4_init_6 (fun q1 => ?_)
  refine v_cs (c2 := 1) (s2 := 4) rfl rfl ?_
  dsimp only [List.set, List.cons_append, List.nil_append]
  refine v_putF X hini (fun _ h => List.mem_cons_of_mem _ (List.mem_append_right _ h)) tyX4 tyX4_ok nmX4 0 rfl rfl 0 (by decide) rfl (List.mem_of_getElem? (i := 5) rfl) rfl rfl rfl (Nat.le_of_ble_eq_true rfl) dX4_init_8 ?_
  dsimp only [List.set, List.cons_append, List.nil_append]
  refine v_aload_n X dX4_init_11 rfl ?_
  refine v_iconst X dX4_init_12 ?_
  refine v_newa X (List.mem_of_getElem? (i := 4) rfl) ⟨by decide, by decide⟩ (Nat.le_of_ble_eq_true rfl) (Nat.le_of_ble_eq_true rfl) dX4_init_13 (fun q2 => ?_)
  refine v_cs (c2 := 2) (s2 := 8) rfl rfl ?_
  dsimp only [List.set, List.cons_append, List.nil_append]
  refine v_putF X hini (fun _ h => List.mem_cons_of_mem _ (List.mem_append_right _ h)) tyX4 tyX4_ok nmX4 0 rfl rfl 1 (by decide) rfl (List.mem_of_getElem? (i := 6) rfl) rfl rfl rfl (Nat.le_of_ble_eq_true rfl) dX4_init_15 ?_
  dsimp only [List.set, List.cons_append, List.nil_append]
  refine v_vret X Y dX4_init_18 (u := (q1, q2)) ?_ (by rfl)
  trivial

theorem hdX6_init : yX6_init.cls = RX6 ∧ yX6_init.cls ≠ "java/lang/invoke/MethodHandle" ∧ yX6_init.cls ≠ "java/lang/invoke/VarHandle" ∧ (parseMethodDescriptor yX6_init.desc).map (fun d => d.parameters.length) = some 0 := ⟨rfl, by decide +kernel, by decide +kernel, by decide +kernel⟩
set_option maxHeartbeats 4000000 in
set_option maxRecDepth 100000 in
theorem c_X6_init {g : Gx} {a : Nat}  : CtN (S := Nat) g yX6_init wsX6_init 1 1 200 24 [.ref a] ([(a, .inr (6, [.null, .int (iI 0), .int (iI 0), .int (iI 0), .int (iI 0), .int (iI 0)]))]) (fun _ => True) (fun u => wTap g a u (fun _ => 0) 0 0 0 0 0) := by
  refine m_go (cc := cX6_init) (nL := 1) (by decide +kernel) rfl (Nat.le_of_ble_eq_true rfl) (fun x X Y hnm => ?_)
  refine v_eq (lo2 := [some (.ref a)]) rfl rfl rfl rfl ?_
  have hini : x.2.2.1.name = "<init>" := hnm
  refine v_aload_n X dX6_init_0 rfl ?_
  refine v_obj X (List.mem_of_getElem? (i := 1) rfl) (List.mem_of_getElem? (i := 2) rfl) (List.mem_of_getElem? (i := 3) rfl) ⟨(Nat.le_of_ble_eq_true rfl), (Nat.le_of_ble_eq_true rfl)⟩ dX6_init_1 ?_
  refine v_aload_n X dX6_init_4 rfl ?_
  refine v_sipush X dX6_init_5 (by decide) ?_
  refine v_newa X (List.mem_of_getElem? (i := 4) rfl) ⟨by decide, by decide⟩ (Nat.le_of_ble_eq_true rfl) (Nat.le_of_ble_eq_true rfl) dX6_init_8 (fun q1 => ?_)
  refine v_cs (c2 := 1) (s2 := 200) rfl rfl ?_
  dsimp only [List.set, List.cons_append, List.nil_append]
  refine v_putF X hini (fun _ h => List.mem_cons_of_mem _ (List.mem_append_right _ h)) tyX6 tyX6_ok nmX6 0 rfl rfl 0 (by decide) rfl (List.mem_of_getElem? (i := 5) rfl) rfl rfl rfl (Nat.le_of_ble_eq_true rfl) dX6_init_10 ?_
  dsimp only [List.set, List.cons_append, List.nil_append]
  refine v_vret X Y dX6_init_13 (u := q1) ?_ (by rfl)
  trivial

theorem hdJ7_fill_53178 : yJ7_fill_53178.cls = RJ7 ∧ yJ7_fill_53178.cls ≠ "java/lang/invoke/MethodHandle" ∧ yJ7_fill_53178.cls ≠ "java/lang/invoke/VarHandle" ∧ (parseMethodDescriptor yJ7_fill_53178.desc).map (fun d => d.parameters.length) = some 2 := ⟨rfl, by decide +kernel, by decide +kernel, by decide +kernel⟩
set_option maxHeartbeats 4000000 in
set_option maxRecDepth 100000 in
theorem c_J7_fill_53178 {g : Gx} {a : Nat} {f : Nat → Int} {v : Int}  : CtW g yJ7_fill_53178 wsJ7_fill_53178 0 0 [.ref a, .int (iI v)] ([(a, aI g 8 f)]) ([(a, aI g 8 (filI f v))]) := by
  refine m_go (cc := cJ7_fill_53178) (nL := 4) (by decide +kernel) rfl (Nat.le_of_ble_eq_true rfl) (fun x X Y hnm => ?_)
  refine v_eq (lo2 := [some (.ref a), some (.int (iI v)), none, none]) rfl rfl rfl rfl ?_
  refine v_iconst X dJ7_fill_53178_0 ?_
  refine v_istore_n X dJ7_fill_53178_1 2 rfl (by decide) rfl ?_
  dsimp only [List.set]
  refine v_aload_n X dJ7_fill_53178_2 rfl ?_
  refine v_alen X 0 rfl dJ7_fill_53178_3 ?_
  refine v_istore_n X dJ7_fill_53178_4 3 rfl (by decide) rfl ?_
  dsimp only [List.set]
  have L5 : ∀ (nf : Nat) (h : Nat → Int) (i : Int) (h1 : 0 ≤ i ∧ i ≤ 8) (h2 : ∀ j : Nat, h j = if (j : Int) < i then v else f j) (_ : (8 - i).toNat < nf), V g x 0 0 ([(a, aI g 8 h)]) [some (.ref a), some (.int (iI v)), some (.int (iI i)), some (.int (iI 8))] 5 [] := by
    intro nf
    induction nf with
    | zero => intro h i h1 h2 hmu; exact absurd hmu (Nat.not_lt_zero _)
    | succ nf ih5 =>
      intro h i h1 h2 hmu
      refine v_iload_n X dJ7_fill_53178_5 rfl ?_
      refine v_iload_n X dJ7_fill_53178_6 rfl ?_
      refine v_icmp_ge (tgt := 20) X dJ7_fill_53178_7 (by decide) (by omega) (by omega) (fun c1 => ?_) (fun c1 => ?_)
      · skip
        exact v_vret X Y dJ7_fill_53178_20 (u := ()) trivial (by
            have e : i = 8 := by omega
            subst e
            rw [show h = filI f v from funext (fun j => h2 j)])
      · skip
        refine v_aload_n X dJ7_fill_53178_10 rfl ?_
        refine v_iload_n X dJ7_fill_53178_11 rfl ?_
        refine v_iload_n X dJ7_fill_53178_12 rfl ?_
        refine v_iast X 0 rfl (by omega) (by omega) (by omega) dJ7_fill_53178_13 ?_
        dsimp only [List.set]
        refine v_iinc X dJ7_fill_53178_14 rfl (by decide) rfl ?_
        dsimp only [List.set]
        refine v_goto (tgt := 5) X dJ7_fill_53178_17 (by decide) ?_
        exact ih5 _ _ (by omega) (by
            intro j
            have q := h2 j
            rw [updI_e]
            by_cases e : j = i.toNat
            · rw [if_pos e, if_pos (by omega)]
            · rw [if_neg e, q]
              by_cases e2 : (j : Int) < i
              · rw [if_pos e2, if_pos (by omega)]
              · rw [if_neg e2, if_neg (by omega)]) (by omega)
  exact L5 _ _ _ (by omega) (by intro j; rw [if_neg (by omega)]) (Nat.lt_succ_self _)

theorem hdX5_init : yX5_init.cls = RX5 ∧ yX5_init.cls ≠ "java/lang/invoke/MethodHandle" ∧ yX5_init.cls ≠ "java/lang/invoke/VarHandle" ∧ (parseMethodDescriptor yX5_init.desc).map (fun d => d.parameters.length) = some 0 := ⟨rfl, by decide +kernel, by decide +kernel, by decide +kernel⟩
set_option maxHeartbeats 4000000 in
set_option maxRecDepth 100000 in
theorem c_X5_init {g : Gx} {a : Nat}  : CtN (S := Nat × Nat × Nat) g yX5_init wsX5_init 1 3 336 24 [.ref a] ([(a, .inr (5, [.null, .null, .null]))]) (fun _ => True) (fun u => wRow g a u.1 u.2.1 u.2.2 (fun _ => 0) (filI (fun _ => 0) (-1)) (fun _ => 0)) := by
  refine m_go (cc := cX5_init) (nL := 1) (by decide +kernel) rfl (Nat.le_of_ble_eq_true rfl) (fun x X Y hnm => ?_)
  refine v_eq (lo2 := [some (.ref a)]) rfl rfl rfl rfl ?_
  have hini : x.2.2.1.name = "<init>" := hnm
  refine v_aload_n X dX5_init_0 rfl ?_
  refine v_obj X (List.mem_of_getElem? (i := 1) rfl) (List.mem_of_getElem? (i := 2) rfl) (List.mem_of_getElem? (i := 3) rfl) ⟨(Nat.le_of_ble_eq_true rfl), (Nat.le_of_ble_eq_true rfl)⟩ dX5_init_1 ?_
  refine v_aload_n X dX5_init_4 rfl ?_
  refine v_sipush X dX5_init_5 (by decide) ?_
  refine v_newa X (List.mem_of_getElem? (i := 4) rfl) ⟨by decide, by decide⟩ (Nat.le_of_ble_eq_true rfl) (Nat.le_of_ble_eq_true rfl) dX5_init_8 (fun q1 => ?_)
  refine v_cs (c2 := 1) (s2 := 320) rfl rfl ?_
  dsimp only [List.set, List.cons_append, List.nil_append]
  refine v_putF X hini (fun _ h => List.mem_cons_of_mem _ (List.mem_append_right _ h)) tyX5 tyX5_ok nmX5 0 rfl rfl 0 (by decide) rfl (List.mem_of_getElem? (i := 5) rfl) rfl rfl rfl (Nat.le_of_ble_eq_true rfl) dX5_init_10 ?_
  dsimp only [List.set, List.cons_append, List.nil_append]
  refine v_aload_n X dX5_init_13 rfl ?_
  refine v_bipush X dX5_init_14 (by decide) ?_
  refine v_newa X (List.mem_of_getElem? (i := 4) rfl) ⟨by decide, by decide⟩ (Nat.le_of_ble_eq_true rfl) (Nat.le_of_ble_eq_true rfl) dX5_init_16 (fun q2 => ?_)
  refine v_cs (c2 := 2) (s2 := 328) rfl rfl ?_
  dsimp only [List.set, List.cons_append, List.nil_append]
  refine v_putF X hini (fun _ h => List.mem_cons_of_mem _ (List.mem_append_right _ h)) tyX5 tyX5_ok nmX5 0 rfl rfl 1 (by decide) rfl (List.mem_of_getElem? (i := 6) rfl) rfl rfl rfl (Nat.le_of_ble_eq_true rfl) dX5_init_18 ?_
  dsimp only [List.set, List.cons_append, List.nil_append]
  refine v_aload_n X dX5_init_21 rfl ?_
  refine v_bipush X dX5_init_22 (by decide) ?_
  refine v_newa X (List.mem_of_getElem? (i := 4) rfl) ⟨by decide, by decide⟩ (Nat.le_of_ble_eq_true rfl) (Nat.le_of_ble_eq_true rfl) dX5_init_24 (fun q3 => ?_)
  refine v_cs (c2 := 3) (s2 := 336) rfl rfl ?_
  dsimp only [List.set, List.cons_append, List.nil_append]
  refine v_putF X hini (fun _ h => List.mem_cons_of_mem _ (List.mem_append_right _ h)) tyX5 tyX5_ok nmX5 0 rfl rfl 2 (by decide) rfl (List.mem_of_getElem? (i := 7) rfl) rfl rfl rfl (Nat.le_of_ble_eq_true rfl) dX5_init_26 ?_
  dsimp only [List.set, List.cons_append, List.nil_append]
  refine v_aload_n X dX5_init_29 rfl ?_
  refine v_get X (fun _ h => List.mem_cons_of_mem _ (List.mem_append_right _ h)) 0 rfl rfl 1 (by decide) rfl (List.mem_of_getElem? (i := 6) rfl) rfl dX5_init_30 ?_
  refine v_iconst X dX5_init_33 ?_
  refine res_W X (run_S X (c_J7_fill_53178 (g := g) ) gX5_init_J7_fill_53178 rfl hdJ7_fill_53178.2 ⟨(Nat.le_of_ble_eq_true rfl), (Nat.le_of_ble_eq_true rfl)⟩ ⟨(Nat.le_of_ble_eq_true rfl), (Nat.le_of_ble_eq_true rfl)⟩ [2] rfl rfl rfl rfl (by simp [Value.category]) dX5_init_34) [2] rfl rfl rfl ?_
  dsimp only [patch, List.set, List.cons_append, List.nil_append]
  refine v_vret X Y dX5_init_37 (u := (q1, q2, q3)) ?_ (by rfl)
  trivial

theorem hdX7_init : yX7_init.cls = RX7 ∧ yX7_init.cls ≠ "java/lang/invoke/MethodHandle" ∧ yX7_init.cls ≠ "java/lang/invoke/VarHandle" ∧ (parseMethodDescriptor yX7_init.desc).map (fun d => d.parameters.length) = some 0 := ⟨rfl, by decide +kernel, by decide +kernel, by decide +kernel⟩
set_option maxHeartbeats 4000000 in
set_option maxRecDepth 100000 in
theorem c_X7_init {g : Gx} {a : Nat}  : CtN (S := Nat → Nat) g yX7_init wsX7_init 2 31 698 44 [.ref a] ([(a, .inr (7, [.null, .null, .null, .null, .null, .null, .null, .null, .null, .null, .int (iI 0), .int (iI 0)]))]) (fun B => B 0 = a) (fun B => oAH g B (0) (0) :: (wRow g (B 1) (B 11) (B 12) (B 13) ((fun _ => 0)) (filI (fun _ => 0) (-1)) ((fun _ => 0)) ++ (wTap g (B 2) (B 14) ((fun _ => 0)) (0) (0) (0) (0) (0) ++ (wClk g (B 3) (B 15) (B 16) (B 17) (0) (0) ((fun _ => 0)) ((fun _ => 0)) ((fun _ => 0)) ++ (wClk g (B 4) (B 18) (B 19) (B 20) (0) (0) ((fun _ => 0)) ((fun _ => 0)) ((fun _ => 0)) ++ (wClk g (B 5) (B 21) (B 22) (B 23) (0) (0) ((fun _ => 0)) ((fun _ => 0)) ((fun _ => 0)) ++ (wClk g (B 6) (B 24) (B 25) (B 26) (0) (0) ((fun _ => 0)) ((fun _ => 0)) ((fun _ => 0)) ++ (wAct g (B 7) (B 27) (B 28) ((fun _ => 0)) ((fun _ => 0)) (0) ++ (wDou g (B 8) (0) (0) (0) (0) ++ (wRea g (B 9) (B 29) (B 30) ((fun _ => 0)) ((fun _ => 0)) (0) (0) ++ (wAsk g (B 10) (B 31) ((fun _ => 0)) (0)))))))))))) := by
  refine m_go (cc := cX7_init) (nL := 1) (by decide +kernel) rfl (Nat.le_of_ble_eq_true rfl) (fun x X Y hnm => ?_)
  refine v_eq (lo2 := [some (.ref a)]) rfl rfl rfl rfl ?_
  have hini : x.2.2.1.name = "<init>" := hnm
  refine v_aload_n X dX7_init_0 rfl ?_
  refine v_obj X (List.mem_of_getElem? (i := 1) rfl) (List.mem_of_getElem? (i := 2) rfl) (List.mem_of_getElem? (i := 3) rfl) ⟨(Nat.le_of_ble_eq_true rfl), (Nat.le_of_ble_eq_true rfl)⟩ dX7_init_1 ?_
  refine v_aload_n X dX7_init_4 rfl ?_
  refine v_new (ci := 5) (fs := [.null, .null, .null]) X (fun _ h => List.mem_cons_of_mem _ (List.mem_append_left _ (List.mem_append_left _ (List.mem_append_left _ (List.mem_append_left _ (List.mem_append_left _ (List.mem_append_left _ (List.mem_append_left _ (List.mem_append_right _ h))))))))) tyX5 tyX5_ok (List.mem_of_getElem? (i := 4) rfl) (List.mem_of_getElem? (i := 5) rfl) (List.mem_of_getElem? (i := 6) rfl) rfl (fun j hj => by rcases (show j = 0 ∨ j = 1 ∨ j = 2 by omega) with rfl | rfl | rfl <;> rfl) (Nat.le_of_ble_eq_true rfl) (Nat.le_of_ble_eq_true rfl) dX7_init_5 (fun q1 => ?_)
  refine v_cs (c2 := 1) (s2 := 3) rfl rfl ?_
  refine v_dup X dX7_init_8 rfl ?_
  refine res_N1 X (run_I X (c_X5_init (g := g)) gX7_init_X5_init rfl (List.mem_of_getElem? (i := 6) rfl) (List.mem_of_getElem? (i := 35) rfl) (List.mem_of_getElem? (i := 36) rfl) rfl hdX5_init.2 ⟨(Nat.le_of_ble_eq_true rfl), (Nat.le_of_ble_eq_true rfl)⟩ ⟨(Nat.le_of_ble_eq_true rfl), (Nat.le_of_ble_eq_true rfl)⟩ [1] (last_C _ _) rfl rfl rfl (by simp [Value.category]) dX7_init_9) (fun u2 hu2 => ?_)
  refine v_cs (c2 := 4) (s2 := 339) rfl rfl ?_
  dsimp only [List.set, wRow, wTap, wClk, wAct, wDou, wRea, wAsk, List.cons_append, List.nil_append]
  refine v_putF X hini (fun _ h => List.mem_cons_of_mem _ (List.mem_append_left _ (List.mem_append_left _ (List.mem_append_left _ (List.mem_append_left _ (List.mem_append_left _ (List.mem_append_left _ (List.mem_append_right _ h)))))))) tyX7 tyX7_ok nmX7 0 rfl rfl 0 (by decide) rfl (List.mem_of_getElem? (i := 7) rfl) rfl rfl rfl (Nat.le_of_ble_eq_true rfl) dX7_init_12 ?_
  dsimp only [List.set, wRow, wTap, wClk, wAct, wDou, wRea, wAsk, List.cons_append, List.nil_append]
  refine v_aload_n X dX7_init_15 rfl ?_
  refine v_new (ci := 6) (fs := [.null, .int (iI 0), .int (iI 0), .int (iI 0), .int (iI 0), .int (iI 0)]) X (fun _ h => List.mem_cons_of_mem _ (List.mem_append_left _ (List.mem_append_left _ (List.mem_append_left _ (List.mem_append_left _ (List.mem_append_left _ (List.mem_append_right _ h))))))) tyX6 tyX6_ok (List.mem_of_getElem? (i := 8) rfl) (List.mem_of_getElem? (i := 9) rfl) (List.mem_of_getElem? (i := 10) rfl) rfl (fun j hj => by rcases (show j = 0 ∨ j = 1 ∨ j = 2 ∨ j = 3 ∨ j = 4 ∨ j = 5 by omega) with rfl | rfl | rfl | rfl | rfl | rfl <;> rfl) (Nat.le_of_ble_eq_true rfl) (Nat.le_of_ble_eq_true rfl) dX7_init_16 (fun q3 => ?_)
  refine v_cs (c2 := 5) (s2 := 345) rfl rfl ?_
  refine v_dup X dX7_init_19 rfl ?_
  refine res_N1 X (run_IN X (c_X6_init (g := g)) gX7_init_X6_init_n18 rfl (List.mem_of_getElem? (i := 0) rfl) (List.mem_of_getElem? (i := 10) rfl) (List.mem_of_getElem? (i := 47) rfl) rfl hdX6_init.2 ⟨(Nat.le_of_ble_eq_true rfl), (Nat.le_of_ble_eq_true rfl)⟩ ⟨(Nat.le_of_ble_eq_true rfl), (Nat.le_of_ble_eq_true rfl)⟩ [5] (last_C _ _) rfl rfl rfl (by simp [Value.category]) dX7_init_20) (fun u4 hu4 => ?_)
  refine v_cs (c2 := 6) (s2 := 545) rfl rfl ?_
  dsimp only [List.set, wRow, wTap, wClk, wAct, wDou, wRea, wAsk, List.cons_append, List.nil_append]
  refine v_putF X hini (fun _ h => List.mem_cons_of_mem _ (List.mem_append_left _ (List.mem_append_left _ (List.mem_append_left _ (List.mem_append_left _ (List.mem_append_left _ (List.mem_append_left _ (List.mem_append_right _ h)))))))) tyX7 tyX7_ok nmX7 0 rfl rfl 1 (by decide) rfl (List.mem_of_getElem? (i := 11) rfl) rfl rfl rfl (Nat.le_of_ble_eq_true rfl) dX7_init_23 ?_
  dsimp only [List.set, wRow, wTap, wClk, wAct, wDou, wRea, wAsk, List.cons_append, List.nil_append]
  refine v_aload_n X dX7_init_26 rfl ?_
  refine v_new (ci := 2) (fs := [.null, .null, .null, .int (iI 0), .int (iI 0)]) X (fun _ h => List.mem_cons_of_mem _ (List.mem_append_left _ (List.mem_append_left _ (List.mem_append_left _ (List.mem_append_left _ (List.mem_append_right _ h)))))) tyX2 tyX2_ok (List.mem_of_getElem? (i := 12) rfl) (List.mem_of_getElem? (i := 13) rfl) (List.mem_of_getElem? (i := 14) rfl) rfl (fun j hj => by rcases (show j = 0 ∨ j = 1 ∨ j = 2 ∨ j = 3 ∨ j = 4 by omega) with rfl | rfl | rfl | rfl | rfl <;> rfl) (Nat.le_of_ble_eq_true rfl) (Nat.le_of_ble_eq_true rfl) dX7_init_27 (fun q5 => ?_)
  refine v_cs (c2 := 7) (s2 := 550) rfl rfl ?_
  refine v_dup X dX7_init_30 rfl ?_
  refine res_N1 X (run_IN X (c_X2_init (g := g)) gX7_init_X2_init_n25 rfl (List.mem_of_getElem? (i := 1) rfl) (List.mem_of_getElem? (i := 14) rfl) (List.mem_of_getElem? (i := 51) rfl) rfl hdX2_init.2 ⟨(Nat.le_of_ble_eq_true rfl), (Nat.le_of_ble_eq_true rfl)⟩ ⟨(Nat.le_of_ble_eq_true rfl), (Nat.le_of_ble_eq_true rfl)⟩ [7] (last_C _ _) rfl rfl rfl (by simp [Value.category]) dX7_init_31) (fun u6 hu6 => ?_)
  refine v_cs (c2 := 10) (s2 := 562) rfl rfl ?_
  dsimp only [List.set, wRow, wTap, wClk, wAct, wDou, wRea, wAsk, List.cons_append, List.nil_append]
  refine v_putF X hini (fun _ h => List.mem_cons_of_mem _ (List.mem_append_left _ (List.mem_append_left _ (List.mem_append_left _ (List.mem_append_left _ (List.mem_append_left _ (List.mem_append_left _ (List.mem_append_right _ h)))))))) tyX7 tyX7_ok nmX7 0 rfl rfl 2 (by decide) rfl (List.mem_of_getElem? (i := 15) rfl) rfl rfl rfl (Nat.le_of_ble_eq_true rfl) dX7_init_34 ?_
  dsimp only [List.set, wRow, wTap, wClk, wAct, wDou, wRea, wAsk, List.cons_append, List.nil_append]
  refine v_aload_n X dX7_init_37 rfl ?_
  refine v_new (ci := 2) (fs := [.null, .null, .null, .int (iI 0), .int (iI 0)]) X (fun _ h => List.mem_cons_of_mem _ (List.mem_append_left _ (List.mem_append_left _ (List.mem_append_left _ (List.mem_append_left _ (List.mem_append_right _ h)))))) tyX2 tyX2_ok (List.mem_of_getElem? (i := 12) rfl) (List.mem_of_getElem? (i := 13) rfl) (List.mem_of_getElem? (i := 14) rfl) rfl (fun j hj => by rcases (show j = 0 ∨ j = 1 ∨ j = 2 ∨ j = 3 ∨ j = 4 by omega) with rfl | rfl | rfl | rfl | rfl <;> rfl) (Nat.le_of_ble_eq_true rfl) (Nat.le_of_ble_eq_true rfl) dX7_init_38 (fun q7 => ?_)
  refine v_cs (c2 := 11) (s2 := 567) rfl rfl ?_
  refine v_dup X dX7_init_41 rfl ?_
  refine res_N1 X (run_IN X (c_X2_init (g := g)) gX7_init_X2_init_n25 rfl (List.mem_of_getElem? (i := 1) rfl) (List.mem_of_getElem? (i := 14) rfl) (List.mem_of_getElem? (i := 51) rfl) rfl hdX2_init.2 ⟨(Nat.le_of_ble_eq_true rfl), (Nat.le_of_ble_eq_true rfl)⟩ ⟨(Nat.le_of_ble_eq_true rfl), (Nat.le_of_ble_eq_true rfl)⟩ [11] (last_C _ _) rfl rfl rfl (by simp [Value.category]) dX7_init_42) (fun u8 hu8 => ?_)
  refine v_cs (c2 := 14) (s2 := 579) rfl rfl ?_
  dsimp only [List.set, wRow, wTap, wClk, wAct, wDou, wRea, wAsk, List.cons_append, List.nil_append]
  refine v_putF X hini (fun _ h => List.mem_cons_of_mem _ (List.mem_append_left _ (List.mem_append_left _ (List.mem_append_left _ (List.mem_append_left _ (List.mem_append_left _ (List.mem_append_left _ (List.mem_append_right _ h)))))))) tyX7 tyX7_ok nmX7 0 rfl rfl 3 (by decide) rfl (List.mem_of_getElem? (i := 16) rfl) rfl rfl rfl (Nat.le_of_ble_eq_true rfl) dX7_init_45 ?_
  dsimp only [List.set, wRow, wTap, wClk, wAct, wDou, wRea, wAsk, List.cons_append, List.nil_append]
  refine v_aload_n X dX7_init_48 rfl ?_
  refine v_new (ci := 2) (fs := [.null, .null, .null, .int (iI 0), .int (iI 0)]) X (fun _ h => List.mem_cons_of_mem _ (List.mem_append_left _ (List.mem_append_left _ (List.mem_append_left _ (List.mem_append_left _ (List.mem_append_right _ h)))))) tyX2 tyX2_ok (List.mem_of_getElem? (i := 12) rfl) (List.mem_of_getElem? (i := 13) rfl) (List.mem_of_getElem? (i := 14) rfl) rfl (fun j hj => by rcases (show j = 0 ∨ j = 1 ∨ j = 2 ∨ j = 3 ∨ j = 4 by omega) with rfl | rfl | rfl | rfl | rfl <;> rfl) (Nat.le_of_ble_eq_true rfl) (Nat.le_of_ble_eq_true rfl) dX7_init_49 (fun q9 => ?_)
  refine v_cs (c2 := 15) (s2 := 584) rfl rfl ?_
  refine v_dup X dX7_init_52 rfl ?_
  refine res_N1 X (run_IN X (c_X2_init (g := g)) gX7_init_X2_init_n25 rfl (List.mem_of_getElem? (i := 1) rfl) (List.mem_of_getElem? (i := 14) rfl) (List.mem_of_getElem? (i := 51) rfl) rfl hdX2_init.2 ⟨(Nat.le_of_ble_eq_true rfl), (Nat.le_of_ble_eq_true rfl)⟩ ⟨(Nat.le_of_ble_eq_true rfl), (Nat.le_of_ble_eq_true rfl)⟩ [15] (last_C _ _) rfl rfl rfl (by simp [Value.category]) dX7_init_53) (fun u10 hu10 => ?_)
  refine v_cs (c2 := 18) (s2 := 596) rfl rfl ?_
  dsimp only [List.set, wRow, wTap, wClk, wAct, wDou, wRea, wAsk, List.cons_append, List.nil_append]
  refine v_putF X hini (fun _ h => List.mem_cons_of_mem _ (List.mem_append_left _ (List.mem_append_left _ (List.mem_append_left _ (List.mem_append_left _ (List.mem_append_left _ (List.mem_append_left _ (List.mem_append_right _ h)))))))) tyX7 tyX7_ok nmX7 0 rfl rfl 4 (by decide) rfl (List.mem_of_getElem? (i := 17) rfl) rfl rfl rfl (Nat.le_of_ble_eq_true rfl) dX7_init_56 ?_
  dsimp only [List.set, wRow, wTap, wClk, wAct, wDou, wRea, wAsk, List.cons_append, List.nil_append]
  refine v_aload_n X dX7_init_59 rfl ?_
  refine v_new (ci := 2) (fs := [.null, .null, .null, .int (iI 0), .int (iI 0)]) X (fun _ h => List.mem_cons_of_mem _ (List.mem_append_left _ (List.mem_append_left _ (List.mem_append_left _ (List.mem_append_left _ (List.mem_append_right _ h)))))) tyX2 tyX2_ok (List.mem_of_getElem? (i := 12) rfl) (List.mem_of_getElem? (i := 13) rfl) (List.mem_of_getElem? (i := 14) rfl) rfl (fun j hj => by rcases (show j = 0 ∨ j = 1 ∨ j = 2 ∨ j = 3 ∨ j = 4 by omega) with rfl | rfl | rfl | rfl | rfl <;> rfl) (Nat.le_of_ble_eq_true rfl) (Nat.le_of_ble_eq_true rfl) dX7_init_60 (fun q11 => ?_)
  refine v_cs (c2 := 19) (s2 := 601) rfl rfl ?_
  refine v_dup X dX7_init_63 rfl ?_
  refine res_N1 X (run_IN X (c_X2_init (g := g)) gX7_init_X2_init_n25 rfl (List.mem_of_getElem? (i := 1) rfl) (List.mem_of_getElem? (i := 14) rfl) (List.mem_of_getElem? (i := 51) rfl) rfl hdX2_init.2 ⟨(Nat.le_of_ble_eq_true rfl), (Nat.le_of_ble_eq_true rfl)⟩ ⟨(Nat.le_of_ble_eq_true rfl), (Nat.le_of_ble_eq_true rfl)⟩ [19] (last_C _ _) rfl rfl rfl (by simp [Value.category]) dX7_init_64) (fun u12 hu12 => ?_)
  refine v_cs (c2 := 22) (s2 := 613) rfl rfl ?_
  dsimp only [List.set, wRow, wTap, wClk, wAct, wDou, wRea, wAsk, List.cons_append, List.nil_append]
  refine v_putF X hini (fun _ h => List.mem_cons_of_mem _ (List.mem_append_left _ (List.mem_append_left _ (List.mem_append_left _ (List.mem_append_left _ (List.mem_append_left _ (List.mem_append_left _ (List.mem_append_right _ h)))))))) tyX7 tyX7_ok nmX7 0 rfl rfl 5 (by decide) rfl (List.mem_of_getElem? (i := 18) rfl) rfl rfl rfl (Nat.le_of_ble_eq_true rfl) dX7_init_67 ?_
  dsimp only [List.set, wRow, wTap, wClk, wAct, wDou, wRea, wAsk, List.cons_append, List.nil_append]
  refine v_aload_n X dX7_init_70 rfl ?_
  refine v_new (ci := 0) (fs := [.null, .null, .int (iI 0)]) X (fun _ h => List.mem_cons_of_mem _ (List.mem_append_left _ (List.mem_append_left _ (List.mem_append_left _ (List.mem_append_right _ h))))) tyX0 tyX0_ok (List.mem_of_getElem? (i := 19) rfl) (List.mem_of_getElem? (i := 20) rfl) (List.mem_of_getElem? (i := 21) rfl) rfl (fun j hj => by rcases (show j = 0 ∨ j = 1 ∨ j = 2 by omega) with rfl | rfl | rfl <;> rfl) (Nat.le_of_ble_eq_true rfl) (Nat.le_of_ble_eq_true rfl) dX7_init_71 (fun q13 => ?_)
  refine v_cs (c2 := 23) (s2 := 616) rfl rfl ?_
  refine v_dup X dX7_init_74 rfl ?_
  refine res_N1 X (run_IN X (c_X0_init (g := g)) gX7_init_X0_init_n41 rfl (List.mem_of_getElem? (i := 2) rfl) (List.mem_of_getElem? (i := 21) rfl) (List.mem_of_getElem? (i := 57) rfl) rfl hdX0_init.2 ⟨(Nat.le_of_ble_eq_true rfl), (Nat.le_of_ble_eq_true rfl)⟩ ⟨(Nat.le_of_ble_eq_true rfl), (Nat.le_of_ble_eq_true rfl)⟩ [23] (last_C _ _) rfl rfl rfl (by simp [Value.category]) dX7_init_75) (fun u14 hu14 => ?_)
  refine v_cs (c2 := 25) (s2 := 664) rfl rfl ?_
  dsimp only [List.set, wRow, wTap, wClk, wAct, wDou, wRea, wAsk, List.cons_append, List.nil_append]
  refine v_putF X hini (fun _ h => List.mem_cons_of_mem _ (List.mem_append_left _ (List.mem_append_left _ (List.mem_append_left _ (List.mem_append_left _ (List.mem_append_left _ (List.mem_append_left _ (List.mem_append_right _ h)))))))) tyX7 tyX7_ok nmX7 0 rfl rfl 6 (by decide) rfl (List.mem_of_getElem? (i := 22) rfl) rfl rfl rfl (Nat.le_of_ble_eq_true rfl) dX7_init_78 ?_
  dsimp only [List.set, wRow, wTap, wClk, wAct, wDou, wRea, wAsk, List.cons_append, List.nil_append]
  refine v_aload_n X dX7_init_81 rfl ?_
  refine v_new (ci := 3) (fs := [.int (iI 0), .int (iI 0), .int (iI 0), .int (iI 0)]) X (fun _ h => List.mem_cons_of_mem _ (List.mem_append_left _ (List.mem_append_left _ (List.mem_append_right _ h)))) tyX3 tyX3_ok (List.mem_of_getElem? (i := 23) rfl) (List.mem_of_getElem? (i := 24) rfl) (List.mem_of_getElem? (i := 25) rfl) rfl (fun j hj => by rcases (show j = 0 ∨ j = 1 ∨ j = 2 ∨ j = 3 by omega) with rfl | rfl | rfl | rfl <;> rfl) (Nat.le_of_ble_eq_true rfl) (Nat.le_of_ble_eq_true rfl) dX7_init_82 (fun q15 => ?_)
  refine v_cs (c2 := 26) (s2 := 668) rfl rfl ?_
  refine v_dup X dX7_init_85 rfl ?_
  refine res_N1 X (run_IN X (c_X3_init (g := g)) gX7_init_X3_init_n48 rfl (List.mem_of_getElem? (i := 3) rfl) (List.mem_of_getElem? (i := 25) rfl) (List.mem_of_getElem? (i := 62) rfl) rfl hdX3_init.2 ⟨(Nat.le_of_ble_eq_true rfl), (Nat.le_of_ble_eq_true rfl)⟩ ⟨(Nat.le_of_ble_eq_true rfl), (Nat.le_of_ble_eq_true rfl)⟩ [26] (last_C _ _) rfl rfl rfl (by simp [Value.category]) dX7_init_86) (fun u16 hu16 => ?_)
  refine v_cs (c2 := 26) (s2 := 668) rfl rfl ?_
  dsimp only [List.set, wRow, wTap, wClk, wAct, wDou, wRea, wAsk, List.cons_append, List.nil_append]
  refine v_putF X hini (fun _ h => List.mem_cons_of_mem _ (List.mem_append_left _ (List.mem_append_left _ (List.mem_append_left _ (List.mem_append_left _ (List.mem_append_left _ (List.mem_append_left _ (List.mem_append_right _ h)))))))) tyX7 tyX7_ok nmX7 0 rfl rfl 7 (by decide) rfl (List.mem_of_getElem? (i := 26) rfl) rfl rfl rfl (Nat.le_of_ble_eq_true rfl) dX7_init_89 ?_
  dsimp only [List.set, wRow, wTap, wClk, wAct, wDou, wRea, wAsk, List.cons_append, List.nil_append]
  refine v_aload_n X dX7_init_92 rfl ?_
  refine v_new (ci := 4) (fs := [.null, .null, .int (iI 0), .int (iI 0)]) X (fun _ h => List.mem_cons_of_mem _ (List.mem_append_left _ (List.mem_append_right _ h))) tyX4 tyX4_ok (List.mem_of_getElem? (i := 27) rfl) (List.mem_of_getElem? (i := 28) rfl) (List.mem_of_getElem? (i := 29) rfl) rfl (fun j hj => by rcases (show j = 0 ∨ j = 1 ∨ j = 2 ∨ j = 3 by omega) with rfl | rfl | rfl | rfl <;> rfl) (Nat.le_of_ble_eq_true rfl) (Nat.le_of_ble_eq_true rfl) dX7_init_93 (fun q17 => ?_)
  refine v_cs (c2 := 27) (s2 := 672) rfl rfl ?_
  refine v_dup X dX7_init_96 rfl ?_
  refine res_N1 X (run_IN X (c_X4_init (g := g)) gX7_init_X4_init_n55 rfl (List.mem_of_getElem? (i := 4) rfl) (List.mem_of_getElem? (i := 29) rfl) (List.mem_of_getElem? (i := 65) rfl) rfl hdX4_init.2 ⟨(Nat.le_of_ble_eq_true rfl), (Nat.le_of_ble_eq_true rfl)⟩ ⟨(Nat.le_of_ble_eq_true rfl), (Nat.le_of_ble_eq_true rfl)⟩ [27] (last_C _ _) rfl rfl rfl (by simp [Value.category]) dX7_init_97) (fun u18 hu18 => ?_)
  refine v_cs (c2 := 29) (s2 := 680) rfl rfl ?_
  dsimp only [List.set, wRow, wTap, wClk, wAct, wDou, wRea, wAsk, List.cons_append, List.nil_append]
  refine v_putF X hini (fun _ h => List.mem_cons_of_mem _ (List.mem_append_left _ (List.mem_append_left _ (List.mem_append_left _ (List.mem_append_left _ (List.mem_append_left _ (List.mem_append_left _ (List.mem_append_right _ h)))))))) tyX7 tyX7_ok nmX7 0 rfl rfl 8 (by decide) rfl (List.mem_of_getElem? (i := 30) rfl) rfl rfl rfl (Nat.le_of_ble_eq_true rfl) dX7_init_100 ?_
  dsimp only [List.set, wRow, wTap, wClk, wAct, wDou, wRea, wAsk, List.cons_append, List.nil_append]
  refine v_aload_n X dX7_init_103 rfl ?_
  refine v_new (ci := 1) (fs := [.null, .int (iI 0)]) X (fun _ h => List.mem_cons_of_mem _ (List.mem_append_right _ h)) tyX1 tyX1_ok (List.mem_of_getElem? (i := 31) rfl) (List.mem_of_getElem? (i := 32) rfl) (List.mem_of_getElem? (i := 33) rfl) rfl (fun j hj => by rcases (show j = 0 ∨ j = 1 by omega) with rfl | rfl <;> rfl) (Nat.le_of_ble_eq_true rfl) (Nat.le_of_ble_eq_true rfl) dX7_init_104 (fun q19 => ?_)
  refine v_cs (c2 := 30) (s2 := 682) rfl rfl ?_
  refine v_dup X dX7_init_107 rfl ?_
  refine res_N1 X (run_IN X (c_X1_init (g := g)) gX7_init_X1_init_n62 rfl (List.mem_of_getElem? (i := 5) rfl) (List.mem_of_getElem? (i := 33) rfl) (List.mem_of_getElem? (i := 70) rfl) rfl hdX1_init.2 ⟨(Nat.le_of_ble_eq_true rfl), (Nat.le_of_ble_eq_true rfl)⟩ ⟨(Nat.le_of_ble_eq_true rfl), (Nat.le_of_ble_eq_true rfl)⟩ [30] (last_C _ _) rfl rfl rfl (by simp [Value.category]) dX7_init_108) (fun u20 hu20 => ?_)
  refine v_cs (c2 := 31) (s2 := 698) rfl rfl ?_
  dsimp only [List.set, wRow, wTap, wClk, wAct, wDou, wRea, wAsk, List.cons_append, List.nil_append]
  refine v_putF X hini (fun _ h => List.mem_cons_of_mem _ (List.mem_append_left _ (List.mem_append_left _ (List.mem_append_left _ (List.mem_append_left _ (List.mem_append_left _ (List.mem_append_left _ (List.mem_append_right _ h)))))))) tyX7 tyX7_ok nmX7 0 rfl rfl 9 (by decide) rfl (List.mem_of_getElem? (i := 34) rfl) rfl rfl rfl (Nat.le_of_ble_eq_true rfl) dX7_init_111 ?_
  dsimp only [List.set, wRow, wTap, wClk, wAct, wDou, wRea, wAsk, List.cons_append, List.nil_append]
  refine v_vret X Y dX7_init_114 (u := (ofL [a, q1, q3, q5, q7, q9, q11, q13, q15, q17, q19, u2.1, u2.2.1, u2.2.2, u4, u6.1, u6.2.1, u6.2.2, u8.1, u8.2.1, u8.2.2, u10.1, u10.2.1, u10.2.2, u12.1, u12.2.1, u12.2.2, u14.1, u14.2, u18.1, u18.2, u20])) ?_ (by rfl)
  rfl

theorem hdX8_init : yX8_init.cls = RX8 ∧ yX8_init.cls ≠ "java/lang/invoke/MethodHandle" ∧ yX8_init.cls ≠ "java/lang/invoke/VarHandle" ∧ (parseMethodDescriptor yX8_init.desc).map (fun d => d.parameters.length) = some 0 := ⟨rfl, by decide +kernel, by decide +kernel, by decide +kernel⟩
set_option maxHeartbeats 4000000 in
set_option maxRecDepth 100000 in
theorem c_X8_init {g : Gx} {a : Nat}  : CtN (S := Nat → Nat) g yX8_init wsX8_init 1 10 946 24 [.ref a] ([(a, .inr (8, [.int (iI 0), .int (iI 0), .null, .null, .null, .null, .null, .null, .int (iI 0), .null, .int (iI 0), .int (iI 0), .int (iI 0), .int (iI 0), .int (iI 0), .int (iI 0), .int (iI 0), .int (iI 0), .int (iI 0), .int (iI 0), .int (iI 0), .null, .null, .null, .int (iI 0)]))]) (fun A => A 0 = a) (fun A => wMod g A (0) (0) (0) (0) (0) (0) (0) (0) (0) (0) (0) (0) (0) (0) (0) ((updI (updI (updI (updI (updI (updI (updI (updI (fun _ => 0) (Int.toNat 0) (-1)) (Int.toNat 1) (-1)) (Int.toNat 2) (-1)) (Int.toNat 3) (-1)) (Int.toNat 4) (-1)) (Int.toNat 5) (-1)) (Int.toNat 6) (-1)) (Int.toNat 7) (-1))) ((fun _ => 0)) ((fun _ => 0)) ((fun _ => 0)) ((fun _ => 0)) ((fun _ => 0)) ((fun _ => 0)) ((fun _ => 0)) ((fun _ => 0)) ((fun _ => 0))) := by
  refine m_go (cc := cX8_init) (nL := 1) (by decide +kernel) rfl (Nat.le_of_ble_eq_true rfl) (fun x X Y hnm => ?_)
  refine v_eq (lo2 := [some (.ref a)]) rfl rfl rfl rfl ?_
  have hini : x.2.2.1.name = "<init>" := hnm
  refine v_aload_n X dX8_init_0 rfl ?_
  refine v_obj X (List.mem_of_getElem? (i := 1) rfl) (List.mem_of_getElem? (i := 2) rfl) (List.mem_of_getElem? (i := 3) rfl) ⟨(Nat.le_of_ble_eq_true rfl), (Nat.le_of_ble_eq_true rfl)⟩ dX8_init_1 ?_
  refine v_aload_n X dX8_init_4 rfl ?_
  refine v_bipush X dX8_init_5 (by decide) ?_
  refine v_newa X (List.mem_of_getElem? (i := 4) rfl) ⟨by decide, by decide⟩ (Nat.le_of_ble_eq_true rfl) (Nat.le_of_ble_eq_true rfl) dX8_init_7 (fun q1 => ?_)
  refine v_cs (c2 := 1) (s2 := 8) rfl rfl ?_
  dsimp only [List.set, wMod, List.cons_append, List.nil_append]
  refine v_dup X dX8_init_9 rfl ?_
  refine v_iconst X dX8_init_10 ?_
  refine v_iconst X dX8_init_11 ?_
  refine v_iast X 1 rfl (by omega) (by omega) (by omega) dX8_init_12 ?_
  dsimp only [List.set, wMod, List.cons_append, List.nil_append]
  refine v_dup X dX8_init_13 rfl ?_
  refine v_iconst X dX8_init_14 ?_
  refine v_iconst X dX8_init_15 ?_
  refine v_iast X 1 rfl (by omega) (by omega) (by omega) dX8_init_16 ?_
  dsimp only [List.set, wMod, List.cons_append, List.nil_append]
  refine v_dup X dX8_init_17 rfl ?_
  refine v_iconst X dX8_init_18 ?_
  refine v_iconst X dX8_init_19 ?_
  refine v_iast X 1 rfl (by omega) (by omega) (by omega) dX8_init_20 ?_
  dsimp only [List.set, wMod, List.cons_append, List.nil_append]
  refine v_dup X dX8_init_21 rfl ?_
  refine v_iconst X dX8_init_22 ?_
  refine v_iconst X dX8_init_23 ?_
  refine v_iast X 1 rfl (by omega) (by omega) (by omega) dX8_init_24 ?_
  dsimp only [List.set, wMod, List.cons_append, List.nil_append]
  refine v_dup X dX8_init_25 rfl ?_
  refine v_iconst X dX8_init_26 ?_
  refine v_iconst X dX8_init_27 ?_
  refine v_iast X 1 rfl (by omega) (by omega) (by omega) dX8_init_28 ?_
  dsimp only [List.set, wMod, List.cons_append, List.nil_append]
  refine v_dup X dX8_init_29 rfl ?_
  refine v_iconst X dX8_init_30 ?_
  refine v_iconst X dX8_init_31 ?_
  refine v_iast X 1 rfl (by omega) (by omega) (by omega) dX8_init_32 ?_
  dsimp only [List.set, wMod, List.cons_append, List.nil_append]
  refine v_dup X dX8_init_33 rfl ?_
  refine v_bipush X dX8_init_34 (by decide) ?_
  refine v_iconst X dX8_init_36 ?_
  refine v_iast X 1 rfl (by omega) (by omega) (by omega) dX8_init_37 ?_
  dsimp only [List.set, wMod, List.cons_append, List.nil_append]
  refine v_dup X dX8_init_38 rfl ?_
  refine v_bipush X dX8_init_39 (by decide) ?_
  refine v_iconst X dX8_init_41 ?_
  refine v_iast X 1 rfl (by omega) (by omega) (by omega) dX8_init_42 ?_
  dsimp only [List.set, wMod, List.cons_append, List.nil_append]
  refine v_putF X hini (fun _ h => List.mem_cons_of_mem _ (List.mem_append_right _ h)) tyX8 tyX8_ok nmX8 0 rfl rfl 2 (by decide) rfl (List.mem_of_getElem? (i := 5) rfl) rfl rfl rfl (Nat.le_of_ble_eq_true rfl) dX8_init_43 ?_
  dsimp only [List.set, wMod, List.cons_append, List.nil_append]
  refine v_aload_n X dX8_init_46 rfl ?_
  refine v_bipush X dX8_init_47 (by decide) ?_
  refine v_newa X (List.mem_of_getElem? (i := 4) rfl) ⟨by decide, by decide⟩ (Nat.le_of_ble_eq_true rfl) (Nat.le_of_ble_eq_true rfl) dX8_init_49 (fun q2 => ?_)
  refine v_cs (c2 := 2) (s2 := 16) rfl rfl ?_
  dsimp only [List.set, wMod, List.cons_append, List.nil_append]
  refine v_putF X hini (fun _ h => List.mem_cons_of_mem _ (List.mem_append_right _ h)) tyX8 tyX8_ok nmX8 0 rfl rfl 3 (by decide) rfl (List.mem_of_getElem? (i := 6) rfl) rfl rfl rfl (Nat.le_of_ble_eq_true rfl) dX8_init_51 ?_
  dsimp only [List.set, wMod, List.cons_append, List.nil_append]
  refine v_aload_n X dX8_init_54 rfl ?_
  refine v_sipush X dX8_init_55 (by decide) ?_
  refine v_newa X (List.mem_of_getElem? (i := 4) rfl) ⟨by decide, by decide⟩ (Nat.le_of_ble_eq_true rfl) (Nat.le_of_ble_eq_true rfl) dX8_init_58 (fun q3 => ?_)
  refine v_cs (c2 := 3) (s2 := 336) rfl rfl ?_
  dsimp only [List.set, wMod, List.cons_append, List.nil_append]
  refine v_putF X hini (fun _ h => List.mem_cons_of_mem _ (List.mem_append_right _ h)) tyX8 tyX8_ok nmX8 0 rfl rfl 4 (by decide) rfl (List.mem_of_getElem? (i := 7) rfl) rfl rfl rfl (Nat.le_of_ble_eq_true rfl) dX8_init_60 ?_
  dsimp only [List.set, wMod, List.cons_append, List.nil_append]
  refine v_aload_n X dX8_init_63 rfl ?_
  refine v_bipush X dX8_init_64 (by decide) ?_
  refine v_newa X (List.mem_of_getElem? (i := 4) rfl) ⟨by decide, by decide⟩ (Nat.le_of_ble_eq_true rfl) (Nat.le_of_ble_eq_true rfl) dX8_init_66 (fun q4 => ?_)
  refine v_cs (c2 := 4) (s2 := 350) rfl rfl ?_
  dsimp only [List.set, wMod, List.cons_append, List.nil_append]
  refine v_putF X hini (fun _ h => List.mem_cons_of_mem _ (List.mem_append_right _ h)) tyX8 tyX8_ok nmX8 0 rfl rfl 5 (by decide) rfl (List.mem_of_getElem? (i := 8) rfl) rfl rfl rfl (Nat.le_of_ble_eq_true rfl) dX8_init_68 ?_
  dsimp only [List.set, wMod, List.cons_append, List.nil_append]
  refine v_aload_n X dX8_init_71 rfl ?_
  refine v_bipush X dX8_init_72 (by decide) ?_
  refine v_newa X (List.mem_of_getElem? (i := 4) rfl) ⟨by decide, by decide⟩ (Nat.le_of_ble_eq_true rfl) (Nat.le_of_ble_eq_true rfl) dX8_init_74 (fun q5 => ?_)
  refine v_cs (c2 := 5) (s2 := 364) rfl rfl ?_
  dsimp only [List.set, wMod, List.cons_append, List.nil_append]
  refine v_putF X hini (fun _ h => List.mem_cons_of_mem _ (List.mem_append_right _ h)) tyX8 tyX8_ok nmX8 0 rfl rfl 6 (by decide) rfl (List.mem_of_getElem? (i := 9) rfl) rfl rfl rfl (Nat.le_of_ble_eq_true rfl) dX8_init_76 ?_
  dsimp only [List.set, wMod, List.cons_append, List.nil_append]
  refine v_aload_n X dX8_init_79 rfl ?_
  refine v_sipush X dX8_init_80 (by decide) ?_
  refine v_newa X (List.mem_of_getElem? (i := 4) rfl) ⟨by decide, by decide⟩ (Nat.le_of_ble_eq_true rfl) (Nat.le_of_ble_eq_true rfl) dX8_init_83 (fun q6 => ?_)
  refine v_cs (c2 := 6) (s2 := 700) rfl rfl ?_
  dsimp only [List.set, wMod, List.cons_append, List.nil_append]
  refine v_putF X hini (fun _ h => List.mem_cons_of_mem _ (List.mem_append_right _ h)) tyX8 tyX8_ok nmX8 0 rfl rfl 7 (by decide) rfl (List.mem_of_getElem? (i := 10) rfl) rfl rfl rfl (Nat.le_of_ble_eq_true rfl) dX8_init_85 ?_
  dsimp only [List.set, wMod, List.cons_append, List.nil_append]
  refine v_aload_n X dX8_init_88 rfl ?_
  refine v_sipush X dX8_init_89 (by decide) ?_
  refine v_newa X (List.mem_of_getElem? (i := 4) rfl) ⟨by decide, by decide⟩ (Nat.le_of_ble_eq_true rfl) (Nat.le_of_ble_eq_true rfl) dX8_init_92 (fun q7 => ?_)
  refine v_cs (c2 := 7) (s2 := 900) rfl rfl ?_
  dsimp only [List.set, wMod, List.cons_append, List.nil_append]
  refine v_putF X hini (fun _ h => List.mem_cons_of_mem _ (List.mem_append_right _ h)) tyX8 tyX8_ok nmX8 0 rfl rfl 9 (by decide) rfl (List.mem_of_getElem? (i := 11) rfl) rfl rfl rfl (Nat.le_of_ble_eq_true rfl) dX8_init_94 ?_
  dsimp only [List.set, wMod, List.cons_append, List.nil_append]
  refine v_aload_n X dX8_init_97 rfl ?_
  refine v_iconst X dX8_init_98 ?_
  refine v_newz X (List.mem_of_getElem? (i := 12) rfl) ⟨by decide, by decide⟩ (Nat.le_of_ble_eq_true rfl) (Nat.le_of_ble_eq_true rfl) dX8_init_99 (fun q8 => ?_)
  refine v_cs (c2 := 8) (s2 := 902) rfl rfl ?_
  dsimp only [List.set, wMod, List.cons_append, List.nil_append]
  refine v_putF X hini (fun _ h => List.mem_cons_of_mem _ (List.mem_append_right _ h)) tyX8 tyX8_ok nmX8 0 rfl rfl 21 (by decide) rfl (List.mem_of_getElem? (i := 13) rfl) rfl rfl rfl (Nat.le_of_ble_eq_true rfl) dX8_init_101 ?_
  dsimp only [List.set, wMod, List.cons_append, List.nil_append]
  refine v_aload_n X dX8_init_104 rfl ?_
  refine v_bipush X dX8_init_105 (by decide) ?_
  refine v_newa X (List.mem_of_getElem? (i := 4) rfl) ⟨by decide, by decide⟩ (Nat.le_of_ble_eq_true rfl) (Nat.le_of_ble_eq_true rfl) dX8_init_107 (fun q9 => ?_)
  refine v_cs (c2 := 9) (s2 := 930) rfl rfl ?_
  dsimp only [List.set, wMod, List.cons_append, List.nil_append]
  refine v_putF X hini (fun _ h => List.mem_cons_of_mem _ (List.mem_append_right _ h)) tyX8 tyX8_ok nmX8 0 rfl rfl 22 (by decide) rfl (List.mem_of_getElem? (i := 14) rfl) rfl rfl rfl (Nat.le_of_ble_eq_true rfl) dX8_init_109 ?_
  dsimp only [List.set, wMod, List.cons_append, List.nil_append]
  refine v_aload_n X dX8_init_112 rfl ?_
  refine v_bipush X dX8_init_113 (by decide) ?_
  refine v_newa X (List.mem_of_getElem? (i := 4) rfl) ⟨by decide, by decide⟩ (Nat.le_of_ble_eq_true rfl) (Nat.le_of_ble_eq_true rfl) dX8_init_115 (fun q10 => ?_)
  refine v_cs (c2 := 10) (s2 := 946) rfl rfl ?_
  dsimp only [List.set, wMod, List.cons_append, List.nil_append]
  refine v_putF X hini (fun _ h => List.mem_cons_of_mem _ (List.mem_append_right _ h)) tyX8 tyX8_ok nmX8 0 rfl rfl 23 (by decide) rfl (List.mem_of_getElem? (i := 15) rfl) rfl rfl rfl (Nat.le_of_ble_eq_true rfl) dX8_init_117 ?_
  dsimp only [List.set, wMod, List.cons_append, List.nil_append]
  refine v_vret X Y dX8_init_120 (u := (ofL [a, q1, q2, q3, q4, q5, q6, q7, q8, q9, q10])) ?_ (by rfl)
  rfl

