theorem hdX6_takeHand : yX6_takeHand.cls = RX6 ∧ yX6_takeHand.cls ≠ "java/lang/invoke/MethodHandle" ∧ yX6_takeHand.cls ≠ "java/lang/invoke/VarHandle" ∧ (parseMethodDescriptor yX6_takeHand.desc).map (fun d => d.parameters.length) = some 1 := ⟨rfl, by decide +kernel, by decide +kernel, by decide +kernel⟩
set_option maxHeartbeats 4000000 in
set_option maxRecDepth 100000 in
theorem c_X6_takeHand {g : Gx} {a a1 : Nat} {bt : Nat → Int} {tln tk fm tt tf : Int} {d d1 d2 d3 : Nat} {mk cn : Int} {so tu sp : Nat → Int}  (hbt : Bd 0 255 bt) (htl : 0 ≤ tln ∧ tln ≤ 200) (hpi : piOK bt tln (tk, fm, tt, tf)) (hco : csOK (cn, so, tu, sp)) : CtW g yX6_takeHand wsX6_takeHand 7 148 [.ref a, .ref d] (wTap g a a1 bt tln tk fm tt tf ++ wClk g d d1 d2 d3 mk cn so tu sp) (wTap g a a1 bt tln (((h4C bt tln cn (tk, fm, tt, tf))).1) (((h4C bt tln cn (tk, fm, tt, tf))).2.1) (((h4C bt tln cn (tk, fm, tt, tf))).2.2.1) (((h4C bt tln cn (tk, fm, tt, tf))).2.2.2) ++ wClk g d d1 d2 d3 mk ((haC bt tln (cn, so, tu, sp) (tk, fm, tt, tf)).1) ((haC bt tln (cn, so, tu, sp) (tk, fm, tt, tf)).2.1) ((haC bt tln (cn, so, tu, sp) (tk, fm, tt, tf)).2.2.1) ((haC bt tln (cn, so, tu, sp) (tk, fm, tt, tf)).2.2.2)) := by
  refine m_go (cc := cX6_takeHand) (nL := 4) (by decide +kernel) rfl (Nat.le_of_ble_eq_true rfl) (fun x X Y hnm => ?_)
  refine v_eq (lo2 := [some (.ref a), some (.ref d), none, none]) rfl rfl rfl rfl ?_
  have hok : tkOK bt tln tk fm tt := hpi.1
  have hfm : 0 ≤ fm ∧ fm ≤ tt := by have q := hok.1; omega
  have htt : 0 ≤ tt ∧ tt ≤ tln := by have q := hok.1; omega
  have hk : 0 ≤ tk ∧ tk ≤ 4 := hpi.2.1
  have hf : 0 ≤ tf ∧ tf ≤ 3 := hpi.2.2
  have hcn : 0 ≤ cn ∧ cn ≤ 4 := hco.1
  have hso : Bd 0 5 so := hco.2.1
  have htu : Bd 0 12 tu := hco.2.2.1
  have hsp : Bd 0 59 sp := hco.2.2.2
  have qh := piOK_h0 (cn := cn) hpi
  have J29 : ∀ (f0 : Int) (e0 : h0C bt cn (tk, fm, tt, tf) = (tk, fm, tt, f0)), V g x 0 0 (wTap g a a1 bt tln tk fm tt (f0) ++ wClk g d d1 d2 d3 mk cn so tu sp) [some (.ref a), some (.ref d), none, none] 29 [] := by
    intro f0 e0
    have p0 := qh
    rw [e0] at p0
    refine v_aload_n X dX6_takeHand_29 rfl ?_
    refine v_ldcS X 1 rfl dX6_takeHand_30 ?_
    refine res_W X (run_V X (c_X6_takeWord (g := g) (i := 1) (by first | assumption | omega) (by first | assumption | omega) (by first | assumption | omega) (by first | assumption | omega)) gX6_takeHand_X6_takeWord rfl hdX6_takeWord ⟨(Nat.le_of_ble_eq_true rfl), (Nat.le_of_ble_eq_true rfl)⟩ ⟨(Nat.le_of_ble_eq_true rfl), (Nat.le_of_ble_eq_true rfl)⟩ 0 rfl rfl rfl [0, 1] rfl rfl rfl rfl (by simp [Value.category]) dX6_takeHand_32) [0, 1] rfl rfl rfl ?_
    dsimp only [patch, List.set, List.cons_append, List.nil_append, wClk, wTap]
    have p1 := piOK_wd (i := 1) p0
    generalize e1 : wdC bt tln 1 (tk, fm, tt, f0) = E1 at p1 ⊢
    obtain ⟨tk1, fm1, tt1, tf1⟩ := E1
    dsimp only
    refine v_aload_n X dX6_takeHand_35 rfl ?_
    refine res_F X (run_V X (c_X6_takeSort (g := g) (by first | assumption | omega) (by first | assumption | omega) (by first | assumption | omega)) gX6_takeHand_X6_takeSort rfl hdX6_takeSort ⟨(Nat.le_of_ble_eq_true rfl), (Nat.le_of_ble_eq_true rfl)⟩ ⟨(Nat.le_of_ble_eq_true rfl), (Nat.le_of_ble_eq_true rfl)⟩ 0 rfl rfl rfl [0, 1] rfl rfl rfl rfl (by simp [Value.category]) dX6_takeHand_36) [0, 1] rfl rfl rfl ?_
    dsimp only [patch, List.set, List.cons_append, List.nil_append, wClk, wTap]
    have p2 := piOK_so p1
    generalize e2 : soC bt tln (tk1, fm1, tt1, tf1) = E2 at p2 ⊢
    obtain ⟨tk2, fm2, tt2, tf2⟩ := E2
    dsimp only
    have s1 := sorI_bd bt (tk1, fm1, tt1, tf1)
    refine v_istore_n X dX6_takeHand_39 2 rfl (by decide) rfl ?_
    dsimp only [List.set]
    refine v_aload_n X dX6_takeHand_40 rfl ?_
    refine v_iconst X dX6_takeHand_41 ?_
    refine v_bipush X dX6_takeHand_42 (by decide) ?_
    refine res_F X (run_V X (c_X6_takeNumberC (g := g) (by first | assumption | omega) (by first | assumption | omega) (by first | assumption | omega) (by first | assumption | omega) (by first | assumption | omega)) gX6_takeHand_X6_takeNumber rfl hdX6_takeNumber ⟨(Nat.le_of_ble_eq_true rfl), (Nat.le_of_ble_eq_true rfl)⟩ ⟨(Nat.le_of_ble_eq_true rfl), (Nat.le_of_ble_eq_true rfl)⟩ 0 rfl rfl rfl [0, 1] rfl rfl rfl rfl (by simp [Value.category]) dX6_takeHand_44) [0, 1] rfl rfl rfl ?_
    dsimp only [patch, List.set, List.cons_append, List.nil_append, wClk, wTap]
    have v1 := nuV_bd p2
    have p3 := piOK_nu (l := 1) (m := 12) p2
    generalize e3 : nuC bt tln 1 12 (tk2, fm2, tt2, tf2) = E3 at p3 ⊢
    obtain ⟨tk3, fm3, tt3, tf3⟩ := E3
    dsimp only
    refine v_istore_n X dX6_takeHand_47 3 rfl (by decide) rfl ?_
    dsimp only [List.set]
    refine v_aload_n X dX6_takeHand_48 rfl ?_
    refine res_W X (run_V X (c_X6_takeSignC (g := g) (by first | assumption | omega) (by first | assumption | omega) (by first | assumption | omega)) gX6_takeHand_X6_takeSign rfl hdX6_takeSign ⟨(Nat.le_of_ble_eq_true rfl), (Nat.le_of_ble_eq_true rfl)⟩ ⟨(Nat.le_of_ble_eq_true rfl), (Nat.le_of_ble_eq_true rfl)⟩ 0 rfl rfl rfl [0, 1] rfl rfl rfl rfl (by simp [Value.category]) dX6_takeHand_49) [0, 1] rfl rfl rfl ?_
    dsimp only [patch, List.set, List.cons_append, List.nil_append, wClk, wTap]
    have p4 := piOK_sn p3
    generalize e4 : snC bt tln (tk3, fm3, tt3, tf3) = E4 at p4 ⊢
    obtain ⟨tk4, fm4, tt4, tf4⟩ := E4
    dsimp only
    have eh := h4C_e e0 e1 e2 e3 e4
    have hf4 : 0 ≤ tf4 ∧ tf4 ≤ 3 := p4.2.2
    refine v_aload_n X dX6_takeHand_52 rfl ?_
    refine v_get X (fun _ h => List.mem_cons_of_mem _ (List.mem_append_left _ (List.mem_append_right _ h))) 0 rfl rfl 5 (by decide) rfl (List.mem_of_getElem? (i := 1) rfl) rfl dX6_takeHand_53 ?_
    refine v_if_ne (tgt := 65) X dX6_takeHand_56 (by decide) (by omega) (fun c1 => ?_) (fun c1 => ?_)
    · skip
      exact v_vret X Y dX6_takeHand_65 (u := ()) trivial (by rw [eh.2.2]; first | (rw [haC_y eh (by assumption)]; done) | (rw [haC_n eh (by assumption)]; done) | (rw [haC_y eh (by assumption)] <;> rfl) | (rw [haC_n eh (by assumption)] <;> rfl))
    · skip
      refine v_aload_n X dX6_takeHand_59 rfl ?_
      refine v_iload_n X dX6_takeHand_60 rfl ?_
      refine v_iload_n X dX6_takeHand_61 rfl ?_
      refine res_W X (run_V X (c_X2_add (g := g) (by have z4 := h4_0 (f := bt) (n := tln) (cn := cn) (s := (tk, fm, tt, tf)) (by rw [eh.2.2]; assumption); exact ⟨hcn.1, z4.2.1⟩)) gX6_takeHand_X2_add rfl hdX2_add ⟨(Nat.le_of_ble_eq_true rfl), (Nat.le_of_ble_eq_true rfl)⟩ ⟨(Nat.le_of_ble_eq_true rfl), (Nat.le_of_ble_eq_true rfl)⟩ 2 rfl rfl rfl [2, 3, 4, 5] rfl rfl rfl rfl (by simp [Value.category]) dX6_takeHand_62) [2, 3, 4, 5] rfl rfl rfl ?_
      dsimp only [patch, List.set, List.cons_append, List.nil_append, wClk, wTap]
      exact v_vret X Y dX6_takeHand_65 (u := ()) trivial (by rw [eh.2.2]; first | (rw [haC_y eh (by assumption)]; done) | (rw [haC_n eh (by assumption)]; done) | (rw [haC_y eh (by assumption)] <;> rfl) | (rw [haC_n eh (by assumption)] <;> rfl))
  refine v_aload_n X dX6_takeHand_0 rfl ?_
  refine v_get X (fun _ h => List.mem_cons_of_mem _ (List.mem_append_left _ (List.mem_append_right _ h))) 0 rfl rfl 5 (by decide) rfl (List.mem_of_getElem? (i := 1) rfl) rfl dX6_takeHand_1 ?_
  refine v_if_ne (tgt := 29) X dX6_takeHand_4 (by decide) (by omega) (fun c2 => ?_) (fun c2 => ?_)
  · skip
    exact J29 _ (by
        unfold h0C
        first
        | (rw [if_neg (fun z => absurd (show tf = 0 from z.1) (by assumption))]; done)
        | (rw [if_neg (fun z => absurd (pB_iff.mp z.2.1) (by assumption))]; done)
        | (rw [if_neg (fun z => absurd z.2.2 (by omega))]; done)
        | (rw [if_pos ⟨by assumption, pB_iff.mpr (by assumption), by omega⟩]; done))
  · skip
    refine v_aload_n X dX6_takeHand_7 rfl ?_
    refine v_ldcS X 1 rfl dX6_takeHand_8 ?_
    refine res_E X (run_V X (c_X6_isWord (g := g) (i := 1) (by first | assumption | omega) (by first | assumption | omega) (by first | assumption | omega) (by first | assumption | omega)) gX6_takeHand_X6_isWord rfl hdX6_isWord ⟨(Nat.le_of_ble_eq_true rfl), (Nat.le_of_ble_eq_true rfl)⟩ ⟨(Nat.le_of_ble_eq_true rfl), (Nat.le_of_ble_eq_true rfl)⟩ 0 rfl rfl rfl [0, 1] rfl rfl rfl rfl (by simp [Value.category]) dX6_takeHand_10) [0, 1] rfl rfl ?_
    refine v_ifp_eq (tgt := 29) X dX6_takeHand_13 (by decide) (fun c3 => ?_) (fun c3 => ?_)
    · skip
      exact J29 _ (by
          unfold h0C
          first
          | (rw [if_neg (fun z => absurd (show tf = 0 from z.1) (by assumption))]; done)
          | (rw [if_neg (fun z => absurd (pB_iff.mp z.2.1) (by assumption))]; done)
          | (rw [if_neg (fun z => absurd z.2.2 (by omega))]; done)
          | (rw [if_pos ⟨by assumption, pB_iff.mpr (by assumption), by omega⟩]; done))
    · skip
      refine v_aload_n X dX6_takeHand_16 rfl ?_
      refine v_get X (fun _ h => List.mem_cons_of_mem _ (List.mem_append_right _ h)) 2 rfl rfl 4 (by decide) rfl (List.mem_of_getElem? (i := 2) rfl) rfl dX6_takeHand_17 ?_
      refine v_iconst X dX6_takeHand_20 ?_
      refine v_icmp_lt (tgt := 29) X dX6_takeHand_21 (by decide) (by omega) (by omega) (fun c4 => ?_) (fun c4 => ?_)
      · skip
        exact J29 _ (by
            unfold h0C
            first
            | (rw [if_neg (fun z => absurd (show tf = 0 from z.1) (by assumption))]; done)
            | (rw [if_neg (fun z => absurd (pB_iff.mp z.2.1) (by assumption))]; done)
            | (rw [if_neg (fun z => absurd z.2.2 (by omega))]; done)
            | (rw [if_pos ⟨by assumption, pB_iff.mpr (by assumption), by omega⟩]; done))
      · skip
        refine v_aload_n X dX6_takeHand_24 rfl ?_
        refine v_iconst X dX6_takeHand_25 ?_
        refine v_put X (fun _ h => List.mem_cons_of_mem _ (List.mem_append_left _ (List.mem_append_right _ h))) tyX6 tyX6_ok nmX6 0 rfl rfl 5 (by decide) rfl (List.mem_of_getElem? (i := 1) rfl) rfl rfl rfl (Nat.le_of_ble_eq_true rfl) dX6_takeHand_26 ?_
        dsimp only [List.set, wTap, wClk, List.cons_append, List.nil_append]
        exact J29 _ (by
            unfold h0C
            first
            | (rw [if_neg (fun z => absurd (show tf = 0 from z.1) (by assumption))]; done)
            | (rw [if_neg (fun z => absurd (pB_iff.mp z.2.1) (by assumption))]; done)
            | (rw [if_neg (fun z => absurd z.2.2 (by omega))]; done)
            | (rw [if_pos ⟨by assumption, pB_iff.mpr (by assumption), by omega⟩]; done))

theorem hdX6_readInto : yX6_readInto.cls = RX6 ∧ yX6_readInto.cls ≠ "java/lang/invoke/MethodHandle" ∧ yX6_readInto.cls ≠ "java/lang/invoke/VarHandle" ∧ (parseMethodDescriptor yX6_readInto.desc).map (fun d => d.parameters.length) = some 1 := ⟨rfl, by decide +kernel, by decide +kernel, by decide +kernel⟩
set_option maxHeartbeats 4000000 in
set_option maxRecDepth 100000 in
theorem c_X6_readInto {g : Gx} {a a1 : Nat} {bt : Nat → Int} {tln tk fm tt tf : Int} {d d1 d2 d3 : Nat} {mk cn : Int} {so tu sp : Nat → Int}  (hbt : Bd 0 255 bt) (htl : 0 ≤ tln ∧ tln ≤ 200) (hso : Bd 0 5 so) (htu : Bd 0 12 tu) (hsp : Bd 0 59 sp) : CtW g yX6_readInto wsX6_readInto 8 171 [.ref a, .ref d] (wTap g a a1 bt tln tk fm tt tf ++ wClk g d d1 d2 d3 mk cn so tu sp) (wTap g a a1 bt tln (((rdR bt tln (cn, so, tu, sp)).2).1) (((rdR bt tln (cn, so, tu, sp)).2).2.1) (((rdR bt tln (cn, so, tu, sp)).2).2.2.1) (((rdR bt tln (cn, so, tu, sp)).2).2.2.2) ++ wClk g d d1 d2 d3 (nuV bt (rd1 bt tln)) ((rdR bt tln (cn, so, tu, sp)).1.1) ((rdR bt tln (cn, so, tu, sp)).1.2.1) ((rdR bt tln (cn, so, tu, sp)).1.2.2.1) ((rdR bt tln (cn, so, tu, sp)).1.2.2.2)) := by
  refine m_go (cc := cX6_readInto) (nL := 3) (by decide +kernel) rfl (Nat.le_of_ble_eq_true rfl) (fun x X Y hnm => ?_)
  refine v_eq (lo2 := [some (.ref a), some (.ref d), none]) rfl rfl rfl rfl ?_
  have hco0 : csOK (0, so, tu, sp) := ⟨⟨Int.le_refl _, (by decide : (0 : Int) ≤ 4)⟩, hso, htu, hsp⟩
  refine v_aload_n X dX6_readInto_0 rfl ?_
  refine v_iconst X dX6_readInto_1 ?_
  refine v_put X (fun _ h => List.mem_cons_of_mem _ (List.mem_append_left _ (List.mem_append_right _ h))) tyX6 tyX6_ok nmX6 0 rfl rfl 5 (by decide) rfl (List.mem_of_getElem? (i := 1) rfl) rfl rfl rfl (Nat.le_of_ble_eq_true rfl) dX6_readInto_2 ?_
  dsimp only [List.set, wTap, wClk, List.cons_append, List.nil_append]
  refine v_aload_n X dX6_readInto_5 rfl ?_
  refine v_iconst X dX6_readInto_6 ?_
  refine v_put X (fun _ h => List.mem_cons_of_mem _ (List.mem_append_left _ (List.mem_append_right _ h))) tyX6 tyX6_ok nmX6 0 rfl rfl 4 (by decide) rfl (List.mem_of_getElem? (i := 2) rfl) rfl rfl rfl (Nat.le_of_ble_eq_true rfl) dX6_readInto_7 ?_
  dsimp only [List.set, wTap, wClk, List.cons_append, List.nil_append]
  refine v_aload_n X dX6_readInto_10 rfl ?_
  refine v_iconst X dX6_readInto_11 ?_
  refine v_put X (fun _ h => List.mem_cons_of_mem _ (List.mem_append_right _ h)) tyX2 tyX2_ok nmX2 2 rfl rfl 4 (by decide) rfl (List.mem_of_getElem? (i := 3) rfl) rfl rfl rfl (Nat.le_of_ble_eq_true rfl) dX6_readInto_12 ?_
  dsimp only [List.set, wTap, wClk, List.cons_append, List.nil_append]
  refine v_aload_n X dX6_readInto_15 rfl ?_
  refine res_W X (run_V X (c_X6_advance (g := g) (by first | assumption | omega) (by first | assumption | omega) (by exact ⟨Int.le_refl _, htl.1⟩)) gX6_readInto_X6_advance rfl hdX6_advance ⟨(Nat.le_of_ble_eq_true rfl), (Nat.le_of_ble_eq_true rfl)⟩ ⟨(Nat.le_of_ble_eq_true rfl), (Nat.le_of_ble_eq_true rfl)⟩ 0 rfl rfl rfl [0, 1] rfl rfl rfl rfl (by simp [Value.category]) dX6_readInto_16) [0, 1] rfl rfl rfl ?_
  dsimp only [patch, List.set, List.cons_append, List.nil_append, wClk, wTap]
  have p0 := piOK_rdP (f := bt) htl.1
  change V g x 0 0 (wTap g a a1 bt tln ((rdP bt tln).1) ((rdP bt tln).2.1) ((rdP bt tln).2.2.1) ((rdP bt tln).2.2.2) ++ wClk g d d1 d2 d3 mk (0) so tu sp) _ _ _
  generalize e0 : rdP bt tln = E0 at p0 ⊢
  obtain ⟨tk0, fm0, tt0, tf0⟩ := E0
  dsimp only
  refine v_aload_n X dX6_readInto_19 rfl ?_
  refine v_ldcS X 0 rfl dX6_readInto_20 ?_
  refine res_W X (run_V X (c_X6_takeWord (g := g) (i := 0) (by first | assumption | omega) (by first | assumption | omega) (by first | assumption | omega) (by first | assumption | omega)) gX6_readInto_X6_takeWord rfl hdX6_takeWord ⟨(Nat.le_of_ble_eq_true rfl), (Nat.le_of_ble_eq_true rfl)⟩ ⟨(Nat.le_of_ble_eq_true rfl), (Nat.le_of_ble_eq_true rfl)⟩ 0 rfl rfl rfl [0, 1] rfl rfl rfl rfl (by simp [Value.category]) dX6_readInto_22) [0, 1] rfl rfl rfl ?_
  dsimp only [patch, List.set, List.cons_append, List.nil_append, wClk, wTap]
  have p1 := piOK_wd (i := 0) p0
  generalize e1 : wdC bt tln 0 (tk0, fm0, tt0, tf0) = E1 at p1 ⊢
  obtain ⟨tk1, fm1, tt1, tf1⟩ := E1
  dsimp only
  have r1 : rd1 bt tln = (tk1, fm1, tt1, tf1) := by unfold rd1; rw [e0, e1]
  refine v_aload_n X dX6_readInto_25 rfl ?_
  refine v_aload_n X dX6_readInto_26 rfl ?_
  refine v_iconst X dX6_readInto_27 ?_
  refine v_bipush X dX6_readInto_28 (by decide) ?_
  refine res_F X (run_V X (c_X6_takeNumberC (g := g) (by first | assumption | omega) (by first | assumption | omega) (by first | assumption | omega) (by first | assumption | omega) (by first | assumption | omega)) gX6_readInto_X6_takeNumber rfl hdX6_takeNumber ⟨(Nat.le_of_ble_eq_true rfl), (Nat.le_of_ble_eq_true rfl)⟩ ⟨(Nat.le_of_ble_eq_true rfl), (Nat.le_of_ble_eq_true rfl)⟩ 0 rfl rfl rfl [0, 1] rfl rfl rfl rfl (by simp [Value.category]) dX6_readInto_30) [0, 1] rfl rfl rfl ?_
  dsimp only [patch, List.set, List.cons_append, List.nil_append, wClk, wTap]
  have v1 := nuV_bd p1
  have p2 := piOK_nu (l := 2) (m := 60) p1
  generalize e2 : nuC bt tln 2 60 (tk1, fm1, tt1, tf1) = E2 at p2 ⊢
  obtain ⟨tk2, fm2, tt2, tf2⟩ := E2
  dsimp only
  refine v_put X (fun _ h => List.mem_cons_of_mem _ (List.mem_append_right _ h)) tyX2 tyX2_ok nmX2 2 rfl rfl 3 (by decide) rfl (List.mem_of_getElem? (i := 4) rfl) rfl rfl rfl (Nat.le_of_ble_eq_true rfl) dX6_readInto_33 ?_
  dsimp only [List.set, wTap, wClk, List.cons_append, List.nil_append]
  refine v_aload_n X dX6_readInto_36 rfl ?_
  refine res_W X (run_V X (c_X6_takeSignC (g := g) (by first | assumption | omega) (by first | assumption | omega) (by first | assumption | omega)) gX6_readInto_X6_takeSign rfl hdX6_takeSign ⟨(Nat.le_of_ble_eq_true rfl), (Nat.le_of_ble_eq_true rfl)⟩ ⟨(Nat.le_of_ble_eq_true rfl), (Nat.le_of_ble_eq_true rfl)⟩ 0 rfl rfl rfl [0, 1] rfl rfl rfl rfl (by simp [Value.category]) dX6_readInto_37) [0, 1] rfl rfl rfl ?_
  dsimp only [patch, List.set, List.cons_append, List.nil_append, wClk, wTap]
  have p3 := piOK_sn p2
  generalize e3 : snC bt tln (tk2, fm2, tt2, tf2) = E3 at p3 ⊢
  obtain ⟨tk3, fm3, tt3, tf3⟩ := E3
  dsimp only
  have r3 : rd3 bt tln = (tk3, fm3, tt3, tf3) := by unfold rd3; rw [r1, e2, e3]
  refine v_aload_n X dX6_readInto_40 rfl ?_
  refine v_aload_n X dX6_readInto_41 rfl ?_
  refine res_W X (run_V X (c_X6_takeHand (g := g) (by first | assumption | omega) (by first | assumption | omega) (by first | assumption | omega) (by exact hco0)) gX6_readInto_X6_takeHand rfl hdX6_takeHand ⟨(Nat.le_of_ble_eq_true rfl), (Nat.le_of_ble_eq_true rfl)⟩ ⟨(Nat.le_of_ble_eq_true rfl), (Nat.le_of_ble_eq_true rfl)⟩ 0 rfl rfl rfl [0, 1, 2, 3, 4, 5] rfl rfl rfl rfl (by simp [Value.category]) dX6_readInto_42) [0, 1, 2, 3, 4, 5] rfl rfl rfl ?_
  dsimp only [patch, List.set, List.cons_append, List.nil_append, wClk, wTap]
  have p4 := piOK_h4 (cn := 0) p3
  have q4 := csOK_ha (n := tln) (f := bt) (s := (tk3, fm3, tt3, tf3)) hco0
  have rr : rdR bt tln (cn, so, tu, sp) = hlC bt tln 5 (haC bt tln (0, so, tu, sp) (tk3, fm3, tt3, tf3), h4C bt tln 0 (tk3, fm3, tt3, tf3)) := by unfold rdR; rw [r3]
  generalize e4 : h4C bt tln 0 (tk3, fm3, tt3, tf3) = E4 at p4 rr ⊢
  generalize e5 : haC bt tln (0, so, tu, sp) (tk3, fm3, tt3, tf3) = E5 at q4 rr ⊢
  obtain ⟨tk4, fm4, tt4, tf4⟩ := E4
  obtain ⟨cn4, so4, tu4, sp4⟩ := E5
  dsimp only
  rw [← r1]
  generalize e6 : nuV bt (rd1 bt tln) = mkx
  refine v_iconst X dX6_readInto_45 ?_
  refine v_istore_n X dX6_readInto_46 2 rfl (by decide) rfl ?_
  dsimp only [List.set]
  have J79 : ∀ (tk5 : Int) (fm5 : Int) (tt5 : Int) (tf5 : Int) (cn5 : Int) (so5 : Nat → Int) (tu5 : Nat → Int) (sp5 : Nat → Int) (rr5 : rdR bt tln (cn, so, tu, sp) = ((cn5, so5, tu5, sp5), (tk5, fm5, tt5, tf5))), V g x 0 0 (wTap g a a1 bt tln (tk5) (fm5) (tt5) (tf5) ++ wClk g d d1 d2 d3 (mkx) (cn5) (so5) (tu5) (sp5)) [some (.ref a), some (.ref d), none] 79 [] := by
    intro tk5 fm5 tt5 tf5 cn5 so5 tu5 sp5 rr5
    exact v_vret X Y dX6_readInto_79 (u := ()) trivial (by rw [rr5, e6] <;> rfl)
  have L47 : ∀ (nf : Nat) (tk5 : Int) (fm5 : Int) (tt5 : Int) (tf5 : Int) (cn5 : Int) (so5 : Nat → Int) (tu5 : Nat → Int) (sp5 : Nat → Int) (i : Int) (k : Nat) (rr6 : rdR bt tln (cn, so, tu, sp) = hlC bt tln k ((cn5, so5, tu5, sp5), (tk5, fm5, tt5, tf5))) (p5 : piOK bt tln (tk5, fm5, tt5, tf5)) (q5 : csOK (cn5, so5, tu5, sp5)) (hk5 : hcK cn5 tf5 k) (hi5 : 0 ≤ i ∧ i + (k : Int) ≤ 5) (_ : k < nf), V g x 0 0 (wTap g a a1 bt tln (tk5) (fm5) (tt5) (tf5) ++ wClk g d d1 d2 d3 (mkx) (cn5) (so5) (tu5) (sp5)) [some (.ref a), some (.ref d), some (.int (iI i))] 47 [] := by
    intro nf
    induction nf with
    | zero => intro tk5 fm5 tt5 tf5 cn5 so5 tu5 sp5 i k rr6 p5 q5 hk5 hi5 hmu; exact absurd hmu (Nat.not_lt_zero _)
    | succ nf ih47 =>
      intro tk5 fm5 tt5 tf5 cn5 so5 tu5 sp5 i k rr6 p5 q5 hk5 hi5 hmu
      refine v_iload_n X dX6_readInto_47 rfl ?_
      refine v_sipush X dX6_readInto_48 (by decide) ?_
      refine v_icmp_ge (tgt := 79) X dX6_readInto_51 (by decide) (by omega) (by omega) (fun c1 => ?_) (fun c1 => ?_)
      · skip
        exfalso; omega
      · skip
        refine v_aload_n X dX6_readInto_54 rfl ?_
        refine v_get X (fun _ h => List.mem_cons_of_mem _ (List.mem_append_left _ (List.mem_append_right _ h))) 0 rfl rfl 5 (by decide) rfl (List.mem_of_getElem? (i := 1) rfl) rfl dX6_readInto_55 ?_
        refine v_if_ne (tgt := 79) X dX6_readInto_58 (by decide) (by have z : 0 ≤ tf5 ∧ tf5 ≤ 3 := p5.2.2; omega) (fun c2 => ?_) (fun c2 => ?_)
        · skip
          refine v_drop 2 ?_
          dsimp only [List.set]
          exact J79 _ _ _ _ _ _ _ _ (by rw [rr6]; exact hlC_end (fun z => by first | exact absurd (show tf5 = 0 from z.1) (by assumption) | exact absurd (by assumption) (show tk5 ≠ 0 from z.2)) _)
        · skip
          refine v_aload_n X dX6_readInto_61 rfl ?_
          refine v_get X (fun _ h => List.mem_cons_of_mem _ (List.mem_append_left _ (List.mem_append_right _ h))) 0 rfl rfl 2 (by decide) rfl (List.mem_of_getElem? (i := 5) rfl) rfl dX6_readInto_62 ?_
          refine v_if_eq (tgt := 79) X dX6_readInto_65 (by decide) (by have z : 0 ≤ tk5 ∧ tk5 ≤ 4 := p5.2.1; omega) (fun c3 => ?_) (fun c3 => ?_)
          · skip
            refine v_drop 2 ?_
            dsimp only [List.set]
            exact J79 _ _ _ _ _ _ _ _ (by rw [rr6]; exact hlC_end (fun z => by first | exact absurd (show tf5 = 0 from z.1) (by assumption) | exact absurd (by assumption) (show tk5 ≠ 0 from z.2)) _)
          · skip
            refine v_aload_n X dX6_readInto_68 rfl ?_
            refine v_aload_n X dX6_readInto_69 rfl ?_
            refine res_W X (run_V X (c_X6_takeHand (g := g) (by first | assumption | omega) (by first | assumption | omega) (by exact p5) (by exact q5)) gX6_readInto_X6_takeHand rfl hdX6_takeHand ⟨(Nat.le_of_ble_eq_true rfl), (Nat.le_of_ble_eq_true rfl)⟩ ⟨(Nat.le_of_ble_eq_true rfl), (Nat.le_of_ble_eq_true rfl)⟩ 0 rfl rfl rfl [0, 1, 2, 3, 4, 5] rfl rfl rfl rfl (by simp [Value.category]) dX6_readInto_70) [0, 1, 2, 3, 4, 5] rfl rfl rfl ?_
            dsimp only [patch, List.set, List.cons_append, List.nil_append, wClk, wTap]
            have go := hlC_go (n := tln) (f := bt) (c := (cn5, so5, tu5, sp5)) (s := (tk5, fm5, tt5, tf5)) q5 hk5 ⟨by assumption, by assumption⟩
            have p6 := piOK_h4 (cn := cn5) p5
            have q6 := csOK_ha (n := tln) (f := bt) (s := (tk5, fm5, tt5, tf5)) q5
            refine v_iinc X dX6_readInto_73 rfl (by decide) rfl ?_
            dsimp only [List.set]
            refine v_goto (tgt := 47) X dX6_readInto_76 (by decide) ?_
            exact ih47 _ _ _ _ _ _ _ _ _ (k - 1) (by rw [rr6]; exact go.2.1) (by exact p6) (by exact q6) (by exact go.2.2) (by have := go.1; omega) (by have := go.1; omega)
  exact L47 _ _ _ _ _ _ _ _ _ _ 5 (by exact rr) (by exact p4) (by exact q4) (by exact fun _ => by have z := q4.1; have z2 : 0 ≤ cn4 := z.1; show 5 - cn4 ≤ ((5 : Nat) : Int); omega) (by decide) (Nat.lt_succ_self _)

theorem hdX7_clock : yX7_clock.cls = RX7 ∧ yX7_clock.cls ≠ "java/lang/invoke/MethodHandle" ∧ yX7_clock.cls ≠ "java/lang/invoke/VarHandle" ∧ (parseMethodDescriptor yX7_clock.desc).map (fun d => d.parameters.length) = some 0 := ⟨rfl, by decide +kernel, by decide +kernel, by decide +kernel⟩
set_option maxHeartbeats 4000000 in
set_option maxRecDepth 100000 in
theorem c_X7_clock {g : Gx} {B : Nat → Nat} {lf fi : Int} {bt : Nat → Int} {tln tk fm tt tf : Int} {mk cn : Int} {so tu sp : Nat → Int} {mkd cnd : Int} {sod tud spd : Nat → Int} {hs ss : Nat → Int} {ln : Int}  (hbt : Bd 0 255 bt) (htl : 0 ≤ tln ∧ tln ≤ 200) (hcn : 0 ≤ cn ∧ cn ≤ 4) (hmk : 0 ≤ mk ∧ mk ≤ 60) (hso : Bd 0 5 so) (htu : Bd 0 12 tu) (hsp : Bd 0 59 sp) (hsod : Bd 0 5 sod) (htud : Bd 0 12 tud) (hspd : Bd 0 59 spd) : CtI (S := Int × Int × Int × (Nat → Int) × (Nat → Int) × (Nat → Int) × Int) g yX7_clock wsX7_clock 9 193 [.ref (B 0)] (oAH g B (lf) (fi) :: (wTap g (B 2) (B 14) bt tln tk fm tt tf ++ (wClk g (B 3) (B 15) (B 16) (B 17) mk cn so tu sp ++ (wClk g (B 4) (B 18) (B 19) (B 20) mkd cnd sod tud spd ++ (wAct g (B 7) (B 27) (B 28) hs ss ln))))) (fun v u => ((rdR bt tln (cnd, sod, tud, spd)).2.2.2.2 ≠ 0 ∧ v = -1000100 - (rdR bt tln (cnd, sod, tud, spd)).2.2.1 ∧ u = ((rdR bt tln (cnd, sod, tud, spd)).2.2.2.2, mk, cn, so, tu, sp, ln)) ∨ ((rdR bt tln (cnd, sod, tud, spd)).2.2.2.2 = 0 ∧ v = (rdR bt tln (cnd, sod, tud, spd)).1.1 ∧ u = (lf, (nuV bt (rd1 bt tln)), (rdR bt tln (cnd, sod, tud, spd)).1.1, mixI (rdR bt tln (cnd, sod, tud, spd)).1.2.1 so, mixI (rdR bt tln (cnd, sod, tud, spd)).1.2.2.1 tu, mixI (rdR bt tln (cnd, sod, tud, spd)).1.2.2.2 sp, 0))) (fun u => oAH g B (u.1) (fi) :: (wTap g (B 2) (B 14) bt (0) (((rdR bt tln (cnd, sod, tud, spd)).2).1) (((rdR bt tln (cnd, sod, tud, spd)).2).2.1) (((rdR bt tln (cnd, sod, tud, spd)).2).2.2.1) (((rdR bt tln (cnd, sod, tud, spd)).2).2.2.2) ++ (wClk g (B 3) (B 15) (B 16) (B 17) (u.2.1) (u.2.2.1) (u.2.2.2.1) (u.2.2.2.2.1) (u.2.2.2.2.2.1) ++ (wClk g (B 4) (B 18) (B 19) (B 20) ((nuV bt (rd1 bt tln))) ((rdR bt tln (cnd, sod, tud, spd)).1.1) ((rdR bt tln (cnd, sod, tud, spd)).1.2.1) ((rdR bt tln (cnd, sod, tud, spd)).1.2.2.1) ((rdR bt tln (cnd, sod, tud, spd)).1.2.2.2) ++ (wAct g (B 7) (B 27) (B 28) hs ss (u.2.2.2.2.2.2)))))) := by
  refine m_go (cc := cX7_clock) (nL := 1) (by decide +kernel) rfl (Nat.le_of_ble_eq_true rfl) (fun x X Y hnm => ?_)
  refine v_eq (lo2 := [some (.ref (B 0))]) rfl rfl rfl rfl ?_
  refine v_aload_n X dX7_clock_0 rfl ?_
  refine v_get X (fun _ h => List.mem_cons_of_mem _ (List.mem_append_left _ (List.mem_append_left _ (List.mem_append_left _ (List.mem_append_right _ h))))) 0 rfl rfl 1 (by decide) rfl (List.mem_of_getElem? (i := 1) rfl) rfl dX7_clock_1 ?_
  refine v_aload_n X dX7_clock_4 rfl ?_
  refine v_get X (fun _ h => List.mem_cons_of_mem _ (List.mem_append_left _ (List.mem_append_left _ (List.mem_append_left _ (List.mem_append_right _ h))))) 0 rfl rfl 3 (by decide) rfl (List.mem_of_getElem? (i := 2) rfl) rfl dX7_clock_5 ?_
  refine res_W X (run_V X (c_X6_readInto (g := g) (by first | assumption | omega) (by first | assumption | omega) (by first | assumption | omega) (by first | assumption | omega) (by first | assumption | omega)) gX7_clock_X6_readInto rfl hdX6_readInto ⟨(Nat.le_of_ble_eq_true rfl), (Nat.le_of_ble_eq_true rfl)⟩ ⟨(Nat.le_of_ble_eq_true rfl), (Nat.le_of_ble_eq_true rfl)⟩ 1 rfl rfl rfl [1, 2, 7, 8, 9, 10] rfl rfl rfl rfl (by simp [Value.category]) dX7_clock_8) [1, 2, 7, 8, 9, 10] rfl rfl rfl ?_
  dsimp only [patch, List.set, List.cons_append, List.nil_append, oAH, wAct, wClk, wTap]
  have rf := rd_fin (n := tln) (f := bt) (c := (cnd, sod, tud, spd)) htl.1 ⟨⟨Int.le_refl _, (by decide : (0 : Int) ≤ 4)⟩, hsod, htud, hspd⟩
  generalize er : rdR bt tln (cnd, sod, tud, spd) = E at rf ⊢
  obtain ⟨⟨cn5, so5, tu5, sp5⟩, ⟨tk5, fm5, tt5, tf5⟩⟩ := E
  dsimp only
  have z1 : 0 ≤ tf5 ∧ tf5 ≤ 3 := rf.2.1.2.2
  have z2 : 0 ≤ fm5 ∧ fm5 ≤ tln := by have q := rf.2.1.1.1; have q2 : 0 ≤ fm5 ∧ fm5 ≤ tt5 ∧ tt5 ≤ tln := q; omega
  have z3 : Bd 0 5 so5 ∧ Bd 0 12 tu5 ∧ Bd 0 59 sp5 := rf.1.2
  refine v_aload_n X dX7_clock_11 rfl ?_
  refine v_get X (fun _ h => List.mem_cons_of_mem _ (List.mem_append_left _ (List.mem_append_left _ (List.mem_append_left _ (List.mem_append_right _ h))))) 0 rfl rfl 1 (by decide) rfl (List.mem_of_getElem? (i := 1) rfl) rfl dX7_clock_12 ?_
  refine v_iconst X dX7_clock_15 ?_
  refine v_put X (fun _ h => List.mem_cons_of_mem _ (List.mem_append_left _ (List.mem_append_left _ (List.mem_append_right _ h)))) tyX6 tyX6_ok nmX6 1 rfl rfl 1 (by decide) rfl (List.mem_of_getElem? (i := 3) rfl) rfl rfl rfl (Nat.le_of_ble_eq_true rfl) dX7_clock_16 ?_
  dsimp only [List.set, oAH, wAct, wClk, wTap, List.cons_append, List.nil_append]
  refine v_aload_n X dX7_clock_19 rfl ?_
  refine v_get X (fun _ h => List.mem_cons_of_mem _ (List.mem_append_left _ (List.mem_append_left _ (List.mem_append_left _ (List.mem_append_right _ h))))) 0 rfl rfl 1 (by decide) rfl (List.mem_of_getElem? (i := 1) rfl) rfl dX7_clock_20 ?_
  refine v_get X (fun _ h => List.mem_cons_of_mem _ (List.mem_append_left _ (List.mem_append_left _ (List.mem_append_right _ h)))) 1 rfl rfl 5 (by decide) rfl (List.mem_of_getElem? (i := 4) rfl) rfl dX7_clock_23 ?_
  refine v_if_eq (tgt := 51) X dX7_clock_26 (by decide) (by omega) (fun c1 => ?_) (fun c1 => ?_)
  · skip
    refine v_aload_n X dX7_clock_51 rfl ?_
    refine v_get X (fun _ h => List.mem_cons_of_mem _ (List.mem_append_left _ (List.mem_append_left _ (List.mem_append_left _ (List.mem_append_right _ h))))) 0 rfl rfl 2 (by decide) rfl (List.mem_of_getElem? (i := 8) rfl) rfl dX7_clock_52 ?_
    refine v_aload_n X dX7_clock_55 rfl ?_
    refine v_get X (fun _ h => List.mem_cons_of_mem _ (List.mem_append_left _ (List.mem_append_left _ (List.mem_append_left _ (List.mem_append_right _ h))))) 0 rfl rfl 3 (by decide) rfl (List.mem_of_getElem? (i := 2) rfl) rfl dX7_clock_56 ?_
    refine res_W X (run_V X (c_X2_become (g := g) (by exact z3.1) (by exact z3.2.1) (by exact z3.2.2)) gX7_clock_X2_become rfl hdX2_become ⟨(Nat.le_of_ble_eq_true rfl), (Nat.le_of_ble_eq_true rfl)⟩ ⟨(Nat.le_of_ble_eq_true rfl), (Nat.le_of_ble_eq_true rfl)⟩ 3 rfl rfl rfl [3, 4, 5, 6, 7, 8, 9, 10] rfl rfl rfl rfl (by simp [Value.category]) dX7_clock_59) [3, 4, 5, 6, 7, 8, 9, 10] rfl rfl rfl ?_
    dsimp only [patch, List.set, List.cons_append, List.nil_append, oAH, wAct, wClk, wTap]
    refine v_aload_n X dX7_clock_62 rfl ?_
    refine v_get X (fun _ h => List.mem_cons_of_mem _ (List.mem_append_left _ (List.mem_append_left _ (List.mem_append_left _ (List.mem_append_right _ h))))) 0 rfl rfl 6 (by decide) rfl (List.mem_of_getElem? (i := 9) rfl) rfl dX7_clock_63 ?_
    refine v_iconst X dX7_clock_66 ?_
    refine v_put X (fun _ h => List.mem_cons_of_mem _ (List.mem_append_left _ (List.mem_append_right _ h))) tyX0 tyX0_ok nmX0 11 rfl rfl 2 (by decide) rfl (List.mem_of_getElem? (i := 10) rfl) rfl rfl rfl (Nat.le_of_ble_eq_true rfl) dX7_clock_67 ?_
    dsimp only [List.set, oAH, wAct, wClk, wTap, List.cons_append, List.nil_append]
    refine v_aload_n X dX7_clock_70 rfl ?_
    refine v_get X (fun _ h => List.mem_cons_of_mem _ (List.mem_append_left _ (List.mem_append_left _ (List.mem_append_left _ (List.mem_append_right _ h))))) 0 rfl rfl 2 (by decide) rfl (List.mem_of_getElem? (i := 8) rfl) rfl dX7_clock_71 ?_
    refine v_get X (fun _ h => List.mem_cons_of_mem _ (List.mem_append_right _ h)) 3 rfl rfl 4 (by decide) rfl (List.mem_of_getElem? (i := 11) rfl) rfl dX7_clock_74 ?_
    refine v_iret X Y dX7_clock_77 (u := (lf, (nuV bt (rd1 bt tln)), cn5, mixI so5 so, mixI tu5 tu, mixI sp5 sp, 0)) ?_ (by rw [er] <;> rfl)
    rw [er]
    exact Or.inr ⟨by assumption, rfl, rfl⟩
  · skip
    refine v_aload_n X dX7_clock_29 rfl ?_
    refine v_aload_n X dX7_clock_30 rfl ?_
    refine v_get X (fun _ h => List.mem_cons_of_mem _ (List.mem_append_left _ (List.mem_append_left _ (List.mem_append_left _ (List.mem_append_right _ h))))) 0 rfl rfl 1 (by decide) rfl (List.mem_of_getElem? (i := 1) rfl) rfl dX7_clock_31 ?_
    refine v_get X (fun _ h => List.mem_cons_of_mem _ (List.mem_append_left _ (List.mem_append_left _ (List.mem_append_right _ h)))) 1 rfl rfl 5 (by decide) rfl (List.mem_of_getElem? (i := 4) rfl) rfl dX7_clock_34 ?_
    refine v_put X (fun _ h => List.mem_cons_of_mem _ (List.mem_append_left _ (List.mem_append_left _ (List.mem_append_left _ (List.mem_append_right _ h))))) tyX7 tyX7_ok nmX7 0 rfl rfl 10 (by decide) rfl (List.mem_of_getElem? (i := 5) rfl) rfl rfl rfl (Nat.le_of_ble_eq_true rfl) dX7_clock_37 ?_
    dsimp only [List.set, oAH, wAct, wClk, wTap, List.cons_append, List.nil_append]
    refine v_ldc X (List.mem_of_getElem? (i := 6) rfl) dX7_clock_40 (n := -1000100) (by decide) ?_
    refine v_aload_n X dX7_clock_42 rfl ?_
    refine v_get X (fun _ h => List.mem_cons_of_mem _ (List.mem_append_left _ (List.mem_append_left _ (List.mem_append_left _ (List.mem_append_right _ h))))) 0 rfl rfl 1 (by decide) rfl (List.mem_of_getElem? (i := 1) rfl) rfl dX7_clock_43 ?_
    refine v_get X (fun _ h => List.mem_cons_of_mem _ (List.mem_append_left _ (List.mem_append_left _ (List.mem_append_right _ h)))) 1 rfl rfl 3 (by decide) rfl (List.mem_of_getElem? (i := 7) rfl) rfl dX7_clock_46 ?_
    refine v_isub X dX7_clock_49 ?_
    refine v_iret X Y dX7_clock_50 (u := (tf5, mk, cn, so, tu, sp, ln)) ?_ (by rw [er] <;> rfl)
    rw [er]
    exact Or.inl ⟨by assumption, rfl, rfl⟩

