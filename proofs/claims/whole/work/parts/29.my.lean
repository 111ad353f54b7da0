theorem hdX6_isWord : yX6_isWord.cls = RX6 ∧ yX6_isWord.cls ≠ "java/lang/invoke/MethodHandle" ∧ yX6_isWord.cls ≠ "java/lang/invoke/VarHandle" ∧ (parseMethodDescriptor yX6_isWord.desc).map (fun d => d.parameters.length) = some 1 := ⟨rfl, by decide +kernel, by decide +kernel, by decide +kernel⟩
set_option maxHeartbeats 4000000 in
set_option maxRecDepth 100000 in
theorem c_X6_isWord {g : Gx} {a a1 : Nat} {bt : Nat → Int} {tln tk fm tt tf : Int} {i : Nat} (hi : i < 7) (hbt : Bd 0 255 bt) (htl : 0 ≤ tln ∧ tln ≤ 200) (hpi : piOK bt tln (tk, fm, tt, tf)) : CtE g yX6_isWord wsX6_isWord 4 85 [.ref a, .ref (g.2.2.2.2.1 i)] (wTap g a a1 bt tln tk fm tt tf) (pI (isW bt i (tk, fm, tt, tf))) (wTap g a a1 bt tln tk fm tt tf) := by
  refine m_go (cc := cX6_isWord) (nL := 3) (by decide +kernel) rfl (Nat.le_of_ble_eq_true rfl) (fun x X Y hnm => ?_)
  refine v_eq (lo2 := [some (.ref a), some (.ref (g.2.2.2.2.1 i)), none]) rfl rfl rfl rfl ?_
  have hok : tkOK bt tln tk fm tt := hpi.1
  have hfm : 0 ≤ fm ∧ fm ≤ tt := by have q := hok.1; omega
  have htt : 0 ≤ tt ∧ tt ≤ tln := by have q := hok.1; omega
  have hk : 0 ≤ tk ∧ tk ≤ 4 := hpi.2.1
  have hf : 0 ≤ tf ∧ tf ≤ 3 := hpi.2.2
  have h5 := lenQ_5 hi
  refine v_aload_n X dX6_isWord_0 rfl ?_
  refine v_get X (fun _ h => List.mem_cons_of_mem _ (List.mem_append_right _ h)) 0 rfl rfl 2 (by decide) rfl (List.mem_of_getElem? (i := 1) rfl) rfl dX6_isWord_1 ?_
  refine v_iconst X dX6_isWord_4 ?_
  refine v_icmp_ne (tgt := 24) X dX6_isWord_5 (by decide) (by omega) (by omega) (fun c1 => ?_) (fun c1 => ?_)
  · skip
    refine v_iconst X dX6_isWord_24 ?_
    exact v_zret X Y dX6_isWord_25 (by first | decide | omega | (split <;> omega)) (u := ()) (by
        refine (pI_0 (fun z => ?_)).symm
        have z1 : tk = 1 := z.1
        have z2 : tt - fm = ((lenQ.getD i 0 : Nat) : Int) := z.2.1
        omega) (by rfl)
  · skip
    refine v_aload_n X dX6_isWord_8 rfl ?_
    refine v_get X (fun _ h => List.mem_cons_of_mem _ (List.mem_append_right _ h)) 0 rfl rfl 4 (by decide) rfl (List.mem_of_getElem? (i := 2) rfl) rfl dX6_isWord_9 ?_
    refine v_aload_n X dX6_isWord_12 rfl ?_
    refine v_get X (fun _ h => List.mem_cons_of_mem _ (List.mem_append_right _ h)) 0 rfl rfl 3 (by decide) rfl (List.mem_of_getElem? (i := 3) rfl) rfl dX6_isWord_13 ?_
    refine v_isub X dX6_isWord_16 ?_
    refine v_aload_n X dX6_isWord_17 rfl ?_
    refine res_E X (run_VT X i hi (c_J0_length (g := g) (i := i) (by first | assumption | omega)) gX6_isWord_J0_length_8abf5 rfl hdJ0_length_8abf5 ⟨(Nat.le_of_ble_eq_true rfl), (Nat.le_of_ble_eq_true rfl)⟩ ⟨(Nat.le_of_ble_eq_true rfl), (Nat.le_of_ble_eq_true rfl)⟩ [] rfl rfl rfl rfl (by simp [Value.category]) dX6_isWord_18) [] rfl rfl ?_
    refine v_icmp_eq (tgt := 26) X dX6_isWord_21 (by decide) (by omega) (by omega) (fun c2 => ?_) (fun c2 => ?_)
    · skip
      refine v_iconst X dX6_isWord_26 ?_
      refine v_istore_n X dX6_isWord_27 2 rfl (by decide) rfl ?_
      dsimp only [List.set]
      have L28 : ∀ (nf : Nat) (j : Int) (h1 : 0 ≤ j ∧ j ≤ ((lenQ.getD i 0 : Nat) : Int)) (h2 : ∀ q : Int, 0 ≤ q → q < j → bt (fm + q).toNat = chQ i q) (_ : (((lenQ.getD i 0 : Nat) : Int) - j).toNat < nf), V g x 0 0 (wTap g a a1 bt tln tk fm tt tf) [some (.ref a), some (.ref (g.2.2.2.2.1 i)), some (.int (iI j))] 28 [] := by
        intro nf
        induction nf with
        | zero => intro j h1 h2 hmu; exact absurd hmu (Nat.not_lt_zero _)
        | succ nf ih28 =>
          intro j h1 h2 hmu
          refine v_iload_n X dX6_isWord_28 rfl ?_
          refine v_aload_n X dX6_isWord_29 rfl ?_
          refine res_E X (run_VT X i hi (c_J0_length (g := g) (i := i) (by first | assumption | omega)) gX6_isWord_J0_length_8abf5 rfl hdJ0_length_8abf5 ⟨(Nat.le_of_ble_eq_true rfl), (Nat.le_of_ble_eq_true rfl)⟩ ⟨(Nat.le_of_ble_eq_true rfl), (Nat.le_of_ble_eq_true rfl)⟩ [] rfl rfl rfl rfl (by simp [Value.category]) dX6_isWord_30) [] rfl rfl ?_
          refine v_icmp_ge (tgt := 62) X dX6_isWord_33 (by decide) (by omega) (by omega) (fun c3 => ?_) (fun c3 => ?_)
          · skip
            refine v_iconst X dX6_isWord_62 ?_
            exact v_zret X Y dX6_isWord_63 (by first | decide | omega | (split <;> omega)) (u := ()) (by
                refine (pI_1 ⟨?_, ?_, ?_⟩).symm
                · show tk = 1
                  omega
                · show tt - fm = ((lenQ.getD i 0 : Nat) : Int)
                  omega
                · intro q g1 g2
                  exact h2 q g1 (by omega)) (by rfl)
          · skip
            refine v_aload_n X dX6_isWord_36 rfl ?_
            refine v_aload_n X dX6_isWord_37 rfl ?_
            refine v_get X (fun _ h => List.mem_cons_of_mem _ (List.mem_append_right _ h)) 0 rfl rfl 3 (by decide) rfl (List.mem_of_getElem? (i := 3) rfl) rfl dX6_isWord_38 ?_
            refine v_iload_n X dX6_isWord_41 rfl ?_
            refine v_iadd X dX6_isWord_42 ?_
            have q1 := atI_bd (cn := tln) (h := fm + j) hbt (by decide) (by decide)
            have q2 := chQ_bd hi (show 0 ≤ j by omega) (show j < ((lenQ.getD i 0 : Nat) : Int) by omega)
            have q3 : atI tln bt (fm + j) = bt (fm + j).toNat := if_pos (by omega)
            refine res_E X (run_V X (c_X6_at (g := g) (by first | assumption | omega) (by first | assumption | omega) (by first | assumption | omega)) gX6_isWord_X6_at rfl hdX6_at ⟨(Nat.le_of_ble_eq_true rfl), (Nat.le_of_ble_eq_true rfl)⟩ ⟨(Nat.le_of_ble_eq_true rfl), (Nat.le_of_ble_eq_true rfl)⟩ 0 rfl rfl rfl [0, 1] rfl rfl rfl rfl (by simp [Value.category]) dX6_isWord_43) [0, 1] rfl rfl ?_
            refine v_aload_n X dX6_isWord_46 rfl ?_
            refine v_iload_n X dX6_isWord_47 rfl ?_
            refine res_E X (run_VT X i hi (c_J0_charAt (g := g) (i := i) (by first | assumption | omega) (by first | assumption | omega) (by first | assumption | omega)) gX6_isWord_J0_charAt_5068e rfl hdJ0_charAt_5068e ⟨(Nat.le_of_ble_eq_true rfl), (Nat.le_of_ble_eq_true rfl)⟩ ⟨(Nat.le_of_ble_eq_true rfl), (Nat.le_of_ble_eq_true rfl)⟩ [] rfl rfl rfl rfl (by simp [Value.category]) dX6_isWord_48) [] rfl rfl ?_
            refine v_icmp_eq (tgt := 56) X dX6_isWord_51 (by decide) (by omega) (by omega) (fun c4 => ?_) (fun c4 => ?_)
            · skip
              refine v_iinc X dX6_isWord_56 rfl (by decide) rfl ?_
              dsimp only [List.set]
              refine v_goto (tgt := 28) X dX6_isWord_59 (by decide) ?_
              exact ih28 _ (by omega) (by
                  intro q g1 g2
                  by_cases e : q = j
                  · subst e; omega
                  · exact h2 q g1 (by omega)) (by omega)
            · skip
              refine v_iconst X dX6_isWord_54 ?_
              exact v_zret X Y dX6_isWord_55 (by first | decide | omega | (split <;> omega)) (u := ()) (by
                  refine (pI_0 (fun z => ?_)).symm
                  have z1 : bt (fm + j).toNat = chQ i j := z.2.2 j (by omega) (by omega)
                  omega) (by rfl)
      exact L28 _ _ (by omega) (by intro q g1 g2; exfalso; omega) (Nat.lt_succ_self _)
    · skip
      refine v_iconst X dX6_isWord_24 ?_
      exact v_zret X Y dX6_isWord_25 (by first | decide | omega | (split <;> omega)) (u := ()) (by
          refine (pI_0 (fun z => ?_)).symm
          have z1 : tk = 1 := z.1
          have z2 : tt - fm = ((lenQ.getD i 0 : Nat) : Int) := z.2.1
          omega) (by rfl)

theorem hdX6_takeWord : yX6_takeWord.cls = RX6 ∧ yX6_takeWord.cls ≠ "java/lang/invoke/MethodHandle" ∧ yX6_takeWord.cls ≠ "java/lang/invoke/VarHandle" ∧ (parseMethodDescriptor yX6_takeWord.desc).map (fun d => d.parameters.length) = some 1 := ⟨rfl, by decide +kernel, by decide +kernel, by decide +kernel⟩
set_option maxHeartbeats 4000000 in
set_option maxRecDepth 100000 in
theorem c_X6_takeWord {g : Gx} {a a1 : Nat} {bt : Nat → Int} {tln tk fm tt tf : Int} {i : Nat} (hi : i < 7) (hbt : Bd 0 255 bt) (htl : 0 ≤ tln ∧ tln ≤ 200) (hpi : piOK bt tln (tk, fm, tt, tf)) : CtW g yX6_takeWord wsX6_takeWord 5 107 [.ref a, .ref (g.2.2.2.2.1 i)] (wTap g a a1 bt tln tk fm tt tf) (wTap g a a1 bt tln ((wdC bt tln i (tk, fm, tt, tf)).1) ((wdC bt tln i (tk, fm, tt, tf)).2.1) ((wdC bt tln i (tk, fm, tt, tf)).2.2.1) ((wdC bt tln i (tk, fm, tt, tf)).2.2.2)) := by
  refine m_go (cc := cX6_takeWord) (nL := 2) (by decide +kernel) rfl (Nat.le_of_ble_eq_true rfl) (fun x X Y hnm => ?_)
  refine v_eq (lo2 := [some (.ref a), some (.ref (g.2.2.2.2.1 i))]) rfl rfl rfl rfl ?_
  have hok : tkOK bt tln tk fm tt := hpi.1
  have hfm : 0 ≤ fm ∧ fm ≤ tt := by have q := hok.1; omega
  have htt : 0 ≤ tt ∧ tt ≤ tln := by have q := hok.1; omega
  have hk : 0 ≤ tk ∧ tk ≤ 4 := hpi.2.1
  have hf : 0 ≤ tf ∧ tf ≤ 3 := hpi.2.2
  refine v_aload_n X dX6_takeWord_0 rfl ?_
  refine v_aload_n X dX6_takeWord_1 rfl ?_
  refine v_aload_n X dX6_takeWord_2 rfl ?_
  refine res_E X (run_V X (c_X6_isWord (g := g) (i := i) (by first | assumption | omega) (by first | assumption | omega) (by first | assumption | omega) (by first | assumption | omega)) gX6_takeWord_X6_isWord rfl hdX6_isWord ⟨(Nat.le_of_ble_eq_true rfl), (Nat.le_of_ble_eq_true rfl)⟩ ⟨(Nat.le_of_ble_eq_true rfl), (Nat.le_of_ble_eq_true rfl)⟩ 0 rfl rfl rfl [0, 1] rfl rfl rfl rfl (by simp [Value.category]) dX6_takeWord_3) [0, 1] rfl rfl ?_
  refine v_iconst X dX6_takeWord_6 ?_
  have q1 : 0 ≤ pI (isW bt i (tk, fm, tt, tf)) ∧ pI (isW bt i (tk, fm, tt, tf)) ≤ 1 := by rcases pI_or (isW bt i (tk, fm, tt, tf)) with q | q <;> omega
  refine res_W X (run_V X (c_X6_pass (g := g) (by first | assumption | omega) (by first | assumption | omega) (by first | assumption | omega) (by first | assumption | omega) (by first | assumption | omega)) gX6_takeWord_X6_pass rfl hdX6_pass ⟨(Nat.le_of_ble_eq_true rfl), (Nat.le_of_ble_eq_true rfl)⟩ ⟨(Nat.le_of_ble_eq_true rfl), (Nat.le_of_ble_eq_true rfl)⟩ 0 rfl rfl rfl [0, 1] rfl rfl rfl rfl (by simp [Value.category]) dX6_takeWord_7) [0, 1] rfl rfl rfl ?_
  dsimp only [patch, List.set, wTap]
  exact v_vret X Y dX6_takeWord_10 (u := ()) trivial (by rfl)

theorem hdX6_sortHere : yX6_sortHere.cls = RX6 ∧ yX6_sortHere.cls ≠ "java/lang/invoke/MethodHandle" ∧ yX6_sortHere.cls ≠ "java/lang/invoke/VarHandle" ∧ (parseMethodDescriptor yX6_sortHere.desc).map (fun d => d.parameters.length) = some 0 := ⟨rfl, by decide +kernel, by decide +kernel, by decide +kernel⟩
set_option maxHeartbeats 4000000 in
set_option maxRecDepth 100000 in
theorem c_X6_sortHere {g : Gx} {a a1 : Nat} {bt : Nat → Int} {tln tk fm tt tf : Int}  (hbt : Bd 0 255 bt) (htl : 0 ≤ tln ∧ tln ≤ 200) (hpi : piOK bt tln (tk, fm, tt, tf)) : CtE g yX6_sortHere wsX6_sortHere 5 107 [.ref a] (wTap g a a1 bt tln tk fm tt tf) (sorI bt (tk, fm, tt, tf)) (wTap g a a1 bt tln tk fm tt tf) := by
  refine m_go (cc := cX6_sortHere) (nL := 1) (by decide +kernel) rfl (Nat.le_of_ble_eq_true rfl) (fun x X Y hnm => ?_)
  refine v_eq (lo2 := [some (.ref a)]) rfl rfl rfl rfl ?_
  refine v_aload_n X dX6_sortHere_0 rfl ?_
  refine v_ldcS X 2 rfl dX6_sortHere_1 ?_
  refine res_E X (run_V X (c_X6_isWord (g := g) (i := 2) (by first | assumption | omega) (by first | assumption | omega) (by first | assumption | omega) (by first | assumption | omega)) gX6_sortHere_X6_isWord rfl hdX6_isWord ⟨(Nat.le_of_ble_eq_true rfl), (Nat.le_of_ble_eq_true rfl)⟩ ⟨(Nat.le_of_ble_eq_true rfl), (Nat.le_of_ble_eq_true rfl)⟩ 0 rfl rfl rfl [0, 1] rfl rfl rfl rfl (by simp [Value.category]) dX6_sortHere_3) [0, 1] rfl rfl ?_
  refine v_ifp_eq (tgt := 11) X dX6_sortHere_6 (by decide) (fun c1 => ?_) (fun c1 => ?_)
  · skip
    refine v_aload_n X dX6_sortHere_11 rfl ?_
    refine v_ldcS X 3 rfl dX6_sortHere_12 ?_
    refine res_E X (run_V X (c_X6_isWord (g := g) (i := 3) (by first | assumption | omega) (by first | assumption | omega) (by first | assumption | omega) (by first | assumption | omega)) gX6_sortHere_X6_isWord rfl hdX6_isWord ⟨(Nat.le_of_ble_eq_true rfl), (Nat.le_of_ble_eq_true rfl)⟩ ⟨(Nat.le_of_ble_eq_true rfl), (Nat.le_of_ble_eq_true rfl)⟩ 0 rfl rfl rfl [0, 1] rfl rfl rfl rfl (by simp [Value.category]) dX6_sortHere_14) [0, 1] rfl rfl ?_
    refine v_ifp_eq (tgt := 22) X dX6_sortHere_17 (by decide) (fun c2 => ?_) (fun c2 => ?_)
    · skip
      refine v_aload_n X dX6_sortHere_22 rfl ?_
      refine v_ldcS X 4 rfl dX6_sortHere_23 ?_
      refine res_E X (run_V X (c_X6_isWord (g := g) (i := 4) (by first | assumption | omega) (by first | assumption | omega) (by first | assumption | omega) (by first | assumption | omega)) gX6_sortHere_X6_isWord rfl hdX6_isWord ⟨(Nat.le_of_ble_eq_true rfl), (Nat.le_of_ble_eq_true rfl)⟩ ⟨(Nat.le_of_ble_eq_true rfl), (Nat.le_of_ble_eq_true rfl)⟩ 0 rfl rfl rfl [0, 1] rfl rfl rfl rfl (by simp [Value.category]) dX6_sortHere_25) [0, 1] rfl rfl ?_
      refine v_ifp_eq (tgt := 33) X dX6_sortHere_28 (by decide) (fun c3 => ?_) (fun c3 => ?_)
      · skip
        refine v_aload_n X dX6_sortHere_33 rfl ?_
        refine v_ldcS X 5 rfl dX6_sortHere_34 ?_
        refine res_E X (run_V X (c_X6_isWord (g := g) (i := 5) (by first | assumption | omega) (by first | assumption | omega) (by first | assumption | omega) (by first | assumption | omega)) gX6_sortHere_X6_isWord rfl hdX6_isWord ⟨(Nat.le_of_ble_eq_true rfl), (Nat.le_of_ble_eq_true rfl)⟩ ⟨(Nat.le_of_ble_eq_true rfl), (Nat.le_of_ble_eq_true rfl)⟩ 0 rfl rfl rfl [0, 1] rfl rfl rfl rfl (by simp [Value.category]) dX6_sortHere_36) [0, 1] rfl rfl ?_
        refine v_ifp_eq (tgt := 44) X dX6_sortHere_39 (by decide) (fun c4 => ?_) (fun c4 => ?_)
        · skip
          refine v_aload_n X dX6_sortHere_44 rfl ?_
          refine v_ldcS X 6 rfl dX6_sortHere_45 ?_
          refine res_E X (run_V X (c_X6_isWord (g := g) (i := 6) (by first | assumption | omega) (by first | assumption | omega) (by first | assumption | omega) (by first | assumption | omega)) gX6_sortHere_X6_isWord rfl hdX6_isWord ⟨(Nat.le_of_ble_eq_true rfl), (Nat.le_of_ble_eq_true rfl)⟩ ⟨(Nat.le_of_ble_eq_true rfl), (Nat.le_of_ble_eq_true rfl)⟩ 0 rfl rfl rfl [0, 1] rfl rfl rfl rfl (by simp [Value.category]) dX6_sortHere_47) [0, 1] rfl rfl ?_
          refine v_ifp_eq (tgt := 57) X dX6_sortHere_50 (by decide) (fun c5 => ?_) (fun c5 => ?_)
          · skip
            refine v_iconst X dX6_sortHere_57 ?_
            exact v_iret X Y dX6_sortHere_58 (u := ()) (by
                first
                | (show (5 : Int) = sorI bt (tk, fm, tt, tf); unfold sorI; rw [if_neg (fun z => c1 (pB_iff.mp z)), if_neg (fun z => c2 (pB_iff.mp z)), if_neg (fun z => c3 (pB_iff.mp z)), if_neg (fun z => c4 (pB_iff.mp z)), if_pos (pB_iff.mpr c5)]; done)
                | (show (0 : Int) = sorI bt (tk, fm, tt, tf); unfold sorI; rw [if_neg (fun z => c1 (pB_iff.mp z)), if_neg (fun z => c2 (pB_iff.mp z)), if_neg (fun z => c3 (pB_iff.mp z)), if_neg (fun z => c4 (pB_iff.mp z)), if_neg (fun z => c5 (pB_iff.mp z))])) (by rfl)
          · skip
            refine v_iconst X dX6_sortHere_53 ?_
            refine v_goto (tgt := 58) X dX6_sortHere_54 (by decide) ?_
            exact v_iret X Y dX6_sortHere_58 (u := ()) (by
                first
                | (show (5 : Int) = sorI bt (tk, fm, tt, tf); unfold sorI; rw [if_neg (fun z => c1 (pB_iff.mp z)), if_neg (fun z => c2 (pB_iff.mp z)), if_neg (fun z => c3 (pB_iff.mp z)), if_neg (fun z => c4 (pB_iff.mp z)), if_pos (pB_iff.mpr c5)]; done)
                | (show (0 : Int) = sorI bt (tk, fm, tt, tf); unfold sorI; rw [if_neg (fun z => c1 (pB_iff.mp z)), if_neg (fun z => c2 (pB_iff.mp z)), if_neg (fun z => c3 (pB_iff.mp z)), if_neg (fun z => c4 (pB_iff.mp z)), if_neg (fun z => c5 (pB_iff.mp z))])) (by rfl)
        · skip
          refine v_iconst X dX6_sortHere_42 ?_
          exact v_iret X Y dX6_sortHere_43 (u := ()) (by
              show (4 : Int) = sorI bt (tk, fm, tt, tf)
              unfold sorI
              rw [if_neg (fun z => c1 (pB_iff.mp z)), if_neg (fun z => c2 (pB_iff.mp z)), if_neg (fun z => c3 (pB_iff.mp z)), if_pos (pB_iff.mpr c4)]) (by rfl)
      · skip
        refine v_iconst X dX6_sortHere_31 ?_
        exact v_iret X Y dX6_sortHere_32 (u := ()) (by
            show (3 : Int) = sorI bt (tk, fm, tt, tf)
            unfold sorI
            rw [if_neg (fun z => c1 (pB_iff.mp z)), if_neg (fun z => c2 (pB_iff.mp z)), if_pos (pB_iff.mpr c3)]) (by rfl)
    · skip
      refine v_iconst X dX6_sortHere_20 ?_
      exact v_iret X Y dX6_sortHere_21 (u := ()) (by
          show (2 : Int) = sorI bt (tk, fm, tt, tf)
          unfold sorI
          rw [if_neg (fun z => c1 (pB_iff.mp z)), if_pos (pB_iff.mpr c2)]) (by rfl)
  · skip
    refine v_iconst X dX6_sortHere_9 ?_
    exact v_iret X Y dX6_sortHere_10 (u := ()) (by
        show (1 : Int) = sorI bt (tk, fm, tt, tf)
        unfold sorI
        rw [if_pos (pB_iff.mpr c1)]) (by rfl)

theorem hdX6_takeSort : yX6_takeSort.cls = RX6 ∧ yX6_takeSort.cls ≠ "java/lang/invoke/MethodHandle" ∧ yX6_takeSort.cls ≠ "java/lang/invoke/VarHandle" ∧ (parseMethodDescriptor yX6_takeSort.desc).map (fun d => d.parameters.length) = some 0 := ⟨rfl, by decide +kernel, by decide +kernel, by decide +kernel⟩
set_option maxHeartbeats 4000000 in
set_option maxRecDepth 100000 in
theorem c_X6_takeSort {g : Gx} {a a1 : Nat} {bt : Nat → Int} {tln tk fm tt tf : Int}  (hbt : Bd 0 255 bt) (htl : 0 ≤ tln ∧ tln ≤ 200) (hpi : piOK bt tln (tk, fm, tt, tf)) : CtE g yX6_takeSort wsX6_takeSort 6 127 [.ref a] (wTap g a a1 bt tln tk fm tt tf) (sorI bt (tk, fm, tt, tf)) (wTap g a a1 bt tln ((soC bt tln (tk, fm, tt, tf)).1) ((soC bt tln (tk, fm, tt, tf)).2.1) ((soC bt tln (tk, fm, tt, tf)).2.2.1) ((soC bt tln (tk, fm, tt, tf)).2.2.2)) := by
  refine m_go (cc := cX6_takeSort) (nL := 2) (by decide +kernel) rfl (Nat.le_of_ble_eq_true rfl) (fun x X Y hnm => ?_)
  refine v_eq (lo2 := [some (.ref a), none]) rfl rfl rfl rfl ?_
  have hok : tkOK bt tln tk fm tt := hpi.1
  have hfm : 0 ≤ fm ∧ fm ≤ tt := by have q := hok.1; omega
  have htt : 0 ≤ tt ∧ tt ≤ tln := by have q := hok.1; omega
  have hk : 0 ≤ tk ∧ tk ≤ 4 := hpi.2.1
  have hf : 0 ≤ tf ∧ tf ≤ 3 := hpi.2.2
  have qs := sorI_bd bt (tk, fm, tt, tf)
  refine v_aload_n X dX6_takeSort_0 rfl ?_
  refine res_E X (run_V X (c_X6_sortHere (g := g) (by first | assumption | omega) (by first | assumption | omega) (by first | assumption | omega)) gX6_takeSort_X6_sortHere rfl hdX6_sortHere ⟨(Nat.le_of_ble_eq_true rfl), (Nat.le_of_ble_eq_true rfl)⟩ ⟨(Nat.le_of_ble_eq_true rfl), (Nat.le_of_ble_eq_true rfl)⟩ 0 rfl rfl rfl [0, 1] rfl rfl rfl rfl (by simp [Value.category]) dX6_takeSort_1) [0, 1] rfl rfl ?_
  refine v_istore_n X dX6_takeSort_4 1 rfl (by decide) rfl ?_
  dsimp only [List.set]
  refine v_aload_n X dX6_takeSort_5 rfl ?_
  refine v_iload_n X dX6_takeSort_6 rfl ?_
  refine v_if_eq (tgt := 14) X dX6_takeSort_7 (by decide) (by omega) (fun c1 => ?_) (fun c1 => ?_)
  · skip
    refine v_iconst X dX6_takeSort_14 ?_
    refine v_iconst X dX6_takeSort_15 ?_
    refine res_W X (run_V X (c_X6_pass (g := g) (by first | assumption | omega) (by first | assumption | omega) (by first | assumption | omega) (by first | assumption | omega) (by first | assumption | omega)) gX6_takeSort_X6_pass rfl hdX6_pass ⟨(Nat.le_of_ble_eq_true rfl), (Nat.le_of_ble_eq_true rfl)⟩ ⟨(Nat.le_of_ble_eq_true rfl), (Nat.le_of_ble_eq_true rfl)⟩ 0 rfl rfl rfl [0, 1] rfl rfl rfl rfl (by simp [Value.category]) dX6_takeSort_16) [0, 1] rfl rfl rfl ?_
    dsimp only [patch, List.set, wTap]
    refine v_iload_n X dX6_takeSort_19 rfl ?_
    exact v_iret X Y dX6_takeSort_20 (u := ()) (by rfl) (by unfold soC; (first | rw [if_pos (show sorI bt (tk, fm, tt, tf) ≠ 0 by assumption)] | rw [if_neg (show ¬ sorI bt (tk, fm, tt, tf) ≠ 0 by omega)]) <;> rfl)
  · skip
    refine v_iconst X dX6_takeSort_10 ?_
    refine v_goto (tgt := 15) X dX6_takeSort_11 (by decide) ?_
    refine v_iconst X dX6_takeSort_15 ?_
    refine res_W X (run_V X (c_X6_pass (g := g) (by first | assumption | omega) (by first | assumption | omega) (by first | assumption | omega) (by first | assumption | omega) (by first | assumption | omega)) gX6_takeSort_X6_pass rfl hdX6_pass ⟨(Nat.le_of_ble_eq_true rfl), (Nat.le_of_ble_eq_true rfl)⟩ ⟨(Nat.le_of_ble_eq_true rfl), (Nat.le_of_ble_eq_true rfl)⟩ 0 rfl rfl rfl [0, 1] rfl rfl rfl rfl (by simp [Value.category]) dX6_takeSort_16) [0, 1] rfl rfl rfl ?_
    dsimp only [patch, List.set, wTap]
    refine v_iload_n X dX6_takeSort_19 rfl ?_
    exact v_iret X Y dX6_takeSort_20 (u := ()) (by rfl) (by unfold soC; (first | rw [if_pos (show sorI bt (tk, fm, tt, tf) ≠ 0 by assumption)] | rw [if_neg (show ¬ sorI bt (tk, fm, tt, tf) ≠ 0 by omega)]) <;> rfl)


set_option maxHeartbeats 4000000 in
theorem c_X6_takeNumberC {g : Gx} {a a1 : Nat} {bt : Nat → Int} {tln tk fm tt tf : Int} {l m : Int} (hbt : Bd 0 255 bt) (htl : 0 ≤ tln ∧ tln ≤ 200) (hpi : piOK bt tln (tk, fm, tt, tf)) (hl : R32 l) (hm : R32 m) : CtE g yX6_takeNumber wsX6_takeNumber 3 63 [.ref a, .int (iI l), .int (iI m)] (wTap g a a1 bt tln tk fm tt tf) (nuV bt (tk, fm, tt, tf)) (wTap g a a1 bt tln ((nuC bt tln l m (tk, fm, tt, tf)).1) ((nuC bt tln l m (tk, fm, tt, tf)).2.1) ((nuC bt tln l m (tk, fm, tt, tf)).2.2.1) ((nuC bt tln l m (tk, fm, tt, tf)).2.2.2)) := c_X6_takeNumber hbt htl hpi.1 (by have q : 0 ≤ tk ∧ tk ≤ 4 := hpi.2.1; omega) (by have q : 0 ≤ tf ∧ tf ≤ 3 := hpi.2.2; omega) hl hm
theorem c_X6_takeSignC {g : Gx} {a a1 : Nat} {bt : Nat → Int} {tln tk fm tt tf : Int} (hbt : Bd 0 255 bt) (htl : 0 ≤ tln ∧ tln ≤ 200) (hpi : piOK bt tln (tk, fm, tt, tf)) : CtW g yX6_takeSign wsX6_takeSign 3 63 [.ref a] (wTap g a a1 bt tln tk fm tt tf) (wTap g a a1 bt tln ((snC bt tln (tk, fm, tt, tf)).1) ((snC bt tln (tk, fm, tt, tf)).2.1) ((snC bt tln (tk, fm, tt, tf)).2.2.1) ((snC bt tln (tk, fm, tt, tf)).2.2.2)) := c_X6_takeSign hbt htl (by have q : 0 ≤ fm ∧ fm ≤ tt ∧ tt ≤ tln := hpi.1.1; omega) (by have q : 0 ≤ tk ∧ tk ≤ 4 := hpi.2.1; omega) (by have q : 0 ≤ tf ∧ tf ≤ 3 := hpi.2.2; omega)

