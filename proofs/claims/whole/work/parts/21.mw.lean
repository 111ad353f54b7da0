theorem hdX8_readHand : yX8_readHand.cls = RX8 ∧ yX8_readHand.cls ≠ "java/lang/invoke/MethodHandle" ∧ yX8_readHand.cls ≠ "java/lang/invoke/VarHandle" ∧ (parseMethodDescriptor yX8_readHand.desc).map (fun d => d.parameters.length) = some 0 := ⟨rfl, by decide +kernel, by decide +kernel, by decide +kernel⟩
set_option maxHeartbeats 4000000 in
set_option maxRecDepth 100000 in
theorem c_X8_readHand {g : Gx} {A : Nat → Nat} {th sq ac td lt ln cu tk sa ti ft fp le lf tr : Int} {fl fm fi fc ff fw ftp fk fe fr : Nat → Int}  (hftp : Bd 0 255 ftp) (hln : 0 ≤ ln ∧ ln ≤ 200) (hok : pmOK ftp ln (cu, tk, sa, ti, ft, fp)) (hff : Bd 0 999 ff) (hcn : 0 ≤ ff 1 ∧ ff 1 ≤ 4) : CtV (S := (Nat → Int) × PM) g yX8_readHand wsX8_readHand 4 86 [.ref (A 0)] (wMod g A th sq ac td lt ln cu tk sa ti ft fp le lf tr fl fm fi fc ff fw ftp fk fe fr) (fun u => u = (hanF ftp ln ff (cu, tk, sa, ti, ft, fp), hanM ftp ln (ff 1) (cu, tk, sa, ti, ft, fp)) ∧ pmOK ftp ln u.2) (fun u => wMod g A th sq ac td lt ln ((u.2).1) ((u.2).2.1) ((u.2).2.2.1) ((u.2).2.2.2.1) ((u.2).2.2.2.2.1) ((u.2).2.2.2.2.2) le lf tr fl fm fi fc (u.1) fw ftp fk fe fr) := by
  refine m_go (cc := cX8_readHand) (nL := 3) (by decide +kernel) rfl (Nat.le_of_ble_eq_true rfl) (fun x X Y hnm => ?_)
  refine v_eq (lo2 := [some (.ref (A 0)), none, none]) rfl rfl rfl rfl ?_
  have qk := pm_f hok
  refine v_aload_n X dX8_readHand_0 rfl ?_
  refine v_get X (fun _ h => List.mem_cons_of_mem _ (List.mem_append_right _ h)) 0 rfl rfl 6 (by decide) rfl (List.mem_of_getElem? (i := 1) rfl) rfl dX8_readHand_1 ?_
  refine v_iconst X dX8_readHand_4 ?_
  refine v_iald X 5 rfl (by omega) (by omega) (by omega) dX8_readHand_5 hff (fun zz ezz lzz uzz => ?_)
  rw [show zz = ff 1 from ezz]
  refine v_iconst X dX8_readHand_6 ?_
  refine v_icmp_ne (tgt := 15) X dX8_readHand_7 (by decide) (by omega) (by omega) (fun c2 => ?_) (fun c2 => ?_)
  · skip
    refine v_aload_n X dX8_readHand_15 rfl ?_
    refine v_iconst X dX8_readHand_16 ?_
    refine res_V X (run_V X (c_X8_must (g := g) (by first | assumption | omega) (by first | assumption | omega) (by first | assumption | exact pmOK_mbd (by decide) hok) (by first | assumption | omega)) gX8_readHand_X8_must rfl hdX8_must ⟨(Nat.le_of_ble_eq_true rfl), (Nat.le_of_ble_eq_true rfl)⟩ ⟨(Nat.le_of_ble_eq_true rfl), (Nat.le_of_ble_eq_true rfl)⟩ 0 rfl rfl rfl [0, 1, 2, 3, 4, 5, 6, 7, 8, 9, 10] rfl rfl rfl rfl (by simp [Value.category]) dX8_readHand_17) [0, 1, 2, 3, 4, 5, 6, 7, 8, 9, 10] rfl rfl (fun _ => rfl) (fun u1 hu1 => ?_)
    obtain ⟨cu1, tk1, sa1, ti1, ft1, fp1⟩ := u1
    dsimp only [patch, List.set, wMod]
    have ok1 := hu1.2
    have e1 : (cu1, tk1, sa1, ti1, ft1, fp1) = hanS ftp ln (ff 1) (cu, tk, sa, ti, ft, fp) := by
      rw [hu1.1]
      unfold hanS
      first
      | (rw [if_pos (by assumption)]; done)
      | (rw [if_pos (by assumption)]; rfl)
      | (rw [if_neg (by assumption)]; done)
      | (rw [if_neg (by assumption)]; rfl)
    refine v_aload_n X dX8_readHand_20 rfl ?_
    refine res_L X (run_V X (c_X8_name (g := g) (by first | assumption | omega) (by first | assumption | omega) (by first | assumption | omega)) gX8_readHand_X8_name rfl hdX8_name ⟨(Nat.le_of_ble_eq_true rfl), (Nat.le_of_ble_eq_true rfl)⟩ ⟨(Nat.le_of_ble_eq_true rfl), (Nat.le_of_ble_eq_true rfl)⟩ 0 rfl rfl rfl [0, 1, 2, 3, 4, 5, 6, 7, 8, 9, 10] rfl rfl rfl rfl (by simp [Value.category]) dX8_readHand_21) [0, 1, 2, 3, 4, 5, 6, 7, 8, 9, 10] rfl rfl (fun _ => rfl) (fun r1 u5 hr1 => ?_)
    dsimp only [patch, List.set, wMod]
    subst hr1
    refine res_E X (run_S X (c_X8_kindBy (g := g) (by exact namF_r hftp)) gX8_readHand_X8_kindBy rfl hdX8_kindBy.2 ⟨(Nat.le_of_ble_eq_true rfl), (Nat.le_of_ble_eq_true rfl)⟩ ⟨(Nat.le_of_ble_eq_true rfl), (Nat.le_of_ble_eq_true rfl)⟩ [] rfl rfl rfl rfl (by simp [Value.category]) dX8_readHand_24) [] rfl rfl ?_
    rw [show kndI (namF ftp (cu1, tk1, sa1, ti1, ft1, fp1)) = hanN ftp ln (ff 1) (cu, tk, sa, ti, ft, fp) by unfold hanN; rw [← e1]]
    have kq := kndI_or (namF ftp (hanS ftp ln (ff 1) (cu, tk, sa, ti, ft, fp)))
    have kr : hanN ftp ln (ff 1) (cu, tk, sa, ti, ft, fp) = kndI (namF ftp (hanS ftp ln (ff 1) (cu, tk, sa, ti, ft, fp))) := rfl
    rw [← kr] at kq
    refine v_istore_n X dX8_readHand_27 1 rfl (by decide) rfl ?_
    dsimp only [List.set]
    have J50 : ∀ (cu2 : Int) (tk2 : Int) (sa2 : Int) (ti2 : Int) (ft2 : Int) (fp2 : Int) (e2 : (cu2, tk2, sa2, ti2, ft2, fp2) = hanK ftp ln (ff 1) (cu, tk, sa, ti, ft, fp)) (ok2 : pmOK ftp ln (cu2, tk2, sa2, ti2, ft2, fp2)), V g x 0 0 (wMod g A th sq ac td lt ln (cu2) (tk2) (sa2) (ti2) (ft2) (fp2) le lf tr fl fm fi fc ff fw ftp fk fe fr) [some (.ref (A 0)), some (.int (iI (hanN ftp ln (ff 1) (cu, tk, sa, ti, ft, fp)))), none] 50 [] := by
      intro cu2 tk2 sa2 ti2 ft2 fp2 e2 ok2
      have f2 := pm_f ok2
      have v2 := numV_bd ok2
      refine v_aload_n X dX8_readHand_50 rfl ?_
      refine v_iconst X dX8_readHand_51 ?_
      refine v_bipush X dX8_readHand_52 (by decide) ?_
      refine res_I X (run_V X (c_X8_number (g := g) (by first | assumption | omega) (by first | assumption | omega) (by first | assumption | omega) (by first | assumption | omega) (by first | assumption | omega)) gX8_readHand_X8_number rfl hdX8_number ⟨(Nat.le_of_ble_eq_true rfl), (Nat.le_of_ble_eq_true rfl)⟩ ⟨(Nat.le_of_ble_eq_true rfl), (Nat.le_of_ble_eq_true rfl)⟩ 0 rfl rfl rfl [0, 1, 2, 3, 4, 5, 6, 7, 8, 9, 10] rfl rfl rfl rfl (by simp [Value.category]) dX8_readHand_54) [0, 1, 2, 3, 4, 5, 6, 7, 8, 9, 10] rfl rfl (fun _ => rfl) (fun r3 u3 hr3 => ?_)
      obtain ⟨cu3, tk3, sa3, ti3, ft3, fp3⟩ := u3
      dsimp only [patch, List.set, wMod]
      have ok3 := hr3.2.2
      have f3 := pm_f ok3
      refine v_istore_n X dX8_readHand_57 2 rfl (by decide) rfl ?_
      dsimp only [List.set]
      refine v_aload_n X dX8_readHand_58 rfl ?_
      refine res_V X (run_V X (c_X8_mustEnd (g := g) (by first | assumption | omega) (by first | assumption | omega) (by first | assumption | omega)) gX8_readHand_X8_mustEnd rfl hdX8_mustEnd ⟨(Nat.le_of_ble_eq_true rfl), (Nat.le_of_ble_eq_true rfl)⟩ ⟨(Nat.le_of_ble_eq_true rfl), (Nat.le_of_ble_eq_true rfl)⟩ 0 rfl rfl rfl [0, 1, 2, 3, 4, 5, 6, 7, 8, 9, 10] rfl rfl rfl rfl (by simp [Value.category]) dX8_readHand_59) [0, 1, 2, 3, 4, 5, 6, 7, 8, 9, 10] rfl rfl (fun _ => rfl) (fun u4 hu4 => ?_)
      obtain ⟨cu4, tk4, sa4, ti4, ft4, fp4⟩ := u4
      dsimp only [patch, List.set, wMod]
      have ok4 := hu4.2
      have f4 := pm_f ok4
      have e4 : (cu4, tk4, sa4, ti4, ft4, fp4) = hanM ftp ln (ff 1) (cu, tk, sa, ti, ft, fp) := by
        rw [hu4.1, hr3.2.1, e2]
        rfl
      have et : r3 = hanT ftp ln (ff 1) (cu, tk, sa, ti, ft, fp) := by
        rw [hr3.1, e2]
        rfl
      refine v_aload_n X dX8_readHand_62 rfl ?_
      refine v_get X (fun _ h => List.mem_cons_of_mem _ (List.mem_append_right _ h)) 0 rfl rfl 17 (by decide) rfl (List.mem_of_getElem? (i := 2) rfl) rfl dX8_readHand_63 ?_
      refine v_if_ne (tgt := 113) X dX8_readHand_66 (by decide) (by omega) (fun c9 => ?_) (fun c9 => ?_)
      · skip
        refine v_vret X Y dX8_readHand_113 (u := (hanF ftp ln ff (cu, tk, sa, ti, ft, fp), (cu4, tk4, sa4, ti4, ft4, fp4))) ?_ (by
            first
            | (rw [show hanF ftp ln ff (cu, tk, sa, ti, ft, fp) = ff by unfold hanF; rw [← e4, if_neg (by assumption)]]; done)
            | (rw [show hanF ftp ln ff (cu, tk, sa, ti, ft, fp) = ff by unfold hanF; rw [← e4, if_neg (by assumption)]]; rfl)
            | (rw [show hanF ftp ln ff (cu, tk, sa, ti, ft, fp) = updI (updI (updI ff (2 + 3 * ff 1).toNat (hanN ftp ln (ff 1) (cu, tk, sa, ti, ft, fp))) (2 + 3 * ff 1 + 1).toNat (hanT ftp ln (ff 1) (cu, tk, sa, ti, ft, fp))) 1 (ff 1 + 1) by unfold hanF; rw [← e4, if_pos (by assumption)], ← et]; rfl))
        exact ⟨by rw [← e4], ok4⟩
      · skip
        have h4 := hanM_0 hok hcn (by rw [← e4]; assumption)
        rw [← et] at h4
        refine v_aload_n X dX8_readHand_69 rfl ?_
        refine v_get X (fun _ h => List.mem_cons_of_mem _ (List.mem_append_right _ h)) 0 rfl rfl 6 (by decide) rfl (List.mem_of_getElem? (i := 1) rfl) rfl dX8_readHand_70 ?_
        refine v_iconst X dX8_readHand_73 ?_
        refine v_iconst X dX8_readHand_74 ?_
        refine v_aload_n X dX8_readHand_75 rfl ?_
        refine v_get X (fun _ h => List.mem_cons_of_mem _ (List.mem_append_right _ h)) 0 rfl rfl 6 (by decide) rfl (List.mem_of_getElem? (i := 1) rfl) rfl dX8_readHand_76 ?_
        refine v_iconst X dX8_readHand_79 ?_
        refine v_iald X 5 rfl (by omega) (by omega) (by omega) dX8_readHand_80 hff (fun z2 ez2 lz2 uz2 => ?_)
        rw [show z2 = ff 1 from ez2]
        refine v_imul X dX8_readHand_81 ?_
        refine v_iadd X dX8_readHand_82 ?_
        refine v_iload_n X dX8_readHand_83 rfl ?_
        refine v_iast X 5 rfl (by omega) (by omega) (by omega) dX8_readHand_84 ?_
        dsimp only [List.set, wMod]
        refine v_aload_n X dX8_readHand_85 rfl ?_
        refine v_get X (fun _ h => List.mem_cons_of_mem _ (List.mem_append_right _ h)) 0 rfl rfl 6 (by decide) rfl (List.mem_of_getElem? (i := 1) rfl) rfl dX8_readHand_86 ?_
        refine v_iconst X dX8_readHand_89 ?_
        refine v_iconst X dX8_readHand_90 ?_
        refine v_aload_n X dX8_readHand_91 rfl ?_
        refine v_get X (fun _ h => List.mem_cons_of_mem _ (List.mem_append_right _ h)) 0 rfl rfl 6 (by decide) rfl (List.mem_of_getElem? (i := 1) rfl) rfl dX8_readHand_92 ?_
        refine v_iconst X dX8_readHand_95 ?_
        refine v_iald X 5 rfl (by omega) (by omega) (by omega) dX8_readHand_96 (Bd_up hff (by omega) (by omega)) (fun z3 ez3 lz3 uz3 => ?_)
        rw [show z3 = ff 1 by rw [ez3, updI_e, if_neg (by omega)]; rfl]
        refine v_imul X dX8_readHand_97 ?_
        refine v_iadd X dX8_readHand_98 ?_
        refine v_iconst X dX8_readHand_99 ?_
        refine v_iadd X dX8_readHand_100 ?_
        refine v_iload_n X dX8_readHand_101 rfl ?_
        refine v_iast X 5 rfl (by omega) (by omega) (by omega) dX8_readHand_102 ?_
        dsimp only [List.set, wMod]
        refine v_aload_n X dX8_readHand_103 rfl ?_
        refine v_get X (fun _ h => List.mem_cons_of_mem _ (List.mem_append_right _ h)) 0 rfl rfl 6 (by decide) rfl (List.mem_of_getElem? (i := 1) rfl) rfl dX8_readHand_104 ?_
        refine v_iconst X dX8_readHand_107 ?_
        refine v_dup2 X dX8_readHand_108 rfl rfl ?_
        refine v_iald X 5 rfl (by omega) (by omega) (by omega) dX8_readHand_109 (Bd_up (Bd_up hff (by omega) (by omega)) (by omega) (by omega)) (fun z4 ez4 lz4 uz4 => ?_)
        rw [show z4 = ff 1 by rw [ez4, updI_e, if_neg (by omega), updI_e, if_neg (by omega)]; rfl]
        refine v_iconst X dX8_readHand_110 ?_
        refine v_iadd X dX8_readHand_111 ?_
        refine v_iast X 5 rfl (by omega) (by omega) (by omega) dX8_readHand_112 ?_
        dsimp only [List.set, wMod]
        refine v_vret X Y dX8_readHand_113 (u := (hanF ftp ln ff (cu, tk, sa, ti, ft, fp), (cu4, tk4, sa4, ti4, ft4, fp4))) ?_ (by
            first
            | (rw [show hanF ftp ln ff (cu, tk, sa, ti, ft, fp) = ff by unfold hanF; rw [← e4, if_neg (by assumption)]]; done)
            | (rw [show hanF ftp ln ff (cu, tk, sa, ti, ft, fp) = ff by unfold hanF; rw [← e4, if_neg (by assumption)]]; rfl)
            | (rw [show hanF ftp ln ff (cu, tk, sa, ti, ft, fp) = updI (updI (updI ff (2 + 3 * ff 1).toNat (hanN ftp ln (ff 1) (cu, tk, sa, ti, ft, fp))) (2 + 3 * ff 1 + 1).toNat (hanT ftp ln (ff 1) (cu, tk, sa, ti, ft, fp))) 1 (ff 1 + 1) by unfold hanF; rw [← e4, if_pos (by assumption)], ← et]; rfl))
        exact ⟨by rw [← e4], ok4⟩
    refine v_aload_n X dX8_readHand_28 rfl ?_
    refine v_get X (fun _ h => List.mem_cons_of_mem _ (List.mem_append_right _ h)) 0 rfl rfl 17 (by decide) rfl (List.mem_of_getElem? (i := 2) rfl) rfl dX8_readHand_29 ?_
    refine v_if_ne (tgt := 50) X dX8_readHand_32 (by decide) (by have := pm_f ok1; omega) (fun c13 => ?_) (fun c13 => ?_)
    · skip
      exact J50 _ _ _ _ _ _ (by
          unfold hanK
          rw [← e1]
          first
          | (rw [hu2.1, if_pos (show (cu1, tk1, sa1, ti1, ft1, fp1).2.2.2.2.1 = 0 by assumption)]; first | rw [if_pos (by assumption)] | rw [if_neg (by assumption)])
          | (rw [if_neg (show ¬ (cu1, tk1, sa1, ti1, ft1, fp1).2.2.2.2.1 = 0 by assumption)])) (by first | exact hu2.2 | exact ok1)
    · skip
      refine v_aload_n X dX8_readHand_35 rfl ?_
      refine v_iload_n X dX8_readHand_36 rfl ?_
      refine v_ldc X (List.mem_of_getElem? (i := 3) rfl) dX8_readHand_37 (n := -1000000) (by decide) ?_
      refine v_icmp_eq (tgt := 46) X dX8_readHand_39 (by decide) (by omega) (by omega) (fun c14 => ?_) (fun c14 => ?_)
      · skip
        refine v_iconst X dX8_readHand_46 ?_
        refine res_V X (run_V X (c_X8_must (g := g) (by first | assumption | omega) (by first | assumption | omega) (by first | assumption | omega) (by first | assumption | omega)) gX8_readHand_X8_must rfl hdX8_must ⟨(Nat.le_of_ble_eq_true rfl), (Nat.le_of_ble_eq_true rfl)⟩ ⟨(Nat.le_of_ble_eq_true rfl), (Nat.le_of_ble_eq_true rfl)⟩ 0 rfl rfl rfl [0, 1, 2, 3, 4, 5, 6, 7, 8, 9, 10] rfl rfl rfl rfl (by simp [Value.category]) dX8_readHand_47) [0, 1, 2, 3, 4, 5, 6, 7, 8, 9, 10] rfl rfl (fun _ => rfl) (fun u2 hu2 => ?_)
        obtain ⟨cu2, tk2, sa2, ti2, ft2, fp2⟩ := u2
        dsimp only [patch, List.set, wMod]
        exact J50 _ _ _ _ _ _ (by
            unfold hanK
            rw [← e1]
            first
            | (rw [hu2.1, if_pos (show (cu1, tk1, sa1, ti1, ft1, fp1).2.2.2.2.1 = 0 by assumption)]; first | rw [if_pos (by assumption)] | rw [if_neg (by assumption)])
            | (rw [if_neg (show ¬ (cu1, tk1, sa1, ti1, ft1, fp1).2.2.2.2.1 = 0 by assumption)])) (by first | exact hu2.2 | exact ok1)
      · skip
        refine v_iconst X dX8_readHand_42 ?_
        refine v_goto (tgt := 47) X dX8_readHand_43 (by decide) ?_
        refine res_V X (run_V X (c_X8_must (g := g) (by first | assumption | omega) (by first | assumption | omega) (by first | assumption | omega) (by first | assumption | omega)) gX8_readHand_X8_must rfl hdX8_must ⟨(Nat.le_of_ble_eq_true rfl), (Nat.le_of_ble_eq_true rfl)⟩ ⟨(Nat.le_of_ble_eq_true rfl), (Nat.le_of_ble_eq_true rfl)⟩ 0 rfl rfl rfl [0, 1, 2, 3, 4, 5, 6, 7, 8, 9, 10] rfl rfl rfl rfl (by simp [Value.category]) dX8_readHand_47) [0, 1, 2, 3, 4, 5, 6, 7, 8, 9, 10] rfl rfl (fun _ => rfl) (fun u2 hu2 => ?_)
        obtain ⟨cu2, tk2, sa2, ti2, ft2, fp2⟩ := u2
        dsimp only [patch, List.set, wMod]
        exact J50 _ _ _ _ _ _ (by
            unfold hanK
            rw [← e1]
            first
            | (rw [hu2.1, if_pos (show (cu1, tk1, sa1, ti1, ft1, fp1).2.2.2.2.1 = 0 by assumption)]; first | rw [if_pos (by assumption)] | rw [if_neg (by assumption)])
            | (rw [if_neg (show ¬ (cu1, tk1, sa1, ti1, ft1, fp1).2.2.2.2.1 = 0 by assumption)])) (by first | exact hu2.2 | exact ok1)
  · skip
    refine v_aload_n X dX8_readHand_10 rfl ?_
    refine v_iconst X dX8_readHand_11 ?_
    refine res_W X (run_V X (c_X8_bad (g := g) (by first | assumption | omega)) gX8_readHand_X8_bad rfl hdX8_bad ⟨(Nat.le_of_ble_eq_true rfl), (Nat.le_of_ble_eq_true rfl)⟩ ⟨(Nat.le_of_ble_eq_true rfl), (Nat.le_of_ble_eq_true rfl)⟩ 0 rfl rfl rfl [0, 1, 2, 3, 4, 5, 6, 7, 8, 9, 10] rfl rfl rfl rfl (by simp [Value.category]) dX8_readHand_12) [0, 1, 2, 3, 4, 5, 6, 7, 8, 9, 10] rfl rfl rfl ?_
    dsimp only [patch, List.set, wMod]
    refine v_aload_n X dX8_readHand_15 rfl ?_
    refine v_iconst X dX8_readHand_16 ?_
    refine res_V X (run_V X (c_X8_must (g := g) (by first | assumption | omega) (by first | assumption | omega) (by first | assumption | exact pmOK_mbd (by decide) hok) (by first | assumption | omega)) gX8_readHand_X8_must rfl hdX8_must ⟨(Nat.le_of_ble_eq_true rfl), (Nat.le_of_ble_eq_true rfl)⟩ ⟨(Nat.le_of_ble_eq_true rfl), (Nat.le_of_ble_eq_true rfl)⟩ 0 rfl rfl rfl [0, 1, 2, 3, 4, 5, 6, 7, 8, 9, 10] rfl rfl rfl rfl (by simp [Value.category]) dX8_readHand_17) [0, 1, 2, 3, 4, 5, 6, 7, 8, 9, 10] rfl rfl (fun _ => rfl) (fun u1 hu1 => ?_)
    obtain ⟨cu1, tk1, sa1, ti1, ft1, fp1⟩ := u1
    dsimp only [patch, List.set, wMod]
    have ok1 := hu1.2
    have e1 : (cu1, tk1, sa1, ti1, ft1, fp1) = hanS ftp ln (ff 1) (cu, tk, sa, ti, ft, fp) := by
      rw [hu1.1]
      unfold hanS
      first
      | (rw [if_pos (by assumption)]; done)
      | (rw [if_pos (by assumption)]; rfl)
      | (rw [if_neg (by assumption)]; done)
      | (rw [if_neg (by assumption)]; rfl)
    refine v_aload_n X dX8_readHand_20 rfl ?_
    refine res_L X (run_V X (c_X8_name (g := g) (by first | assumption | omega) (by first | assumption | omega) (by first | assumption | omega)) gX8_readHand_X8_name rfl hdX8_name ⟨(Nat.le_of_ble_eq_true rfl), (Nat.le_of_ble_eq_true rfl)⟩ ⟨(Nat.le_of_ble_eq_true rfl), (Nat.le_of_ble_eq_true rfl)⟩ 0 rfl rfl rfl [0, 1, 2, 3, 4, 5, 6, 7, 8, 9, 10] rfl rfl rfl rfl (by simp [Value.category]) dX8_readHand_21) [0, 1, 2, 3, 4, 5, 6, 7, 8, 9, 10] rfl rfl (fun _ => rfl) (fun r1 u19 hr1 => ?_)
    dsimp only [patch, List.set, wMod]
    subst hr1
    refine res_E X (run_S X (c_X8_kindBy (g := g) (by exact namF_r hftp)) gX8_readHand_X8_kindBy rfl hdX8_kindBy.2 ⟨(Nat.le_of_ble_eq_true rfl), (Nat.le_of_ble_eq_true rfl)⟩ ⟨(Nat.le_of_ble_eq_true rfl), (Nat.le_of_ble_eq_true rfl)⟩ [] rfl rfl rfl rfl (by simp [Value.category]) dX8_readHand_24) [] rfl rfl ?_
    rw [show kndI (namF ftp (cu1, tk1, sa1, ti1, ft1, fp1)) = hanN ftp ln (ff 1) (cu, tk, sa, ti, ft, fp) by unfold hanN; rw [← e1]]
    have kq := kndI_or (namF ftp (hanS ftp ln (ff 1) (cu, tk, sa, ti, ft, fp)))
    have kr : hanN ftp ln (ff 1) (cu, tk, sa, ti, ft, fp) = kndI (namF ftp (hanS ftp ln (ff 1) (cu, tk, sa, ti, ft, fp))) := rfl
    rw [← kr] at kq
    refine v_istore_n X dX8_readHand_27 1 rfl (by decide) rfl ?_
    dsimp only [List.set]
    have J50 : ∀ (cu2 : Int) (tk2 : Int) (sa2 : Int) (ti2 : Int) (ft2 : Int) (fp2 : Int) (e2 : (cu2, tk2, sa2, ti2, ft2, fp2) = hanK ftp ln (ff 1) (cu, tk, sa, ti, ft, fp)) (ok2 : pmOK ftp ln (cu2, tk2, sa2, ti2, ft2, fp2)), V g x 0 0 (wMod g A th sq ac td lt ln (cu2) (tk2) (sa2) (ti2) (ft2) (fp2) le lf tr fl fm fi fc ff fw ftp fk fe fr) [some (.ref (A 0)), some (.int (iI (hanN ftp ln (ff 1) (cu, tk, sa, ti, ft, fp)))), none] 50 [] := by
      intro cu2 tk2 sa2 ti2 ft2 fp2 e2 ok2
      have f2 := pm_f ok2
      have v2 := numV_bd ok2
      refine v_aload_n X dX8_readHand_50 rfl ?_
      refine v_iconst X dX8_readHand_51 ?_
      refine v_bipush X dX8_readHand_52 (by decide) ?_
      refine res_I X (run_V X (c_X8_number (g := g) (by first | assumption | omega) (by first | assumption | omega) (by first | assumption | omega) (by first | assumption | omega) (by first | assumption | omega)) gX8_readHand_X8_number rfl hdX8_number ⟨(Nat.le_of_ble_eq_true rfl), (Nat.le_of_ble_eq_true rfl)⟩ ⟨(Nat.le_of_ble_eq_true rfl), (Nat.le_of_ble_eq_true rfl)⟩ 0 rfl rfl rfl [0, 1, 2, 3, 4, 5, 6, 7, 8, 9, 10] rfl rfl rfl rfl (by simp [Value.category]) dX8_readHand_54) [0, 1, 2, 3, 4, 5, 6, 7, 8, 9, 10] rfl rfl (fun _ => rfl) (fun r3 u3 hr3 => ?_)
      obtain ⟨cu3, tk3, sa3, ti3, ft3, fp3⟩ := u3
      dsimp only [patch, List.set, wMod]
      have ok3 := hr3.2.2
      have f3 := pm_f ok3
      refine v_istore_n X dX8_readHand_57 2 rfl (by decide) rfl ?_
      dsimp only [List.set]
      refine v_aload_n X dX8_readHand_58 rfl ?_
      refine res_V X (run_V X (c_X8_mustEnd (g := g) (by first | assumption | omega) (by first | assumption | omega) (by first | assumption | omega)) gX8_readHand_X8_mustEnd rfl hdX8_mustEnd ⟨(Nat.le_of_ble_eq_true rfl), (Nat.le_of_ble_eq_true rfl)⟩ ⟨(Nat.le_of_ble_eq_true rfl), (Nat.le_of_ble_eq_true rfl)⟩ 0 rfl rfl rfl [0, 1, 2, 3, 4, 5, 6, 7, 8, 9, 10] rfl rfl rfl rfl (by simp [Value.category]) dX8_readHand_59) [0, 1, 2, 3, 4, 5, 6, 7, 8, 9, 10] rfl rfl (fun _ => rfl) (fun u4 hu4 => ?_)
      obtain ⟨cu4, tk4, sa4, ti4, ft4, fp4⟩ := u4
      dsimp only [patch, List.set, wMod]
      have ok4 := hu4.2
      have f4 := pm_f ok4
      have e4 : (cu4, tk4, sa4, ti4, ft4, fp4) = hanM ftp ln (ff 1) (cu, tk, sa, ti, ft, fp) := by
        rw [hu4.1, hr3.2.1, e2]
        rfl
      have et : r3 = hanT ftp ln (ff 1) (cu, tk, sa, ti, ft, fp) := by
        rw [hr3.1, e2]
        rfl
      refine v_aload_n X dX8_readHand_62 rfl ?_
      refine v_get X (fun _ h => List.mem_cons_of_mem _ (List.mem_append_right _ h)) 0 rfl rfl 17 (by decide) rfl (List.mem_of_getElem? (i := 2) rfl) rfl dX8_readHand_63 ?_
      refine v_if_ne (tgt := 113) X dX8_readHand_66 (by decide) (by omega) (fun c23 => ?_) (fun c23 => ?_)
      · skip
        refine v_vret X Y dX8_readHand_113 (u := (hanF ftp ln ff (cu, tk, sa, ti, ft, fp), (cu4, tk4, sa4, ti4, ft4, fp4))) ?_ (by
            first
            | (rw [show hanF ftp ln ff (cu, tk, sa, ti, ft, fp) = ff by unfold hanF; rw [← e4, if_neg (by assumption)]]; done)
            | (rw [show hanF ftp ln ff (cu, tk, sa, ti, ft, fp) = ff by unfold hanF; rw [← e4, if_neg (by assumption)]]; rfl)
            | (rw [show hanF ftp ln ff (cu, tk, sa, ti, ft, fp) = updI (updI (updI ff (2 + 3 * ff 1).toNat (hanN ftp ln (ff 1) (cu, tk, sa, ti, ft, fp))) (2 + 3 * ff 1 + 1).toNat (hanT ftp ln (ff 1) (cu, tk, sa, ti, ft, fp))) 1 (ff 1 + 1) by unfold hanF; rw [← e4, if_pos (by assumption)], ← et]; rfl))
        exact ⟨by rw [← e4], ok4⟩
      · skip
        have h4 := hanM_0 hok hcn (by rw [← e4]; assumption)
        rw [← et] at h4
        refine v_aload_n X dX8_readHand_69 rfl ?_
        refine v_get X (fun _ h => List.mem_cons_of_mem _ (List.mem_append_right _ h)) 0 rfl rfl 6 (by decide) rfl (List.mem_of_getElem? (i := 1) rfl) rfl dX8_readHand_70 ?_
        refine v_iconst X dX8_readHand_73 ?_
        refine v_iconst X dX8_readHand_74 ?_
        refine v_aload_n X dX8_readHand_75 rfl ?_
        refine v_get X (fun _ h => List.mem_cons_of_mem _ (List.mem_append_right _ h)) 0 rfl rfl 6 (by decide) rfl (List.mem_of_getElem? (i := 1) rfl) rfl dX8_readHand_76 ?_
        refine v_iconst X dX8_readHand_79 ?_
        refine v_iald X 5 rfl (by omega) (by omega) (by omega) dX8_readHand_80 hff (fun z2 ez2 lz2 uz2 => ?_)
        rw [show z2 = ff 1 from ez2]
        refine v_imul X dX8_readHand_81 ?_
        refine v_iadd X dX8_readHand_82 ?_
        refine v_iload_n X dX8_readHand_83 rfl ?_
        refine v_iast X 5 rfl (by omega) (by omega) (by omega) dX8_readHand_84 ?_
        dsimp only [List.set, wMod]
        refine v_aload_n X dX8_readHand_85 rfl ?_
        refine v_get X (fun _ h => List.mem_cons_of_mem _ (List.mem_append_right _ h)) 0 rfl rfl 6 (by decide) rfl (List.mem_of_getElem? (i := 1) rfl) rfl dX8_readHand_86 ?_
        refine v_iconst X dX8_readHand_89 ?_
        refine v_iconst X dX8_readHand_90 ?_
        refine v_aload_n X dX8_readHand_91 rfl ?_
        refine v_get X (fun _ h => List.mem_cons_of_mem _ (List.mem_append_right _ h)) 0 rfl rfl 6 (by decide) rfl (List.mem_of_getElem? (i := 1) rfl) rfl dX8_readHand_92 ?_
        refine v_iconst X dX8_readHand_95 ?_
        refine v_iald X 5 rfl (by omega) (by omega) (by omega) dX8_readHand_96 (Bd_up hff (by omega) (by omega)) (fun z3 ez3 lz3 uz3 => ?_)
        rw [show z3 = ff 1 by rw [ez3, updI_e, if_neg (by omega)]; rfl]
        refine v_imul X dX8_readHand_97 ?_
        refine v_iadd X dX8_readHand_98 ?_
        refine v_iconst X dX8_readHand_99 ?_
        refine v_iadd X dX8_readHand_100 ?_
        refine v_iload_n X dX8_readHand_101 rfl ?_
        refine v_iast X 5 rfl (by omega) (by omega) (by omega) dX8_readHand_102 ?_
        dsimp only [List.set, wMod]
        refine v_aload_n X dX8_readHand_103 rfl ?_
        refine v_get X (fun _ h => List.mem_cons_of_mem _ (List.mem_append_right _ h)) 0 rfl rfl 6 (by decide) rfl (List.mem_of_getElem? (i := 1) rfl) rfl dX8_readHand_104 ?_
        refine v_iconst X dX8_readHand_107 ?_
        refine v_dup2 X dX8_readHand_108 rfl rfl ?_
        refine v_iald X 5 rfl (by omega) (by omega) (by omega) dX8_readHand_109 (Bd_up (Bd_up hff (by omega) (by omega)) (by omega) (by omega)) (fun z4 ez4 lz4 uz4 => ?_)
        rw [show z4 = ff 1 by rw [ez4, updI_e, if_neg (by omega), updI_e, if_neg (by omega)]; rfl]
        refine v_iconst X dX8_readHand_110 ?_
        refine v_iadd X dX8_readHand_111 ?_
        refine v_iast X 5 rfl (by omega) (by omega) (by omega) dX8_readHand_112 ?_
        dsimp only [List.set, wMod]
        refine v_vret X Y dX8_readHand_113 (u := (hanF ftp ln ff (cu, tk, sa, ti, ft, fp), (cu4, tk4, sa4, ti4, ft4, fp4))) ?_ (by
            first
            | (rw [show hanF ftp ln ff (cu, tk, sa, ti, ft, fp) = ff by unfold hanF; rw [← e4, if_neg (by assumption)]]; done)
            | (rw [show hanF ftp ln ff (cu, tk, sa, ti, ft, fp) = ff by unfold hanF; rw [← e4, if_neg (by assumption)]]; rfl)
            | (rw [show hanF ftp ln ff (cu, tk, sa, ti, ft, fp) = updI (updI (updI ff (2 + 3 * ff 1).toNat (hanN ftp ln (ff 1) (cu, tk, sa, ti, ft, fp))) (2 + 3 * ff 1 + 1).toNat (hanT ftp ln (ff 1) (cu, tk, sa, ti, ft, fp))) 1 (ff 1 + 1) by unfold hanF; rw [← e4, if_pos (by assumption)], ← et]; rfl))
        exact ⟨by rw [← e4], ok4⟩
    refine v_aload_n X dX8_readHand_28 rfl ?_
    refine v_get X (fun _ h => List.mem_cons_of_mem _ (List.mem_append_right _ h)) 0 rfl rfl 17 (by decide) rfl (List.mem_of_getElem? (i := 2) rfl) rfl dX8_readHand_29 ?_
    refine v_if_ne (tgt := 50) X dX8_readHand_32 (by decide) (by have := pm_f ok1; omega) (fun c27 => ?_) (fun c27 => ?_)
    · skip
      exact J50 _ _ _ _ _ _ (by
          unfold hanK
          rw [← e1]
          first
          | (rw [hu2.1, if_pos (show (cu1, tk1, sa1, ti1, ft1, fp1).2.2.2.2.1 = 0 by assumption)]; first | rw [if_pos (by assumption)] | rw [if_neg (by assumption)])
          | (rw [if_neg (show ¬ (cu1, tk1, sa1, ti1, ft1, fp1).2.2.2.2.1 = 0 by assumption)])) (by first | exact hu2.2 | exact ok1)
    · skip
      refine v_aload_n X dX8_readHand_35 rfl ?_
      refine v_iload_n X dX8_readHand_36 rfl ?_
      refine v_ldc X (List.mem_of_getElem? (i := 3) rfl) dX8_readHand_37 (n := -1000000) (by decide) ?_
      refine v_icmp_eq (tgt := 46) X dX8_readHand_39 (by decide) (by omega) (by omega) (fun c28 => ?_) (fun c28 => ?_)
      · skip
        refine v_iconst X dX8_readHand_46 ?_
        refine res_V X (run_V X (c_X8_must (g := g) (by first | assumption | omega) (by first | assumption | omega) (by first | assumption | omega) (by first | assumption | omega)) gX8_readHand_X8_must rfl hdX8_must ⟨(Nat.le_of_ble_eq_true rfl), (Nat.le_of_ble_eq_true rfl)⟩ ⟨(Nat.le_of_ble_eq_true rfl), (Nat.le_of_ble_eq_true rfl)⟩ 0 rfl rfl rfl [0, 1, 2, 3, 4, 5, 6, 7, 8, 9, 10] rfl rfl rfl rfl (by simp [Value.category]) dX8_readHand_47) [0, 1, 2, 3, 4, 5, 6, 7, 8, 9, 10] rfl rfl (fun _ => rfl) (fun u2 hu2 => ?_)
        obtain ⟨cu2, tk2, sa2, ti2, ft2, fp2⟩ := u2
        dsimp only [patch, List.set, wMod]
        exact J50 _ _ _ _ _ _ (by
            unfold hanK
            rw [← e1]
            first
            | (rw [hu2.1, if_pos (show (cu1, tk1, sa1, ti1, ft1, fp1).2.2.2.2.1 = 0 by assumption)]; first | rw [if_pos (by assumption)] | rw [if_neg (by assumption)])
            | (rw [if_neg (show ¬ (cu1, tk1, sa1, ti1, ft1, fp1).2.2.2.2.1 = 0 by assumption)])) (by first | exact hu2.2 | exact ok1)
      · skip
        refine v_iconst X dX8_readHand_42 ?_
        refine v_goto (tgt := 47) X dX8_readHand_43 (by decide) ?_
        refine res_V X (run_V X (c_X8_must (g := g) (by first | assumption | omega) (by first | assumption | omega) (by first | assumption | omega) (by first | assumption | omega)) gX8_readHand_X8_must rfl hdX8_must ⟨(Nat.le_of_ble_eq_true rfl), (Nat.le_of_ble_eq_true rfl)⟩ ⟨(Nat.le_of_ble_eq_true rfl), (Nat.le_of_ble_eq_true rfl)⟩ 0 rfl rfl rfl [0, 1, 2, 3, 4, 5, 6, 7, 8, 9, 10] rfl rfl rfl rfl (by simp [Value.category]) dX8_readHand_47) [0, 1, 2, 3, 4, 5, 6, 7, 8, 9, 10] rfl rfl (fun _ => rfl) (fun u2 hu2 => ?_)
        obtain ⟨cu2, tk2, sa2, ti2, ft2, fp2⟩ := u2
        dsimp only [patch, List.set, wMod]
        exact J50 _ _ _ _ _ _ (by
            unfold hanK
            rw [← e1]
            first
            | (rw [hu2.1, if_pos (show (cu1, tk1, sa1, ti1, ft1, fp1).2.2.2.2.1 = 0 by assumption)]; first | rw [if_pos (by assumption)] | rw [if_neg (by assumption)])
            | (rw [if_neg (show ¬ (cu1, tk1, sa1, ti1, ft1, fp1).2.2.2.2.1 = 0 by assumption)])) (by first | exact hu2.2 | exact ok1)

