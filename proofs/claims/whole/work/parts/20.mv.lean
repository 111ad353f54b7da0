theorem hdX8_feed : yX8_feed.cls = RX8 ∧ yX8_feed.cls ≠ "java/lang/invoke/MethodHandle" ∧ yX8_feed.cls ≠ "java/lang/invoke/VarHandle" ∧ (parseMethodDescriptor yX8_feed.desc).map (fun d => d.parameters.length) = some 2 := ⟨rfl, by decide +kernel, by decide +kernel, by decide +kernel⟩
set_option maxHeartbeats 4000000 in
set_option maxRecDepth 100000 in
theorem c_X8_feed {g : Gx} {A : Nat → Nat} {th sq ac td lt ln cu tk sa ti ft fp le lf tr : Int} {fl fm fi fc ff fw ftp fk fe fr : Nat → Int} {w : Int64} {n : Int} (hftp : Bd 0 255 ftp) (htd : 0 ≤ td ∧ td ≤ 200) (hn : R32 n) : CtI (S := (Nat → Int) × Int) g yX8_feed wsX8_feed 1 25 [.ref (A 0), .long w, .int (iI n)] (wMod g A th sq ac td lt ln cu tk sa ti ft fp le lf tr fl fm fi fc ff fw ftp fk fe fr) (fun v u => (¬ (1 ≤ n ∧ n ≤ 8) ∧ v = -1000001 ∧ u = (ftp, td)) ∨ ((1 ≤ n ∧ n ≤ 8) ∧ ((200 < td + n ∧ v = -1000003 ∧ u = (ftp, td)) ∨ (td + n ≤ 200 ∧ v = td + n ∧ u = (fdN (fbM w) ftp td n n.toNat, td + n))))) (fun u => wMod g A (0) sq ac (u.2) lt ln cu tk sa ti ft fp le lf tr fl fm fi fc ff fw (u.1) fk fe fr) := by
  refine m_go (cc := cX8_feed) (nL := 5) (by decide +kernel) rfl (Nat.le_of_ble_eq_true rfl) (fun x X Y hnm => ?_)
  refine v_eq (lo2 := [some (.ref (A 0)), some (.long w), none, some (.int (iI n)), none]) rfl rfl rfl rfl ?_
  refine v_aload_n X dX8_feed_0 rfl ?_
  refine v_iconst X dX8_feed_1 ?_
  refine v_put X (fun _ h => List.mem_cons_of_mem _ (List.mem_append_right _ h)) tyX8 tyX8_ok nmX8 0 rfl rfl 0 (by decide) rfl (List.mem_of_getElem? (i := 1) rfl) rfl rfl rfl (Nat.le_of_ble_eq_true rfl) dX8_feed_2 ?_
  dsimp only [List.set, wMod]
  refine v_iload_n X dX8_feed_5 rfl ?_
  refine v_i2l X dX8_feed_6 (by first | omega | (split <;> omega)) ?_
  refine v_lconst1 X dX8_feed_7 ?_
  refine v_ldc2 X (List.mem_of_getElem? (i := 2) rfl) dX8_feed_8 (n := 8) (by decide) ?_
  refine res_E X (run_S X (c_X8_in (g := g) (by first | assumption | omega) (by first | assumption | omega) (by first | assumption | omega)) gX8_feed_X8_in rfl hdX8_in.2 ⟨(Nat.le_of_ble_eq_true rfl), (Nat.le_of_ble_eq_true rfl)⟩ ⟨(Nat.le_of_ble_eq_true rfl), (Nat.le_of_ble_eq_true rfl)⟩ [] rfl rfl rfl rfl (by simp [Value.category]) dX8_feed_11) [] rfl rfl ?_
  refine v_ifb_ne (tgt := 20) X dX8_feed_14 (by decide) (fun c1 => ?_) (fun c1 => ?_)
  · skip
    refine v_aload_n X dX8_feed_20 rfl ?_
    refine v_get X (fun _ h => List.mem_cons_of_mem _ (List.mem_append_right _ h)) 0 rfl rfl 10 (by decide) rfl (List.mem_of_getElem? (i := 4) rfl) rfl dX8_feed_21 ?_
    refine v_iload_n X dX8_feed_24 rfl ?_
    refine v_iadd X dX8_feed_25 ?_
    refine v_sipush X dX8_feed_26 (by decide) ?_
    refine v_icmp_le (tgt := 35) X dX8_feed_29 (by decide) (by first | omega | (split <;> omega)) (by first | omega | (split <;> omega)) (fun c2 => ?_) (fun c2 => ?_)
    · skip
      refine v_iload_n X dX8_feed_35 rfl ?_
      refine v_iconst X dX8_feed_36 ?_
      refine v_isub X dX8_feed_37 ?_
      refine v_istore X dX8_feed_38 (by decide) rfl ?_
      dsimp only [List.set]
      have L40 : ∀ (nf : Nat) (f : Nat → Int) (tn : Int) (k : Int) (h1 : -1 ≤ k ∧ k < n) (h3 : tn = td + (n - 1 - k)) (h2 : f = fdN (fbM w) ftp td n (n - 1 - k).toNat) (_ : (k + 1).toNat < nf), V g x 0 0 (wMod g A (0) sq ac (tn) lt ln cu tk sa ti ft fp le lf tr fl fm fi fc ff fw (f) fk fe fr) [some (.ref (A 0)), some (.long w), none, some (.int (iI n)), some (.int (iI k))] 40 [] := by
        intro nf
        induction nf with
        | zero => intro f tn k h1 h3 h2 hmu; exact absurd hmu (Nat.not_lt_zero _)
        | succ nf ih40 =>
          intro f tn k h1 h3 h2 hmu
          refine v_iload X dX8_feed_40 rfl ?_
          refine v_if_lt (tgt := 82) X dX8_feed_42 (by decide) (by first | omega | (split <;> omega)) (fun c3 => ?_) (fun c3 => ?_)
          · skip
            refine v_aload_n X dX8_feed_82 rfl ?_
            refine v_get X (fun _ h => List.mem_cons_of_mem _ (List.mem_append_right _ h)) 0 rfl rfl 10 (by decide) rfl (List.mem_of_getElem? (i := 4) rfl) rfl dX8_feed_83 ?_
            refine v_iret X Y dX8_feed_86 (u := (fdN (fbM w) ftp td n n.toNat, td + n)) ?_ (by rw [h2, h3, show k = -1 by omega, show n - 1 - -1 = n by omega] <;> rfl)
            exact Or.inr ⟨by omega, Or.inr ⟨by omega, by omega, rfl⟩⟩
          · skip
            refine v_aload_n X dX8_feed_45 rfl ?_
            refine v_get X (fun _ h => List.mem_cons_of_mem _ (List.mem_append_right _ h)) 0 rfl rfl 9 (by decide) rfl (List.mem_of_getElem? (i := 6) rfl) rfl dX8_feed_46 ?_
            refine v_aload_n X dX8_feed_49 rfl ?_
            refine v_get X (fun _ h => List.mem_cons_of_mem _ (List.mem_append_right _ h)) 0 rfl rfl 10 (by decide) rfl (List.mem_of_getElem? (i := 4) rfl) rfl dX8_feed_50 ?_
            refine v_lload_n X dX8_feed_53 rfl ?_
            refine v_bipush X dX8_feed_54 (by decide) ?_
            refine v_iload X dX8_feed_56 rfl ?_
            refine v_imul X dX8_feed_58 ?_
            refine v_lshr X dX8_feed_59 ?_
            refine v_ldc2 X (List.mem_of_getElem? (i := 7) rfl) dX8_feed_60 (n := 255) (by decide) ?_
            refine v_land X dX8_feed_63 ?_
            refine v_l2i X dX8_feed_64 ?_
            refine v_iast X 7 rfl (by first | omega | (split <;> omega)) (by first | omega | (split <;> omega)) (by first | omega | (split <;> omega)) dX8_feed_65 ?_
            dsimp only [List.set, wMod]
            refine v_aload_n X dX8_feed_66 rfl ?_
            refine v_dup X dX8_feed_67 rfl ?_
            refine v_get X (fun _ h => List.mem_cons_of_mem _ (List.mem_append_right _ h)) 0 rfl rfl 10 (by decide) rfl (List.mem_of_getElem? (i := 4) rfl) rfl dX8_feed_68 ?_
            refine v_iconst X dX8_feed_71 ?_
            refine v_iadd X dX8_feed_72 ?_
            refine v_put X (fun _ h => List.mem_cons_of_mem _ (List.mem_append_right _ h)) tyX8 tyX8_ok nmX8 0 rfl rfl 10 (by decide) rfl (List.mem_of_getElem? (i := 4) rfl) rfl rfl rfl (Nat.le_of_ble_eq_true rfl) dX8_feed_73 ?_
            dsimp only [List.set, wMod]
            refine v_iinc X dX8_feed_76 rfl (by decide) rfl ?_
            dsimp only [List.set]
            refine v_goto (tgt := 40) X dX8_feed_79 (by decide) ?_
            exact ih40 _ _ _ (by omega) (by omega) (by rw [show n - 1 - (k + -1) = n - k by omega, fdN_s (by omega) h1.2, ← h2, ← h3]; rfl) (by omega)
      exact L40 _ _ _ _ (by omega) (by omega) (by rw [show n - 1 - (n - 1) = 0 by omega]; rfl) (Nat.lt_succ_self _)
    · skip
      refine v_ldc X (List.mem_of_getElem? (i := 5) rfl) dX8_feed_32 (n := -1000003) (by decide) ?_
      refine v_iret X Y dX8_feed_34 (u := (ftp, td)) ?_ (by rfl)
      exact Or.inr ⟨by omega, Or.inl ⟨by omega, rfl, rfl⟩⟩
  · skip
    refine v_ldc X (List.mem_of_getElem? (i := 3) rfl) dX8_feed_17 (n := -1000001) (by decide) ?_
    refine v_iret X Y dX8_feed_19 (u := (ftp, td)) ?_ (by rfl)
    exact Or.inl ⟨by omega, rfl, rfl⟩

theorem hdX8_byteAt : yX8_byteAt.cls = RX8 ∧ yX8_byteAt.cls ≠ "java/lang/invoke/MethodHandle" ∧ yX8_byteAt.cls ≠ "java/lang/invoke/VarHandle" ∧ (parseMethodDescriptor yX8_byteAt.desc).map (fun d => d.parameters.length) = some 1 := ⟨rfl, by decide +kernel, by decide +kernel, by decide +kernel⟩
set_option maxHeartbeats 4000000 in
set_option maxRecDepth 100000 in
theorem c_X8_byteAt {g : Gx} {A : Nat → Nat} {th sq ac td lt ln cu tk sa ti ft fp le lf tr : Int} {fl fm fi fc ff fw ftp fk fe fr : Nat → Int} {i : Int} (hftp : Bd 0 255 ftp) (hln : 0 ≤ ln ∧ ln ≤ 200) (hi : 0 ≤ i ∧ i ≤ 200) : CtE g yX8_byteAt wsX8_byteAt 0 0 [.ref (A 0), .int (iI i)] (wMod g A th sq ac td lt ln cu tk sa ti ft fp le lf tr fl fm fi fc ff fw ftp fk fe fr) ((if i < ln then ftp i.toNat else -1000000)) (wMod g A th sq ac td lt ln cu tk sa ti ft fp le lf tr fl fm fi fc ff fw ftp fk fe fr) := by
  refine m_go (cc := cX8_byteAt) (nL := 2) (by decide +kernel) rfl (Nat.le_of_ble_eq_true rfl) (fun x X Y hnm => ?_)
  refine v_eq (lo2 := [some (.ref (A 0)), some (.int (iI i))]) rfl rfl rfl rfl ?_
  refine v_iload_n X dX8_byteAt_0 rfl ?_
  refine v_aload_n X dX8_byteAt_1 rfl ?_
  refine v_get X (fun _ h => List.mem_cons_of_mem _ (List.mem_append_right _ h)) 0 rfl rfl 12 (by decide) rfl (List.mem_of_getElem? (i := 1) rfl) rfl dX8_byteAt_2 ?_
  refine v_icmp_ge (tgt := 17) X dX8_byteAt_5 (by decide) (by omega) (by omega) (fun c1 => ?_) (fun c1 => ?_)
  · skip
    refine v_ldc X (List.mem_of_getElem? (i := 3) rfl) dX8_byteAt_17 (n := -1000000) (by decide) ?_
    exact v_iret X Y dX8_byteAt_19 (u := ()) (by first | (rw [if_pos (by omega)]; assumption) | rw [if_neg (by omega)]) (by rfl)
  · skip
    refine v_aload_n X dX8_byteAt_8 rfl ?_
    refine v_get X (fun _ h => List.mem_cons_of_mem _ (List.mem_append_right _ h)) 0 rfl rfl 9 (by decide) rfl (List.mem_of_getElem? (i := 2) rfl) rfl dX8_byteAt_9 ?_
    refine v_iload_n X dX8_byteAt_12 rfl ?_
    refine v_iald X 7 rfl (by omega) (by omega) (by omega) dX8_byteAt_13 hftp (fun z2 ez2 lz2 uz2 => ?_)
    refine v_goto (tgt := 19) X dX8_byteAt_14 (by decide) ?_
    exact v_iret X Y dX8_byteAt_19 (u := ()) (by first | (rw [if_pos (by omega)]; assumption) | rw [if_neg (by omega)]) (by rfl)

theorem hdX8_nextToken : yX8_nextToken.cls = RX8 ∧ yX8_nextToken.cls ≠ "java/lang/invoke/MethodHandle" ∧ yX8_nextToken.cls ≠ "java/lang/invoke/VarHandle" ∧ (parseMethodDescriptor yX8_nextToken.desc).map (fun d => d.parameters.length) = some 0 := ⟨rfl, by decide +kernel, by decide +kernel, by decide +kernel⟩
set_option maxHeartbeats 4000000 in
set_option maxRecDepth 100000 in
theorem c_X8_nextToken {g : Gx} {A : Nat → Nat} {th sq ac td lt ln cu tk sa ti ft fp le lf tr : Int} {fl fm fi fc ff fw ftp fk fe fr : Nat → Int}  (hftp : Bd 0 255 ftp) (hln : 0 ≤ ln ∧ ln ≤ 200) (hcu : 0 ≤ cu ∧ cu ≤ ln) : CtW g yX8_nextToken wsX8_nextToken 1 21 [.ref (A 0)] (wMod g A th sq ac td lt ln cu tk sa ti ft fp le lf tr fl fm fi fc ff fw ftp fk fe fr) (wMod g A th sq ac td lt ln ((mnx ftp ln (cu, tk, sa, ti, ft, fp)).1) ((mnx ftp ln (cu, tk, sa, ti, ft, fp)).2.1) ((mnx ftp ln (cu, tk, sa, ti, ft, fp)).2.2.1) ((mnx ftp ln (cu, tk, sa, ti, ft, fp)).2.2.2.1) ((mnx ftp ln (cu, tk, sa, ti, ft, fp)).2.2.2.2.1) ((mnx ftp ln (cu, tk, sa, ti, ft, fp)).2.2.2.2.2) le lf tr fl fm fi fc ff fw ftp fk fe fr) := by
  refine m_go (cc := cX8_nextToken) (nL := 2) (by decide +kernel) rfl (Nat.le_of_ble_eq_true rfl) (fun x X Y hnm => ?_)
  refine v_eq (lo2 := [some (.ref (A 0)), none]) rfl rfl rfl rfl ?_
  have J39 : ∀ (i : Int) (g0 : cu ≤ i ∧ i ≤ ln) (h5 : tkS ftp ln cu = i), V g x 0 0 (wMod g A th sq ac td lt ln (i) tk sa ti ft fp le lf tr fl fm fi fc ff fw ftp fk fe fr) [some (.ref (A 0)), none] 39 [] := by
    intro i g0 h5
    refine v_aload_n X dX8_nextToken_39 rfl ?_
    refine v_aload_n X dX8_nextToken_40 rfl ?_
    refine v_get X (fun _ h => List.mem_cons_of_mem _ (List.mem_append_right _ h)) 0 rfl rfl 13 (by decide) rfl (List.mem_of_getElem? (i := 1) rfl) rfl dX8_nextToken_41 ?_
    refine v_put X (fun _ h => List.mem_cons_of_mem _ (List.mem_append_right _ h)) tyX8 tyX8_ok nmX8 0 rfl rfl 15 (by decide) rfl (List.mem_of_getElem? (i := 2) rfl) rfl rfl rfl (Nat.le_of_ble_eq_true rfl) dX8_nextToken_44 ?_
    dsimp only [List.set, wMod]
    have q3 : (i < ln ∧ (if i < ln then ftp (i).toNat else -1000000) = ftp (i).toNat) ∨ (ln ≤ i ∧ (if i < ln then ftp (i).toNat else -1000000) = -1000000) := by split <;> omega
    have r3 := hftp (i).toNat
    refine v_aload_n X dX8_nextToken_47 rfl ?_
    refine v_aload_n X dX8_nextToken_48 rfl ?_
    refine v_get X (fun _ h => List.mem_cons_of_mem _ (List.mem_append_right _ h)) 0 rfl rfl 13 (by decide) rfl (List.mem_of_getElem? (i := 1) rfl) rfl dX8_nextToken_49 ?_
    refine res_E X (run_V X (c_X8_byteAt (g := g) (by first | assumption | omega) (by first | assumption | omega) (by first | assumption | omega)) gX8_nextToken_X8_byteAt rfl hdX8_byteAt ⟨(Nat.le_of_ble_eq_true rfl), (Nat.le_of_ble_eq_true rfl)⟩ ⟨(Nat.le_of_ble_eq_true rfl), (Nat.le_of_ble_eq_true rfl)⟩ 0 rfl rfl rfl [0, 1, 2, 3, 4, 5, 6, 7, 8, 9, 10] rfl rfl rfl rfl (by simp [Value.category]) dX8_nextToken_52) [0, 1, 2, 3, 4, 5, 6, 7, 8, 9, 10] rfl rfl ?_
    refine v_istore_n X dX8_nextToken_55 1 rfl (by decide) rfl ?_
    dsimp only [List.set]
    refine v_iload_n X dX8_nextToken_56 rfl ?_
    refine v_ldc X (List.mem_of_getElem? (i := 3) rfl) dX8_nextToken_57 (n := -1000000) (by decide) ?_
    refine v_icmp_ne (tgt := 70) X dX8_nextToken_59 (by decide) (by first | omega | (split <;> omega)) (by first | omega | (split <;> omega)) (fun c1 => ?_) (fun c1 => ?_)
    · skip
      refine v_iload_n X dX8_nextToken_70 rfl ?_
      refine res_E X (run_S X (c_X8_isLetter (g := g) (by first | assumption | omega)) gX8_nextToken_X8_isLetter rfl hdX8_isLetter.2 ⟨(Nat.le_of_ble_eq_true rfl), (Nat.le_of_ble_eq_true rfl)⟩ ⟨(Nat.le_of_ble_eq_true rfl), (Nat.le_of_ble_eq_true rfl)⟩ [] rfl rfl rfl rfl (by simp [Value.category]) dX8_nextToken_71) [] rfl rfl ?_
      refine v_ifb_eq (tgt := 112) X dX8_nextToken_74 (by decide) (fun c2 => ?_) (fun c2 => ?_)
      · skip
        refine v_iload_n X dX8_nextToken_112 rfl ?_
        refine res_E X (run_S X (c_X8_isFigure (g := g) (by first | assumption | omega)) gX8_nextToken_X8_isFigure rfl hdX8_isFigure.2 ⟨(Nat.le_of_ble_eq_true rfl), (Nat.le_of_ble_eq_true rfl)⟩ ⟨(Nat.le_of_ble_eq_true rfl), (Nat.le_of_ble_eq_true rfl)⟩ [] rfl rfl rfl rfl (by simp [Value.category]) dX8_nextToken_113) [] rfl rfl ?_
        refine v_ifb_eq (tgt := 171) X dX8_nextToken_116 (by decide) (fun c3 => ?_) (fun c3 => ?_)
        · skip
          have e1 := tk_el h5 (by omega) (by omega) (by omega)
          refine v_aload_n X dX8_nextToken_171 rfl ?_
          refine v_dup X dX8_nextToken_172 rfl ?_
          refine v_get X (fun _ h => List.mem_cons_of_mem _ (List.mem_append_right _ h)) 0 rfl rfl 13 (by decide) rfl (List.mem_of_getElem? (i := 1) rfl) rfl dX8_nextToken_173 ?_
          refine v_iconst X dX8_nextToken_176 ?_
          refine v_iadd X dX8_nextToken_177 ?_
          refine v_put X (fun _ h => List.mem_cons_of_mem _ (List.mem_append_right _ h)) tyX8 tyX8_ok nmX8 0 rfl rfl 13 (by decide) rfl (List.mem_of_getElem? (i := 1) rfl) rfl rfl rfl (Nat.le_of_ble_eq_true rfl) dX8_nextToken_178 ?_
          dsimp only [List.set, wMod]
          refine v_aload_n X dX8_nextToken_181 rfl ?_
          refine v_iload_n X dX8_nextToken_182 rfl ?_
          refine v_bipush X dX8_nextToken_183 (by decide) ?_
          refine v_icmp_ne (tgt := 192) X dX8_nextToken_185 (by decide) (by first | omega | (split <;> omega)) (by first | omega | (split <;> omega)) (fun c4 => ?_) (fun c4 => ?_)
          · skip
            have e3 := e1.2.2
            rw [if_neg (by omega)] at e3
            have e2 : tkM ftp ln cu = 0 ∧ tkE ftp ln cu = i + 1 := ⟨e3, e1.2.1⟩
            refine v_iconst X dX8_nextToken_192 ?_
            refine v_put X (fun _ h => List.mem_cons_of_mem _ (List.mem_append_right _ h)) tyX8 tyX8_ok nmX8 0 rfl rfl 14 (by decide) rfl (List.mem_of_getElem? (i := 4) rfl) rfl rfl rfl (Nat.le_of_ble_eq_true rfl) dX8_nextToken_193 ?_
            dsimp only [List.set, wMod]
            refine v_aload_n X dX8_nextToken_196 rfl ?_
            refine v_aload_n X dX8_nextToken_197 rfl ?_
            refine v_get X (fun _ h => List.mem_cons_of_mem _ (List.mem_append_right _ h)) 0 rfl rfl 13 (by decide) rfl (List.mem_of_getElem? (i := 1) rfl) rfl dX8_nextToken_198 ?_
            refine v_put X (fun _ h => List.mem_cons_of_mem _ (List.mem_append_right _ h)) tyX8 tyX8_ok nmX8 0 rfl rfl 16 (by decide) rfl (List.mem_of_getElem? (i := 5) rfl) rfl rfl rfl (Nat.le_of_ble_eq_true rfl) dX8_nextToken_201 ?_
            dsimp only [List.set, wMod]
            exact v_vret X Y dX8_nextToken_204 (u := ()) trivial (by dsimp only [mnx]; rw [e2.1, e2.2, h5] <;> rfl)
          · skip
            have e3 := e1.2.2
            rw [if_pos (by omega)] at e3
            have e2 : tkM ftp ln cu = 4 ∧ tkE ftp ln cu = i + 1 := ⟨e3, e1.2.1⟩
            refine v_iconst X dX8_nextToken_188 ?_
            refine v_goto (tgt := 193) X dX8_nextToken_189 (by decide) ?_
            refine v_put X (fun _ h => List.mem_cons_of_mem _ (List.mem_append_right _ h)) tyX8 tyX8_ok nmX8 0 rfl rfl 14 (by decide) rfl (List.mem_of_getElem? (i := 4) rfl) rfl rfl rfl (Nat.le_of_ble_eq_true rfl) dX8_nextToken_193 ?_
            dsimp only [List.set, wMod]
            refine v_aload_n X dX8_nextToken_196 rfl ?_
            refine v_aload_n X dX8_nextToken_197 rfl ?_
            refine v_get X (fun _ h => List.mem_cons_of_mem _ (List.mem_append_right _ h)) 0 rfl rfl 13 (by decide) rfl (List.mem_of_getElem? (i := 1) rfl) rfl dX8_nextToken_198 ?_
            refine v_put X (fun _ h => List.mem_cons_of_mem _ (List.mem_append_right _ h)) tyX8 tyX8_ok nmX8 0 rfl rfl 16 (by decide) rfl (List.mem_of_getElem? (i := 5) rfl) rfl rfl rfl (Nat.le_of_ble_eq_true rfl) dX8_nextToken_201 ?_
            dsimp only [List.set, wMod]
            exact v_vret X Y dX8_nextToken_204 (u := ()) trivial (by dsimp only [mnx]; rw [e2.1, e2.2, h5] <;> rfl)
        · skip
          have L119 : ∀ (nf : Nat) (m : Int) (g1 : i ≤ m ∧ m ≤ ln) (g2 : scW fiB ftp ln i = scW fiB ftp ln m) (_ : (ln - m).toNat < nf), V g x 0 0 (wMod g A th sq ac td lt ln (m) tk (i) ti ft fp le lf tr fl fm fi fc ff fw ftp fk fe fr) [some (.ref (A 0)), some (.int (iI (if i < ln then ftp i.toNat else -1000000)))] 119 [] := by
            intro nf
            induction nf with
            | zero => intro m g1 g2 hmu; exact absurd hmu (Nat.not_lt_zero _)
            | succ nf ih119 =>
              intro m g1 g2 hmu
              have q5 : (m < ln ∧ (if m < ln then ftp (m).toNat else -1000000) = ftp (m).toNat) ∨ (ln ≤ m ∧ (if m < ln then ftp (m).toNat else -1000000) = -1000000) := by split <;> omega
              have r5 := hftp (m).toNat
              refine v_aload_n X dX8_nextToken_119 rfl ?_
              refine v_aload_n X dX8_nextToken_120 rfl ?_
              refine v_get X (fun _ h => List.mem_cons_of_mem _ (List.mem_append_right _ h)) 0 rfl rfl 13 (by decide) rfl (List.mem_of_getElem? (i := 1) rfl) rfl dX8_nextToken_121 ?_
              refine res_E X (run_V X (c_X8_byteAt (g := g) (by first | assumption | omega) (by first | assumption | omega) (by first | assumption | omega)) gX8_nextToken_X8_byteAt rfl hdX8_byteAt ⟨(Nat.le_of_ble_eq_true rfl), (Nat.le_of_ble_eq_true rfl)⟩ ⟨(Nat.le_of_ble_eq_true rfl), (Nat.le_of_ble_eq_true rfl)⟩ 0 rfl rfl rfl [0, 1, 2, 3, 4, 5, 6, 7, 8, 9, 10] rfl rfl rfl rfl (by simp [Value.category]) dX8_nextToken_124) [0, 1, 2, 3, 4, 5, 6, 7, 8, 9, 10] rfl rfl ?_
              refine res_E X (run_S X (c_X8_isFigure (g := g) (by first | assumption | omega)) gX8_nextToken_X8_isFigure rfl hdX8_isFigure.2 ⟨(Nat.le_of_ble_eq_true rfl), (Nat.le_of_ble_eq_true rfl)⟩ ⟨(Nat.le_of_ble_eq_true rfl), (Nat.le_of_ble_eq_true rfl)⟩ [] rfl rfl rfl rfl (by simp [Value.category]) dX8_nextToken_127) [] rfl rfl ?_
              refine v_ifb_eq (tgt := 146) X dX8_nextToken_130 (by decide) (fun c5 => ?_) (fun c5 => ?_)
              · skip
                have e0 : scW fiB ftp ln i = m := by rw [g2, scW_s, if_neg (by first | omega | (exact fun z => absurd (fiB_iff.mp z.2) (by omega)))]
                have e1 := tk_fi h5 (by omega) (by omega)
                rw [e0] at e1
                refine v_aload_n X dX8_nextToken_146 rfl ?_
                refine v_aload_n X dX8_nextToken_147 rfl ?_
                refine v_get X (fun _ h => List.mem_cons_of_mem _ (List.mem_append_right _ h)) 0 rfl rfl 13 (by decide) rfl (List.mem_of_getElem? (i := 1) rfl) rfl dX8_nextToken_148 ?_
                refine v_aload_n X dX8_nextToken_151 rfl ?_
                refine v_get X (fun _ h => List.mem_cons_of_mem _ (List.mem_append_right _ h)) 0 rfl rfl 15 (by decide) rfl (List.mem_of_getElem? (i := 2) rfl) rfl dX8_nextToken_152 ?_
                refine v_isub X dX8_nextToken_155 ?_
                refine v_iconst X dX8_nextToken_156 ?_
                refine v_icmp_le (tgt := 164) X dX8_nextToken_157 (by decide) (by first | omega | (split <;> omega)) (by first | omega | (split <;> omega)) (fun c6 => ?_) (fun c6 => ?_)
                · skip
                  rw [if_neg (show ¬ 3 < m - i by omega), if_neg (show ¬ 3 < m - i by omega)] at e1
                  have e2 : tkM ftp ln cu = 3 ∧ tkE ftp ln cu = m := ⟨e1.2.2, e1.2.1⟩
                  refine v_iconst X dX8_nextToken_164 ?_
                  refine v_put X (fun _ h => List.mem_cons_of_mem _ (List.mem_append_right _ h)) tyX8 tyX8_ok nmX8 0 rfl rfl 14 (by decide) rfl (List.mem_of_getElem? (i := 4) rfl) rfl rfl rfl (Nat.le_of_ble_eq_true rfl) dX8_nextToken_165 ?_
                  dsimp only [List.set, wMod]
                  refine v_goto (tgt := 196) X dX8_nextToken_168 (by decide) ?_
                  refine v_aload_n X dX8_nextToken_196 rfl ?_
                  refine v_aload_n X dX8_nextToken_197 rfl ?_
                  refine v_get X (fun _ h => List.mem_cons_of_mem _ (List.mem_append_right _ h)) 0 rfl rfl 13 (by decide) rfl (List.mem_of_getElem? (i := 1) rfl) rfl dX8_nextToken_198 ?_
                  refine v_put X (fun _ h => List.mem_cons_of_mem _ (List.mem_append_right _ h)) tyX8 tyX8_ok nmX8 0 rfl rfl 16 (by decide) rfl (List.mem_of_getElem? (i := 5) rfl) rfl rfl rfl (Nat.le_of_ble_eq_true rfl) dX8_nextToken_201 ?_
                  dsimp only [List.set, wMod]
                  exact v_vret X Y dX8_nextToken_204 (u := ()) trivial (by dsimp only [mnx]; rw [e2.1, e2.2, h5] <;> rfl)
                · skip
                  rw [if_pos (show 3 < m - i by omega), if_pos (show 3 < m - i by omega)] at e1
                  have e2 : tkM ftp ln cu = 0 ∧ tkE ftp ln cu = m := ⟨e1.2.2, e1.2.1⟩
                  refine v_iconst X dX8_nextToken_160 ?_
                  refine v_goto (tgt := 165) X dX8_nextToken_161 (by decide) ?_
                  refine v_put X (fun _ h => List.mem_cons_of_mem _ (List.mem_append_right _ h)) tyX8 tyX8_ok nmX8 0 rfl rfl 14 (by decide) rfl (List.mem_of_getElem? (i := 4) rfl) rfl rfl rfl (Nat.le_of_ble_eq_true rfl) dX8_nextToken_165 ?_
                  dsimp only [List.set, wMod]
                  refine v_goto (tgt := 196) X dX8_nextToken_168 (by decide) ?_
                  refine v_aload_n X dX8_nextToken_196 rfl ?_
                  refine v_aload_n X dX8_nextToken_197 rfl ?_
                  refine v_get X (fun _ h => List.mem_cons_of_mem _ (List.mem_append_right _ h)) 0 rfl rfl 13 (by decide) rfl (List.mem_of_getElem? (i := 1) rfl) rfl dX8_nextToken_198 ?_
                  refine v_put X (fun _ h => List.mem_cons_of_mem _ (List.mem_append_right _ h)) tyX8 tyX8_ok nmX8 0 rfl rfl 16 (by decide) rfl (List.mem_of_getElem? (i := 5) rfl) rfl rfl rfl (Nat.le_of_ble_eq_true rfl) dX8_nextToken_201 ?_
                  dsimp only [List.set, wMod]
                  exact v_vret X Y dX8_nextToken_204 (u := ()) trivial (by dsimp only [mnx]; rw [e2.1, e2.2, h5] <;> rfl)
              · skip
                refine v_aload_n X dX8_nextToken_133 rfl ?_
                refine v_dup X dX8_nextToken_134 rfl ?_
                refine v_get X (fun _ h => List.mem_cons_of_mem _ (List.mem_append_right _ h)) 0 rfl rfl 13 (by decide) rfl (List.mem_of_getElem? (i := 1) rfl) rfl dX8_nextToken_135 ?_
                refine v_iconst X dX8_nextToken_138 ?_
                refine v_iadd X dX8_nextToken_139 ?_
                refine v_put X (fun _ h => List.mem_cons_of_mem _ (List.mem_append_right _ h)) tyX8 tyX8_ok nmX8 0 rfl rfl 13 (by decide) rfl (List.mem_of_getElem? (i := 1) rfl) rfl rfl rfl (Nat.le_of_ble_eq_true rfl) dX8_nextToken_140 ?_
                dsimp only [List.set, wMod]
                refine v_goto (tgt := 119) X dX8_nextToken_143 (by decide) ?_
                exact ih119 _ (by omega) (by rw [g2, scW_s, if_pos ⟨by omega, fiB_iff.mpr (by omega)⟩]) (by omega)
          exact L119 _ _ (by omega) (by rfl) (Nat.lt_succ_self _)
      · skip
        have L77 : ∀ (nf : Nat) (j : Int) (g1 : i ≤ j ∧ j ≤ ln) (g2 : scW leB ftp ln i = scW leB ftp ln j) (_ : (ln - j).toNat < nf), V g x 0 0 (wMod g A th sq ac td lt ln (j) tk (i) ti ft fp le lf tr fl fm fi fc ff fw ftp fk fe fr) [some (.ref (A 0)), some (.int (iI (if i < ln then ftp i.toNat else -1000000)))] 77 [] := by
          intro nf
          induction nf with
          | zero => intro j g1 g2 hmu; exact absurd hmu (Nat.not_lt_zero _)
          | succ nf ih77 =>
            intro j g1 g2 hmu
            have q4 : (j < ln ∧ (if j < ln then ftp (j).toNat else -1000000) = ftp (j).toNat) ∨ (ln ≤ j ∧ (if j < ln then ftp (j).toNat else -1000000) = -1000000) := by split <;> omega
            have r4 := hftp (j).toNat
            refine v_aload_n X dX8_nextToken_77 rfl ?_
            refine v_aload_n X dX8_nextToken_78 rfl ?_
            refine v_get X (fun _ h => List.mem_cons_of_mem _ (List.mem_append_right _ h)) 0 rfl rfl 13 (by decide) rfl (List.mem_of_getElem? (i := 1) rfl) rfl dX8_nextToken_79 ?_
            refine res_E X (run_V X (c_X8_byteAt (g := g) (by first | assumption | omega) (by first | assumption | omega) (by first | assumption | omega)) gX8_nextToken_X8_byteAt rfl hdX8_byteAt ⟨(Nat.le_of_ble_eq_true rfl), (Nat.le_of_ble_eq_true rfl)⟩ ⟨(Nat.le_of_ble_eq_true rfl), (Nat.le_of_ble_eq_true rfl)⟩ 0 rfl rfl rfl [0, 1, 2, 3, 4, 5, 6, 7, 8, 9, 10] rfl rfl rfl rfl (by simp [Value.category]) dX8_nextToken_82) [0, 1, 2, 3, 4, 5, 6, 7, 8, 9, 10] rfl rfl ?_
            refine res_E X (run_S X (c_X8_isLetter (g := g) (by first | assumption | omega)) gX8_nextToken_X8_isLetter rfl hdX8_isLetter.2 ⟨(Nat.le_of_ble_eq_true rfl), (Nat.le_of_ble_eq_true rfl)⟩ ⟨(Nat.le_of_ble_eq_true rfl), (Nat.le_of_ble_eq_true rfl)⟩ [] rfl rfl rfl rfl (by simp [Value.category]) dX8_nextToken_85) [] rfl rfl ?_
            refine v_ifb_eq (tgt := 104) X dX8_nextToken_88 (by decide) (fun c7 => ?_) (fun c7 => ?_)
            · skip
              have e0 : scW leB ftp ln i = j := by rw [g2, scW_s, if_neg (by first | omega | (exact fun z => absurd (leB_iff.mp z.2) (by omega)))]
              have e1 := tk_le h5 (by omega) (by omega)
              have e2 : tkM ftp ln cu = 2 ∧ tkE ftp ln cu = j := ⟨e1.2.2, by rw [e1.2.1, e0]⟩
              refine v_aload_n X dX8_nextToken_104 rfl ?_
              refine v_iconst X dX8_nextToken_105 ?_
              refine v_put X (fun _ h => List.mem_cons_of_mem _ (List.mem_append_right _ h)) tyX8 tyX8_ok nmX8 0 rfl rfl 14 (by decide) rfl (List.mem_of_getElem? (i := 4) rfl) rfl rfl rfl (Nat.le_of_ble_eq_true rfl) dX8_nextToken_106 ?_
              dsimp only [List.set, wMod]
              refine v_goto (tgt := 196) X dX8_nextToken_109 (by decide) ?_
              refine v_aload_n X dX8_nextToken_196 rfl ?_
              refine v_aload_n X dX8_nextToken_197 rfl ?_
              refine v_get X (fun _ h => List.mem_cons_of_mem _ (List.mem_append_right _ h)) 0 rfl rfl 13 (by decide) rfl (List.mem_of_getElem? (i := 1) rfl) rfl dX8_nextToken_198 ?_
              refine v_put X (fun _ h => List.mem_cons_of_mem _ (List.mem_append_right _ h)) tyX8 tyX8_ok nmX8 0 rfl rfl 16 (by decide) rfl (List.mem_of_getElem? (i := 5) rfl) rfl rfl rfl (Nat.le_of_ble_eq_true rfl) dX8_nextToken_201 ?_
              dsimp only [List.set, wMod]
              exact v_vret X Y dX8_nextToken_204 (u := ()) trivial (by dsimp only [mnx]; rw [e2.1, e2.2, h5] <;> rfl)
            · skip
              refine v_aload_n X dX8_nextToken_91 rfl ?_
              refine v_dup X dX8_nextToken_92 rfl ?_
              refine v_get X (fun _ h => List.mem_cons_of_mem _ (List.mem_append_right _ h)) 0 rfl rfl 13 (by decide) rfl (List.mem_of_getElem? (i := 1) rfl) rfl dX8_nextToken_93 ?_
              refine v_iconst X dX8_nextToken_96 ?_
              refine v_iadd X dX8_nextToken_97 ?_
              refine v_put X (fun _ h => List.mem_cons_of_mem _ (List.mem_append_right _ h)) tyX8 tyX8_ok nmX8 0 rfl rfl 13 (by decide) rfl (List.mem_of_getElem? (i := 1) rfl) rfl rfl rfl (Nat.le_of_ble_eq_true rfl) dX8_nextToken_98 ?_
              dsimp only [List.set, wMod]
              refine v_goto (tgt := 77) X dX8_nextToken_101 (by decide) ?_
              exact ih77 _ (by omega) (by rw [g2, scW_s, if_pos ⟨by omega, leB_iff.mpr (by omega)⟩]) (by omega)
        exact L77 _ _ (by omega) (by rfl) (Nat.lt_succ_self _)
    · skip
      have e1 := tk_en h5 (by omega)
      have e2 : tkM ftp ln cu = 1 ∧ tkE ftp ln cu = i := ⟨e1.2.2, e1.2.1⟩
      refine v_aload_n X dX8_nextToken_62 rfl ?_
      refine v_iconst X dX8_nextToken_63 ?_
      refine v_put X (fun _ h => List.mem_cons_of_mem _ (List.mem_append_right _ h)) tyX8 tyX8_ok nmX8 0 rfl rfl 14 (by decide) rfl (List.mem_of_getElem? (i := 4) rfl) rfl rfl rfl (Nat.le_of_ble_eq_true rfl) dX8_nextToken_64 ?_
      dsimp only [List.set, wMod]
      refine v_goto (tgt := 196) X dX8_nextToken_67 (by decide) ?_
      refine v_aload_n X dX8_nextToken_196 rfl ?_
      refine v_aload_n X dX8_nextToken_197 rfl ?_
      refine v_get X (fun _ h => List.mem_cons_of_mem _ (List.mem_append_right _ h)) 0 rfl rfl 13 (by decide) rfl (List.mem_of_getElem? (i := 1) rfl) rfl dX8_nextToken_198 ?_
      refine v_put X (fun _ h => List.mem_cons_of_mem _ (List.mem_append_right _ h)) tyX8 tyX8_ok nmX8 0 rfl rfl 16 (by decide) rfl (List.mem_of_getElem? (i := 5) rfl) rfl rfl rfl (Nat.le_of_ble_eq_true rfl) dX8_nextToken_201 ?_
      dsimp only [List.set, wMod]
      exact v_vret X Y dX8_nextToken_204 (u := ()) trivial (by dsimp only [mnx]; rw [e2.1, e2.2, h5] <;> rfl)
  have L0 : ∀ (nf : Nat) (i : Int) (h1 : cu ≤ i ∧ i ≤ ln) (h2 : scW spB ftp ln cu = scW spB ftp ln i) (_ : (ln - i).toNat < nf), V g x 0 0 (wMod g A th sq ac td lt ln (i) tk sa ti ft fp le lf tr fl fm fi fc ff fw ftp fk fe fr) [some (.ref (A 0)), none] 0 [] := by
    intro nf
    induction nf with
    | zero => intro i h1 h2 hmu; exact absurd hmu (Nat.not_lt_zero _)
    | succ nf ih0 =>
      intro i h1 h2 hmu
      have q1 : (i < ln ∧ (if i < ln then ftp (i).toNat else -1000000) = ftp (i).toNat) ∨ (ln ≤ i ∧ (if i < ln then ftp (i).toNat else -1000000) = -1000000) := by split <;> omega
      have r1 := hftp (i).toNat
      refine v_aload_n X dX8_nextToken_0 rfl ?_
      refine v_aload_n X dX8_nextToken_1 rfl ?_
      refine v_get X (fun _ h => List.mem_cons_of_mem _ (List.mem_append_right _ h)) 0 rfl rfl 13 (by decide) rfl (List.mem_of_getElem? (i := 1) rfl) rfl dX8_nextToken_2 ?_
      refine res_E X (run_V X (c_X8_byteAt (g := g) (by first | assumption | omega) (by first | assumption | omega) (by first | assumption | omega)) gX8_nextToken_X8_byteAt rfl hdX8_byteAt ⟨(Nat.le_of_ble_eq_true rfl), (Nat.le_of_ble_eq_true rfl)⟩ ⟨(Nat.le_of_ble_eq_true rfl), (Nat.le_of_ble_eq_true rfl)⟩ 0 rfl rfl rfl [0, 1, 2, 3, 4, 5, 6, 7, 8, 9, 10] rfl rfl rfl rfl (by simp [Value.category]) dX8_nextToken_5) [0, 1, 2, 3, 4, 5, 6, 7, 8, 9, 10] rfl rfl ?_
      refine v_bipush X dX8_nextToken_8 (by decide) ?_
      refine v_icmp_eq (tgt := 26) X dX8_nextToken_10 (by decide) (by first | omega | (split <;> omega)) (by first | omega | (split <;> omega)) (fun c8 => ?_) (fun c8 => ?_)
      · skip
        refine v_aload_n X dX8_nextToken_26 rfl ?_
        refine v_dup X dX8_nextToken_27 rfl ?_
        refine v_get X (fun _ h => List.mem_cons_of_mem _ (List.mem_append_right _ h)) 0 rfl rfl 13 (by decide) rfl (List.mem_of_getElem? (i := 1) rfl) rfl dX8_nextToken_28 ?_
        refine v_iconst X dX8_nextToken_31 ?_
        refine v_iadd X dX8_nextToken_32 ?_
        refine v_put X (fun _ h => List.mem_cons_of_mem _ (List.mem_append_right _ h)) tyX8 tyX8_ok nmX8 0 rfl rfl 13 (by decide) rfl (List.mem_of_getElem? (i := 1) rfl) rfl rfl rfl (Nat.le_of_ble_eq_true rfl) dX8_nextToken_33 ?_
        dsimp only [List.set, wMod]
        refine v_goto (tgt := 0) X dX8_nextToken_36 (by decide) ?_
        exact ih0 _ (by omega) (by rw [h2, scW_s, if_pos ⟨by omega, spB_iff.mpr (by omega)⟩]) (by omega)
      · skip
        refine v_aload_n X dX8_nextToken_13 rfl ?_
        refine v_aload_n X dX8_nextToken_14 rfl ?_
        refine v_get X (fun _ h => List.mem_cons_of_mem _ (List.mem_append_right _ h)) 0 rfl rfl 13 (by decide) rfl (List.mem_of_getElem? (i := 1) rfl) rfl dX8_nextToken_15 ?_
        refine res_E X (run_V X (c_X8_byteAt (g := g) (by first | assumption | omega) (by first | assumption | omega) (by first | assumption | omega)) gX8_nextToken_X8_byteAt rfl hdX8_byteAt ⟨(Nat.le_of_ble_eq_true rfl), (Nat.le_of_ble_eq_true rfl)⟩ ⟨(Nat.le_of_ble_eq_true rfl), (Nat.le_of_ble_eq_true rfl)⟩ 0 rfl rfl rfl [0, 1, 2, 3, 4, 5, 6, 7, 8, 9, 10] rfl rfl rfl rfl (by simp [Value.category]) dX8_nextToken_18) [0, 1, 2, 3, 4, 5, 6, 7, 8, 9, 10] rfl rfl ?_
        refine v_bipush X dX8_nextToken_21 (by decide) ?_
        refine v_icmp_ne (tgt := 39) X dX8_nextToken_23 (by decide) (by first | omega | (split <;> omega)) (by first | omega | (split <;> omega)) (fun c9 => ?_) (fun c9 => ?_)
        · skip
          exact J39 _ (by omega) (by unfold tkS; rw [h2, scW_s, if_neg (by first | omega | (exact fun z => absurd (spB_iff.mp z.2) (by omega)))])
        · skip
          refine v_aload_n X dX8_nextToken_26 rfl ?_
          refine v_dup X dX8_nextToken_27 rfl ?_
          refine v_get X (fun _ h => List.mem_cons_of_mem _ (List.mem_append_right _ h)) 0 rfl rfl 13 (by decide) rfl (List.mem_of_getElem? (i := 1) rfl) rfl dX8_nextToken_28 ?_
          refine v_iconst X dX8_nextToken_31 ?_
          refine v_iadd X dX8_nextToken_32 ?_
          refine v_put X (fun _ h => List.mem_cons_of_mem _ (List.mem_append_right _ h)) tyX8 tyX8_ok nmX8 0 rfl rfl 13 (by decide) rfl (List.mem_of_getElem? (i := 1) rfl) rfl rfl rfl (Nat.le_of_ble_eq_true rfl) dX8_nextToken_33 ?_
          dsimp only [List.set, wMod]
          refine v_goto (tgt := 0) X dX8_nextToken_36 (by decide) ?_
          exact ih0 _ (by omega) (by rw [h2, scW_s, if_pos ⟨by omega, spB_iff.mpr (by omega)⟩]) (by omega)
  exact L0 _ _ (by omega) (by rfl) (Nat.lt_succ_self _)

theorem hdX8_bad : yX8_bad.cls = RX8 ∧ yX8_bad.cls ≠ "java/lang/invoke/MethodHandle" ∧ yX8_bad.cls ≠ "java/lang/invoke/VarHandle" ∧ (parseMethodDescriptor yX8_bad.desc).map (fun d => d.parameters.length) = some 1 := ⟨rfl, by decide +kernel, by decide +kernel, by decide +kernel⟩
set_option maxHeartbeats 4000000 in
set_option maxRecDepth 100000 in
theorem c_X8_bad {g : Gx} {A : Nat → Nat} {th sq ac td lt ln cu tk sa ti ft fp le lf tr : Int} {fl fm fi fc ff fw ftp fk fe fr : Nat → Int} {k : Int} (hft : R32 ft) : CtW g yX8_bad wsX8_bad 0 0 [.ref (A 0), .int (iI k)] (wMod g A th sq ac td lt ln cu tk sa ti ft fp le lf tr fl fm fi fc ff fw ftp fk fe fr) (wMod g A th sq ac td lt ln ((mbd k (cu, tk, sa, ti, ft, fp)).1) ((mbd k (cu, tk, sa, ti, ft, fp)).2.1) ((mbd k (cu, tk, sa, ti, ft, fp)).2.2.1) ((mbd k (cu, tk, sa, ti, ft, fp)).2.2.2.1) ((mbd k (cu, tk, sa, ti, ft, fp)).2.2.2.2.1) ((mbd k (cu, tk, sa, ti, ft, fp)).2.2.2.2.2) le lf tr fl fm fi fc ff fw ftp fk fe fr) := by
  refine m_go (cc := cX8_bad) (nL := 2) (by decide +kernel) rfl (Nat.le_of_ble_eq_true rfl) (fun x X Y hnm => ?_)
  refine v_eq (lo2 := [some (.ref (A 0)), some (.int (iI k))]) rfl rfl rfl rfl ?_
  refine v_aload_n X dX8_bad_0 rfl ?_
  refine v_get X (fun _ h => List.mem_cons_of_mem _ (List.mem_append_right _ h)) 0 rfl rfl 17 (by decide) rfl (List.mem_of_getElem? (i := 1) rfl) rfl dX8_bad_1 ?_
  refine v_if_ne (tgt := 20) X dX8_bad_4 (by decide) (by omega) (fun c1 => ?_) (fun c1 => ?_)
  · skip
    exact v_vret X Y dX8_bad_20 (u := ()) trivial (by dsimp only [mbd]; (first | rw [if_pos (by assumption)] | rw [if_neg (by assumption)]) <;> rfl)
  · skip
    refine v_aload_n X dX8_bad_7 rfl ?_
    refine v_iload_n X dX8_bad_8 rfl ?_
    refine v_put X (fun _ h => List.mem_cons_of_mem _ (List.mem_append_right _ h)) tyX8 tyX8_ok nmX8 0 rfl rfl 17 (by decide) rfl (List.mem_of_getElem? (i := 1) rfl) rfl rfl rfl (Nat.le_of_ble_eq_true rfl) dX8_bad_9 ?_
    dsimp only [List.set, wMod]
    refine v_aload_n X dX8_bad_12 rfl ?_
    refine v_aload_n X dX8_bad_13 rfl ?_
    refine v_get X (fun _ h => List.mem_cons_of_mem _ (List.mem_append_right _ h)) 0 rfl rfl 15 (by decide) rfl (List.mem_of_getElem? (i := 2) rfl) rfl dX8_bad_14 ?_
    refine v_put X (fun _ h => List.mem_cons_of_mem _ (List.mem_append_right _ h)) tyX8 tyX8_ok nmX8 0 rfl rfl 18 (by decide) rfl (List.mem_of_getElem? (i := 3) rfl) rfl rfl rfl (Nat.le_of_ble_eq_true rfl) dX8_bad_17 ?_
    dsimp only [List.set, wMod]
    exact v_vret X Y dX8_bad_20 (u := ()) trivial (by dsimp only [mbd]; (first | rw [if_pos (by assumption)] | rw [if_neg (by assumption)]) <;> rfl)

theorem hdX8_must : yX8_must.cls = RX8 ∧ yX8_must.cls ≠ "java/lang/invoke/MethodHandle" ∧ yX8_must.cls ≠ "java/lang/invoke/VarHandle" ∧ (parseMethodDescriptor yX8_must.desc).map (fun d => d.parameters.length) = some 1 := ⟨rfl, by decide +kernel, by decide +kernel, by decide +kernel⟩
set_option maxHeartbeats 4000000 in
set_option maxRecDepth 100000 in
theorem c_X8_must {g : Gx} {A : Nat → Nat} {th sq ac td lt ln cu tk sa ti ft fp le lf tr : Int} {fl fm fi fc ff fw ftp fk fe fr : Nat → Int} {b : Int} (hftp : Bd 0 255 ftp) (hln : 0 ≤ ln ∧ ln ≤ 200) (hok : pmOK ftp ln (cu, tk, sa, ti, ft, fp)) (hb : 0 ≤ b ∧ b ≤ 1) : CtV (S := PM) g yX8_must wsX8_must 2 42 [.ref (A 0), .int (iI b)] (wMod g A th sq ac td lt ln cu tk sa ti ft fp le lf tr fl fm fi fc ff fw ftp fk fe fr) (fun u => u = mmu ftp ln b (cu, tk, sa, ti, ft, fp) ∧ pmOK ftp ln u) (fun u => wMod g A th sq ac td lt ln ((u).1) ((u).2.1) ((u).2.2.1) ((u).2.2.2.1) ((u).2.2.2.2.1) ((u).2.2.2.2.2) le lf tr fl fm fi fc ff fw ftp fk fe fr) := by
  refine m_go (cc := cX8_must) (nL := 2) (by decide +kernel) rfl (Nat.le_of_ble_eq_true rfl) (fun x X Y hnm => ?_)
  refine v_eq (lo2 := [some (.ref (A 0)), some (.int (iI b))]) rfl rfl rfl rfl ?_
  have qk := pm_f hok
  have q5 : (mbd 1 (cu, tk, sa, ti, ft, fp)).2.2.2.2.1 ≠ 0 := mbd_ne (by decide)
  have q6 := (pmOK_mbd (k := 1) (by decide) hok).2.2.1
  refine v_iload_n X dX8_must_0 rfl ?_
  refine v_if_ne (tgt := 9) X dX8_must_1 (by decide) (by first | omega | exact ⟨by omega, by omega⟩) (fun c1 => ?_) (fun c1 => ?_)
  · skip
    refine v_aload_n X dX8_must_9 rfl ?_
    refine v_get X (fun _ h => List.mem_cons_of_mem _ (List.mem_append_right _ h)) 0 rfl rfl 17 (by decide) rfl (List.mem_of_getElem? (i := 1) rfl) rfl dX8_must_10 ?_
    refine v_if_ne (tgt := 20) X dX8_must_13 (by decide) (by first | omega | exact ⟨by omega, by omega⟩) (fun c2 => ?_) (fun c2 => ?_)
    · skip
      refine v_vret X Y dX8_must_20 (u := mmu ftp ln b (cu, tk, sa, ti, ft, fp)) ?_ (by first | (exfalso; omega) | (dsimp only [mmu]; (first | (rw [if_pos (by assumption), if_pos (by assumption)]) | (rw [if_pos (by assumption), if_neg (by assumption)]) | (rw [if_neg (by omega)])) <;> rfl))
      exact ⟨rfl, pmOK_mmu hok⟩
    · skip
      refine v_aload_n X dX8_must_16 rfl ?_
      refine res_W X (run_V X (c_X8_nextToken (g := g) (by first | assumption | omega) (by first | assumption | omega) (by first | assumption | omega)) gX8_must_X8_nextToken rfl hdX8_nextToken ⟨(Nat.le_of_ble_eq_true rfl), (Nat.le_of_ble_eq_true rfl)⟩ ⟨(Nat.le_of_ble_eq_true rfl), (Nat.le_of_ble_eq_true rfl)⟩ 0 rfl rfl rfl [0, 1, 2, 3, 4, 5, 6, 7, 8, 9, 10] rfl rfl rfl rfl (by simp [Value.category]) dX8_must_17) [0, 1, 2, 3, 4, 5, 6, 7, 8, 9, 10] rfl rfl rfl ?_
      dsimp only [patch, List.set, wMod]
      refine v_vret X Y dX8_must_20 (u := mmu ftp ln b (cu, tk, sa, ti, ft, fp)) ?_ (by first | (exfalso; omega) | (dsimp only [mmu]; (first | (rw [if_pos (by assumption), if_pos (by assumption)]) | (rw [if_pos (by assumption), if_neg (by assumption)]) | (rw [if_neg (by omega)])) <;> rfl))
      exact ⟨rfl, pmOK_mmu hok⟩
  · skip
    refine v_aload_n X dX8_must_4 rfl ?_
    refine v_iconst X dX8_must_5 ?_
    refine res_W X (run_V X (c_X8_bad (g := g) (by first | assumption | omega)) gX8_must_X8_bad rfl hdX8_bad ⟨(Nat.le_of_ble_eq_true rfl), (Nat.le_of_ble_eq_true rfl)⟩ ⟨(Nat.le_of_ble_eq_true rfl), (Nat.le_of_ble_eq_true rfl)⟩ 0 rfl rfl rfl [0, 1, 2, 3, 4, 5, 6, 7, 8, 9, 10] rfl rfl rfl rfl (by simp [Value.category]) dX8_must_6) [0, 1, 2, 3, 4, 5, 6, 7, 8, 9, 10] rfl rfl rfl ?_
    dsimp only [patch, List.set, wMod]
    refine v_aload_n X dX8_must_9 rfl ?_
    refine v_get X (fun _ h => List.mem_cons_of_mem _ (List.mem_append_right _ h)) 0 rfl rfl 17 (by decide) rfl (List.mem_of_getElem? (i := 1) rfl) rfl dX8_must_10 ?_
    refine v_if_ne (tgt := 20) X dX8_must_13 (by decide) (by first | omega | exact ⟨by omega, by omega⟩) (fun c3 => ?_) (fun c3 => ?_)
    · skip
      refine v_vret X Y dX8_must_20 (u := mmu ftp ln b (cu, tk, sa, ti, ft, fp)) ?_ (by first | (exfalso; omega) | (dsimp only [mmu]; (first | (rw [if_pos (by assumption), if_pos (by assumption)]) | (rw [if_pos (by assumption), if_neg (by assumption)]) | (rw [if_neg (by omega)])) <;> rfl))
      exact ⟨rfl, pmOK_mmu hok⟩
    · skip
      refine v_aload_n X dX8_must_16 rfl ?_
      refine res_W X (run_V X (c_X8_nextToken (g := g) (by first | assumption | omega) (by first | assumption | omega) (by first | assumption | omega)) gX8_must_X8_nextToken rfl hdX8_nextToken ⟨(Nat.le_of_ble_eq_true rfl), (Nat.le_of_ble_eq_true rfl)⟩ ⟨(Nat.le_of_ble_eq_true rfl), (Nat.le_of_ble_eq_true rfl)⟩ 0 rfl rfl rfl [0, 1, 2, 3, 4, 5, 6, 7, 8, 9, 10] rfl rfl rfl rfl (by simp [Value.category]) dX8_must_17) [0, 1, 2, 3, 4, 5, 6, 7, 8, 9, 10] rfl rfl rfl ?_
      dsimp only [patch, List.set, wMod]
      refine v_vret X Y dX8_must_20 (u := mmu ftp ln b (cu, tk, sa, ti, ft, fp)) ?_ (by first | (exfalso; omega) | (dsimp only [mmu]; (first | (rw [if_pos (by assumption), if_pos (by assumption)]) | (rw [if_pos (by assumption), if_neg (by assumption)]) | (rw [if_neg (by omega)])) <;> rfl))
      exact ⟨rfl, pmOK_mmu hok⟩

theorem hdX8_name : yX8_name.cls = RX8 ∧ yX8_name.cls ≠ "java/lang/invoke/MethodHandle" ∧ yX8_name.cls ≠ "java/lang/invoke/VarHandle" ∧ (parseMethodDescriptor yX8_name.desc).map (fun d => d.parameters.length) = some 0 := ⟨rfl, by decide +kernel, by decide +kernel, by decide +kernel⟩
set_option maxHeartbeats 4000000 in
set_option maxRecDepth 100000 in
theorem c_X8_name {g : Gx} {A : Nat → Nat} {th sq ac td lt ln cu tk sa ti ft fp le lf tr : Int} {fl fm fi fc ff fw ftp fk fe fr : Nat → Int}  (hftp : Bd 0 255 ftp) (hln : 0 ≤ ln ∧ ln ≤ 200) (hok : pmOK ftp ln (cu, tk, sa, ti, ft, fp)) : CtL (S := Unit) g yX8_name wsX8_name 0 0 [.ref (A 0)] (wMod g A th sq ac td lt ln cu tk sa ti ft fp le lf tr fl fm fi fc ff fw ftp fk fe fr) (fun v _ => v = lI (namF ftp (cu, tk, sa, ti, ft, fp))) (fun _ => wMod g A th sq ac td lt ln cu tk sa ti ft fp le lf tr fl fm fi fc ff fw ftp fk fe fr) := by
  refine m_go (cc := cX8_name) (nL := 4) (by decide +kernel) rfl (Nat.le_of_ble_eq_true rfl) (fun x X Y hnm => ?_)
  refine v_eq (lo2 := [some (.ref (A 0)), none, none, none]) rfl rfl rfl rfl ?_
  have qk := pm_f hok
  refine v_lconst0 X dX8_name_0 ?_
  refine v_lstore_n X dX8_name_1 1 rfl (by decide) rfl ?_
  dsimp only [List.set]
  refine v_aload_n X dX8_name_2 rfl ?_
  refine v_get X (fun _ h => List.mem_cons_of_mem _ (List.mem_append_right _ h)) 0 rfl rfl 15 (by decide) rfl (List.mem_of_getElem? (i := 1) rfl) rfl dX8_name_3 ?_
  refine v_istore_n X dX8_name_6 3 rfl (by decide) rfl ?_
  dsimp only [List.set]
  have L7 : ∀ (nf : Nat) (v : Int) (i : Int) (h1 : sa ≤ i ∧ i ≤ ti) (h2 : v = nmN ftp sa (i - sa).toNat) (h3 : i = sa ∨ (tk = 2 ∧ ti - sa < 8)) (_ : (ti - i).toNat < nf), V g x 0 0 (wMod g A th sq ac td lt ln cu tk sa ti ft fp le lf tr fl fm fi fc ff fw ftp fk fe fr) [some (.ref (A 0)), some (.long (lI v)), none, some (.int (iI i))] 7 [] := by
    intro nf
    induction nf with
    | zero => intro v i h1 h2 h3 hmu; exact absurd hmu (Nat.not_lt_zero _)
    | succ nf ih7 =>
      intro v i h1 h2 h3 hmu
      refine v_iload_n X dX8_name_7 rfl ?_
      refine v_aload_n X dX8_name_8 rfl ?_
      refine v_get X (fun _ h => List.mem_cons_of_mem _ (List.mem_append_right _ h)) 0 rfl rfl 16 (by decide) rfl (List.mem_of_getElem? (i := 2) rfl) rfl dX8_name_9 ?_
      refine v_icmp_ge (tgt := 56) X dX8_name_12 (by decide) (by omega) (by omega) (fun c1 => ?_) (fun c1 => ?_)
      · skip
        refine v_aload_n X dX8_name_56 rfl ?_
        refine v_get X (fun _ h => List.mem_cons_of_mem _ (List.mem_append_right _ h)) 0 rfl rfl 17 (by decide) rfl (List.mem_of_getElem? (i := 5) rfl) rfl dX8_name_57 ?_
        refine v_if_ne (tgt := 67) X dX8_name_60 (by decide) (by omega) (fun c2 => ?_) (fun c2 => ?_)
        · skip
          refine v_lconst0 X dX8_name_67 ?_
          refine v_lret X Y dX8_name_68 (u := ()) ?_ (by rfl)
          dsimp only [namF]
          by_cases cz : ft = 0
          · rw [if_pos cz]
            by_cases cy : tk = 2 ∧ ti - sa < 8
            · first
              | (exfalso; omega)
              | rw [if_pos cy, h2, show i = ti by omega]
            · first
              | (exfalso; omega)
              | (rw [if_neg cy, h2, show i = sa by omega, show (sa - sa).toNat = 0 by omega]; rfl)
          · first
            | (exfalso; omega)
            | rw [if_neg cz]
        · skip
          refine v_lload_n X dX8_name_63 rfl ?_
          refine v_goto (tgt := 68) X dX8_name_64 (by decide) ?_
          refine v_lret X Y dX8_name_68 (u := ()) ?_ (by rfl)
          dsimp only [namF]
          by_cases cz : ft = 0
          · rw [if_pos cz]
            by_cases cy : tk = 2 ∧ ti - sa < 8
            · first
              | (exfalso; omega)
              | rw [if_pos cy, h2, show i = ti by omega]
            · first
              | (exfalso; omega)
              | (rw [if_neg cy, h2, show i = sa by omega, show (sa - sa).toNat = 0 by omega]; rfl)
          · first
            | (exfalso; omega)
            | rw [if_neg cz]
      · skip
        refine v_aload_n X dX8_name_15 rfl ?_
        refine v_get X (fun _ h => List.mem_cons_of_mem _ (List.mem_append_right _ h)) 0 rfl rfl 14 (by decide) rfl (List.mem_of_getElem? (i := 3) rfl) rfl dX8_name_16 ?_
        refine v_iconst X dX8_name_19 ?_
        refine v_icmp_ne (tgt := 56) X dX8_name_20 (by decide) (by omega) (by omega) (fun c3 => ?_) (fun c3 => ?_)
        · skip
          refine v_aload_n X dX8_name_56 rfl ?_
          refine v_get X (fun _ h => List.mem_cons_of_mem _ (List.mem_append_right _ h)) 0 rfl rfl 17 (by decide) rfl (List.mem_of_getElem? (i := 5) rfl) rfl dX8_name_57 ?_
          refine v_if_ne (tgt := 67) X dX8_name_60 (by decide) (by omega) (fun c4 => ?_) (fun c4 => ?_)
          · skip
            refine v_lconst0 X dX8_name_67 ?_
            refine v_lret X Y dX8_name_68 (u := ()) ?_ (by rfl)
            dsimp only [namF]
            by_cases cz : ft = 0
            · rw [if_pos cz]
              by_cases cy : tk = 2 ∧ ti - sa < 8
              · first
                | (exfalso; omega)
                | rw [if_pos cy, h2, show i = ti by omega]
              · first
                | (exfalso; omega)
                | (rw [if_neg cy, h2, show i = sa by omega, show (sa - sa).toNat = 0 by omega]; rfl)
            · first
              | (exfalso; omega)
              | rw [if_neg cz]
          · skip
            refine v_lload_n X dX8_name_63 rfl ?_
            refine v_goto (tgt := 68) X dX8_name_64 (by decide) ?_
            refine v_lret X Y dX8_name_68 (u := ()) ?_ (by rfl)
            dsimp only [namF]
            by_cases cz : ft = 0
            · rw [if_pos cz]
              by_cases cy : tk = 2 ∧ ti - sa < 8
              · first
                | (exfalso; omega)
                | rw [if_pos cy, h2, show i = ti by omega]
              · first
                | (exfalso; omega)
                | (rw [if_neg cy, h2, show i = sa by omega, show (sa - sa).toNat = 0 by omega]; rfl)
            · first
              | (exfalso; omega)
              | rw [if_neg cz]
        · skip
          refine v_aload_n X dX8_name_23 rfl ?_
          refine v_get X (fun _ h => List.mem_cons_of_mem _ (List.mem_append_right _ h)) 0 rfl rfl 16 (by decide) rfl (List.mem_of_getElem? (i := 2) rfl) rfl dX8_name_24 ?_
          refine v_aload_n X dX8_name_27 rfl ?_
          refine v_get X (fun _ h => List.mem_cons_of_mem _ (List.mem_append_right _ h)) 0 rfl rfl 15 (by decide) rfl (List.mem_of_getElem? (i := 1) rfl) rfl dX8_name_28 ?_
          refine v_isub X dX8_name_31 ?_
          refine v_bipush X dX8_name_32 (by decide) ?_
          refine v_icmp_ge (tgt := 56) X dX8_name_34 (by decide) (by omega) (by omega) (fun c5 => ?_) (fun c5 => ?_)
          · skip
            refine v_aload_n X dX8_name_56 rfl ?_
            refine v_get X (fun _ h => List.mem_cons_of_mem _ (List.mem_append_right _ h)) 0 rfl rfl 17 (by decide) rfl (List.mem_of_getElem? (i := 5) rfl) rfl dX8_name_57 ?_
            refine v_if_ne (tgt := 67) X dX8_name_60 (by decide) (by omega) (fun c6 => ?_) (fun c6 => ?_)
            · skip
              refine v_lconst0 X dX8_name_67 ?_
              refine v_lret X Y dX8_name_68 (u := ()) ?_ (by rfl)
              dsimp only [namF]
              by_cases cz : ft = 0
              · rw [if_pos cz]
                by_cases cy : tk = 2 ∧ ti - sa < 8
                · first
                  | (exfalso; omega)
                  | rw [if_pos cy, h2, show i = ti by omega]
                · first
                  | (exfalso; omega)
                  | (rw [if_neg cy, h2, show i = sa by omega, show (sa - sa).toNat = 0 by omega]; rfl)
              · first
                | (exfalso; omega)
                | rw [if_neg cz]
            · skip
              refine v_lload_n X dX8_name_63 rfl ?_
              refine v_goto (tgt := 68) X dX8_name_64 (by decide) ?_
              refine v_lret X Y dX8_name_68 (u := ()) ?_ (by rfl)
              dsimp only [namF]
              by_cases cz : ft = 0
              · rw [if_pos cz]
                by_cases cy : tk = 2 ∧ ti - sa < 8
                · first
                  | (exfalso; omega)
                  | rw [if_pos cy, h2, show i = ti by omega]
                · first
                  | (exfalso; omega)
                  | (rw [if_neg cy, h2, show i = sa by omega, show (sa - sa).toNat = 0 by omega]; rfl)
              · first
                | (exfalso; omega)
                | rw [if_neg cz]
          · skip
            refine v_lload_n X dX8_name_37 rfl ?_
            refine v_bipush X dX8_name_38 (by decide) ?_
            refine v_lshl X dX8_name_40 ?_
            refine v_aload_n X dX8_name_41 rfl ?_
            refine v_get X (fun _ h => List.mem_cons_of_mem _ (List.mem_append_right _ h)) 0 rfl rfl 9 (by decide) rfl (List.mem_of_getElem? (i := 4) rfl) rfl dX8_name_42 ?_
            refine v_iload_n X dX8_name_45 rfl ?_
            refine v_iald X 7 rfl (by omega) (by omega) (by omega) dX8_name_46 hftp (fun zz ezz lzz uzz => ?_)
            refine v_i2l X dX8_name_47 (by omega) ?_
            refine v_lor X dX8_name_48 ?_
            have q6 := nmN_bd (s := sa) hftp (i - sa).toNat
            have q7 := q6.2.1 (by omega)
            rw [← h2] at q6 q7
            rw [packL ⟨q6.1, q7⟩ (by omega)]
            refine v_lstore_n X dX8_name_49 1 rfl (by decide) rfl ?_
            dsimp only [List.set]
            refine v_iinc X dX8_name_50 rfl (by decide) rfl ?_
            dsimp only [List.set]
            refine v_goto (tgt := 7) X dX8_name_53 (by decide) ?_
            exact ih7 _ _ (by omega) (by rw [nmN_s h1.1, ← h2, ← ezz]) (by omega) (by omega)
  exact L7 _ _ _ (by omega) (by rw [show (sa - sa).toNat = 0 by omega]; rfl) (by omega) (Nat.lt_succ_self _)

theorem hdX8_figures : yX8_figures.cls = RX8 ∧ yX8_figures.cls ≠ "java/lang/invoke/MethodHandle" ∧ yX8_figures.cls ≠ "java/lang/invoke/VarHandle" ∧ (parseMethodDescriptor yX8_figures.desc).map (fun d => d.parameters.length) = some 0 := ⟨rfl, by decide +kernel, by decide +kernel, by decide +kernel⟩
set_option maxHeartbeats 4000000 in
set_option maxRecDepth 100000 in
theorem c_X8_figures {g : Gx} {A : Nat → Nat} {th sq ac td lt ln cu tk sa ti ft fp le lf tr : Int} {fl fm fi fc ff fw ftp fk fe fr : Nat → Int}  (hftp : Bd 0 255 ftp) (hln : 0 ≤ ln ∧ ln ≤ 200) (hok : pmOK ftp ln (cu, tk, sa, ti, ft, fp)) : CtE g yX8_figures wsX8_figures 0 0 [.ref (A 0)] (wMod g A th sq ac td lt ln cu tk sa ti ft fp le lf tr fl fm fi fc ff fw ftp fk fe fr) (if tk = 3 then nmI ftp sa (ti - sa).toNat else 0) (wMod g A th sq ac td lt ln cu tk sa ti ft fp le lf tr fl fm fi fc ff fw ftp fk fe fr) := by
  refine m_go (cc := cX8_figures) (nL := 3) (by decide +kernel) rfl (Nat.le_of_ble_eq_true rfl) (fun x X Y hnm => ?_)
  refine v_eq (lo2 := [some (.ref (A 0)), none, none]) rfl rfl rfl rfl ?_
  have qk := pm_f hok
  refine v_iconst X dX8_figures_0 ?_
  refine v_istore_n X dX8_figures_1 1 rfl (by decide) rfl ?_
  dsimp only [List.set]
  refine v_aload_n X dX8_figures_2 rfl ?_
  refine v_get X (fun _ h => List.mem_cons_of_mem _ (List.mem_append_right _ h)) 0 rfl rfl 15 (by decide) rfl (List.mem_of_getElem? (i := 1) rfl) rfl dX8_figures_3 ?_
  refine v_istore_n X dX8_figures_6 2 rfl (by decide) rfl ?_
  dsimp only [List.set]
  have L7 : ∀ (nf : Nat) (v : Int) (i : Int) (h1 : sa ≤ i ∧ i ≤ ti) (h2 : v = nmI ftp sa (i - sa).toNat) (h3 : i = sa ∨ tk = 3) (h4 : (i = sa ∧ v = 0) ∨ (i = sa + 1 ∧ 0 ≤ v ∧ v ≤ 9) ∨ (i = sa + 2 ∧ 0 ≤ v ∧ v ≤ 99) ∨ (i = sa + 3 ∧ 0 ≤ v ∧ v ≤ 999)) (_ : (ti - i).toNat < nf), V g x 0 0 (wMod g A th sq ac td lt ln cu tk sa ti ft fp le lf tr fl fm fi fc ff fw ftp fk fe fr) [some (.ref (A 0)), some (.int (iI v)), some (.int (iI i))] 7 [] := by
    intro nf
    induction nf with
    | zero => intro v i h1 h2 h3 h4 hmu; exact absurd hmu (Nat.not_lt_zero _)
    | succ nf ih7 =>
      intro v i h1 h2 h3 h4 hmu
      refine v_iload_n X dX8_figures_7 rfl ?_
      refine v_aload_n X dX8_figures_8 rfl ?_
      refine v_get X (fun _ h => List.mem_cons_of_mem _ (List.mem_append_right _ h)) 0 rfl rfl 16 (by decide) rfl (List.mem_of_getElem? (i := 2) rfl) rfl dX8_figures_9 ?_
      refine v_icmp_ge (tgt := 44) X dX8_figures_12 (by decide) (by omega) (by omega) (fun c1 => ?_) (fun c1 => ?_)
      · skip
        refine v_iload_n X dX8_figures_44 rfl ?_
        exact v_iret X Y dX8_figures_45 (u := ()) (by
            by_cases cy : tk = 3
            · first
              | (exfalso; omega)
              | rw [if_pos cy, h2, show i = ti by omega]
            · first
              | (exfalso; omega)
              | (rw [if_neg cy, h2, show i = sa by omega, show (sa - sa).toNat = 0 by omega]; rfl)) (by rfl)
      · skip
        refine v_aload_n X dX8_figures_15 rfl ?_
        refine v_get X (fun _ h => List.mem_cons_of_mem _ (List.mem_append_right _ h)) 0 rfl rfl 14 (by decide) rfl (List.mem_of_getElem? (i := 3) rfl) rfl dX8_figures_16 ?_
        refine v_iconst X dX8_figures_19 ?_
        refine v_icmp_ne (tgt := 44) X dX8_figures_20 (by decide) (by omega) (by omega) (fun c2 => ?_) (fun c2 => ?_)
        · skip
          refine v_iload_n X dX8_figures_44 rfl ?_
          exact v_iret X Y dX8_figures_45 (u := ()) (by
              by_cases cy : tk = 3
              · first
                | (exfalso; omega)
                | rw [if_pos cy, h2, show i = ti by omega]
              · first
                | (exfalso; omega)
                | (rw [if_neg cy, h2, show i = sa by omega, show (sa - sa).toNat = 0 by omega]; rfl)) (by rfl)
        · skip
          have q1 : ti - sa ≤ 3 ∧ ∀ j : Int, sa ≤ j → j < ti → 48 ≤ ftp j.toNat ∧ ftp j.toNat ≤ 57 := hok.1.2.1 (by assumption)
          have q2 := q1.2 i (by omega) (by omega)
          have q3 : ti - sa ≤ 3 := q1.1
          refine v_bipush X dX8_figures_23 (by decide) ?_
          refine v_iload_n X dX8_figures_25 rfl ?_
          refine v_imul X dX8_figures_26 ?_
          refine v_aload_n X dX8_figures_27 rfl ?_
          refine v_get X (fun _ h => List.mem_cons_of_mem _ (List.mem_append_right _ h)) 0 rfl rfl 9 (by decide) rfl (List.mem_of_getElem? (i := 4) rfl) rfl dX8_figures_28 ?_
          refine v_iload_n X dX8_figures_31 rfl ?_
          refine v_iald X 7 rfl (by omega) (by omega) (by omega) dX8_figures_32 hftp (fun zz ezz lzz uzz => ?_)
          rw [← ezz] at q2
          refine v_iadd X dX8_figures_33 ?_
          refine v_bipush X dX8_figures_34 (by decide) ?_
          refine v_isub X dX8_figures_36 ?_
          refine v_istore_n X dX8_figures_37 1 rfl (by decide) rfl ?_
          dsimp only [List.set]
          refine v_iinc X dX8_figures_38 rfl (by decide) rfl ?_
          dsimp only [List.set]
          refine v_goto (tgt := 7) X dX8_figures_41 (by decide) ?_
          exact ih7 _ _ (by omega) (by rw [nmI_s h1.1, ← h2, ← ezz]) (by first | assumption | omega) (by omega) (by omega)
  exact L7 _ _ _ (by omega) (by rw [show (sa - sa).toNat = 0 by omega]; rfl) (by first | assumption | omega) (by omega) (Nat.lt_succ_self _)

theorem hdX8_number : yX8_number.cls = RX8 ∧ yX8_number.cls ≠ "java/lang/invoke/MethodHandle" ∧ yX8_number.cls ≠ "java/lang/invoke/VarHandle" ∧ (parseMethodDescriptor yX8_number.desc).map (fun d => d.parameters.length) = some 2 := ⟨rfl, by decide +kernel, by decide +kernel, by decide +kernel⟩
set_option maxHeartbeats 4000000 in
set_option maxRecDepth 100000 in
theorem c_X8_number {g : Gx} {A : Nat → Nat} {th sq ac td lt ln cu tk sa ti ft fp le lf tr : Int} {fl fm fi fc ff fw ftp fk fe fr : Nat → Int} {l m : Int} (hftp : Bd 0 255 ftp) (hln : 0 ≤ ln ∧ ln ≤ 200) (hok : pmOK ftp ln (cu, tk, sa, ti, ft, fp)) (hl : R32 l) (hm : R32 m) : CtI (S := PM) g yX8_number wsX8_number 3 63 [.ref (A 0), .int (iI l), .int (iI m)] (wMod g A th sq ac td lt ln cu tk sa ti ft fp le lf tr fl fm fi fc ff fw ftp fk fe fr) (fun v u => v = numV ftp (cu, tk, sa, ti, ft, fp) ∧ u = numM ftp ln l m (cu, tk, sa, ti, ft, fp) ∧ pmOK ftp ln u) (fun u => wMod g A th sq ac td lt ln ((u).1) ((u).2.1) ((u).2.2.1) ((u).2.2.2.1) ((u).2.2.2.2.1) ((u).2.2.2.2.2) le lf tr fl fm fi fc ff fw ftp fk fe fr) := by
  refine m_go (cc := cX8_number) (nL := 4) (by decide +kernel) rfl (Nat.le_of_ble_eq_true rfl) (fun x X Y hnm => ?_)
  refine v_eq (lo2 := [some (.ref (A 0)), some (.int (iI l)), some (.int (iI m)), none]) rfl rfl rfl rfl ?_
  have qk := pm_f hok
  have qv := numV_bd hok
  have q2 := (pmOK_mbd (k := 2) (by decide) hok).2.2.2
  have q3 : (mbd 2 (cu, tk, sa, ti, ft, fp)).2.1 = tk := mbd_tk
  refine v_aload_n X dX8_number_0 rfl ?_
  refine v_get X (fun _ h => List.mem_cons_of_mem _ (List.mem_append_right _ h)) 0 rfl rfl 17 (by decide) rfl (List.mem_of_getElem? (i := 1) rfl) rfl dX8_number_1 ?_
  refine v_if_le (tgt := 9) X dX8_number_4 (by decide) (by first | omega | (split <;> omega)) (fun c1 => ?_) (fun c1 => ?_)
  · skip
    refine v_aload_n X dX8_number_9 rfl ?_
    refine res_E X (run_V X (c_X8_figures (g := g) (by first | assumption | omega) (by first | assumption | omega) (by first | assumption | omega)) gX8_number_X8_figures rfl hdX8_figures ⟨(Nat.le_of_ble_eq_true rfl), (Nat.le_of_ble_eq_true rfl)⟩ ⟨(Nat.le_of_ble_eq_true rfl), (Nat.le_of_ble_eq_true rfl)⟩ 0 rfl rfl rfl [0, 1, 2, 3, 4, 5, 6, 7, 8, 9, 10] rfl rfl rfl rfl (by simp [Value.category]) dX8_number_10) [0, 1, 2, 3, 4, 5, 6, 7, 8, 9, 10] rfl rfl ?_
    have e0 : numV ftp (cu, tk, sa, ti, ft, fp) = if tk = 3 then nmI ftp sa (ti - sa).toNat else 0 := by dsimp only [numV]; rw [if_neg (by omega)]
    rw [← e0]
    refine v_istore_n X dX8_number_13 3 rfl (by decide) rfl ?_
    dsimp only [List.set]
    refine v_aload_n X dX8_number_14 rfl ?_
    refine v_get X (fun _ h => List.mem_cons_of_mem _ (List.mem_append_right _ h)) 0 rfl rfl 14 (by decide) rfl (List.mem_of_getElem? (i := 2) rfl) rfl dX8_number_15 ?_
    refine v_iconst X dX8_number_18 ?_
    refine v_icmp_ne (tgt := 39) X dX8_number_19 (by decide) (by first | omega | (split <;> omega)) (by first | omega | (split <;> omega)) (fun c2 => ?_) (fun c2 => ?_)
    · skip
      refine v_aload_n X dX8_number_39 rfl ?_
      refine v_aload_n X dX8_number_40 rfl ?_
      refine v_get X (fun _ h => List.mem_cons_of_mem _ (List.mem_append_right _ h)) 0 rfl rfl 14 (by decide) rfl (List.mem_of_getElem? (i := 2) rfl) rfl dX8_number_41 ?_
      refine v_iconst X dX8_number_44 ?_
      refine v_icmp_ne (tgt := 52) X dX8_number_45 (by decide) (by first | omega | (split <;> omega)) (by first | omega | (split <;> omega)) (fun c3 => ?_) (fun c3 => ?_)
      · skip
        refine v_iconst X dX8_number_52 ?_
        refine res_V X (run_V X (c_X8_must (g := g) (by first | assumption | omega) (by first | assumption | omega) (by first | assumption | exact pmOK_mbd (by decide) hok) (by first | assumption | omega)) gX8_number_X8_must rfl hdX8_must ⟨(Nat.le_of_ble_eq_true rfl), (Nat.le_of_ble_eq_true rfl)⟩ ⟨(Nat.le_of_ble_eq_true rfl), (Nat.le_of_ble_eq_true rfl)⟩ 0 rfl rfl rfl [0, 1, 2, 3, 4, 5, 6, 7, 8, 9, 10] rfl rfl rfl rfl (by simp [Value.category]) dX8_number_53) [0, 1, 2, 3, 4, 5, 6, 7, 8, 9, 10] rfl rfl (fun _ => rfl) (fun u1 hu1 => ?_)
        obtain ⟨cu1, tk1, sa1, ti1, ft1, fp1⟩ := u1
        dsimp only [patch, List.set, wMod]
        refine v_iload_n X dX8_number_56 rfl ?_
        refine v_iret X Y dX8_number_57 (u := (cu1, tk1, sa1, ti1, ft1, fp1)) ?_ (by rfl)
        first
        | (exfalso; omega)
        | (refine ⟨rfl, ?_, hu1.2⟩
           rw [hu1.1]
           dsimp only [numM]
           rw [if_neg (by omega)]
           first
           | (rw [if_pos (show tk = 3 by omega), if_pos (show tk = 3 ∧ ¬ (l ≤ numV ftp (cu, tk, sa, ti, ft, fp) ∧ numV ftp (cu, tk, sa, ti, ft, fp) ≤ m) by omega)]; done)
           | (rw [if_pos (show tk = 3 by omega), if_pos (show tk = 3 ∧ ¬ (l ≤ numV ftp (cu, tk, sa, ti, ft, fp) ∧ numV ftp (cu, tk, sa, ti, ft, fp) ≤ m) by omega)]; rfl)
           | (rw [if_pos (show tk = 3 by omega), if_neg (show ¬ (tk = 3 ∧ ¬ (l ≤ numV ftp (cu, tk, sa, ti, ft, fp) ∧ numV ftp (cu, tk, sa, ti, ft, fp) ≤ m)) by omega)])
           | (rw [if_neg (show ¬ tk = 3 by omega), if_neg (show ¬ (tk = 3 ∧ ¬ (l ≤ numV ftp (cu, tk, sa, ti, ft, fp) ∧ numV ftp (cu, tk, sa, ti, ft, fp) ≤ m)) by omega)]))
      · skip
        refine v_iconst X dX8_number_48 ?_
        refine v_goto (tgt := 53) X dX8_number_49 (by decide) ?_
        refine res_V X (run_V X (c_X8_must (g := g) (by first | assumption | omega) (by first | assumption | omega) (by first | assumption | exact pmOK_mbd (by decide) hok) (by first | assumption | omega)) gX8_number_X8_must rfl hdX8_must ⟨(Nat.le_of_ble_eq_true rfl), (Nat.le_of_ble_eq_true rfl)⟩ ⟨(Nat.le_of_ble_eq_true rfl), (Nat.le_of_ble_eq_true rfl)⟩ 0 rfl rfl rfl [0, 1, 2, 3, 4, 5, 6, 7, 8, 9, 10] rfl rfl rfl rfl (by simp [Value.category]) dX8_number_53) [0, 1, 2, 3, 4, 5, 6, 7, 8, 9, 10] rfl rfl (fun _ => rfl) (fun u1 hu1 => ?_)
        obtain ⟨cu1, tk1, sa1, ti1, ft1, fp1⟩ := u1
        dsimp only [patch, List.set, wMod]
        refine v_iload_n X dX8_number_56 rfl ?_
        refine v_iret X Y dX8_number_57 (u := (cu1, tk1, sa1, ti1, ft1, fp1)) ?_ (by rfl)
        first
        | (exfalso; omega)
        | (refine ⟨rfl, ?_, hu1.2⟩
           rw [hu1.1]
           dsimp only [numM]
           rw [if_neg (by omega)]
           first
           | (rw [if_pos (show tk = 3 by omega), if_pos (show tk = 3 ∧ ¬ (l ≤ numV ftp (cu, tk, sa, ti, ft, fp) ∧ numV ftp (cu, tk, sa, ti, ft, fp) ≤ m) by omega)]; done)
           | (rw [if_pos (show tk = 3 by omega), if_pos (show tk = 3 ∧ ¬ (l ≤ numV ftp (cu, tk, sa, ti, ft, fp) ∧ numV ftp (cu, tk, sa, ti, ft, fp) ≤ m) by omega)]; rfl)
           | (rw [if_pos (show tk = 3 by omega), if_neg (show ¬ (tk = 3 ∧ ¬ (l ≤ numV ftp (cu, tk, sa, ti, ft, fp) ∧ numV ftp (cu, tk, sa, ti, ft, fp) ≤ m)) by omega)])
           | (rw [if_neg (show ¬ tk = 3 by omega), if_neg (show ¬ (tk = 3 ∧ ¬ (l ≤ numV ftp (cu, tk, sa, ti, ft, fp) ∧ numV ftp (cu, tk, sa, ti, ft, fp) ≤ m)) by omega)]))
    · skip
      refine v_iload_n X dX8_number_22 rfl ?_
      refine v_i2l X dX8_number_23 (by first | omega | (split <;> omega)) ?_
      refine v_iload_n X dX8_number_24 rfl ?_
      refine v_i2l X dX8_number_25 (by first | omega | (split <;> omega)) ?_
      refine v_iload_n X dX8_number_26 rfl ?_
      refine v_i2l X dX8_number_27 (by first | omega | (split <;> omega)) ?_
      refine res_E X (run_S X (c_X8_in (g := g) (by first | assumption | omega) (by first | assumption | omega) (by first | assumption | omega)) gX8_number_X8_in rfl hdX8_in.2 ⟨(Nat.le_of_ble_eq_true rfl), (Nat.le_of_ble_eq_true rfl)⟩ ⟨(Nat.le_of_ble_eq_true rfl), (Nat.le_of_ble_eq_true rfl)⟩ [] rfl rfl rfl rfl (by simp [Value.category]) dX8_number_28) [] rfl rfl ?_
      refine v_ifb_ne (tgt := 39) X dX8_number_31 (by decide) (fun c6 => ?_) (fun c6 => ?_)
      · skip
        refine v_aload_n X dX8_number_39 rfl ?_
        refine v_aload_n X dX8_number_40 rfl ?_
        refine v_get X (fun _ h => List.mem_cons_of_mem _ (List.mem_append_right _ h)) 0 rfl rfl 14 (by decide) rfl (List.mem_of_getElem? (i := 2) rfl) rfl dX8_number_41 ?_
        refine v_iconst X dX8_number_44 ?_
        refine v_icmp_ne (tgt := 52) X dX8_number_45 (by decide) (by first | omega | (split <;> omega)) (by first | omega | (split <;> omega)) (fun c7 => ?_) (fun c7 => ?_)
        · skip
          refine v_iconst X dX8_number_52 ?_
          refine res_V X (run_V X (c_X8_must (g := g) (by first | assumption | omega) (by first | assumption | omega) (by first | assumption | exact pmOK_mbd (by decide) hok) (by first | assumption | omega)) gX8_number_X8_must rfl hdX8_must ⟨(Nat.le_of_ble_eq_true rfl), (Nat.le_of_ble_eq_true rfl)⟩ ⟨(Nat.le_of_ble_eq_true rfl), (Nat.le_of_ble_eq_true rfl)⟩ 0 rfl rfl rfl [0, 1, 2, 3, 4, 5, 6, 7, 8, 9, 10] rfl rfl rfl rfl (by simp [Value.category]) dX8_number_53) [0, 1, 2, 3, 4, 5, 6, 7, 8, 9, 10] rfl rfl (fun _ => rfl) (fun u1 hu1 => ?_)
          obtain ⟨cu1, tk1, sa1, ti1, ft1, fp1⟩ := u1
          dsimp only [patch, List.set, wMod]
          refine v_iload_n X dX8_number_56 rfl ?_
          refine v_iret X Y dX8_number_57 (u := (cu1, tk1, sa1, ti1, ft1, fp1)) ?_ (by rfl)
          first
          | (exfalso; omega)
          | (refine ⟨rfl, ?_, hu1.2⟩
             rw [hu1.1]
             dsimp only [numM]
             rw [if_neg (by omega)]
             first
             | (rw [if_pos (show tk = 3 by omega), if_pos (show tk = 3 ∧ ¬ (l ≤ numV ftp (cu, tk, sa, ti, ft, fp) ∧ numV ftp (cu, tk, sa, ti, ft, fp) ≤ m) by omega)]; done)
             | (rw [if_pos (show tk = 3 by omega), if_pos (show tk = 3 ∧ ¬ (l ≤ numV ftp (cu, tk, sa, ti, ft, fp) ∧ numV ftp (cu, tk, sa, ti, ft, fp) ≤ m) by omega)]; rfl)
             | (rw [if_pos (show tk = 3 by omega), if_neg (show ¬ (tk = 3 ∧ ¬ (l ≤ numV ftp (cu, tk, sa, ti, ft, fp) ∧ numV ftp (cu, tk, sa, ti, ft, fp) ≤ m)) by omega)])
             | (rw [if_neg (show ¬ tk = 3 by omega), if_neg (show ¬ (tk = 3 ∧ ¬ (l ≤ numV ftp (cu, tk, sa, ti, ft, fp) ∧ numV ftp (cu, tk, sa, ti, ft, fp) ≤ m)) by omega)]))
        · skip
          refine v_iconst X dX8_number_48 ?_
          refine v_goto (tgt := 53) X dX8_number_49 (by decide) ?_
          refine res_V X (run_V X (c_X8_must (g := g) (by first | assumption | omega) (by first | assumption | omega) (by first | assumption | exact pmOK_mbd (by decide) hok) (by first | assumption | omega)) gX8_number_X8_must rfl hdX8_must ⟨(Nat.le_of_ble_eq_true rfl), (Nat.le_of_ble_eq_true rfl)⟩ ⟨(Nat.le_of_ble_eq_true rfl), (Nat.le_of_ble_eq_true rfl)⟩ 0 rfl rfl rfl [0, 1, 2, 3, 4, 5, 6, 7, 8, 9, 10] rfl rfl rfl rfl (by simp [Value.category]) dX8_number_53) [0, 1, 2, 3, 4, 5, 6, 7, 8, 9, 10] rfl rfl (fun _ => rfl) (fun u1 hu1 => ?_)
          obtain ⟨cu1, tk1, sa1, ti1, ft1, fp1⟩ := u1
          dsimp only [patch, List.set, wMod]
          refine v_iload_n X dX8_number_56 rfl ?_
          refine v_iret X Y dX8_number_57 (u := (cu1, tk1, sa1, ti1, ft1, fp1)) ?_ (by rfl)
          first
          | (exfalso; omega)
          | (refine ⟨rfl, ?_, hu1.2⟩
             rw [hu1.1]
             dsimp only [numM]
             rw [if_neg (by omega)]
             first
             | (rw [if_pos (show tk = 3 by omega), if_pos (show tk = 3 ∧ ¬ (l ≤ numV ftp (cu, tk, sa, ti, ft, fp) ∧ numV ftp (cu, tk, sa, ti, ft, fp) ≤ m) by omega)]; done)
             | (rw [if_pos (show tk = 3 by omega), if_pos (show tk = 3 ∧ ¬ (l ≤ numV ftp (cu, tk, sa, ti, ft, fp) ∧ numV ftp (cu, tk, sa, ti, ft, fp) ≤ m) by omega)]; rfl)
             | (rw [if_pos (show tk = 3 by omega), if_neg (show ¬ (tk = 3 ∧ ¬ (l ≤ numV ftp (cu, tk, sa, ti, ft, fp) ∧ numV ftp (cu, tk, sa, ti, ft, fp) ≤ m)) by omega)])
             | (rw [if_neg (show ¬ tk = 3 by omega), if_neg (show ¬ (tk = 3 ∧ ¬ (l ≤ numV ftp (cu, tk, sa, ti, ft, fp) ∧ numV ftp (cu, tk, sa, ti, ft, fp) ≤ m)) by omega)]))
      · skip
        refine v_aload_n X dX8_number_34 rfl ?_
        refine v_iconst X dX8_number_35 ?_
        refine res_W X (run_V X (c_X8_bad (g := g) (by first | assumption | omega)) gX8_number_X8_bad rfl hdX8_bad ⟨(Nat.le_of_ble_eq_true rfl), (Nat.le_of_ble_eq_true rfl)⟩ ⟨(Nat.le_of_ble_eq_true rfl), (Nat.le_of_ble_eq_true rfl)⟩ 0 rfl rfl rfl [0, 1, 2, 3, 4, 5, 6, 7, 8, 9, 10] rfl rfl rfl rfl (by simp [Value.category]) dX8_number_36) [0, 1, 2, 3, 4, 5, 6, 7, 8, 9, 10] rfl rfl rfl ?_
        dsimp only [patch, List.set, wMod]
        refine v_aload_n X dX8_number_39 rfl ?_
        refine v_aload_n X dX8_number_40 rfl ?_
        refine v_get X (fun _ h => List.mem_cons_of_mem _ (List.mem_append_right _ h)) 0 rfl rfl 14 (by decide) rfl (List.mem_of_getElem? (i := 2) rfl) rfl dX8_number_41 ?_
        refine v_iconst X dX8_number_44 ?_
        refine v_icmp_ne (tgt := 52) X dX8_number_45 (by decide) (by first | omega | (split <;> omega)) (by first | omega | (split <;> omega)) (fun c10 => ?_) (fun c10 => ?_)
        · skip
          refine v_iconst X dX8_number_52 ?_
          refine res_V X (run_V X (c_X8_must (g := g) (by first | assumption | omega) (by first | assumption | omega) (by first | assumption | exact pmOK_mbd (by decide) hok) (by first | assumption | omega)) gX8_number_X8_must rfl hdX8_must ⟨(Nat.le_of_ble_eq_true rfl), (Nat.le_of_ble_eq_true rfl)⟩ ⟨(Nat.le_of_ble_eq_true rfl), (Nat.le_of_ble_eq_true rfl)⟩ 0 rfl rfl rfl [0, 1, 2, 3, 4, 5, 6, 7, 8, 9, 10] rfl rfl rfl rfl (by simp [Value.category]) dX8_number_53) [0, 1, 2, 3, 4, 5, 6, 7, 8, 9, 10] rfl rfl (fun _ => rfl) (fun u1 hu1 => ?_)
          obtain ⟨cu1, tk1, sa1, ti1, ft1, fp1⟩ := u1
          dsimp only [patch, List.set, wMod]
          refine v_iload_n X dX8_number_56 rfl ?_
          refine v_iret X Y dX8_number_57 (u := (cu1, tk1, sa1, ti1, ft1, fp1)) ?_ (by rfl)
          first
          | (exfalso; omega)
          | (refine ⟨rfl, ?_, hu1.2⟩
             rw [hu1.1]
             dsimp only [numM]
             rw [if_neg (by omega)]
             first
             | (rw [if_pos (show tk = 3 by omega), if_pos (show tk = 3 ∧ ¬ (l ≤ numV ftp (cu, tk, sa, ti, ft, fp) ∧ numV ftp (cu, tk, sa, ti, ft, fp) ≤ m) by omega)]; done)
             | (rw [if_pos (show tk = 3 by omega), if_pos (show tk = 3 ∧ ¬ (l ≤ numV ftp (cu, tk, sa, ti, ft, fp) ∧ numV ftp (cu, tk, sa, ti, ft, fp) ≤ m) by omega)]; rfl)
             | (rw [if_pos (show tk = 3 by omega), if_neg (show ¬ (tk = 3 ∧ ¬ (l ≤ numV ftp (cu, tk, sa, ti, ft, fp) ∧ numV ftp (cu, tk, sa, ti, ft, fp) ≤ m)) by omega)])
             | (rw [if_neg (show ¬ tk = 3 by omega), if_neg (show ¬ (tk = 3 ∧ ¬ (l ≤ numV ftp (cu, tk, sa, ti, ft, fp) ∧ numV ftp (cu, tk, sa, ti, ft, fp) ≤ m)) by omega)]))
        · skip
          refine v_iconst X dX8_number_48 ?_
          refine v_goto (tgt := 53) X dX8_number_49 (by decide) ?_
          refine res_V X (run_V X (c_X8_must (g := g) (by first | assumption | omega) (by first | assumption | omega) (by first | assumption | exact pmOK_mbd (by decide) hok) (by first | assumption | omega)) gX8_number_X8_must rfl hdX8_must ⟨(Nat.le_of_ble_eq_true rfl), (Nat.le_of_ble_eq_true rfl)⟩ ⟨(Nat.le_of_ble_eq_true rfl), (Nat.le_of_ble_eq_true rfl)⟩ 0 rfl rfl rfl [0, 1, 2, 3, 4, 5, 6, 7, 8, 9, 10] rfl rfl rfl rfl (by simp [Value.category]) dX8_number_53) [0, 1, 2, 3, 4, 5, 6, 7, 8, 9, 10] rfl rfl (fun _ => rfl) (fun u1 hu1 => ?_)
          obtain ⟨cu1, tk1, sa1, ti1, ft1, fp1⟩ := u1
          dsimp only [patch, List.set, wMod]
          refine v_iload_n X dX8_number_56 rfl ?_
          refine v_iret X Y dX8_number_57 (u := (cu1, tk1, sa1, ti1, ft1, fp1)) ?_ (by rfl)
          first
          | (exfalso; omega)
          | (refine ⟨rfl, ?_, hu1.2⟩
             rw [hu1.1]
             dsimp only [numM]
             rw [if_neg (by omega)]
             first
             | (rw [if_pos (show tk = 3 by omega), if_pos (show tk = 3 ∧ ¬ (l ≤ numV ftp (cu, tk, sa, ti, ft, fp) ∧ numV ftp (cu, tk, sa, ti, ft, fp) ≤ m) by omega)]; done)
             | (rw [if_pos (show tk = 3 by omega), if_pos (show tk = 3 ∧ ¬ (l ≤ numV ftp (cu, tk, sa, ti, ft, fp) ∧ numV ftp (cu, tk, sa, ti, ft, fp) ≤ m) by omega)]; rfl)
             | (rw [if_pos (show tk = 3 by omega), if_neg (show ¬ (tk = 3 ∧ ¬ (l ≤ numV ftp (cu, tk, sa, ti, ft, fp) ∧ numV ftp (cu, tk, sa, ti, ft, fp) ≤ m)) by omega)])
             | (rw [if_neg (show ¬ tk = 3 by omega), if_neg (show ¬ (tk = 3 ∧ ¬ (l ≤ numV ftp (cu, tk, sa, ti, ft, fp) ∧ numV ftp (cu, tk, sa, ti, ft, fp) ≤ m)) by omega)]))
  · skip
    refine v_iconst X dX8_number_7 ?_
    refine v_iret X Y dX8_number_8 (u := numM ftp ln l m (cu, tk, sa, ti, ft, fp)) ?_ (by dsimp only [numM]; rw [if_pos (by omega)] <;> rfl)
    refine ⟨?_, ?_, pmOK_num hok⟩
    · dsimp only [numV]; rw [if_pos (by omega)]
    · rfl

theorem hdX8_mustEnd : yX8_mustEnd.cls = RX8 ∧ yX8_mustEnd.cls ≠ "java/lang/invoke/MethodHandle" ∧ yX8_mustEnd.cls ≠ "java/lang/invoke/VarHandle" ∧ (parseMethodDescriptor yX8_mustEnd.desc).map (fun d => d.parameters.length) = some 0 := ⟨rfl, by decide +kernel, by decide +kernel, by decide +kernel⟩
set_option maxHeartbeats 4000000 in
set_option maxRecDepth 100000 in
theorem c_X8_mustEnd {g : Gx} {A : Nat → Nat} {th sq ac td lt ln cu tk sa ti ft fp le lf tr : Int} {fl fm fi fc ff fw ftp fk fe fr : Nat → Int}  (hftp : Bd 0 255 ftp) (hln : 0 ≤ ln ∧ ln ≤ 200) (hok : pmOK ftp ln (cu, tk, sa, ti, ft, fp)) : CtV (S := PM) g yX8_mustEnd wsX8_mustEnd 3 63 [.ref (A 0)] (wMod g A th sq ac td lt ln cu tk sa ti ft fp le lf tr fl fm fi fc ff fw ftp fk fe fr) (fun u => u = menM ftp ln (cu, tk, sa, ti, ft, fp) ∧ pmOK ftp ln u) (fun u => wMod g A th sq ac td lt ln ((u).1) ((u).2.1) ((u).2.2.1) ((u).2.2.2.1) ((u).2.2.2.2.1) ((u).2.2.2.2.2) le lf tr fl fm fi fc ff fw ftp fk fe fr) := by
  refine m_go (cc := cX8_mustEnd) (nL := 1) (by decide +kernel) rfl (Nat.le_of_ble_eq_true rfl) (fun x X Y hnm => ?_)
  refine v_eq (lo2 := [some (.ref (A 0))]) rfl rfl rfl rfl ?_
  have qk := pm_f hok
  refine v_aload_n X dX8_mustEnd_0 rfl ?_
  refine v_get X (fun _ h => List.mem_cons_of_mem _ (List.mem_append_right _ h)) 0 rfl rfl 17 (by decide) rfl (List.mem_of_getElem? (i := 1) rfl) rfl dX8_mustEnd_1 ?_
  refine v_if_ne (tgt := 24) X dX8_mustEnd_4 (by decide) (by omega) (fun c1 => ?_) (fun c1 => ?_)
  · skip
    refine v_vret X Y dX8_mustEnd_24 (u := menM ftp ln (cu, tk, sa, ti, ft, fp)) ?_ (by
        first
        | (dsimp only [menM]; rw [if_neg (by assumption)] <;> rfl)
        | (have e1 : menM ftp ln (cu, tk, sa, ti, ft, fp) = (cu1, tk1, sa1, ti1, ft1, fp1) := by
             rw [hu1.1]
             dsimp only [menM]
             rw [if_pos (by assumption)]
             first | rw [if_pos (by assumption)] | rw [if_neg (by assumption)]
           rw [e1] <;> rfl))
    exact ⟨rfl, pmOK_men hok⟩
  · skip
    refine v_aload_n X dX8_mustEnd_7 rfl ?_
    refine v_aload_n X dX8_mustEnd_8 rfl ?_
    refine v_get X (fun _ h => List.mem_cons_of_mem _ (List.mem_append_right _ h)) 0 rfl rfl 14 (by decide) rfl (List.mem_of_getElem? (i := 2) rfl) rfl dX8_mustEnd_9 ?_
    refine v_iconst X dX8_mustEnd_12 ?_
    refine v_icmp_ne (tgt := 20) X dX8_mustEnd_13 (by decide) (by omega) (by omega) (fun c2 => ?_) (fun c2 => ?_)
    · skip
      refine v_iconst X dX8_mustEnd_20 ?_
      refine res_V X (run_V X (c_X8_must (g := g) (by first | assumption | omega) (by first | assumption | omega) (by first | assumption | omega) (by first | assumption | omega)) gX8_mustEnd_X8_must rfl hdX8_must ⟨(Nat.le_of_ble_eq_true rfl), (Nat.le_of_ble_eq_true rfl)⟩ ⟨(Nat.le_of_ble_eq_true rfl), (Nat.le_of_ble_eq_true rfl)⟩ 0 rfl rfl rfl [0, 1, 2, 3, 4, 5, 6, 7, 8, 9, 10] rfl rfl rfl rfl (by simp [Value.category]) dX8_mustEnd_21) [0, 1, 2, 3, 4, 5, 6, 7, 8, 9, 10] rfl rfl (fun _ => rfl) (fun u1 hu1 => ?_)
      obtain ⟨cu1, tk1, sa1, ti1, ft1, fp1⟩ := u1
      dsimp only [patch, List.set, wMod]
      refine v_vret X Y dX8_mustEnd_24 (u := menM ftp ln (cu, tk, sa, ti, ft, fp)) ?_ (by
          first
          | (dsimp only [menM]; rw [if_neg (by assumption)] <;> rfl)
          | (have e1 : menM ftp ln (cu, tk, sa, ti, ft, fp) = (cu1, tk1, sa1, ti1, ft1, fp1) := by
               rw [hu1.1]
               dsimp only [menM]
               rw [if_pos (by assumption)]
               first | rw [if_pos (by assumption)] | rw [if_neg (by assumption)]
             rw [e1] <;> rfl))
      exact ⟨rfl, pmOK_men hok⟩
    · skip
      refine v_iconst X dX8_mustEnd_16 ?_
      refine v_goto (tgt := 21) X dX8_mustEnd_17 (by decide) ?_
      refine res_V X (run_V X (c_X8_must (g := g) (by first | assumption | omega) (by first | assumption | omega) (by first | assumption | omega) (by first | assumption | omega)) gX8_mustEnd_X8_must rfl hdX8_must ⟨(Nat.le_of_ble_eq_true rfl), (Nat.le_of_ble_eq_true rfl)⟩ ⟨(Nat.le_of_ble_eq_true rfl), (Nat.le_of_ble_eq_true rfl)⟩ 0 rfl rfl rfl [0, 1, 2, 3, 4, 5, 6, 7, 8, 9, 10] rfl rfl rfl rfl (by simp [Value.category]) dX8_mustEnd_21) [0, 1, 2, 3, 4, 5, 6, 7, 8, 9, 10] rfl rfl (fun _ => rfl) (fun u1 hu1 => ?_)
      obtain ⟨cu1, tk1, sa1, ti1, ft1, fp1⟩ := u1
      dsimp only [patch, List.set, wMod]
      refine v_vret X Y dX8_mustEnd_24 (u := menM ftp ln (cu, tk, sa, ti, ft, fp)) ?_ (by
          first
          | (dsimp only [menM]; rw [if_neg (by assumption)] <;> rfl)
          | (have e1 : menM ftp ln (cu, tk, sa, ti, ft, fp) = (cu1, tk1, sa1, ti1, ft1, fp1) := by
               rw [hu1.1]
               dsimp only [menM]
               rw [if_pos (by assumption)]
               first | rw [if_pos (by assumption)] | rw [if_neg (by assumption)]
             rw [e1] <;> rfl))
      exact ⟨rfl, pmOK_men hok⟩

