theorem hdX8_lies : yX8_lies.cls = RX8 ∧ yX8_lies.cls ≠ "java/lang/invoke/MethodHandle" ∧ yX8_lies.cls ≠ "java/lang/invoke/VarHandle" ∧ (parseMethodDescriptor yX8_lies.desc).map (fun d => d.parameters.length) = some 4 := ⟨rfl, by decide +kernel, by decide +kernel, by decide +kernel⟩
set_option maxHeartbeats 4000000 in
set_option maxRecDepth 100000 in
theorem c_X8_lies {g : Gx} {A : Nat → Nat} {th sq ac td lt ln cu tk sa ti ft fp le lf tr : Int} {fl fm fi fc ff fw ftp fk fe fr : Nat → Int} {r i pa w : Int} (hfc : Bd 0 60 fc) (hc1 : 0 ≤ fc 1 ∧ fc 1 ≤ 4) (ht3 : Bd 0 12 (tM fc)) (hfl : Bd (-1) 2 fl) (hfm : Bd 0 40 fm) (hfi : Bd (-2147483648) 2147483647 fi) (h0 : 0 < fc 0 → 1 ≤ fc 1) (hr : R32 r) (hi : R32 i) (hpa : R32 pa) (hw : R32 w) : CtI (S := Int × Int × Int) g yX8_lies wsX8_lies 3 76 [.ref (A 0), .int (iI r), .int (iI i), .int (iI pa), .int (iI w)] (wMod g A th sq ac td lt ln cu tk sa ti ft fp le lf tr fl fm fi fc ff fw ftp fk fe fr) (fun v u => (¬ 0 < fc 0 ∧ v = -1000002 ∧ u = (sq, le, lf)) ∨ (0 < fc 0 ∧ ((¬ ((0 ≤ r ∧ r < 8) ∧ (1 ≤ pa ∧ pa ≤ 720) ∧ (0 ≤ w ∧ w ≤ 3)) ∧ v = -1000001 ∧ u = (sq, le, lf)) ∨ (((0 ≤ r ∧ r < 8) ∧ (1 ≤ pa ∧ pa ≤ 720) ∧ (0 ≤ w ∧ w ≤ 3)) ∧ ((fl r.toNat < 0 ∧ v = -1000011 ∧ u = (1, le, lf)) ∨ (0 ≤ fl r.toNat ∧ (((i < 0 ∨ fm r.toNat < i + fc 1) ∧ v = -1000012 ∧ u = (2, le, lf)) ∨ ((0 ≤ i ∧ i + fc 1 ≤ fm r.toNat) ∧ ((¬ (∀ k : Int, 0 ≤ k → k < fc 1 → 0 ≤ fi (40 * r + i + k).toNat ∧ fi (40 * r + i + k).toNat < pa) ∧ v = -1000001 ∧ u = (sq, le, lf)) ∨ ((∀ k : Int, 0 ≤ k → k < fc 1 → 0 ≤ fi (40 * r + i + k).toNat ∧ fi (40 * r + i + k).toNat < pa) ∧ v = lieM fc fi (40 * r + i) pa w ∧ u.1 = 0)))))))))) (fun u => wMod g A (0) (u.1) ac td lt ln cu tk sa ti ft fp (u.2.1) (u.2.2) tr fl fm fi fc ff fw ftp fk fe fr) := by
  refine m_go (cc := cX8_lies) (nL := 9) (by decide +kernel) rfl (Nat.le_of_ble_eq_true rfl) (fun x X Y hnm => ?_)
  refine v_eq (lo2 := [some (.ref (A 0)), some (.int (iI r)), some (.int (iI i)), some (.int (iI pa)), some (.int (iI w)), none, none, none, none]) rfl rfl rfl rfl ?_
  refine v_aload_n X dX8_lies_0 rfl ?_
  refine v_iconst X dX8_lies_1 ?_
  refine v_put X (fun _ h => List.mem_cons_of_mem _ (List.mem_append_right _ h)) tyX8 tyX8_ok nmX8 0 rfl rfl 0 (by decide) rfl (List.mem_of_getElem? (i := 1) rfl) rfl rfl rfl (Nat.le_of_ble_eq_true rfl) dX8_lies_2 ?_
  dsimp only [List.set, wMod]
  refine v_aload_n X dX8_lies_5 rfl ?_
  refine res_E X (run_V X (c_X8_isThere (g := g) (by first | assumption | omega)) gX8_lies_X8_isThere rfl hdX8_isThere ⟨(Nat.le_of_ble_eq_true rfl), (Nat.le_of_ble_eq_true rfl)⟩ ⟨(Nat.le_of_ble_eq_true rfl), (Nat.le_of_ble_eq_true rfl)⟩ 0 rfl rfl rfl [0, 1, 2, 3, 4, 5, 6, 7, 8, 9, 10] rfl rfl rfl rfl (by simp [Value.category]) dX8_lies_6) [0, 1, 2, 3, 4, 5, 6, 7, 8, 9, 10] rfl rfl ?_
  refine v_ifb_ne (tgt := 15) X dX8_lies_9 (by decide) (fun c1 => ?_) (fun c1 => ?_)
  · skip
    refine v_iload_n X dX8_lies_15 rfl ?_
    refine res_E X (run_S X (c_X8_isRow (g := g) (by first | assumption | omega)) gX8_lies_X8_isRow rfl hdX8_isRow.2 ⟨(Nat.le_of_ble_eq_true rfl), (Nat.le_of_ble_eq_true rfl)⟩ ⟨(Nat.le_of_ble_eq_true rfl), (Nat.le_of_ble_eq_true rfl)⟩ [] rfl rfl rfl rfl (by simp [Value.category]) dX8_lies_16) [] rfl rfl ?_
    refine v_ifb_eq (tgt := 47) X dX8_lies_19 (by decide) (fun c2 => ?_) (fun c2 => ?_)
    · skip
      refine v_ldc X (List.mem_of_getElem? (i := 5) rfl) dX8_lies_47 (n := -1000001) (by decide) ?_
      refine v_iret X Y dX8_lies_49 (u := (sq, le, lf)) ?_ (by rfl)
      exact Or.inr ⟨by omega, Or.inl ⟨by omega, rfl, rfl⟩⟩
    · skip
      refine v_iload_n X dX8_lies_22 rfl ?_
      refine v_i2l X dX8_lies_23 (by first | omega | (split <;> omega)) ?_
      refine v_lconst1 X dX8_lies_24 ?_
      refine v_ldc2 X (List.mem_of_getElem? (i := 3) rfl) dX8_lies_25 (n := 720) (by decide) ?_
      refine res_E X (run_S X (c_X8_in (g := g) (by first | assumption | omega) (by first | assumption | omega) (by first | assumption | omega)) gX8_lies_X8_in rfl hdX8_in.2 ⟨(Nat.le_of_ble_eq_true rfl), (Nat.le_of_ble_eq_true rfl)⟩ ⟨(Nat.le_of_ble_eq_true rfl), (Nat.le_of_ble_eq_true rfl)⟩ [] rfl rfl rfl rfl (by simp [Value.category]) dX8_lies_28) [] rfl rfl ?_
      refine v_ifb_eq (tgt := 47) X dX8_lies_31 (by decide) (fun c3 => ?_) (fun c3 => ?_)
      · skip
        refine v_ldc X (List.mem_of_getElem? (i := 5) rfl) dX8_lies_47 (n := -1000001) (by decide) ?_
        refine v_iret X Y dX8_lies_49 (u := (sq, le, lf)) ?_ (by rfl)
        exact Or.inr ⟨by omega, Or.inl ⟨by omega, rfl, rfl⟩⟩
      · skip
        refine v_iload X dX8_lies_34 rfl ?_
        refine v_i2l X dX8_lies_36 (by first | omega | (split <;> omega)) ?_
        refine v_lconst0 X dX8_lies_37 ?_
        refine v_ldc2 X (List.mem_of_getElem? (i := 4) rfl) dX8_lies_38 (n := 3) (by decide) ?_
        refine res_E X (run_S X (c_X8_in (g := g) (by first | assumption | omega) (by first | assumption | omega) (by first | assumption | omega)) gX8_lies_X8_in rfl hdX8_in.2 ⟨(Nat.le_of_ble_eq_true rfl), (Nat.le_of_ble_eq_true rfl)⟩ ⟨(Nat.le_of_ble_eq_true rfl), (Nat.le_of_ble_eq_true rfl)⟩ [] rfl rfl rfl rfl (by simp [Value.category]) dX8_lies_41) [] rfl rfl ?_
        refine v_ifb_ne (tgt := 50) X dX8_lies_44 (by decide) (fun c4 => ?_) (fun c4 => ?_)
        · skip
          have q1 := hfm r.toNat
          have q2 := h0 (by assumption)
          refine v_aload_n X dX8_lies_50 rfl ?_
          refine v_iload_n X dX8_lies_51 rfl ?_
          refine v_iload_n X dX8_lies_52 rfl ?_
          refine v_aload_n X dX8_lies_53 rfl ?_
          refine v_get X (fun _ h => List.mem_cons_of_mem _ (List.mem_append_right _ h)) 0 rfl rfl 5 (by decide) rfl (List.mem_of_getElem? (i := 6) rfl) rfl dX8_lies_54 ?_
          refine v_iconst X dX8_lies_57 ?_
          refine v_iald X 4 rfl (by first | omega | (split <;> omega)) (by first | omega | (split <;> omega)) (by first | omega | (split <;> omega)) dX8_lies_58 hfc (fun za eza lza uza => ?_)
          rw [show za = fc 1 from eza]
          refine res_E X (run_V X (c_X8_lacks (g := g) (by first | assumption | omega) (by first | assumption | omega) (by first | assumption | omega) (by first | assumption | omega) (by first | assumption | omega)) gX8_lies_X8_lacks rfl hdX8_lacks ⟨(Nat.le_of_ble_eq_true rfl), (Nat.le_of_ble_eq_true rfl)⟩ ⟨(Nat.le_of_ble_eq_true rfl), (Nat.le_of_ble_eq_true rfl)⟩ 0 rfl rfl rfl [0, 1, 2, 3, 4, 5, 6, 7, 8, 9, 10] rfl rfl rfl rfl (by simp [Value.category]) dX8_lies_59) [0, 1, 2, 3, 4, 5, 6, 7, 8, 9, 10] rfl rfl ?_
          obtain ⟨no, hno⟩ : ∃ no : Int, no = (if fl r.toNat < 0 then 1 else if i < 0 ∨ fm r.toNat < i + fc 1 then 2 else 0) := ⟨_, rfl⟩
          rw [← hno]
          have hn2 : (fl r.toNat < 0 ∧ no = 1) ∨ (0 ≤ fl r.toNat ∧ (i < 0 ∨ fm r.toNat < i + fc 1) ∧ no = 2) ∨ (0 ≤ fl r.toNat ∧ (0 ≤ i ∧ i + fc 1 ≤ fm r.toNat) ∧ no = 0) := by rw [hno]; (repeat split) <;> omega
          refine v_istore X dX8_lies_62 (by decide) rfl ?_
          dsimp only [List.set]
          refine v_iload X dX8_lies_64 rfl ?_
          refine v_if_le (tgt := 76) X dX8_lies_66 (by decide) (by first | omega | (split <;> omega)) (fun c6 => ?_) (fun c6 => ?_)
          · skip
            refine v_bipush X dX8_lies_76 (by decide) ?_
            refine v_iload_n X dX8_lies_78 rfl ?_
            refine v_imul X dX8_lies_79 ?_
            refine v_iload_n X dX8_lies_80 rfl ?_
            refine v_iadd X dX8_lies_81 ?_
            refine v_istore X dX8_lies_82 (by decide) rfl ?_
            dsimp only [List.set]
            refine v_aload_n X dX8_lies_84 rfl ?_
            refine v_iload X dX8_lies_85 rfl ?_
            refine v_aload_n X dX8_lies_87 rfl ?_
            refine v_get X (fun _ h => List.mem_cons_of_mem _ (List.mem_append_right _ h)) 0 rfl rfl 5 (by decide) rfl (List.mem_of_getElem? (i := 6) rfl) rfl dX8_lies_88 ?_
            refine v_iconst X dX8_lies_91 ?_
            refine v_iald X 4 rfl (by first | omega | (split <;> omega)) (by first | omega | (split <;> omega)) (by first | omega | (split <;> omega)) dX8_lies_92 hfc (fun zb ezb lzb uzb => ?_)
            rw [show zb = fc 1 from ezb]
            refine v_iload_n X dX8_lies_93 rfl ?_
            refine res_E X (run_V X (c_X8_areArcs (g := g) (by first | assumption | omega) (by first | assumption | omega) (by first | assumption | omega) (by first | assumption | omega)) gX8_lies_X8_areArcs rfl hdX8_areArcs ⟨(Nat.le_of_ble_eq_true rfl), (Nat.le_of_ble_eq_true rfl)⟩ ⟨(Nat.le_of_ble_eq_true rfl), (Nat.le_of_ble_eq_true rfl)⟩ 0 rfl rfl rfl [0, 1, 2, 3, 4, 5, 6, 7, 8, 9, 10] rfl rfl rfl rfl (by simp [Value.category]) dX8_lies_94) [0, 1, 2, 3, 4, 5, 6, 7, 8, 9, 10] rfl rfl ?_
            refine v_ifp_ne (tgt := 103) X dX8_lies_97 (by decide) (fun c8 => ?_) (fun c8 => ?_)
            · skip
              refine v_aload_n X dX8_lies_103 rfl ?_
              refine v_iconst X dX8_lies_104 ?_
              refine v_put X (fun _ h => List.mem_cons_of_mem _ (List.mem_append_right _ h)) tyX8 tyX8_ok nmX8 0 rfl rfl 1 (by decide) rfl (List.mem_of_getElem? (i := 7) rfl) rfl rfl rfl (Nat.le_of_ble_eq_true rfl) dX8_lies_105 ?_
              dsimp only [List.set, wMod]
              refine v_iload X dX8_lies_108 rfl ?_
              refine v_if_ne (tgt := 131) X dX8_lies_110 (by decide) (by first | omega | (split <;> omega)) (fun c9 => ?_) (fun c9 => ?_)
              · skip
                refine v_iload X dX8_lies_131 rfl ?_
                refine v_iconst X dX8_lies_133 ?_
                refine v_icmp_ne (tgt := 188) X dX8_lies_134 (by decide) (by first | omega | (split <;> omega)) (by first | omega | (split <;> omega)) (fun c10 => ?_) (fun c10 => ?_)
                · skip
                  refine v_aload_n X dX8_lies_188 rfl ?_
                  refine v_iload X dX8_lies_189 rfl ?_
                  refine v_iload_n X dX8_lies_191 rfl ?_
                  refine v_aload_n X dX8_lies_192 rfl ?_
                  refine v_get X (fun _ h => List.mem_cons_of_mem _ (List.mem_append_right _ h)) 0 rfl rfl 5 (by decide) rfl (List.mem_of_getElem? (i := 6) rfl) rfl dX8_lies_193 ?_
                  refine v_iconst X dX8_lies_196 ?_
                  refine v_iald X 4 rfl (by first | omega | (split <;> omega)) (by first | omega | (split <;> omega)) (by first | omega | (split <;> omega)) dX8_lies_197 hfc (fun zd ezd lzd uzd => ?_)
                  rw [show zd = fc 1 from ezd]
                  refine v_iconst X dX8_lies_198 ?_
                  refine v_isub X dX8_lies_199 ?_
                  refine res_I X (run_V X (c_X8_isTrue (g := g) (by first | assumption | omega) (by first | assumption | omega) (by first | assumption | omega) (by first | assumption | omega) (by first | assumption | omega) (by first | assumption | omega) (by first | assumption | omega) (by first | assumption | omega) (by intro h g1 g2; exact (by assumption : (∀ k : Int, 0 ≤ k → k < fc 1 → 0 ≤ fi (40 * r + i + k).toNat ∧ fi (40 * r + i + k).toNat < pa)) h g1 g2)) gX8_lies_X8_isTrue rfl hdX8_isTrue ⟨(Nat.le_of_ble_eq_true rfl), (Nat.le_of_ble_eq_true rfl)⟩ ⟨(Nat.le_of_ble_eq_true rfl), (Nat.le_of_ble_eq_true rfl)⟩ 0 rfl rfl rfl [0, 1, 2, 3, 4, 5, 6, 7, 8, 9, 10] rfl rfl rfl rfl (by simp [Value.category]) dX8_lies_200) [0, 1, 2, 3, 4, 5, 6, 7, 8, 9, 10] rfl rfl (fun _ => rfl) (fun r3 u3 hr3 => ?_)
                  obtain ⟨ls3, lf3⟩ := u3
                  dsimp only [patch, List.set, wMod]
                  refine v_if_eq (tgt := 224) X dX8_lies_203 (by decide) (by have := pI_or (mFitW fc fi (40 * r + i) pa (fc 1 - 1)); have := hr3.1; omega) (fun c14 => ?_) (fun c14 => ?_)
                  · skip
                    refine v_ldc X (List.mem_of_getElem? (i := 8) rfl) dX8_lies_224 (n := -1000000) (by decide) ?_
                    refine v_iret X Y dX8_lies_226 (u := (0, ls3, lf3)) ?_ (by rfl)
                    refine Or.inr ⟨by omega, Or.inr ⟨by omega, Or.inr ⟨by omega, Or.inr ⟨by omega, Or.inr ⟨by assumption, ?_, rfl⟩⟩⟩⟩⟩
                    unfold lieM
                    rw [if_neg (by assumption), if_neg (by assumption)]
                    first
                    | (rw [if_pos (by omega), e6, e7]; done)
                    | (have e2 := hr3.1
                       rw [if_neg (by omega)])
                  · skip
                    have e1 := pI_or (mFitW fc fi (40 * r + i) pa (fc 1 - 1))
                    have e2 := hr3.1
                    have e3 : r3 = 1 := by omega
                    have e4 : mFitW fc fi (40 * r + i) pa (fc 1 - 1) := by rcases e1 with q | q <;> first | exact q.1 | (exfalso; omega)
                    have e5 := mLs_bd (mWh_bd (pa := pa) (bu := fc 1 - 1) ht3 (by omega)) (by omega) e4
                    have e6 : ls3 = mLs fc fi (40 * r + i) pa (fc 1 - 1) := hr3.2.1
                    have e7 : lf3 = mLo fc pa (fc 1 - 1) := hr3.2.2 e3
                    refine v_aload_n X dX8_lies_206 rfl ?_
                    refine v_get X (fun _ h => List.mem_cons_of_mem _ (List.mem_append_right _ h)) 0 rfl rfl 19 (by decide) rfl (List.mem_of_getElem? (i := 9) rfl) rfl dX8_lies_207 ?_
                    refine v_aload_n X dX8_lies_210 rfl ?_
                    refine v_get X (fun _ h => List.mem_cons_of_mem _ (List.mem_append_right _ h)) 0 rfl rfl 20 (by decide) rfl (List.mem_of_getElem? (i := 10) rfl) rfl dX8_lies_211 ?_
                    refine v_iload X dX8_lies_214 rfl ?_
                    refine v_iconst X dX8_lies_216 ?_
                    refine v_isub X dX8_lies_217 ?_
                    refine res_E X (run_S X (c_X8_told (g := g) (by first | assumption | omega) (by first | assumption | omega) (by first | assumption | omega) (by first | assumption | omega) (by first | assumption | omega)) gX8_lies_X8_told rfl hdX8_told.2 ⟨(Nat.le_of_ble_eq_true rfl), (Nat.le_of_ble_eq_true rfl)⟩ ⟨(Nat.le_of_ble_eq_true rfl), (Nat.le_of_ble_eq_true rfl)⟩ [] rfl rfl rfl rfl (by simp [Value.category]) dX8_lies_218) [] rfl rfl ?_
                    refine v_goto (tgt := 226) X dX8_lies_221 (by decide) ?_
                    refine v_iret X Y dX8_lies_226 (u := (0, ls3, lf3)) ?_ (by rfl)
                    refine Or.inr ⟨by omega, Or.inr ⟨by omega, Or.inr ⟨by omega, Or.inr ⟨by omega, Or.inr ⟨by assumption, ?_, rfl⟩⟩⟩⟩⟩
                    unfold lieM
                    rw [if_neg (by assumption), if_neg (by assumption)]
                    first
                    | (rw [if_pos (by omega), e6, e7]; done)
                    | (have e2 := hr3.1
                       rw [if_neg (by omega)])
                · skip
                  refine v_iconst X dX8_lies_137 ?_
                  refine v_istore X dX8_lies_138 (by decide) rfl ?_
                  dsimp only [List.set]
                  refine v_iconst X dX8_lies_140 ?_
                  refine v_istore X dX8_lies_141 (by decide) rfl ?_
                  dsimp only [List.set]
                  have L143 : ∀ (nf : Nat) (ls : Int) (lo2 : Int) (b : Int) (h : Int) (h1 : 0 ≤ h ∧ h ≤ fc 1) (h2 : b = bitsN (fun h => pB (mFitW fc fi (40 * r + i) pa h)) h.toNat) (_ : (fc 1 - h).toNat < nf), V g x 0 0 (wMod g A (0) (0) ac td lt ln cu tk sa ti ft fp (ls) (lo2) tr fl fm fi fc ff fw ftp fk fe fr) [some (.ref (A 0)), some (.int (iI r)), some (.int (iI i)), some (.int (iI pa)), some (.int (iI w)), some (.int (iI no)), some (.int (iI (40 * r + i))), some (.int (iI b)), some (.int (iI h))] 143 [] := by
                    intro nf
                    induction nf with
                    | zero => intro ls lo2 b h h1 h2 hmu; exact absurd hmu (Nat.not_lt_zero _)
                    | succ nf ih143 =>
                      intro ls lo2 b h h1 h2 hmu
                      refine v_iload X dX8_lies_143 rfl ?_
                      refine v_aload_n X dX8_lies_145 rfl ?_
                      refine v_get X (fun _ h => List.mem_cons_of_mem _ (List.mem_append_right _ h)) 0 rfl rfl 5 (by decide) rfl (List.mem_of_getElem? (i := 6) rfl) rfl dX8_lies_146 ?_
                      refine v_iconst X dX8_lies_149 ?_
                      refine v_iald X 4 rfl (by first | omega | (split <;> omega)) (by first | omega | (split <;> omega)) (by first | omega | (split <;> omega)) dX8_lies_150 hfc (fun zc ezc lzc uzc => ?_)
                      rw [show zc = fc 1 from ezc]
                      refine v_icmp_ge (tgt := 185) X dX8_lies_151 (by decide) (by first | omega | (split <;> omega)) (by first | omega | (split <;> omega)) (fun c16 => ?_) (fun c16 => ?_)
                      · skip
                        refine v_iload X dX8_lies_185 rfl ?_
                        refine v_iret X Y dX8_lies_187 (u := (0, ls, lo2)) ?_ (by rfl)
                        refine Or.inr ⟨by omega, Or.inr ⟨by omega, Or.inr ⟨by omega, Or.inr ⟨by omega, Or.inr ⟨by assumption, ?_, rfl⟩⟩⟩⟩⟩
                        unfold lieM
                        have e : h = fc 1 := by omega
                        rw [if_neg (by assumption), if_pos (by assumption), h2, e]
                      · skip
                        refine v_iload X dX8_lies_154 rfl ?_
                        refine v_aload_n X dX8_lies_156 rfl ?_
                        refine v_iload X dX8_lies_157 rfl ?_
                        refine v_iload_n X dX8_lies_159 rfl ?_
                        refine v_iload X dX8_lies_160 rfl ?_
                        refine res_I X (run_V X (c_X8_isTrue (g := g) (by first | assumption | omega) (by first | assumption | omega) (by first | assumption | omega) (by first | assumption | omega) (by first | assumption | omega) (by first | assumption | omega) (by first | assumption | omega) (by first | assumption | omega) (by intro h g1 g2; exact (by assumption : (∀ k : Int, 0 ≤ k → k < fc 1 → 0 ≤ fi (40 * r + i + k).toNat ∧ fi (40 * r + i + k).toNat < pa)) h g1 g2)) gX8_lies_X8_isTrue rfl hdX8_isTrue ⟨(Nat.le_of_ble_eq_true rfl), (Nat.le_of_ble_eq_true rfl)⟩ ⟨(Nat.le_of_ble_eq_true rfl), (Nat.le_of_ble_eq_true rfl)⟩ 0 rfl rfl rfl [0, 1, 2, 3, 4, 5, 6, 7, 8, 9, 10] rfl rfl rfl rfl (by simp [Value.category]) dX8_lies_162) [0, 1, 2, 3, 4, 5, 6, 7, 8, 9, 10] rfl rfl (fun _ => rfl) (fun r2 u2 hr2 => ?_)
                        obtain ⟨ls2, lf2⟩ := u2
                        dsimp only [patch, List.set, wMod]
                        refine v_if_eq (tgt := 175) X dX8_lies_165 (by decide) (by have := pI_or (mFitW fc fi (40 * r + i) pa h); have := hr2.1; omega) (fun c19 => ?_) (fun c19 => ?_)
                        · skip
                          refine v_iconst X dX8_lies_175 ?_
                          refine v_ior X dX8_lies_176 ?_
                          refine v_istore X dX8_lies_177 (by decide) rfl ?_
                          dsimp only [List.set]
                          refine v_iinc X dX8_lies_179 rfl (by decide) rfl ?_
                          dsimp only [List.set]
                          refine v_goto (tgt := 143) X dX8_lies_182 (by decide) ?_
                          exact ih143 _ _ _ _ (by omega) (by
                              first
                              | exact bits_step h1.1 h2 (by
                                  simp only [show ((h.toNat : Nat) : Int) = h by omega]
                                  rcases pI_or (mFitW fc fi (40 * r + i) pa h) with q | q
                                  · first
                                    | (rw [if_pos (pB_iff.mpr q.1)]; done)
                                    | (have := hr2.1; exfalso; omega)
                                  · first
                                    | (rw [if_neg (fun z => q.1 (pB_iff.mp z))]; done)
                                    | (have := hr2.1; exfalso; omega))) (by omega)
                        · skip
                          refine v_iconst X dX8_lies_168 ?_
                          refine v_iload X dX8_lies_169 rfl ?_
                          refine v_ishl X dX8_lies_171 ?_
                          refine v_goto (tgt := 176) X dX8_lies_172 (by decide) ?_
                          refine v_ior X dX8_lies_176 ?_
                          refine v_istore X dX8_lies_177 (by decide) rfl ?_
                          dsimp only [List.set]
                          refine v_iinc X dX8_lies_179 rfl (by decide) rfl ?_
                          dsimp only [List.set]
                          refine v_goto (tgt := 143) X dX8_lies_182 (by decide) ?_
                          exact ih143 _ _ _ _ (by omega) (by
                              first
                              | exact bits_step h1.1 h2 (by
                                  simp only [show ((h.toNat : Nat) : Int) = h by omega]
                                  rcases pI_or (mFitW fc fi (40 * r + i) pa h) with q | q
                                  · first
                                    | (rw [if_pos (pB_iff.mpr q.1)]; done)
                                    | (have := hr2.1; exfalso; omega)
                                  · first
                                    | (rw [if_neg (fun z => q.1 (pB_iff.mp z))]; done)
                                    | (have := hr2.1; exfalso; omega))) (by omega)
                  exact L143 _ _ _ _ _ (by omega) (by rfl) (Nat.lt_succ_self _)
              · skip
                refine v_aload_n X dX8_lies_113 rfl ?_
                refine v_iload X dX8_lies_114 rfl ?_
                refine v_iload_n X dX8_lies_116 rfl ?_
                refine v_ldc X (List.mem_of_getElem? (i := 8) rfl) dX8_lies_117 (n := -1000000) (by decide) ?_
                refine res_I X (run_V X (c_X8_isTrue (g := g) (by first | assumption | omega) (by first | assumption | omega) (by first | assumption | omega) (by first | assumption | omega) (by first | assumption | omega) (by first | assumption | omega) (by first | assumption | omega) (by first | assumption | omega) (by intro h g1 g2; exact (by assumption : (∀ k : Int, 0 ≤ k → k < fc 1 → 0 ≤ fi (40 * r + i + k).toNat ∧ fi (40 * r + i + k).toNat < pa)) h g1 g2)) gX8_lies_X8_isTrue rfl hdX8_isTrue ⟨(Nat.le_of_ble_eq_true rfl), (Nat.le_of_ble_eq_true rfl)⟩ ⟨(Nat.le_of_ble_eq_true rfl), (Nat.le_of_ble_eq_true rfl)⟩ 0 rfl rfl rfl [0, 1, 2, 3, 4, 5, 6, 7, 8, 9, 10] rfl rfl rfl rfl (by simp [Value.category]) dX8_lies_119) [0, 1, 2, 3, 4, 5, 6, 7, 8, 9, 10] rfl rfl (fun _ => rfl) (fun r1 u1 hr1 => ?_)
                obtain ⟨ls1, lf1⟩ := u1
                dsimp only [patch, List.set, wMod]
                refine v_if_eq (tgt := 129) X dX8_lies_122 (by decide) (by have := pI_or (mFitW fc fi (40 * r + i) pa (-1000000)); have := hr1.1; omega) (fun c22 => ?_) (fun c22 => ?_)
                · skip
                  refine v_iconst X dX8_lies_129 ?_
                  refine v_iret X Y dX8_lies_130 (u := (0, ls1, lf1)) ?_ (by rfl)
                  refine Or.inr ⟨by omega, Or.inr ⟨by omega, Or.inr ⟨by omega, Or.inr ⟨by omega, Or.inr ⟨by assumption, ?_, rfl⟩⟩⟩⟩⟩
                  unfold lieM
                  rw [if_pos (by assumption)]
                  have e1 := pI_or (mFitW fc fi (40 * r + i) pa (-1000000))
                  have e2 := hr1.1
                  omega
                · skip
                  refine v_iconst X dX8_lies_125 ?_
                  refine v_goto (tgt := 130) X dX8_lies_126 (by decide) ?_
                  refine v_iret X Y dX8_lies_130 (u := (0, ls1, lf1)) ?_ (by rfl)
                  refine Or.inr ⟨by omega, Or.inr ⟨by omega, Or.inr ⟨by omega, Or.inr ⟨by omega, Or.inr ⟨by assumption, ?_, rfl⟩⟩⟩⟩⟩
                  unfold lieM
                  rw [if_pos (by assumption)]
                  have e1 := pI_or (mFitW fc fi (40 * r + i) pa (-1000000))
                  have e2 := hr1.1
                  omega
            · skip
              refine v_ldc X (List.mem_of_getElem? (i := 5) rfl) dX8_lies_100 (n := -1000001) (by decide) ?_
              refine v_iret X Y dX8_lies_102 (u := (sq, le, lf)) ?_ (by rfl)
              exact Or.inr ⟨by omega, Or.inr ⟨by omega, Or.inr ⟨by omega, Or.inr ⟨by omega, Or.inl ⟨by assumption, rfl, rfl⟩⟩⟩⟩⟩
          · skip
            refine v_aload_n X dX8_lies_69 rfl ?_
            refine v_iload X dX8_lies_70 rfl ?_
            refine res_F X (run_V X (c_X8_finding (g := g) ) gX8_lies_X8_finding rfl hdX8_finding ⟨(Nat.le_of_ble_eq_true rfl), (Nat.le_of_ble_eq_true rfl)⟩ ⟨(Nat.le_of_ble_eq_true rfl), (Nat.le_of_ble_eq_true rfl)⟩ 0 rfl rfl rfl [0, 1, 2, 3, 4, 5, 6, 7, 8, 9, 10] rfl rfl rfl rfl (by simp [Value.category]) dX8_lies_72) [0, 1, 2, 3, 4, 5, 6, 7, 8, 9, 10] rfl rfl rfl ?_
            dsimp only [patch, List.set, wMod]
            refine v_iret X Y dX8_lies_75 (u := (no, le, lf)) ?_ (by rfl)
            refine Or.inr ⟨by omega, Or.inr ⟨by omega, ?_⟩⟩
            rcases hn2 with q | q | q
            · exact Or.inl ⟨q.1, by omega, by rw [q.2]⟩
            · exact Or.inr ⟨q.1, Or.inl ⟨q.2.1, by omega, by rw [q.2.2]⟩⟩
            · exfalso; omega
        · skip
          refine v_ldc X (List.mem_of_getElem? (i := 5) rfl) dX8_lies_47 (n := -1000001) (by decide) ?_
          refine v_iret X Y dX8_lies_49 (u := (sq, le, lf)) ?_ (by rfl)
          exact Or.inr ⟨by omega, Or.inl ⟨by omega, rfl, rfl⟩⟩
  · skip
    refine v_ldc X (List.mem_of_getElem? (i := 2) rfl) dX8_lies_12 (n := -1000002) (by decide) ?_
    refine v_iret X Y dX8_lies_14 (u := (sq, le, lf)) ?_ (by rfl)
    exact Or.inl ⟨by omega, rfl, rfl⟩

theorem hdX8_firstLie : yX8_firstLie.cls = RX8 ∧ yX8_firstLie.cls ≠ "java/lang/invoke/MethodHandle" ∧ yX8_firstLie.cls ≠ "java/lang/invoke/VarHandle" ∧ (parseMethodDescriptor yX8_firstLie.desc).map (fun d => d.parameters.length) = some 3 := ⟨rfl, by decide +kernel, by decide +kernel, by decide +kernel⟩
set_option maxHeartbeats 4000000 in
set_option maxRecDepth 100000 in
theorem c_X8_firstLie {g : Gx} {A : Nat → Nat} {th sq ac td lt ln cu tk sa ti ft fp le lf tr : Int} {fl fm fi fc ff fw ftp fk fe fr : Nat → Int} {r n pa : Int} (hfc : Bd 0 60 fc) (hc1 : 0 ≤ fc 1 ∧ fc 1 ≤ 4) (ht3 : Bd 0 12 (tM fc)) (hfl : Bd (-1) 2 fl) (hfm : Bd 0 40 fm) (hfi : Bd (-2147483648) 2147483647 fi) (h0 : 0 < fc 0 → 1 ≤ fc 1) (hr : R32 r) (hn : R32 n) (hpa : R32 pa) : CtI (S := Int × Int × Int) g yX8_firstLie wsX8_firstLie 3 76 [.ref (A 0), .int (iI r), .int (iI n), .int (iI pa)] (wMod g A th sq ac td lt ln cu tk sa ti ft fp le lf tr fl fm fi fc ff fw ftp fk fe fr) (fun v u => (¬ 0 < fc 0 ∧ v = -1000002 ∧ u = (sq, le, lf)) ∨ (0 < fc 0 ∧ ((¬ ((0 ≤ r ∧ r < 8) ∧ (1 ≤ n ∧ n ≤ 10) ∧ (1 ≤ pa ∧ pa ≤ 720)) ∧ v = -1000001 ∧ u = (sq, le, lf)) ∨ (((0 ≤ r ∧ r < 8) ∧ (1 ≤ n ∧ n ≤ 10) ∧ (1 ≤ pa ∧ pa ≤ 720)) ∧ ((fl r.toNat < 0 ∧ v = -1000011 ∧ u = (1, le, lf)) ∨ (0 ≤ fl r.toNat ∧ ((fm r.toNat < n * fc 1 ∧ v = -1000012 ∧ u = (2, le, lf)) ∨ (n * fc 1 ≤ fm r.toNat ∧ ((¬ (∀ k : Int, 0 ≤ k → k < n * fc 1 → 0 ≤ fi (40 * r + k).toNat ∧ fi (40 * r + k).toNat < pa) ∧ v = -1000001 ∧ u = (sq, le, lf)) ∨ ((∀ k : Int, 0 ≤ k → k < n * fc 1 → 0 ≤ fi (40 * r + k).toNat ∧ fi (40 * r + k).toNat < pa) ∧ v = firM fc fi r n pa ∧ u.1 = 0)))))))))) (fun u => wMod g A (0) (u.1) ac td lt ln cu tk sa ti ft fp (u.2.1) (u.2.2) tr fl fm fi fc ff fw ftp fk fe fr) := by
  refine m_go (cc := cX8_firstLie) (nL := 6) (by decide +kernel) rfl (Nat.le_of_ble_eq_true rfl) (fun x X Y hnm => ?_)
  refine v_eq (lo2 := [some (.ref (A 0)), some (.int (iI r)), some (.int (iI n)), some (.int (iI pa)), none, none]) rfl rfl rfl rfl ?_
  refine v_aload_n X dX8_firstLie_0 rfl ?_
  refine v_iconst X dX8_firstLie_1 ?_
  refine v_put X (fun _ h => List.mem_cons_of_mem _ (List.mem_append_right _ h)) tyX8 tyX8_ok nmX8 0 rfl rfl 0 (by decide) rfl (List.mem_of_getElem? (i := 1) rfl) rfl rfl rfl (Nat.le_of_ble_eq_true rfl) dX8_firstLie_2 ?_
  dsimp only [List.set, wMod]
  refine v_aload_n X dX8_firstLie_5 rfl ?_
  refine res_E X (run_V X (c_X8_isThere (g := g) (by first | assumption | omega)) gX8_firstLie_X8_isThere rfl hdX8_isThere ⟨(Nat.le_of_ble_eq_true rfl), (Nat.le_of_ble_eq_true rfl)⟩ ⟨(Nat.le_of_ble_eq_true rfl), (Nat.le_of_ble_eq_true rfl)⟩ 0 rfl rfl rfl [0, 1, 2, 3, 4, 5, 6, 7, 8, 9, 10] rfl rfl rfl rfl (by simp [Value.category]) dX8_firstLie_6) [0, 1, 2, 3, 4, 5, 6, 7, 8, 9, 10] rfl rfl ?_
  refine v_ifb_ne (tgt := 15) X dX8_firstLie_9 (by decide) (fun c1 => ?_) (fun c1 => ?_)
  · skip
    refine v_iload_n X dX8_firstLie_15 rfl ?_
    refine res_E X (run_S X (c_X8_isRow (g := g) (by first | assumption | omega)) gX8_firstLie_X8_isRow rfl hdX8_isRow.2 ⟨(Nat.le_of_ble_eq_true rfl), (Nat.le_of_ble_eq_true rfl)⟩ ⟨(Nat.le_of_ble_eq_true rfl), (Nat.le_of_ble_eq_true rfl)⟩ [] rfl rfl rfl rfl (by simp [Value.category]) dX8_firstLie_16) [] rfl rfl ?_
    refine v_ifb_eq (tgt := 46) X dX8_firstLie_19 (by decide) (fun c2 => ?_) (fun c2 => ?_)
    · skip
      refine v_ldc X (List.mem_of_getElem? (i := 5) rfl) dX8_firstLie_46 (n := -1000001) (by decide) ?_
      refine v_iret X Y dX8_firstLie_48 (u := (sq, le, lf)) ?_ (by rfl)
      exact Or.inr ⟨by omega, Or.inl ⟨by omega, rfl, rfl⟩⟩
    · skip
      refine v_iload_n X dX8_firstLie_22 rfl ?_
      refine v_i2l X dX8_firstLie_23 (by first | omega | (split <;> omega)) ?_
      refine v_lconst1 X dX8_firstLie_24 ?_
      refine v_ldc2 X (List.mem_of_getElem? (i := 3) rfl) dX8_firstLie_25 (n := 10) (by decide) ?_
      refine res_E X (run_S X (c_X8_in (g := g) (by first | assumption | omega) (by first | assumption | omega) (by first | assumption | omega)) gX8_firstLie_X8_in rfl hdX8_in.2 ⟨(Nat.le_of_ble_eq_true rfl), (Nat.le_of_ble_eq_true rfl)⟩ ⟨(Nat.le_of_ble_eq_true rfl), (Nat.le_of_ble_eq_true rfl)⟩ [] rfl rfl rfl rfl (by simp [Value.category]) dX8_firstLie_28) [] rfl rfl ?_
      refine v_ifb_eq (tgt := 46) X dX8_firstLie_31 (by decide) (fun c3 => ?_) (fun c3 => ?_)
      · skip
        refine v_ldc X (List.mem_of_getElem? (i := 5) rfl) dX8_firstLie_46 (n := -1000001) (by decide) ?_
        refine v_iret X Y dX8_firstLie_48 (u := (sq, le, lf)) ?_ (by rfl)
        exact Or.inr ⟨by omega, Or.inl ⟨by omega, rfl, rfl⟩⟩
      · skip
        refine v_iload_n X dX8_firstLie_34 rfl ?_
        refine v_i2l X dX8_firstLie_35 (by first | omega | (split <;> omega)) ?_
        refine v_lconst1 X dX8_firstLie_36 ?_
        refine v_ldc2 X (List.mem_of_getElem? (i := 4) rfl) dX8_firstLie_37 (n := 720) (by decide) ?_
        refine res_E X (run_S X (c_X8_in (g := g) (by first | assumption | omega) (by first | assumption | omega) (by first | assumption | omega)) gX8_firstLie_X8_in rfl hdX8_in.2 ⟨(Nat.le_of_ble_eq_true rfl), (Nat.le_of_ble_eq_true rfl)⟩ ⟨(Nat.le_of_ble_eq_true rfl), (Nat.le_of_ble_eq_true rfl)⟩ [] rfl rfl rfl rfl (by simp [Value.category]) dX8_firstLie_40) [] rfl rfl ?_
        refine v_ifb_ne (tgt := 49) X dX8_firstLie_43 (by decide) (fun c4 => ?_) (fun c4 => ?_)
        · skip
          have q1 := hfm r.toNat
          have q2 := h0 (by assumption)
          have q3 := mul_nn (show 0 ≤ n ∧ n ≤ 10 by omega) hc1
          refine v_aload_n X dX8_firstLie_49 rfl ?_
          refine v_iload_n X dX8_firstLie_50 rfl ?_
          refine v_iconst X dX8_firstLie_51 ?_
          refine v_iload_n X dX8_firstLie_52 rfl ?_
          refine v_aload_n X dX8_firstLie_53 rfl ?_
          refine v_get X (fun _ h => List.mem_cons_of_mem _ (List.mem_append_right _ h)) 0 rfl rfl 5 (by decide) rfl (List.mem_of_getElem? (i := 6) rfl) rfl dX8_firstLie_54 ?_
          refine v_iconst X dX8_firstLie_57 ?_
          refine v_iald X 4 rfl (by first | omega | (split <;> omega)) (by first | omega | (split <;> omega)) (by first | omega | (split <;> omega)) dX8_firstLie_58 hfc (fun za eza lza uza => ?_)
          rw [show za = fc 1 from eza]
          refine v_imul X dX8_firstLie_59 ?_
          refine res_E X (run_V X (c_X8_lacks (g := g) (by first | assumption | omega) (by first | assumption | omega) (by first | assumption | omega) (by first | assumption | omega) (by first | assumption | omega)) gX8_firstLie_X8_lacks rfl hdX8_lacks ⟨(Nat.le_of_ble_eq_true rfl), (Nat.le_of_ble_eq_true rfl)⟩ ⟨(Nat.le_of_ble_eq_true rfl), (Nat.le_of_ble_eq_true rfl)⟩ 0 rfl rfl rfl [0, 1, 2, 3, 4, 5, 6, 7, 8, 9, 10] rfl rfl rfl rfl (by simp [Value.category]) dX8_firstLie_60) [0, 1, 2, 3, 4, 5, 6, 7, 8, 9, 10] rfl rfl ?_
          obtain ⟨no, hno⟩ : ∃ no : Int, no = (if fl r.toNat < 0 then 1 else if (0 : Int) < 0 ∨ fm r.toNat < (0 : Int) + n * fc 1 then 2 else 0) := ⟨_, rfl⟩
          rw [← hno]
          have hn2 : (fl r.toNat < 0 ∧ no = 1) ∨ (0 ≤ fl r.toNat ∧ ((0 : Int) < 0 ∨ fm r.toNat < (0 : Int) + n * fc 1) ∧ no = 2) ∨ (0 ≤ fl r.toNat ∧ (0 ≤ (0 : Int) ∧ (0 : Int) + n * fc 1 ≤ fm r.toNat) ∧ no = 0) := by rw [hno]; (repeat split) <;> omega
          refine v_istore X dX8_firstLie_63 (by decide) rfl ?_
          dsimp only [List.set]
          refine v_iload X dX8_firstLie_65 rfl ?_
          refine v_if_le (tgt := 77) X dX8_firstLie_67 (by decide) (by first | omega | (split <;> omega)) (fun c6 => ?_) (fun c6 => ?_)
          · skip
            refine v_aload_n X dX8_firstLie_77 rfl ?_
            refine v_bipush X dX8_firstLie_78 (by decide) ?_
            refine v_iload_n X dX8_firstLie_80 rfl ?_
            refine v_imul X dX8_firstLie_81 ?_
            refine v_iload_n X dX8_firstLie_82 rfl ?_
            refine v_aload_n X dX8_firstLie_83 rfl ?_
            refine v_get X (fun _ h => List.mem_cons_of_mem _ (List.mem_append_right _ h)) 0 rfl rfl 5 (by decide) rfl (List.mem_of_getElem? (i := 6) rfl) rfl dX8_firstLie_84 ?_
            refine v_iconst X dX8_firstLie_87 ?_
            refine v_iald X 4 rfl (by first | omega | (split <;> omega)) (by first | omega | (split <;> omega)) (by first | omega | (split <;> omega)) dX8_firstLie_88 hfc (fun zb ezb lzb uzb => ?_)
            rw [show zb = fc 1 from ezb]
            refine v_imul X dX8_firstLie_89 ?_
            refine v_iload_n X dX8_firstLie_90 rfl ?_
            refine res_E X (run_V X (c_X8_areArcs (g := g) (by first | assumption | omega) (by first | assumption | omega) (by first | assumption | omega) (by first | assumption | omega)) gX8_firstLie_X8_areArcs rfl hdX8_areArcs ⟨(Nat.le_of_ble_eq_true rfl), (Nat.le_of_ble_eq_true rfl)⟩ ⟨(Nat.le_of_ble_eq_true rfl), (Nat.le_of_ble_eq_true rfl)⟩ 0 rfl rfl rfl [0, 1, 2, 3, 4, 5, 6, 7, 8, 9, 10] rfl rfl rfl rfl (by simp [Value.category]) dX8_firstLie_91) [0, 1, 2, 3, 4, 5, 6, 7, 8, 9, 10] rfl rfl ?_
            refine v_ifp_ne (tgt := 100) X dX8_firstLie_94 (by decide) (fun c8 => ?_) (fun c8 => ?_)
            · skip
              refine v_aload_n X dX8_firstLie_100 rfl ?_
              refine v_iconst X dX8_firstLie_101 ?_
              refine v_put X (fun _ h => List.mem_cons_of_mem _ (List.mem_append_right _ h)) tyX8 tyX8_ok nmX8 0 rfl rfl 1 (by decide) rfl (List.mem_of_getElem? (i := 7) rfl) rfl rfl rfl (Nat.le_of_ble_eq_true rfl) dX8_firstLie_102 ?_
              dsimp only [List.set, wMod]
              refine v_iconst X dX8_firstLie_105 ?_
              refine v_istore X dX8_firstLie_106 (by decide) rfl ?_
              dsimp only [List.set]
              have L108 : ∀ (nf : Nat) (ls : Int) (lo2 : Int) (k : Int) (h1 : 0 ≤ k ∧ k ≤ n) (h2 : firM fc fi r n pa = othS (fun k => !(pB (mFitW fc fi (40 * r + k * fc 1) pa (-1000000)))) (n - k).toNat k) (_ : (n - k).toNat < nf), V g x 0 0 (wMod g A (0) (0) ac td lt ln cu tk sa ti ft fp (ls) (lo2) tr fl fm fi fc ff fw ftp fk fe fr) [some (.ref (A 0)), some (.int (iI r)), some (.int (iI n)), some (.int (iI pa)), some (.int (iI no)), some (.int (iI k))] 108 [] := by
                intro nf
                induction nf with
                | zero => intro ls lo2 k h1 h2 hmu; exact absurd hmu (Nat.not_lt_zero _)
                | succ nf ih108 =>
                  intro ls lo2 k h1 h2 hmu
                  refine v_iload X dX8_firstLie_108 rfl ?_
                  refine v_iload_n X dX8_firstLie_110 rfl ?_
                  refine v_icmp_ge (tgt := 147) X dX8_firstLie_111 (by decide) (by first | omega | (split <;> omega)) (by first | omega | (split <;> omega)) (fun c9 => ?_) (fun c9 => ?_)
                  · skip
                    refine v_ldc X (List.mem_of_getElem? (i := 8) rfl) dX8_firstLie_147 (n := -1000000) (by decide) ?_
                    refine v_iret X Y dX8_firstLie_149 (u := (0, ls, lo2)) ?_ (by rfl)
                    refine Or.inr ⟨by omega, Or.inr ⟨by omega, Or.inr ⟨by omega, Or.inr ⟨by omega, Or.inr ⟨by assumption, ?_, rfl⟩⟩⟩⟩⟩
                    rw [h2, show (n - k).toNat = 0 by omega]
                    rfl
                  · skip
                    have q4 := mul_step (show 0 ≤ fc 1 by omega) h1.1 (show k < n by omega)
                    refine v_aload_n X dX8_firstLie_114 rfl ?_
                    refine v_bipush X dX8_firstLie_115 (by decide) ?_
                    refine v_iload_n X dX8_firstLie_117 rfl ?_
                    refine v_imul X dX8_firstLie_118 ?_
                    refine v_iload X dX8_firstLie_119 rfl ?_
                    refine v_aload_n X dX8_firstLie_121 rfl ?_
                    refine v_get X (fun _ h => List.mem_cons_of_mem _ (List.mem_append_right _ h)) 0 rfl rfl 5 (by decide) rfl (List.mem_of_getElem? (i := 6) rfl) rfl dX8_firstLie_122 ?_
                    refine v_iconst X dX8_firstLie_125 ?_
                    refine v_iald X 4 rfl (by first | omega | (split <;> omega)) (by first | omega | (split <;> omega)) (by first | omega | (split <;> omega)) dX8_firstLie_126 hfc (fun zc ezc lzc uzc => ?_)
                    rw [show zc = fc 1 from ezc]
                    refine v_imul X dX8_firstLie_127 ?_
                    refine v_iadd X dX8_firstLie_128 ?_
                    refine v_iload_n X dX8_firstLie_129 rfl ?_
                    refine v_ldc X (List.mem_of_getElem? (i := 8) rfl) dX8_firstLie_130 (n := -1000000) (by decide) ?_
                    refine res_I X (run_V X (c_X8_isTrue (g := g) (by first | assumption | omega) (by first | assumption | omega) (by first | assumption | omega) (by first | assumption | omega) (by first | assumption | omega) (by first | assumption | omega) (by first | assumption | omega) (by first | assumption | omega) (by intro h g1 g2; have q5 := (by assumption : (∀ k : Int, 0 ≤ k → k < n * fc 1 → 0 ≤ fi (40 * r + k).toNat ∧ fi (40 * r + k).toNat < pa)) (k * fc 1 + h) (by omega) (by omega); rw [show 40 * r + k * fc 1 + h = 40 * r + (k * fc 1 + h) by omega]; exact q5)) gX8_firstLie_X8_isTrue rfl hdX8_isTrue ⟨(Nat.le_of_ble_eq_true rfl), (Nat.le_of_ble_eq_true rfl)⟩ ⟨(Nat.le_of_ble_eq_true rfl), (Nat.le_of_ble_eq_true rfl)⟩ 0 rfl rfl rfl [0, 1, 2, 3, 4, 5, 6, 7, 8, 9, 10] rfl rfl rfl rfl (by simp [Value.category]) dX8_firstLie_132) [0, 1, 2, 3, 4, 5, 6, 7, 8, 9, 10] rfl rfl (fun _ => rfl) (fun r1 u1 hr1 => ?_)
                    obtain ⟨ls1, lf1⟩ := u1
                    dsimp only [patch, List.set, wMod]
                    refine v_if_ne (tgt := 141) X dX8_firstLie_135 (by decide) (by have := pI_or (mFitW fc fi (40 * r + k * fc 1) pa (-1000000)); have := hr1.1; omega) (fun c13 => ?_) (fun c13 => ?_)
                    · skip
                      refine v_iinc X dX8_firstLie_141 rfl (by decide) rfl ?_
                      dsimp only [List.set]
                      refine v_goto (tgt := 108) X dX8_firstLie_144 (by decide) ?_
                      exact ih108 _ _ _ (by omega) (by
                          rw [h2, othS_s (by omega), if_neg (fun z => by
                          have e1 := pI_or (mFitW fc fi (40 * r + k * fc 1) pa (-1000000))
                          have e2 := hr1.1
                          have e3 := notB.mp z
                          rcases e1 with q | q
                          · exact e3 q.1
                          · omega)]) (by omega)
                    · skip
                      refine v_iload X dX8_firstLie_138 rfl ?_
                      refine v_iret X Y dX8_firstLie_140 (u := (0, ls1, lf1)) ?_ (by rfl)
                      refine Or.inr ⟨by omega, Or.inr ⟨by omega, Or.inr ⟨by omega, Or.inr ⟨by omega, Or.inr ⟨by assumption, ?_, rfl⟩⟩⟩⟩⟩
                      rw [h2, othS_s (by omega), if_pos (notB.mpr (fun z => by
                        have e2 := hr1.1
                        rw [pI_1 z] at e2
                        omega))]
              exact L108 _ _ _ _ (by omega) (by unfold firM; rw [Int.sub_zero]) (Nat.lt_succ_self _)
            · skip
              refine v_ldc X (List.mem_of_getElem? (i := 5) rfl) dX8_firstLie_97 (n := -1000001) (by decide) ?_
              refine v_iret X Y dX8_firstLie_99 (u := (sq, le, lf)) ?_ (by rfl)
              exact Or.inr ⟨by omega, Or.inr ⟨by omega, Or.inr ⟨by omega, Or.inr ⟨by omega, Or.inl ⟨by assumption, rfl, rfl⟩⟩⟩⟩⟩
          · skip
            refine v_aload_n X dX8_firstLie_70 rfl ?_
            refine v_iload X dX8_firstLie_71 rfl ?_
            refine res_F X (run_V X (c_X8_finding (g := g) ) gX8_firstLie_X8_finding rfl hdX8_finding ⟨(Nat.le_of_ble_eq_true rfl), (Nat.le_of_ble_eq_true rfl)⟩ ⟨(Nat.le_of_ble_eq_true rfl), (Nat.le_of_ble_eq_true rfl)⟩ 0 rfl rfl rfl [0, 1, 2, 3, 4, 5, 6, 7, 8, 9, 10] rfl rfl rfl rfl (by simp [Value.category]) dX8_firstLie_73) [0, 1, 2, 3, 4, 5, 6, 7, 8, 9, 10] rfl rfl rfl ?_
            dsimp only [patch, List.set, wMod]
            refine v_iret X Y dX8_firstLie_76 (u := (no, le, lf)) ?_ (by rfl)
            refine Or.inr ⟨by omega, Or.inr ⟨by omega, ?_⟩⟩
            rcases hn2 with q | q | q
            · exact Or.inl ⟨q.1, by omega, by rw [q.2]⟩
            · exact Or.inr ⟨q.1, Or.inl ⟨by omega, by omega, by rw [q.2.2]⟩⟩
            · exfalso; omega
        · skip
          refine v_ldc X (List.mem_of_getElem? (i := 5) rfl) dX8_firstLie_46 (n := -1000001) (by decide) ?_
          refine v_iret X Y dX8_firstLie_48 (u := (sq, le, lf)) ?_ (by rfl)
          exact Or.inr ⟨by omega, Or.inl ⟨by omega, rfl, rfl⟩⟩
  · skip
    refine v_ldc X (List.mem_of_getElem? (i := 2) rfl) dX8_firstLie_12 (n := -1000002) (by decide) ?_
    refine v_iret X Y dX8_firstLie_14 (u := (sq, le, lf)) ?_ (by rfl)
    exact Or.inl ⟨by omega, rfl, rfl⟩

theorem hdX7_lies : yX7_lies.cls = RX7 ∧ yX7_lies.cls ≠ "java/lang/invoke/MethodHandle" ∧ yX7_lies.cls ≠ "java/lang/invoke/VarHandle" ∧ (parseMethodDescriptor yX7_lies.desc).map (fun d => d.parameters.length) = some 4 := ⟨rfl, by decide +kernel, by decide +kernel, by decide +kernel⟩
set_option maxHeartbeats 4000000 in
set_option maxRecDepth 100000 in
theorem c_X7_lies {g : Gx} {B : Nat → Nat} {lf fi : Int} {it la le : Nat → Int} {mk cn : Int} {so tu sp : Nat → Int} {ar rs : Nat → Int} {rc pa0 : Int} {r i pa w : Int} (hit : Bd (-2147483648) 2147483647 it) (hla : Bd (-1) 2 la) (hle : Bd 0 40 le) (hcn : 0 ≤ cn ∧ cn ≤ 4) (hmk : 0 ≤ mk ∧ mk ≤ 60) (hso : Bd 0 5 so) (htu : Bd 0 12 tu) (hsp : Bd 0 59 sp) (har : Bd 0 719 ar) (hrs : Bd (-24) 24 rs) (hrc : 0 ≤ rc ∧ rc ≤ 4) (hpa : 1 ≤ pa0 ∧ pa0 ≤ 720) (hr : R32 r) (hi : R32 i) (hpa : R32 pa) (hw : R32 w) : CtI (S := Int × (Nat → Int) × (Nat → Int) × Int × Int) g yX7_lies wsX7_lies 7 162 [.ref (B 0), .int (iI r), .int (iI i), .int (iI pa), .int (iI w)] (oAH g B (lf) (fi) :: (wRow g (B 1) (B 11) (B 12) (B 13) it la le ++ (wClk g (B 3) (B 15) (B 16) (B 17) mk cn so tu sp ++ (wRea g (B 9) (B 29) (B 30) ar rs rc pa0)))) (fun v u => (cn = 0 ∧ v = -1000002 ∧ u = (fi, ar, rs, rc, pa0)) ∨ (cn ≠ 0 ∧ ((¬ ((0 ≤ r ∧ r < 8) ∧ (1 ≤ pa ∧ pa ≤ 720) ∧ (0 ≤ w ∧ w ≤ 3)) ∧ v = -1000001 ∧ u = (fi, ar, rs, rc, pa0)) ∨ (((0 ≤ r ∧ r < 8) ∧ (1 ≤ pa ∧ pa ≤ 720) ∧ (0 ≤ w ∧ w ≤ 3)) ∧ ((la r.toNat = -1 ∧ v = -1000011 ∧ u = (1, ar, rs, rc, pa0)) ∨ (la r.toNat ≠ -1 ∧ (((i < 0 ∨ le r.toNat < i + cn) ∧ v = -1000012 ∧ u = (2, ar, rs, rc, pa0)) ∨ ((0 ≤ i ∧ i + cn ≤ le r.toNat) ∧ ((¬ (∀ k : Int, 0 ≤ k → k < cn → 0 ≤ itmI it le r (i + k) ∧ itmI it le r (i + k) < pa) ∧ v = -1000001 ∧ u = (fi, ar, rs, rc, pa0)) ∨ ((∀ k : Int, 0 ≤ k → k < cn → 0 ≤ itmI it le r (i + k) ∧ itmI it le r (i + k) < pa) ∧ v = lieV (overI cn (rdA it le r i) ar) (overI cn (rdS cn so tu) rs) cn pa w ∧ u = (0, (overI cn (rdA it le r i) ar), (overI cn (rdS cn so tu) rs), cn, pa))))))))))) (fun u => oAH g B (lf) (u.1) :: (wRow g (B 1) (B 11) (B 12) (B 13) it la le ++ (wClk g (B 3) (B 15) (B 16) (B 17) mk cn so tu sp ++ (wRea g (B 9) (B 29) (B 30) (u.2.1) (u.2.2.1) (u.2.2.2.1) (u.2.2.2.2))))) := by
  refine m_go (cc := cX7_lies) (nL := 6) (by decide +kernel) rfl (Nat.le_of_ble_eq_true rfl) (fun x X Y hnm => ?_)
  refine v_eq (lo2 := [some (.ref (B 0)), some (.int (iI r)), some (.int (iI i)), some (.int (iI pa)), some (.int (iI w)), none]) rfl rfl rfl rfl ?_
  refine v_aload_n X dX7_lies_0 rfl ?_
  refine v_get X (fun _ h => List.mem_cons_of_mem _ (List.mem_append_left _ (List.mem_append_left _ (List.mem_append_left _ (List.mem_append_right _ h))))) 0 rfl rfl 2 (by decide) rfl (List.mem_of_getElem? (i := 1) rfl) rfl dX7_lies_1 ?_
  refine res_E X (run_V X (c_X2_isNone (g := g) (by first | assumption | omega)) gX7_lies_X2_isNone rfl hdX2_isNone ⟨(Nat.le_of_ble_eq_true rfl), (Nat.le_of_ble_eq_true rfl)⟩ ⟨(Nat.le_of_ble_eq_true rfl), (Nat.le_of_ble_eq_true rfl)⟩ 5 rfl rfl rfl [5, 6, 7, 8] rfl rfl rfl rfl (by simp [Value.category]) dX7_lies_4) [5, 6, 7, 8] rfl rfl ?_
  refine v_ifb_eq (tgt := 13) X dX7_lies_7 (by decide) (fun c1 => ?_) (fun c1 => ?_)
  · skip
    refine v_iload_n X dX7_lies_13 rfl ?_
    refine res_E X (run_S X (c_X7_isRow (g := g) (by first | assumption | omega)) gX7_lies_X7_isRow rfl hdX7_isRow.2 ⟨(Nat.le_of_ble_eq_true rfl), (Nat.le_of_ble_eq_true rfl)⟩ ⟨(Nat.le_of_ble_eq_true rfl), (Nat.le_of_ble_eq_true rfl)⟩ [] rfl rfl rfl rfl (by simp [Value.category]) dX7_lies_14) [] rfl rfl ?_
    refine v_ifb_eq (tgt := 41) X dX7_lies_17 (by decide) (fun c2 => ?_) (fun c2 => ?_)
    · skip
      refine v_ldc X (List.mem_of_getElem? (i := 3) rfl) dX7_lies_41 (n := -1000001) (by decide) ?_
      refine v_iret X Y dX7_lies_43 (u := (fi, ar, rs, rc, pa0)) ?_ (by rfl)
      exact Or.inr ⟨by omega, Or.inl ⟨by omega, rfl, rfl⟩⟩
    · skip
      refine v_iload_n X dX7_lies_20 rfl ?_
      refine v_iconst X dX7_lies_21 ?_
      refine v_sipush X dX7_lies_22 (by decide) ?_
      refine res_E X (run_S X (c_X7_isWithin (g := g) (by first | assumption | omega) (by first | assumption | omega) (by first | assumption | omega)) gX7_lies_X7_isWithin rfl hdX7_isWithin.2 ⟨(Nat.le_of_ble_eq_true rfl), (Nat.le_of_ble_eq_true rfl)⟩ ⟨(Nat.le_of_ble_eq_true rfl), (Nat.le_of_ble_eq_true rfl)⟩ [] rfl rfl rfl rfl (by simp [Value.category]) dX7_lies_25) [] rfl rfl ?_
      refine v_ifb_eq (tgt := 41) X dX7_lies_28 (by decide) (fun c3 => ?_) (fun c3 => ?_)
      · skip
        refine v_ldc X (List.mem_of_getElem? (i := 3) rfl) dX7_lies_41 (n := -1000001) (by decide) ?_
        refine v_iret X Y dX7_lies_43 (u := (fi, ar, rs, rc, pa0)) ?_ (by rfl)
        exact Or.inr ⟨by omega, Or.inl ⟨by omega, rfl, rfl⟩⟩
      · skip
        refine v_iload X dX7_lies_31 rfl ?_
        refine v_iconst X dX7_lies_33 ?_
        refine v_iconst X dX7_lies_34 ?_
        refine res_E X (run_S X (c_X7_isWithin (g := g) (by first | assumption | omega) (by first | assumption | omega) (by first | assumption | omega)) gX7_lies_X7_isWithin rfl hdX7_isWithin.2 ⟨(Nat.le_of_ble_eq_true rfl), (Nat.le_of_ble_eq_true rfl)⟩ ⟨(Nat.le_of_ble_eq_true rfl), (Nat.le_of_ble_eq_true rfl)⟩ [] rfl rfl rfl rfl (by simp [Value.category]) dX7_lies_35) [] rfl rfl ?_
        refine v_ifb_ne (tgt := 44) X dX7_lies_38 (by decide) (fun c4 => ?_) (fun c4 => ?_)
        · skip
          have q1 := hle r.toNat
          have q0 := hla r.toNat
          refine v_aload_n X dX7_lies_44 rfl ?_
          refine v_get X (fun _ h => List.mem_cons_of_mem _ (List.mem_append_left _ (List.mem_append_left _ (List.mem_append_left _ (List.mem_append_right _ h))))) 0 rfl rfl 0 (by decide) rfl (List.mem_of_getElem? (i := 4) rfl) rfl dX7_lies_45 ?_
          refine v_iload_n X dX7_lies_48 rfl ?_
          refine v_iload_n X dX7_lies_49 rfl ?_
          refine v_aload_n X dX7_lies_50 rfl ?_
          refine v_get X (fun _ h => List.mem_cons_of_mem _ (List.mem_append_left _ (List.mem_append_left _ (List.mem_append_left _ (List.mem_append_right _ h))))) 0 rfl rfl 2 (by decide) rfl (List.mem_of_getElem? (i := 1) rfl) rfl dX7_lies_51 ?_
          refine v_get X (fun _ h => List.mem_cons_of_mem _ (List.mem_append_left _ (List.mem_append_left _ (List.mem_append_right _ h)))) 5 rfl rfl 4 (by decide) rfl (List.mem_of_getElem? (i := 5) rfl) rfl dX7_lies_54 ?_
          refine res_E X (run_V X (c_X5_wrongAt (g := g) (by first | assumption | omega) (by first | assumption | omega) (by first | assumption | omega) (by first | assumption | omega) (by first | assumption | omega)) gX7_lies_X5_wrongAt rfl hdX5_wrongAt ⟨(Nat.le_of_ble_eq_true rfl), (Nat.le_of_ble_eq_true rfl)⟩ ⟨(Nat.le_of_ble_eq_true rfl), (Nat.le_of_ble_eq_true rfl)⟩ 1 rfl rfl rfl [1, 2, 3, 4] rfl rfl rfl rfl (by simp [Value.category]) dX7_lies_57) [1, 2, 3, 4] rfl rfl ?_
          have hno : wrgI la le r i cn = (if lanI la r = -1 then 1 else if rchI le r i cn = 1 then 0 else 2) := rfl
          have hr1 : rchI le r i cn = if 0 ≤ i ∧ 0 ≤ cn ∧ i ≤ le r.toNat - cn then 1 else 0 := rchI_n (by omega)
          have hl1 : lanI la r = la r.toNat := if_pos (by omega)
          have hn2 : (la r.toNat = -1 ∧ wrgI la le r i cn = 1) ∨ (la r.toNat ≠ -1 ∧ (i < 0 ∨ le r.toNat < i + cn) ∧ wrgI la le r i cn = 2) ∨ (la r.toNat ≠ -1 ∧ (0 ≤ i ∧ i + cn ≤ le r.toNat) ∧ wrgI la le r i cn = 0) := by rw [hno, hr1, hl1]; (repeat split) <;> omega
          refine v_istore X dX7_lies_60 (by decide) rfl ?_
          dsimp only [List.set]
          refine v_iload X dX7_lies_62 rfl ?_
          refine v_if_eq (tgt := 74) X dX7_lies_64 (by decide) (by first | omega | (rcases hn2 with q | q | q <;> omega)) (fun c5 => ?_) (fun c5 => ?_)
          · skip
            have g3 : la r.toNat ≠ -1 ∧ 0 ≤ i ∧ i + cn ≤ le r.toNat := by rcases hn2 with q | q | q <;> omega
            refine v_aload_n X dX7_lies_74 rfl ?_
            refine v_get X (fun _ h => List.mem_cons_of_mem _ (List.mem_append_left _ (List.mem_append_left _ (List.mem_append_left _ (List.mem_append_right _ h))))) 0 rfl rfl 0 (by decide) rfl (List.mem_of_getElem? (i := 4) rfl) rfl dX7_lies_75 ?_
            refine v_iload_n X dX7_lies_78 rfl ?_
            refine v_iload_n X dX7_lies_79 rfl ?_
            refine v_iload_n X dX7_lies_80 rfl ?_
            refine v_aload_n X dX7_lies_81 rfl ?_
            refine v_get X (fun _ h => List.mem_cons_of_mem _ (List.mem_append_left _ (List.mem_append_left _ (List.mem_append_left _ (List.mem_append_right _ h))))) 0 rfl rfl 2 (by decide) rfl (List.mem_of_getElem? (i := 1) rfl) rfl dX7_lies_82 ?_
            refine v_get X (fun _ h => List.mem_cons_of_mem _ (List.mem_append_left _ (List.mem_append_left _ (List.mem_append_right _ h)))) 5 rfl rfl 4 (by decide) rfl (List.mem_of_getElem? (i := 5) rfl) rfl dX7_lies_85 ?_
            refine res_E X (run_V X (c_X5_areBelow (g := g) (by first | assumption | omega) (by first | assumption | omega) (by first | assumption | omega) (by first | assumption | omega) (by first | assumption | omega) (by first | assumption | omega)) gX7_lies_X5_areBelow rfl hdX5_areBelow ⟨(Nat.le_of_ble_eq_true rfl), (Nat.le_of_ble_eq_true rfl)⟩ ⟨(Nat.le_of_ble_eq_true rfl), (Nat.le_of_ble_eq_true rfl)⟩ 1 rfl rfl rfl [1, 2, 3, 4] rfl rfl rfl rfl (by simp [Value.category]) dX7_lies_88) [1, 2, 3, 4] rfl rfl ?_
            refine v_ifp_ne (tgt := 97) X dX7_lies_91 (by decide) (fun c6 => ?_) (fun c6 => ?_)
            · skip
              have hb := (by assumption : (∀ k : Int, 0 ≤ k → k < cn → 0 ≤ itmI it le r (i + k) ∧ itmI it le r (i + k) < pa))
              have b1 : Bd 0 719 (overI cn (rdA it le r i) ar) := Bd_over (fun j hj => by have q := hb j (by omega) hj; unfold rdA; omega) har
              have b2 : Bd (-24) 24 (overI cn (rdS cn so tu) rs) := Bd_over (fun j hj => spdI_bd htu) hrs
              refine v_aload_n X dX7_lies_97 rfl ?_
              refine v_get X (fun _ h => List.mem_cons_of_mem _ (List.mem_append_left _ (List.mem_append_left _ (List.mem_append_left _ (List.mem_append_right _ h))))) 0 rfl rfl 8 (by decide) rfl (List.mem_of_getElem? (i := 6) rfl) rfl dX7_lies_98 ?_
              refine v_aload_n X dX7_lies_101 rfl ?_
              refine v_get X (fun _ h => List.mem_cons_of_mem _ (List.mem_append_left _ (List.mem_append_left _ (List.mem_append_left _ (List.mem_append_right _ h))))) 0 rfl rfl 2 (by decide) rfl (List.mem_of_getElem? (i := 1) rfl) rfl dX7_lies_102 ?_
              refine v_aload_n X dX7_lies_105 rfl ?_
              refine v_get X (fun _ h => List.mem_cons_of_mem _ (List.mem_append_left _ (List.mem_append_left _ (List.mem_append_left _ (List.mem_append_right _ h))))) 0 rfl rfl 0 (by decide) rfl (List.mem_of_getElem? (i := 4) rfl) rfl dX7_lies_106 ?_
              refine v_iload_n X dX7_lies_109 rfl ?_
              refine v_iload_n X dX7_lies_110 rfl ?_
              refine v_iload_n X dX7_lies_111 rfl ?_
              refine res_W X (run_V X (c_X4_take (g := g) (by first | assumption | omega) (by first | assumption | omega) (by first | assumption | omega) (by first | assumption | omega) (by first | assumption | omega) (by first | assumption | omega) (by first | assumption | omega) (by first | assumption | omega)) gX7_lies_X4_take rfl hdX4_take ⟨(Nat.le_of_ble_eq_true rfl), (Nat.le_of_ble_eq_true rfl)⟩ ⟨(Nat.le_of_ble_eq_true rfl), (Nat.le_of_ble_eq_true rfl)⟩ 9 rfl rfl rfl [9, 10, 11, 5, 6, 7, 8, 1, 2, 3, 4] rfl rfl rfl rfl (by simp [Value.category]) dX7_lies_112) [9, 10, 11, 5, 6, 7, 8, 1, 2, 3, 4] rfl rfl rfl ?_
              dsimp only [patch, List.set, List.cons_append, List.nil_append, oAH, wClk, wRea, wRow]
              refine v_aload_n X dX7_lies_115 rfl ?_
              refine v_aload_n X dX7_lies_116 rfl ?_
              refine v_iload X dX7_lies_117 rfl ?_
              refine res_E X (run_V X (c_X7_lieOfReading (g := g) (by first | assumption | omega) (by first | assumption | omega) (by first | assumption | omega) (by first | assumption | omega) (by first | assumption | omega)) gX7_lies_X7_lieOfReading rfl hdX7_lieOfReading ⟨(Nat.le_of_ble_eq_true rfl), (Nat.le_of_ble_eq_true rfl)⟩ ⟨(Nat.le_of_ble_eq_true rfl), (Nat.le_of_ble_eq_true rfl)⟩ 0 rfl rfl rfl [0, 9, 10, 11] rfl rfl rfl rfl (by simp [Value.category]) dX7_lies_119) [0, 9, 10, 11] rfl rfl ?_
              refine res_F X (run_V X (c_X7_fine (g := g) ) gX7_lies_X7_fine rfl hdX7_fine ⟨(Nat.le_of_ble_eq_true rfl), (Nat.le_of_ble_eq_true rfl)⟩ ⟨(Nat.le_of_ble_eq_true rfl), (Nat.le_of_ble_eq_true rfl)⟩ 0 rfl rfl rfl [0] rfl rfl rfl rfl (by simp [Value.category]) dX7_lies_122) [0] rfl rfl rfl ?_
              dsimp only [patch, List.set, List.cons_append, List.nil_append, oAH, wClk, wRea, wRow]
              refine v_iret X Y dX7_lies_125 (u := (0, (overI cn (rdA it le r i) ar), (overI cn (rdS cn so tu) rs), cn, pa)) ?_ (by rfl)
              exact Or.inr ⟨by omega, Or.inr ⟨by omega, Or.inr ⟨g3.1, Or.inr ⟨g3.2, Or.inr ⟨hb, rfl, rfl⟩⟩⟩⟩⟩
            · skip
              refine v_ldc X (List.mem_of_getElem? (i := 3) rfl) dX7_lies_94 (n := -1000001) (by decide) ?_
              refine v_iret X Y dX7_lies_96 (u := (fi, ar, rs, rc, pa0)) ?_ (by rfl)
              exact Or.inr ⟨by omega, Or.inr ⟨by omega, Or.inr ⟨g3.1, Or.inr ⟨g3.2, Or.inl ⟨by assumption, rfl, rfl⟩⟩⟩⟩⟩
          · skip
            refine v_aload_n X dX7_lies_67 rfl ?_
            refine v_iload X dX7_lies_68 rfl ?_
            refine res_F X (run_V X (c_X7_found (g := g) ) gX7_lies_X7_found rfl hdX7_found ⟨(Nat.le_of_ble_eq_true rfl), (Nat.le_of_ble_eq_true rfl)⟩ ⟨(Nat.le_of_ble_eq_true rfl), (Nat.le_of_ble_eq_true rfl)⟩ 0 rfl rfl rfl [0] rfl rfl rfl rfl (by simp [Value.category]) dX7_lies_70) [0] rfl rfl rfl ?_
            dsimp only [patch, List.set, List.cons_append, List.nil_append, oAH, wClk, wRea, wRow]
            refine v_iret X Y dX7_lies_73 (u := (wrgI la le r i cn, ar, rs, rc, pa0)) ?_ (by rfl)
            refine Or.inr ⟨by omega, Or.inr ⟨by omega, ?_⟩⟩
            rcases hn2 with q | q | q
            · exact Or.inl ⟨q.1, by omega, by rw [q.2]⟩
            · exact Or.inr ⟨q.1, Or.inl ⟨q.2.1, by omega, by rw [q.2.2]⟩⟩
            · exfalso; omega
        · skip
          refine v_ldc X (List.mem_of_getElem? (i := 3) rfl) dX7_lies_41 (n := -1000001) (by decide) ?_
          refine v_iret X Y dX7_lies_43 (u := (fi, ar, rs, rc, pa0)) ?_ (by rfl)
          exact Or.inr ⟨by omega, Or.inl ⟨by omega, rfl, rfl⟩⟩
  · skip
    refine v_ldc X (List.mem_of_getElem? (i := 2) rfl) dX7_lies_10 (n := -1000002) (by decide) ?_
    refine v_iret X Y dX7_lies_12 (u := (fi, ar, rs, rc, pa0)) ?_ (by rfl)
    exact Or.inl ⟨by omega, rfl, rfl⟩

theorem hdX7_firstLieOf : yX7_firstLieOf.cls = RX7 ∧ yX7_firstLieOf.cls ≠ "java/lang/invoke/MethodHandle" ∧ yX7_firstLieOf.cls ≠ "java/lang/invoke/VarHandle" ∧ (parseMethodDescriptor yX7_firstLieOf.desc).map (fun d => d.parameters.length) = some 3 := ⟨rfl, by decide +kernel, by decide +kernel, by decide +kernel⟩
set_option maxHeartbeats 4000000 in
set_option maxRecDepth 100000 in
theorem c_X7_firstLieOf {g : Gx} {B : Nat → Nat} {lf fi : Int} {it la le : Nat → Int} {mk cn : Int} {so tu sp : Nat → Int} {ar rs : Nat → Int} {rc pa0 : Int} {r n pa : Int} (hit : Bd (-2147483648) 2147483647 it) (hla : Bd (-1) 2 la) (hle : Bd 0 40 le) (hcn : 0 ≤ cn ∧ cn ≤ 4) (hmk : 0 ≤ mk ∧ mk ≤ 60) (hso : Bd 0 5 so) (htu : Bd 0 12 tu) (hsp : Bd 0 59 sp) (har : Bd 0 719 ar) (hrs : Bd (-24) 24 rs) (hrc : 0 ≤ rc ∧ rc ≤ 4) (hpa : 1 ≤ pa0 ∧ pa0 ≤ 720) (hr : 0 ≤ r ∧ r < 8) (hn : 1 ≤ n ∧ n ≤ 10) (hp : 1 ≤ pa ∧ pa ≤ 720) (hnc : n * cn ≤ 40) (hb : (∀ k : Int, 0 ≤ k → k < n * cn → 0 ≤ itmI it le r (0 + k) ∧ itmI it le r (0 + k) < pa)) : CtI (S := (Nat → Int) × (Nat → Int) × Int × Int) g yX7_firstLieOf wsX7_firstLieOf 5 118 [.ref (B 0), .int (iI r), .int (iI n), .int (iI pa)] (oAH g B (lf) (fi) :: (wRow g (B 1) (B 11) (B 12) (B 13) it la le ++ (wClk g (B 3) (B 15) (B 16) (B 17) mk cn so tu sp ++ (wRea g (B 9) (B 29) (B 30) ar rs rc pa0)))) (fun v u => v = firC it le cn so tu r n pa ∧ (Bd 0 719 u.1 ∧ Bd (-24) 24 u.2.1 ∧ (0 ≤ u.2.2.1 ∧ u.2.2.1 ≤ 4) ∧ (1 ≤ u.2.2.2 ∧ u.2.2.2 ≤ 720))) (fun u => oAH g B (lf) (fi) :: (wRow g (B 1) (B 11) (B 12) (B 13) it la le ++ (wClk g (B 3) (B 15) (B 16) (B 17) mk cn so tu sp ++ (wRea g (B 9) (B 29) (B 30) (u.1) (u.2.1) (u.2.2.1) (u.2.2.2))))) := by
  refine m_go (cc := cX7_firstLieOf) (nL := 5) (by decide +kernel) rfl (Nat.le_of_ble_eq_true rfl) (fun x X Y hnm => ?_)
  refine v_eq (lo2 := [some (.ref (B 0)), some (.int (iI r)), some (.int (iI n)), some (.int (iI pa)), none]) rfl rfl rfl rfl ?_
  refine v_iconst X dX7_firstLieOf_0 ?_
  refine v_istore X dX7_firstLieOf_1 (by decide) rfl ?_
  dsimp only [List.set]
  have L3 : ∀ (nf : Nat) (f1 : Nat → Int) (f2 : Nat → Int) (c : Int) (p : Int) (k : Int) (h1 : 0 ≤ k ∧ k ≤ n) (h2 : firC it le cn so tu r n pa = othS (fun k => !(pB (FitW (rdA it le r (k * cn)) (rdS cn so tu) cn pa (-1)))) (n - k).toNat k) (h3 : Bd 0 719 f1) (h4 : Bd (-24) 24 f2) (h5 : 0 ≤ c ∧ c ≤ 4) (h6 : 1 ≤ p ∧ p ≤ 720) (_ : (n - k).toNat < nf), V g x 0 0 (oAH g B (lf) (fi) :: (wRow g (B 1) (B 11) (B 12) (B 13) it la le ++ (wClk g (B 3) (B 15) (B 16) (B 17) mk cn so tu sp ++ (wRea g (B 9) (B 29) (B 30) (f1) (f2) (c) (p))))) [some (.ref (B 0)), some (.int (iI r)), some (.int (iI n)), some (.int (iI pa)), some (.int (iI k))] 3 [] := by
    intro nf
    induction nf with
    | zero => intro f1 f2 c p k h1 h2 h3 h4 h5 h6 hmu; exact absurd hmu (Nat.not_lt_zero _)
    | succ nf ih3 =>
      intro f1 f2 c p k h1 h2 h3 h4 h5 h6 hmu
      refine v_iload X dX7_firstLieOf_3 rfl ?_
      refine v_iload_n X dX7_firstLieOf_5 rfl ?_
      refine v_icmp_ge (tgt := 56) X dX7_firstLieOf_6 (by decide) (by omega) (by omega) (fun c1 => ?_) (fun c1 => ?_)
      · skip
        refine v_ldc X (List.mem_of_getElem? (i := 5) rfl) dX7_firstLieOf_56 (n := -1000000) (by decide) ?_
        refine v_iret X Y dX7_firstLieOf_58 (u := (f1, f2, c, p)) ?_ (by rfl)
        refine ⟨?_, h3, h4, h5, h6⟩
        rw [h2, show (n - k).toNat = 0 by omega]
        rfl
      · skip
        have q4 := mul_step (show 0 ≤ cn by omega) h1.1 (show k < n by omega)
        have b1 : Bd 0 719 (overI cn (rdA it le r (k * cn)) f1) := Bd_over (fun j hj => by
          have q := hb (k * cn + j) (by omega) (by omega)
          rw [Int.zero_add] at q
          unfold rdA
          omega) h3
        have b2 : Bd (-24) 24 (overI cn (rdS cn so tu) f2) := Bd_over (fun j hj => spdI_bd htu) h4
        have g6 : FitW (overI cn (rdA it le r (k * cn)) f1) (overI cn (rdS cn so tu) f2) cn pa (-1) ↔ FitW (rdA it le r (k * cn)) (rdS cn so tu) cn pa (-1) := FitW_congr (fun h a1 a2 => ⟨over_at a1 a2, over_at a1 a2⟩)
        refine v_aload_n X dX7_firstLieOf_9 rfl ?_
        refine v_get X (fun _ h => List.mem_cons_of_mem _ (List.mem_append_left _ (List.mem_append_left _ (List.mem_append_left _ (List.mem_append_right _ h))))) 0 rfl rfl 8 (by decide) rfl (List.mem_of_getElem? (i := 1) rfl) rfl dX7_firstLieOf_10 ?_
        refine v_aload_n X dX7_firstLieOf_13 rfl ?_
        refine v_get X (fun _ h => List.mem_cons_of_mem _ (List.mem_append_left _ (List.mem_append_left _ (List.mem_append_left _ (List.mem_append_right _ h))))) 0 rfl rfl 2 (by decide) rfl (List.mem_of_getElem? (i := 2) rfl) rfl dX7_firstLieOf_14 ?_
        refine v_aload_n X dX7_firstLieOf_17 rfl ?_
        refine v_get X (fun _ h => List.mem_cons_of_mem _ (List.mem_append_left _ (List.mem_append_left _ (List.mem_append_left _ (List.mem_append_right _ h))))) 0 rfl rfl 0 (by decide) rfl (List.mem_of_getElem? (i := 3) rfl) rfl dX7_firstLieOf_18 ?_
        refine v_iload_n X dX7_firstLieOf_21 rfl ?_
        refine v_iload X dX7_firstLieOf_22 rfl ?_
        refine v_aload_n X dX7_firstLieOf_24 rfl ?_
        refine v_get X (fun _ h => List.mem_cons_of_mem _ (List.mem_append_left _ (List.mem_append_left _ (List.mem_append_left _ (List.mem_append_right _ h))))) 0 rfl rfl 2 (by decide) rfl (List.mem_of_getElem? (i := 2) rfl) rfl dX7_firstLieOf_25 ?_
        refine v_get X (fun _ h => List.mem_cons_of_mem _ (List.mem_append_left _ (List.mem_append_left _ (List.mem_append_right _ h)))) 5 rfl rfl 4 (by decide) rfl (List.mem_of_getElem? (i := 4) rfl) rfl dX7_firstLieOf_28 ?_
        refine v_imul X dX7_firstLieOf_31 ?_
        refine v_iload_n X dX7_firstLieOf_32 rfl ?_
        refine res_W X (run_V X (c_X4_take (g := g) (by first | assumption | omega) (by first | assumption | omega) (by first | assumption | omega) (by first | assumption | omega) (by first | assumption | omega) (by first | assumption | omega) (by first | assumption | omega) (by first | assumption | omega)) gX7_firstLieOf_X4_take rfl hdX4_take ⟨(Nat.le_of_ble_eq_true rfl), (Nat.le_of_ble_eq_true rfl)⟩ ⟨(Nat.le_of_ble_eq_true rfl), (Nat.le_of_ble_eq_true rfl)⟩ 9 rfl rfl rfl [9, 10, 11, 5, 6, 7, 8, 1, 2, 3, 4] rfl rfl rfl rfl (by simp [Value.category]) dX7_firstLieOf_33) [9, 10, 11, 5, 6, 7, 8, 1, 2, 3, 4] rfl rfl rfl ?_
        dsimp only [patch, List.set, List.cons_append, List.nil_append, oAH, wClk, wRea, wRow]
        refine v_aload_n X dX7_firstLieOf_36 rfl ?_
        refine v_get X (fun _ h => List.mem_cons_of_mem _ (List.mem_append_left _ (List.mem_append_left _ (List.mem_append_left _ (List.mem_append_right _ h))))) 0 rfl rfl 8 (by decide) rfl (List.mem_of_getElem? (i := 1) rfl) rfl dX7_firstLieOf_37 ?_
        refine v_iconst X dX7_firstLieOf_40 ?_
        refine res_E X (run_V X (c_X4_fitsWithout (g := g) (by first | assumption | omega) (by first | assumption | omega) (by first | assumption | omega) (by first | assumption | omega) (by first | assumption | omega)) gX7_firstLieOf_X4_fitsWithout rfl hdX4_fitsWithout ⟨(Nat.le_of_ble_eq_true rfl), (Nat.le_of_ble_eq_true rfl)⟩ ⟨(Nat.le_of_ble_eq_true rfl), (Nat.le_of_ble_eq_true rfl)⟩ 9 rfl rfl rfl [9, 10, 11] rfl rfl rfl rfl (by simp [Value.category]) dX7_firstLieOf_41) [9, 10, 11] rfl rfl ?_
        refine v_ifp_ne (tgt := 50) X dX7_firstLieOf_44 (by decide) (fun c2 => ?_) (fun c2 => ?_)
        · skip
          refine v_iinc X dX7_firstLieOf_50 rfl (by decide) rfl ?_
          dsimp only [List.set]
          refine v_goto (tgt := 3) X dX7_firstLieOf_53 (by decide) ?_
          exact ih3 _ _ _ _ _ (by omega) (by rw [h2, othS_s (by omega), if_neg (fun z => absurd (g6.mp (by assumption)) (notB.mp z))]) (by exact b1) (by exact b2) (by omega) (by omega) (by omega)
        · skip
          refine v_iload X dX7_firstLieOf_47 rfl ?_
          refine v_iret X Y dX7_firstLieOf_49 (u := (_, _, _, _)) ?_ (by rfl)
          refine ⟨?_, b1, b2, hcn, hp⟩
          rw [h2, othS_s (by omega), if_pos (notB.mpr (fun z => absurd (g6.mpr z) (by assumption)))]
  exact L3 _ _ _ _ _ _ (by omega) (by unfold firC; rw [Int.sub_zero]) (by assumption) (by assumption) (by omega) (by omega) (Nat.lt_succ_self _)

theorem hdX7_firstLie : yX7_firstLie.cls = RX7 ∧ yX7_firstLie.cls ≠ "java/lang/invoke/MethodHandle" ∧ yX7_firstLie.cls ≠ "java/lang/invoke/VarHandle" ∧ (parseMethodDescriptor yX7_firstLie.desc).map (fun d => d.parameters.length) = some 3 := ⟨rfl, by decide +kernel, by decide +kernel, by decide +kernel⟩
set_option maxHeartbeats 4000000 in
set_option maxRecDepth 100000 in
theorem c_X7_firstLie {g : Gx} {B : Nat → Nat} {lf fi : Int} {it la le : Nat → Int} {mk cn : Int} {so tu sp : Nat → Int} {ar rs : Nat → Int} {rc pa0 : Int} {r n pa : Int} (hit : Bd (-2147483648) 2147483647 it) (hla : Bd (-1) 2 la) (hle : Bd 0 40 le) (hcn : 0 ≤ cn ∧ cn ≤ 4) (hmk : 0 ≤ mk ∧ mk ≤ 60) (hso : Bd 0 5 so) (htu : Bd 0 12 tu) (hsp : Bd 0 59 sp) (har : Bd 0 719 ar) (hrs : Bd (-24) 24 rs) (hrc : 0 ≤ rc ∧ rc ≤ 4) (hpa : 1 ≤ pa0 ∧ pa0 ≤ 720) (hr : R32 r) (hn : R32 n) (hpa : R32 pa) : CtI (S := Int × (Nat → Int) × (Nat → Int) × Int × Int) g yX7_firstLie wsX7_firstLie 6 142 [.ref (B 0), .int (iI r), .int (iI n), .int (iI pa)] (oAH g B (lf) (fi) :: (wRow g (B 1) (B 11) (B 12) (B 13) it la le ++ (wClk g (B 3) (B 15) (B 16) (B 17) mk cn so tu sp ++ (wRea g (B 9) (B 29) (B 30) ar rs rc pa0)))) (fun v u => (cn = 0 ∧ v = -1000002 ∧ u = (fi, ar, rs, rc, pa0)) ∨ (cn ≠ 0 ∧ ((¬ ((0 ≤ r ∧ r < 8) ∧ (1 ≤ n ∧ n ≤ 10) ∧ (1 ≤ pa ∧ pa ≤ 720)) ∧ v = -1000001 ∧ u = (fi, ar, rs, rc, pa0)) ∨ (((0 ≤ r ∧ r < 8) ∧ (1 ≤ n ∧ n ≤ 10) ∧ (1 ≤ pa ∧ pa ≤ 720)) ∧ ((la r.toNat = -1 ∧ v = -1000011 ∧ u = (1, ar, rs, rc, pa0)) ∨ (la r.toNat ≠ -1 ∧ ((le r.toNat < n * cn ∧ v = -1000012 ∧ u = (2, ar, rs, rc, pa0)) ∨ (n * cn ≤ le r.toNat ∧ ((¬ (∀ k : Int, 0 ≤ k → k < n * cn → 0 ≤ itmI it le r (0 + k) ∧ itmI it le r (0 + k) < pa) ∧ v = -1000001 ∧ u = (fi, ar, rs, rc, pa0)) ∨ ((∀ k : Int, 0 ≤ k → k < n * cn → 0 ≤ itmI it le r (0 + k) ∧ itmI it le r (0 + k) < pa) ∧ v = firC it le cn so tu r n pa ∧ u.1 = 0 ∧ Bd 0 719 u.2.1 ∧ Bd (-24) 24 u.2.2.1 ∧ (0 ≤ u.2.2.2.1 ∧ u.2.2.2.1 ≤ 4) ∧ (1 ≤ u.2.2.2.2 ∧ u.2.2.2.2 ≤ 720))))))))))) (fun u => oAH g B (lf) (u.1) :: (wRow g (B 1) (B 11) (B 12) (B 13) it la le ++ (wClk g (B 3) (B 15) (B 16) (B 17) mk cn so tu sp ++ (wRea g (B 9) (B 29) (B 30) (u.2.1) (u.2.2.1) (u.2.2.2.1) (u.2.2.2.2))))) := by
  refine m_go (cc := cX7_firstLie) (nL := 5) (by decide +kernel) rfl (Nat.le_of_ble_eq_true rfl) (fun x X Y hnm => ?_)
  refine v_eq (lo2 := [some (.ref (B 0)), some (.int (iI r)), some (.int (iI n)), some (.int (iI pa)), none]) rfl rfl rfl rfl ?_
  refine v_aload_n X dX7_firstLie_0 rfl ?_
  refine v_get X (fun _ h => List.mem_cons_of_mem _ (List.mem_append_left _ (List.mem_append_left _ (List.mem_append_left _ (List.mem_append_right _ h))))) 0 rfl rfl 2 (by decide) rfl (List.mem_of_getElem? (i := 1) rfl) rfl dX7_firstLie_1 ?_
  refine res_E X (run_V X (c_X2_isNone (g := g) (by first | assumption | omega)) gX7_firstLie_X2_isNone rfl hdX2_isNone ⟨(Nat.le_of_ble_eq_true rfl), (Nat.le_of_ble_eq_true rfl)⟩ ⟨(Nat.le_of_ble_eq_true rfl), (Nat.le_of_ble_eq_true rfl)⟩ 5 rfl rfl rfl [5, 6, 7, 8] rfl rfl rfl rfl (by simp [Value.category]) dX7_firstLie_4) [5, 6, 7, 8] rfl rfl ?_
  refine v_ifb_eq (tgt := 13) X dX7_firstLie_7 (by decide) (fun c1 => ?_) (fun c1 => ?_)
  · skip
    refine v_iload_n X dX7_firstLie_13 rfl ?_
    refine res_E X (run_S X (c_X7_isRow (g := g) (by first | assumption | omega)) gX7_firstLie_X7_isRow rfl hdX7_isRow.2 ⟨(Nat.le_of_ble_eq_true rfl), (Nat.le_of_ble_eq_true rfl)⟩ ⟨(Nat.le_of_ble_eq_true rfl), (Nat.le_of_ble_eq_true rfl)⟩ [] rfl rfl rfl rfl (by simp [Value.category]) dX7_firstLie_14) [] rfl rfl ?_
    refine v_ifb_eq (tgt := 41) X dX7_firstLie_17 (by decide) (fun c2 => ?_) (fun c2 => ?_)
    · skip
      refine v_ldc X (List.mem_of_getElem? (i := 3) rfl) dX7_firstLie_41 (n := -1000001) (by decide) ?_
      refine v_iret X Y dX7_firstLie_43 (u := (fi, ar, rs, rc, pa0)) ?_ (by rfl)
      exact Or.inr ⟨by omega, Or.inl ⟨by omega, rfl, rfl⟩⟩
    · skip
      refine v_iload_n X dX7_firstLie_20 rfl ?_
      refine v_iconst X dX7_firstLie_21 ?_
      refine v_bipush X dX7_firstLie_22 (by decide) ?_
      refine res_E X (run_S X (c_X7_isWithin (g := g) (by first | assumption | omega) (by first | assumption | omega) (by first | assumption | omega)) gX7_firstLie_X7_isWithin rfl hdX7_isWithin.2 ⟨(Nat.le_of_ble_eq_true rfl), (Nat.le_of_ble_eq_true rfl)⟩ ⟨(Nat.le_of_ble_eq_true rfl), (Nat.le_of_ble_eq_true rfl)⟩ [] rfl rfl rfl rfl (by simp [Value.category]) dX7_firstLie_24) [] rfl rfl ?_
      refine v_ifb_eq (tgt := 41) X dX7_firstLie_27 (by decide) (fun c3 => ?_) (fun c3 => ?_)
      · skip
        refine v_ldc X (List.mem_of_getElem? (i := 3) rfl) dX7_firstLie_41 (n := -1000001) (by decide) ?_
        refine v_iret X Y dX7_firstLie_43 (u := (fi, ar, rs, rc, pa0)) ?_ (by rfl)
        exact Or.inr ⟨by omega, Or.inl ⟨by omega, rfl, rfl⟩⟩
      · skip
        refine v_iload_n X dX7_firstLie_30 rfl ?_
        refine v_iconst X dX7_firstLie_31 ?_
        refine v_sipush X dX7_firstLie_32 (by decide) ?_
        refine res_E X (run_S X (c_X7_isWithin (g := g) (by first | assumption | omega) (by first | assumption | omega) (by first | assumption | omega)) gX7_firstLie_X7_isWithin rfl hdX7_isWithin.2 ⟨(Nat.le_of_ble_eq_true rfl), (Nat.le_of_ble_eq_true rfl)⟩ ⟨(Nat.le_of_ble_eq_true rfl), (Nat.le_of_ble_eq_true rfl)⟩ [] rfl rfl rfl rfl (by simp [Value.category]) dX7_firstLie_35) [] rfl rfl ?_
        refine v_ifb_ne (tgt := 44) X dX7_firstLie_38 (by decide) (fun c4 => ?_) (fun c4 => ?_)
        · skip
          have q1 := hle r.toNat
          have q0 := hla r.toNat
          have q3 := mul_nn (show 0 ≤ n ∧ n ≤ 10 by omega) hcn
          refine v_aload_n X dX7_firstLie_44 rfl ?_
          refine v_get X (fun _ h => List.mem_cons_of_mem _ (List.mem_append_left _ (List.mem_append_left _ (List.mem_append_left _ (List.mem_append_right _ h))))) 0 rfl rfl 0 (by decide) rfl (List.mem_of_getElem? (i := 4) rfl) rfl dX7_firstLie_45 ?_
          refine v_iload_n X dX7_firstLie_48 rfl ?_
          refine v_iconst X dX7_firstLie_49 ?_
          refine v_iload_n X dX7_firstLie_50 rfl ?_
          refine v_aload_n X dX7_firstLie_51 rfl ?_
          refine v_get X (fun _ h => List.mem_cons_of_mem _ (List.mem_append_left _ (List.mem_append_left _ (List.mem_append_left _ (List.mem_append_right _ h))))) 0 rfl rfl 2 (by decide) rfl (List.mem_of_getElem? (i := 1) rfl) rfl dX7_firstLie_52 ?_
          refine v_get X (fun _ h => List.mem_cons_of_mem _ (List.mem_append_left _ (List.mem_append_left _ (List.mem_append_right _ h)))) 5 rfl rfl 4 (by decide) rfl (List.mem_of_getElem? (i := 5) rfl) rfl dX7_firstLie_55 ?_
          refine v_imul X dX7_firstLie_58 ?_
          refine res_E X (run_V X (c_X5_wrongAt (g := g) (by first | assumption | omega) (by first | assumption | omega) (by first | assumption | omega) (by first | assumption | omega) (by first | assumption | omega)) gX7_firstLie_X5_wrongAt rfl hdX5_wrongAt ⟨(Nat.le_of_ble_eq_true rfl), (Nat.le_of_ble_eq_true rfl)⟩ ⟨(Nat.le_of_ble_eq_true rfl), (Nat.le_of_ble_eq_true rfl)⟩ 1 rfl rfl rfl [1, 2, 3, 4] rfl rfl rfl rfl (by simp [Value.category]) dX7_firstLie_59) [1, 2, 3, 4] rfl rfl ?_
          have hno : wrgI la le r ((0 : Int)) (n * cn) = (if lanI la r = -1 then 1 else if rchI le r (0 : Int) (n * cn) = 1 then 0 else 2) := rfl
          have hr1 : rchI le r (0 : Int) (n * cn) = if 0 ≤ (0 : Int) ∧ 0 ≤ n * cn ∧ (0 : Int) ≤ le r.toNat - n * cn then 1 else 0 := rchI_n (by omega)
          have hl1 : lanI la r = la r.toNat := if_pos (by omega)
          have hn2 : (la r.toNat = -1 ∧ wrgI la le r ((0 : Int)) (n * cn) = 1) ∨ (la r.toNat ≠ -1 ∧ ((0 : Int) < 0 ∨ le r.toNat < (0 : Int) + n * cn) ∧ wrgI la le r ((0 : Int)) (n * cn) = 2) ∨ (la r.toNat ≠ -1 ∧ (0 ≤ (0 : Int) ∧ (0 : Int) + n * cn ≤ le r.toNat) ∧ wrgI la le r ((0 : Int)) (n * cn) = 0) := by rw [hno, hr1, hl1]; (repeat split) <;> omega
          refine v_istore X dX7_firstLie_62 (by decide) rfl ?_
          dsimp only [List.set]
          refine v_iload X dX7_firstLie_64 rfl ?_
          refine v_if_eq (tgt := 76) X dX7_firstLie_66 (by decide) (by first | omega | (rcases hn2 with q | q | q <;> omega)) (fun c5 => ?_) (fun c5 => ?_)
          · skip
            have g3 : la r.toNat ≠ -1 ∧ n * cn ≤ le r.toNat := by rcases hn2 with q | q | q <;> omega
            refine v_aload_n X dX7_firstLie_76 rfl ?_
            refine v_get X (fun _ h => List.mem_cons_of_mem _ (List.mem_append_left _ (List.mem_append_left _ (List.mem_append_left _ (List.mem_append_right _ h))))) 0 rfl rfl 0 (by decide) rfl (List.mem_of_getElem? (i := 4) rfl) rfl dX7_firstLie_77 ?_
            refine v_iload_n X dX7_firstLie_80 rfl ?_
            refine v_iload_n X dX7_firstLie_81 rfl ?_
            refine v_iconst X dX7_firstLie_82 ?_
            refine v_iload_n X dX7_firstLie_83 rfl ?_
            refine v_aload_n X dX7_firstLie_84 rfl ?_
            refine v_get X (fun _ h => List.mem_cons_of_mem _ (List.mem_append_left _ (List.mem_append_left _ (List.mem_append_left _ (List.mem_append_right _ h))))) 0 rfl rfl 2 (by decide) rfl (List.mem_of_getElem? (i := 1) rfl) rfl dX7_firstLie_85 ?_
            refine v_get X (fun _ h => List.mem_cons_of_mem _ (List.mem_append_left _ (List.mem_append_left _ (List.mem_append_right _ h)))) 5 rfl rfl 4 (by decide) rfl (List.mem_of_getElem? (i := 5) rfl) rfl dX7_firstLie_88 ?_
            refine v_imul X dX7_firstLie_91 ?_
            refine res_E X (run_V X (c_X5_areBelow (g := g) (by first | assumption | omega) (by first | assumption | omega) (by first | assumption | omega) (by first | assumption | omega) (by first | assumption | omega) (by first | assumption | omega)) gX7_firstLie_X5_areBelow rfl hdX5_areBelow ⟨(Nat.le_of_ble_eq_true rfl), (Nat.le_of_ble_eq_true rfl)⟩ ⟨(Nat.le_of_ble_eq_true rfl), (Nat.le_of_ble_eq_true rfl)⟩ 1 rfl rfl rfl [1, 2, 3, 4] rfl rfl rfl rfl (by simp [Value.category]) dX7_firstLie_92) [1, 2, 3, 4] rfl rfl ?_
            refine v_ifp_ne (tgt := 101) X dX7_firstLie_95 (by decide) (fun c6 => ?_) (fun c6 => ?_)
            · skip
              refine v_aload_n X dX7_firstLie_101 rfl ?_
              refine v_aload_n X dX7_firstLie_102 rfl ?_
              refine v_iload_n X dX7_firstLie_103 rfl ?_
              refine v_iload_n X dX7_firstLie_104 rfl ?_
              refine v_iload_n X dX7_firstLie_105 rfl ?_
              refine res_I X (run_V X (c_X7_firstLieOf (g := g) (by first | assumption | omega) (by first | assumption | omega) (by first | assumption | omega) (by first | assumption | omega) (by first | assumption | omega) (by first | assumption | omega) (by first | assumption | omega) (by first | assumption | omega) (by first | assumption | omega) (by first | assumption | omega) (by first | assumption | omega) (by first | assumption | omega) (by first | assumption | omega) (by first | assumption | omega) (by first | assumption | omega) (by first | assumption | omega) (by first | assumption | omega)) gX7_firstLie_X7_firstLieOf rfl hdX7_firstLieOf ⟨(Nat.le_of_ble_eq_true rfl), (Nat.le_of_ble_eq_true rfl)⟩ ⟨(Nat.le_of_ble_eq_true rfl), (Nat.le_of_ble_eq_true rfl)⟩ 0 rfl rfl rfl [0, 1, 2, 3, 4, 5, 6, 7, 8, 9, 10, 11] rfl rfl rfl rfl (by simp [Value.category]) dX7_firstLie_106) [0, 1, 2, 3, 4, 5, 6, 7, 8, 9, 10, 11] rfl rfl (fun _ => rfl) (fun r1 u1 hr1 => ?_)
              obtain ⟨f1, f2, c, p⟩ := u1
              dsimp only [patch, List.set, List.cons_append, List.nil_append, oAH, wClk, wRea, wRow]
              refine res_F X (run_V X (c_X7_fine (g := g) ) gX7_firstLie_X7_fine rfl hdX7_fine ⟨(Nat.le_of_ble_eq_true rfl), (Nat.le_of_ble_eq_true rfl)⟩ ⟨(Nat.le_of_ble_eq_true rfl), (Nat.le_of_ble_eq_true rfl)⟩ 0 rfl rfl rfl [0] rfl rfl rfl rfl (by simp [Value.category]) dX7_firstLie_109) [0] rfl rfl rfl ?_
              dsimp only [patch, List.set, List.cons_append, List.nil_append, oAH, wClk, wRea, wRow]
              refine v_iret X Y dX7_firstLie_112 (u := (0, f1, f2, c, p)) ?_ (by rfl)
              exact Or.inr ⟨by omega, Or.inr ⟨by omega, Or.inr ⟨g3.1, Or.inr ⟨g3.2, Or.inr ⟨by assumption, hr1.1, rfl, hr1.2⟩⟩⟩⟩⟩
            · skip
              refine v_ldc X (List.mem_of_getElem? (i := 3) rfl) dX7_firstLie_98 (n := -1000001) (by decide) ?_
              refine v_iret X Y dX7_firstLie_100 (u := (fi, ar, rs, rc, pa0)) ?_ (by rfl)
              exact Or.inr ⟨by omega, Or.inr ⟨by omega, Or.inr ⟨g3.1, Or.inr ⟨g3.2, Or.inl ⟨by assumption, rfl, rfl⟩⟩⟩⟩⟩
          · skip
            refine v_aload_n X dX7_firstLie_69 rfl ?_
            refine v_iload X dX7_firstLie_70 rfl ?_
            refine res_F X (run_V X (c_X7_found (g := g) ) gX7_firstLie_X7_found rfl hdX7_found ⟨(Nat.le_of_ble_eq_true rfl), (Nat.le_of_ble_eq_true rfl)⟩ ⟨(Nat.le_of_ble_eq_true rfl), (Nat.le_of_ble_eq_true rfl)⟩ 0 rfl rfl rfl [0] rfl rfl rfl rfl (by simp [Value.category]) dX7_firstLie_72) [0] rfl rfl rfl ?_
            dsimp only [patch, List.set, List.cons_append, List.nil_append, oAH, wClk, wRea, wRow]
            refine v_iret X Y dX7_firstLie_75 (u := (wrgI la le r 0 (n * cn), ar, rs, rc, pa0)) ?_ (by rfl)
            refine Or.inr ⟨by omega, Or.inr ⟨by omega, ?_⟩⟩
            rcases hn2 with q | q | q
            · exact Or.inl ⟨q.1, by omega, by rw [q.2]⟩
            · exact Or.inr ⟨q.1, Or.inl ⟨by omega, by omega, by rw [q.2.2]⟩⟩
            · exfalso; omega
        · skip
          refine v_ldc X (List.mem_of_getElem? (i := 3) rfl) dX7_firstLie_41 (n := -1000001) (by decide) ?_
          refine v_iret X Y dX7_firstLie_43 (u := (fi, ar, rs, rc, pa0)) ?_ (by rfl)
          exact Or.inr ⟨by omega, Or.inl ⟨by omega, rfl, rfl⟩⟩
  · skip
    refine v_ldc X (List.mem_of_getElem? (i := 2) rfl) dX7_firstLie_10 (n := -1000002) (by decide) ?_
    refine v_iret X Y dX7_firstLie_12 (u := (fi, ar, rs, rc, pa0)) ?_ (by rfl)
    exact Or.inl ⟨by omega, rfl, rfl⟩

theorem hdX7_imageOf : yX7_imageOf.cls = RX7 ∧ yX7_imageOf.cls ≠ "java/lang/invoke/MethodHandle" ∧ yX7_imageOf.cls ≠ "java/lang/invoke/VarHandle" ∧ (parseMethodDescriptor yX7_imageOf.desc).map (fun d => d.parameters.length) = some 1 := ⟨rfl, by decide +kernel, by decide +kernel, by decide +kernel⟩
set_option maxHeartbeats 4000000 in
set_option maxRecDepth 100000 in
theorem c_X7_imageOf {g : Gx} {B : Nat → Nat} {lf fi : Int}  {k : Int} (hk : R32 k) : CtR (S := Unit) g yX7_imageOf wsX7_imageOf 0 0 [.ref (B 0), .int (iI k)] ([oAH g B (lf) (fi)]) (fun r _ => r = if k = 0 then B 5 else B 6) (fun _ => [oAH g B (lf) (fi)]) := by
  refine m_go (cc := cX7_imageOf) (nL := 2) (by decide +kernel) rfl (Nat.le_of_ble_eq_true rfl) (fun x X Y hnm => ?_)
  refine v_eq (lo2 := [some (.ref (B 0)), some (.int (iI k))]) rfl rfl rfl rfl ?_
  refine v_iload_n X dX7_imageOf_0 rfl ?_
  refine v_if_ne (tgt := 11) X dX7_imageOf_1 (by decide) (by omega) (fun c1 => ?_) (fun c1 => ?_)
  · skip
    refine v_aload_n X dX7_imageOf_11 rfl ?_
    refine v_get X (fun _ h => List.mem_cons_of_mem _ (List.mem_append_right _ h)) 0 rfl rfl 5 (by decide) rfl (List.mem_of_getElem? (i := 2) rfl) rfl dX7_imageOf_12 ?_
    exact v_aret X Y dX7_imageOf_15 (u := ()) (by first | exact (if_pos (by assumption)).symm | exact (if_neg (by assumption)).symm) rfl
  · skip
    refine v_aload_n X dX7_imageOf_4 rfl ?_
    refine v_get X (fun _ h => List.mem_cons_of_mem _ (List.mem_append_right _ h)) 0 rfl rfl 4 (by decide) rfl (List.mem_of_getElem? (i := 1) rfl) rfl dX7_imageOf_5 ?_
    refine v_goto (tgt := 15) X dX7_imageOf_8 (by decide) ?_
    exact v_aret X Y dX7_imageOf_15 (u := ()) (by first | exact (if_pos (by assumption)).symm | exact (if_neg (by assumption)).symm) rfl

theorem hdX7_image : yX7_image.cls = RX7 ∧ yX7_image.cls ≠ "java/lang/invoke/MethodHandle" ∧ yX7_image.cls ≠ "java/lang/invoke/VarHandle" ∧ (parseMethodDescriptor yX7_image.desc).map (fun d => d.parameters.length) = some 1 := ⟨rfl, by decide +kernel, by decide +kernel, by decide +kernel⟩
set_option maxHeartbeats 4000000 in
set_option maxRecDepth 100000 in
theorem c_X7_image {g : Gx} {B : Nat → Nat} {lf fi : Int} {mk cn : Int} {so tu sp : Nat → Int} {mk1 cn1 : Int} {so1 tu1 sp1 : Nat → Int} {mk2 cn2 : Int} {so2 tu2 sp2 : Nat → Int} {k : Int} (hcn : 0 ≤ cn ∧ cn ≤ 4) (hmk : 0 ≤ mk ∧ mk ≤ 60) (hso : Bd 0 5 so) (htu : Bd 0 12 tu) (hsp : Bd 0 59 sp) (hk : R32 k) : CtI (S := (Int × Int × (Nat → Int) × (Nat → Int) × (Nat → Int)) × (Int × Int × (Nat → Int) × (Nat → Int) × (Nat → Int))) g yX7_image wsX7_image 1 22 [.ref (B 0), .int (iI k)] (oAH g B (lf) (fi) :: (wClk g (B 3) (B 15) (B 16) (B 17) mk cn so tu sp ++ (wClk g (B 5) (B 21) (B 22) (B 23) mk1 cn1 so1 tu1 sp1 ++ (wClk g (B 6) (B 24) (B 25) (B 26) mk2 cn2 so2 tu2 sp2)))) (fun v u => (¬ (0 ≤ k ∧ k ≤ 1) ∧ v = -1000001 ∧ u = ((mk1, cn1, so1, tu1, sp1), (mk2, cn2, so2, tu2, sp2))) ∨ ((0 ≤ k ∧ k ≤ 1) ∧ ((cn = 0 ∧ v = -1000002 ∧ u = ((mk1, cn1, so1, tu1, sp1), (mk2, cn2, so2, tu2, sp2))) ∨ (cn ≠ 0 ∧ v = 1 ∧ ((k = 0 ∧ u = ((mk, cn, mixI so so1, mixI tu tu1, mixI sp sp1), (mk2, cn2, so2, tu2, sp2))) ∨ (k = 1 ∧ u = ((mk1, cn1, so1, tu1, sp1), (mk, cn, mixI so so2, mixI tu tu2, mixI sp sp2)))))))) (fun u => oAH g B (lf) (fi) :: (wClk g (B 3) (B 15) (B 16) (B 17) mk cn so tu sp ++ (wClk g (B 5) (B 21) (B 22) (B 23) (u.1.1) (u.1.2.1) (u.1.2.2.1) (u.1.2.2.2.1) (u.1.2.2.2.2) ++ (wClk g (B 6) (B 24) (B 25) (B 26) (u.2.1) (u.2.2.1) (u.2.2.2.1) (u.2.2.2.2.1) (u.2.2.2.2.2))))) := by
  refine m_go (cc := cX7_image) (nL := 2) (by decide +kernel) rfl (Nat.le_of_ble_eq_true rfl) (fun x X Y hnm => ?_)
  refine v_eq (lo2 := [some (.ref (B 0)), some (.int (iI k))]) rfl rfl rfl rfl ?_
  refine v_iload_n X dX7_image_0 rfl ?_
  refine v_iconst X dX7_image_1 ?_
  refine v_iconst X dX7_image_2 ?_
  refine res_E X (run_S X (c_X7_isWithin (g := g) (by first | assumption | omega) (by first | assumption | omega) (by first | assumption | omega)) gX7_image_X7_isWithin rfl hdX7_isWithin.2 ⟨(Nat.le_of_ble_eq_true rfl), (Nat.le_of_ble_eq_true rfl)⟩ ⟨(Nat.le_of_ble_eq_true rfl), (Nat.le_of_ble_eq_true rfl)⟩ [] rfl rfl rfl rfl (by simp [Value.category]) dX7_image_3) [] rfl rfl ?_
  refine v_ifb_ne (tgt := 12) X dX7_image_6 (by decide) (fun c1 => ?_) (fun c1 => ?_)
  · skip
    refine v_aload_n X dX7_image_12 rfl ?_
    refine v_get X (fun _ h => List.mem_cons_of_mem _ (List.mem_append_left _ (List.mem_append_right _ h))) 0 rfl rfl 2 (by decide) rfl (List.mem_of_getElem? (i := 2) rfl) rfl dX7_image_13 ?_
    refine res_E X (run_V X (c_X2_isNone (g := g) (by first | assumption | omega)) gX7_image_X2_isNone rfl hdX2_isNone ⟨(Nat.le_of_ble_eq_true rfl), (Nat.le_of_ble_eq_true rfl)⟩ ⟨(Nat.le_of_ble_eq_true rfl), (Nat.le_of_ble_eq_true rfl)⟩ 1 rfl rfl rfl [1, 2, 3, 4] rfl rfl rfl rfl (by simp [Value.category]) dX7_image_16) [1, 2, 3, 4] rfl rfl ?_
    refine v_ifb_eq (tgt := 25) X dX7_image_19 (by decide) (fun c2 => ?_) (fun c2 => ?_)
    · skip
      refine v_aload_n X dX7_image_25 rfl ?_
      refine v_iload_n X dX7_image_26 rfl ?_
      refine res_R X (run_V X (c_X7_imageOf (g := g) (by first | assumption | omega)) gX7_image_X7_imageOf rfl hdX7_imageOf ⟨(Nat.le_of_ble_eq_true rfl), (Nat.le_of_ble_eq_true rfl)⟩ ⟨(Nat.le_of_ble_eq_true rfl), (Nat.le_of_ble_eq_true rfl)⟩ 0 rfl rfl rfl [0] rfl rfl rfl rfl (by simp [Value.category]) dX7_image_27) [0] rfl rfl (fun _ => rfl) (fun r3 _ hr3 => ?_)
      dsimp only [patch, List.set, List.cons_append, List.nil_append, oAH, wClk]
      rcases ref_or hr3 with ⟨hk, rfl⟩ | ⟨hk, rfl⟩
      · skip
        refine v_aload_n X dX7_image_30 rfl ?_
        refine v_get X (fun _ h => List.mem_cons_of_mem _ (List.mem_append_left _ (List.mem_append_right _ h))) 0 rfl rfl 2 (by decide) rfl (List.mem_of_getElem? (i := 2) rfl) rfl dX7_image_31 ?_
        refine res_W X (run_V X (c_X2_become (g := g) (by first | assumption | omega) (by first | assumption | omega) (by first | assumption | omega)) gX7_image_X2_become rfl hdX2_become ⟨(Nat.le_of_ble_eq_true rfl), (Nat.le_of_ble_eq_true rfl)⟩ ⟨(Nat.le_of_ble_eq_true rfl), (Nat.le_of_ble_eq_true rfl)⟩ 5 rfl rfl rfl [5, 6, 7, 8, 1, 2, 3, 4] rfl rfl rfl rfl (by simp [Value.category]) dX7_image_34) [5, 6, 7, 8, 1, 2, 3, 4] rfl rfl rfl ?_
        dsimp only [patch, List.set, List.cons_append, List.nil_append, oAH, wClk]
        refine v_iconst X dX7_image_37 ?_
        refine v_iret X Y dX7_image_38 (u := if k = 0 then ((mk, cn, mixI so so1, mixI tu tu1, mixI sp sp1), (mk2, cn2, so2, tu2, sp2)) else ((mk1, cn1, so1, tu1, sp1), (mk, cn, mixI so so2, mixI tu tu2, mixI sp sp2))) ?_ (by first | (rw [if_pos hk]; rfl) | (rw [if_neg hk]; rfl))
        first
        | exact Or.inr ⟨by omega, Or.inr ⟨by omega, rfl, Or.inl ⟨hk, if_pos hk⟩⟩⟩
        | exact Or.inr ⟨by omega, Or.inr ⟨by omega, rfl, Or.inr ⟨by omega, if_neg hk⟩⟩⟩
      · skip
        refine v_aload_n X dX7_image_30 rfl ?_
        refine v_get X (fun _ h => List.mem_cons_of_mem _ (List.mem_append_left _ (List.mem_append_right _ h))) 0 rfl rfl 2 (by decide) rfl (List.mem_of_getElem? (i := 2) rfl) rfl dX7_image_31 ?_
        refine res_W X (run_V X (c_X2_become (g := g) (by first | assumption | omega) (by first | assumption | omega) (by first | assumption | omega)) gX7_image_X2_become rfl hdX2_become ⟨(Nat.le_of_ble_eq_true rfl), (Nat.le_of_ble_eq_true rfl)⟩ ⟨(Nat.le_of_ble_eq_true rfl), (Nat.le_of_ble_eq_true rfl)⟩ 9 rfl rfl rfl [9, 10, 11, 12, 1, 2, 3, 4] rfl rfl rfl rfl (by simp [Value.category]) dX7_image_34) [9, 10, 11, 12, 1, 2, 3, 4] rfl rfl rfl ?_
        dsimp only [patch, List.set, List.cons_append, List.nil_append, oAH, wClk]
        refine v_iconst X dX7_image_37 ?_
        refine v_iret X Y dX7_image_38 (u := if k = 0 then ((mk, cn, mixI so so1, mixI tu tu1, mixI sp sp1), (mk2, cn2, so2, tu2, sp2)) else ((mk1, cn1, so1, tu1, sp1), (mk, cn, mixI so so2, mixI tu tu2, mixI sp sp2))) ?_ (by first | (rw [if_pos hk]; rfl) | (rw [if_neg hk]; rfl))
        first
        | exact Or.inr ⟨by omega, Or.inr ⟨by omega, rfl, Or.inl ⟨hk, if_pos hk⟩⟩⟩
        | exact Or.inr ⟨by omega, Or.inr ⟨by omega, rfl, Or.inr ⟨by omega, if_neg hk⟩⟩⟩
    · skip
      refine v_ldc X (List.mem_of_getElem? (i := 3) rfl) dX7_image_22 (n := -1000002) (by decide) ?_
      refine v_iret X Y dX7_image_24 (u := ((mk1, cn1, so1, tu1, sp1), (mk2, cn2, so2, tu2, sp2))) ?_ (by rfl)
      exact Or.inr ⟨by omega, Or.inl ⟨by omega, rfl, rfl⟩⟩
  · skip
    refine v_ldc X (List.mem_of_getElem? (i := 1) rfl) dX7_image_9 (n := -1000001) (by decide) ?_
    refine v_iret X Y dX7_image_11 (u := ((mk1, cn1, so1, tu1, sp1), (mk2, cn2, so2, tu2, sp2))) ?_ (by rfl)
    exact Or.inl ⟨by omega, rfl, rfl⟩

theorem hdX7_restore : yX7_restore.cls = RX7 ∧ yX7_restore.cls ≠ "java/lang/invoke/MethodHandle" ∧ yX7_restore.cls ≠ "java/lang/invoke/VarHandle" ∧ (parseMethodDescriptor yX7_restore.desc).map (fun d => d.parameters.length) = some 1 := ⟨rfl, by decide +kernel, by decide +kernel, by decide +kernel⟩
set_option maxHeartbeats 4000000 in
set_option maxRecDepth 100000 in
theorem c_X7_restore {g : Gx} {B : Nat → Nat} {lf fi : Int} {mk cn : Int} {so tu sp : Nat → Int} {mk1 cn1 : Int} {so1 tu1 sp1 : Nat → Int} {mk2 cn2 : Int} {so2 tu2 sp2 : Nat → Int} {hs ss : Nat → Int} {ln : Int} {k : Int} (hcn1 : 0 ≤ cn1 ∧ cn1 ≤ 4) (hso1 : Bd 0 5 so1) (htu1 : Bd 0 12 tu1) (hsp1 : Bd 0 59 sp1) (hcn2 : 0 ≤ cn2 ∧ cn2 ≤ 4) (hso2 : Bd 0 5 so2) (htu2 : Bd 0 12 tu2) (hsp2 : Bd 0 59 sp2) (hk : R32 k) : CtI (S := Int × Int × (Nat → Int) × (Nat → Int) × (Nat → Int) × Int) g yX7_restore wsX7_restore 1 22 [.ref (B 0), .int (iI k)] (oAH g B (lf) (fi) :: (wClk g (B 3) (B 15) (B 16) (B 17) mk cn so tu sp ++ (wClk g (B 5) (B 21) (B 22) (B 23) mk1 cn1 so1 tu1 sp1 ++ (wClk g (B 6) (B 24) (B 25) (B 26) mk2 cn2 so2 tu2 sp2 ++ (wAct g (B 7) (B 27) (B 28) hs ss ln))))) (fun v u => (¬ (0 ≤ k ∧ k ≤ 1) ∧ v = -1000001 ∧ u = (mk, cn, so, tu, sp, ln)) ∨ (k = 0 ∧ ((cn1 = 0 ∧ v = -1000002 ∧ u = (mk, cn, so, tu, sp, ln)) ∨ (cn1 ≠ 0 ∧ v = 1 ∧ u = (mk1, cn1, mixI so1 so, mixI tu1 tu, mixI sp1 sp, 0)))) ∨ (k = 1 ∧ ((cn2 = 0 ∧ v = -1000002 ∧ u = (mk, cn, so, tu, sp, ln)) ∨ (cn2 ≠ 0 ∧ v = 1 ∧ u = (mk2, cn2, mixI so2 so, mixI tu2 tu, mixI sp2 sp, 0))))) (fun u => oAH g B (lf) (fi) :: (wClk g (B 3) (B 15) (B 16) (B 17) (u.1) (u.2.1) (u.2.2.1) (u.2.2.2.1) (u.2.2.2.2.1) ++ (wClk g (B 5) (B 21) (B 22) (B 23) mk1 cn1 so1 tu1 sp1 ++ (wClk g (B 6) (B 24) (B 25) (B 26) mk2 cn2 so2 tu2 sp2 ++ (wAct g (B 7) (B 27) (B 28) hs ss (u.2.2.2.2.2)))))) := by
  refine m_go (cc := cX7_restore) (nL := 2) (by decide +kernel) rfl (Nat.le_of_ble_eq_true rfl) (fun x X Y hnm => ?_)
  refine v_eq (lo2 := [some (.ref (B 0)), some (.int (iI k))]) rfl rfl rfl rfl ?_
  refine v_iload_n X dX7_restore_0 rfl ?_
  refine v_iconst X dX7_restore_1 ?_
  refine v_iconst X dX7_restore_2 ?_
  refine res_E X (run_S X (c_X7_isWithin (g := g) (by first | assumption | omega) (by first | assumption | omega) (by first | assumption | omega)) gX7_restore_X7_isWithin rfl hdX7_isWithin.2 ⟨(Nat.le_of_ble_eq_true rfl), (Nat.le_of_ble_eq_true rfl)⟩ ⟨(Nat.le_of_ble_eq_true rfl), (Nat.le_of_ble_eq_true rfl)⟩ [] rfl rfl rfl rfl (by simp [Value.category]) dX7_restore_3) [] rfl rfl ?_
  refine v_ifb_ne (tgt := 12) X dX7_restore_6 (by decide) (fun c1 => ?_) (fun c1 => ?_)
  · skip
    refine v_aload_n X dX7_restore_12 rfl ?_
    refine v_iload_n X dX7_restore_13 rfl ?_
    refine res_R X (run_V X (c_X7_imageOf (g := g) (by first | assumption | omega)) gX7_restore_X7_imageOf rfl hdX7_imageOf ⟨(Nat.le_of_ble_eq_true rfl), (Nat.le_of_ble_eq_true rfl)⟩ ⟨(Nat.le_of_ble_eq_true rfl), (Nat.le_of_ble_eq_true rfl)⟩ 0 rfl rfl rfl [0] rfl rfl rfl rfl (by simp [Value.category]) dX7_restore_14) [0] rfl rfl (fun _ => rfl) (fun r2 _ hr2 => ?_)
    dsimp only [patch, List.set, List.cons_append, List.nil_append, oAH, wAct, wClk]
    rcases ref_or hr2 with ⟨hk, rfl⟩ | ⟨hk, rfl⟩
    · skip
      refine res_E X (run_V X (c_X2_isNone (g := g) (by first | assumption | omega)) gX7_restore_X2_isNone rfl hdX2_isNone ⟨(Nat.le_of_ble_eq_true rfl), (Nat.le_of_ble_eq_true rfl)⟩ ⟨(Nat.le_of_ble_eq_true rfl), (Nat.le_of_ble_eq_true rfl)⟩ 5 rfl rfl rfl [5, 6, 7, 8] rfl rfl rfl rfl (by simp [Value.category]) dX7_restore_17) [5, 6, 7, 8] rfl rfl ?_
      refine v_ifb_eq (tgt := 26) X dX7_restore_20 (by decide) (fun c3 => ?_) (fun c3 => ?_)
      · skip
        refine v_aload_n X dX7_restore_26 rfl ?_
        refine v_get X (fun _ h => List.mem_cons_of_mem _ (List.mem_append_left _ (List.mem_append_left _ (List.mem_append_right _ h)))) 0 rfl rfl 2 (by decide) rfl (List.mem_of_getElem? (i := 3) rfl) rfl dX7_restore_27 ?_
        refine v_aload_n X dX7_restore_30 rfl ?_
        refine v_iload_n X dX7_restore_31 rfl ?_
        refine res_R X (run_V X (c_X7_imageOf (g := g) (by first | assumption | omega)) gX7_restore_X7_imageOf rfl hdX7_imageOf ⟨(Nat.le_of_ble_eq_true rfl), (Nat.le_of_ble_eq_true rfl)⟩ ⟨(Nat.le_of_ble_eq_true rfl), (Nat.le_of_ble_eq_true rfl)⟩ 0 rfl rfl rfl [0] rfl rfl rfl rfl (by simp [Value.category]) dX7_restore_32) [0] rfl rfl (fun _ => rfl) (fun r4 _ hr4 => ?_)
        dsimp only [patch, List.set, List.cons_append, List.nil_append, oAH, wAct, wClk]
        rcases ref_or hr4 with ⟨hk2, rfl⟩ | ⟨hk2, rfl⟩
        · skip
          refine res_W X (run_V X (c_X2_become (g := g) (by first | assumption | omega) (by first | assumption | omega) (by first | assumption | omega)) gX7_restore_X2_become rfl hdX2_become ⟨(Nat.le_of_ble_eq_true rfl), (Nat.le_of_ble_eq_true rfl)⟩ ⟨(Nat.le_of_ble_eq_true rfl), (Nat.le_of_ble_eq_true rfl)⟩ 1 rfl rfl rfl [1, 2, 3, 4, 5, 6, 7, 8] rfl rfl rfl rfl (by simp [Value.category]) dX7_restore_35) [1, 2, 3, 4, 5, 6, 7, 8] rfl rfl rfl ?_
          dsimp only [patch, List.set, List.cons_append, List.nil_append, oAH, wAct, wClk]
          refine v_aload_n X dX7_restore_38 rfl ?_
          refine v_get X (fun _ h => List.mem_cons_of_mem _ (List.mem_append_left _ (List.mem_append_left _ (List.mem_append_right _ h)))) 0 rfl rfl 6 (by decide) rfl (List.mem_of_getElem? (i := 4) rfl) rfl dX7_restore_39 ?_
          refine v_iconst X dX7_restore_42 ?_
          refine v_put X (fun _ h => List.mem_cons_of_mem _ (List.mem_append_left _ (List.mem_append_right _ h))) tyX0 tyX0_ok nmX0 13 rfl rfl 2 (by decide) rfl (List.mem_of_getElem? (i := 5) rfl) rfl rfl rfl (Nat.le_of_ble_eq_true rfl) dX7_restore_43 ?_
          dsimp only [List.set, oAH, wAct, wClk, List.cons_append, List.nil_append]
          refine v_iconst X dX7_restore_46 ?_
          refine v_iret X Y dX7_restore_47 (u := (_, _, _, _, _, _)) ?_ (by rfl)
          first
          | exact Or.inl ⟨by omega, rfl, rfl⟩
          | exact Or.inr (Or.inl ⟨by omega, Or.inl ⟨by omega, rfl, rfl⟩⟩)
          | exact Or.inr (Or.inr ⟨by omega, Or.inl ⟨by omega, rfl, rfl⟩⟩)
          | exact Or.inr (Or.inl ⟨by omega, Or.inr ⟨by omega, rfl, rfl⟩⟩)
          | exact Or.inr (Or.inr ⟨by omega, Or.inr ⟨by omega, rfl, rfl⟩⟩)
          | (exfalso; omega)
        · skip
          refine res_W X (run_V X (c_X2_become (g := g) (by first | assumption | omega) (by first | assumption | omega) (by first | assumption | omega)) gX7_restore_X2_become rfl hdX2_become ⟨(Nat.le_of_ble_eq_true rfl), (Nat.le_of_ble_eq_true rfl)⟩ ⟨(Nat.le_of_ble_eq_true rfl), (Nat.le_of_ble_eq_true rfl)⟩ 1 rfl rfl rfl [1, 2, 3, 4, 9, 10, 11, 12] rfl rfl rfl rfl (by simp [Value.category]) dX7_restore_35) [1, 2, 3, 4, 9, 10, 11, 12] rfl rfl rfl ?_
          dsimp only [patch, List.set, List.cons_append, List.nil_append, oAH, wAct, wClk]
          refine v_aload_n X dX7_restore_38 rfl ?_
          refine v_get X (fun _ h => List.mem_cons_of_mem _ (List.mem_append_left _ (List.mem_append_left _ (List.mem_append_right _ h)))) 0 rfl rfl 6 (by decide) rfl (List.mem_of_getElem? (i := 4) rfl) rfl dX7_restore_39 ?_
          refine v_iconst X dX7_restore_42 ?_
          refine v_put X (fun _ h => List.mem_cons_of_mem _ (List.mem_append_left _ (List.mem_append_right _ h))) tyX0 tyX0_ok nmX0 13 rfl rfl 2 (by decide) rfl (List.mem_of_getElem? (i := 5) rfl) rfl rfl rfl (Nat.le_of_ble_eq_true rfl) dX7_restore_43 ?_
          dsimp only [List.set, oAH, wAct, wClk, List.cons_append, List.nil_append]
          refine v_iconst X dX7_restore_46 ?_
          refine v_iret X Y dX7_restore_47 (u := (_, _, _, _, _, _)) ?_ (by rfl)
          first
          | exact Or.inl ⟨by omega, rfl, rfl⟩
          | exact Or.inr (Or.inl ⟨by omega, Or.inl ⟨by omega, rfl, rfl⟩⟩)
          | exact Or.inr (Or.inr ⟨by omega, Or.inl ⟨by omega, rfl, rfl⟩⟩)
          | exact Or.inr (Or.inl ⟨by omega, Or.inr ⟨by omega, rfl, rfl⟩⟩)
          | exact Or.inr (Or.inr ⟨by omega, Or.inr ⟨by omega, rfl, rfl⟩⟩)
          | (exfalso; omega)
      · skip
        refine v_ldc X (List.mem_of_getElem? (i := 2) rfl) dX7_restore_23 (n := -1000002) (by decide) ?_
        refine v_iret X Y dX7_restore_25 (u := (mk, cn, so, tu, sp, ln)) ?_ (by rfl)
        first
        | exact Or.inl ⟨by omega, rfl, rfl⟩
        | exact Or.inr (Or.inl ⟨by omega, Or.inl ⟨by omega, rfl, rfl⟩⟩)
        | exact Or.inr (Or.inr ⟨by omega, Or.inl ⟨by omega, rfl, rfl⟩⟩)
        | exact Or.inr (Or.inl ⟨by omega, Or.inr ⟨by omega, rfl, rfl⟩⟩)
        | exact Or.inr (Or.inr ⟨by omega, Or.inr ⟨by omega, rfl, rfl⟩⟩)
        | (exfalso; omega)
    · skip
      refine res_E X (run_V X (c_X2_isNone (g := g) (by first | assumption | omega)) gX7_restore_X2_isNone rfl hdX2_isNone ⟨(Nat.le_of_ble_eq_true rfl), (Nat.le_of_ble_eq_true rfl)⟩ ⟨(Nat.le_of_ble_eq_true rfl), (Nat.le_of_ble_eq_true rfl)⟩ 9 rfl rfl rfl [9, 10, 11, 12] rfl rfl rfl rfl (by simp [Value.category]) dX7_restore_17) [9, 10, 11, 12] rfl rfl ?_
      refine v_ifb_eq (tgt := 26) X dX7_restore_20 (by decide) (fun c5 => ?_) (fun c5 => ?_)
      · skip
        refine v_aload_n X dX7_restore_26 rfl ?_
        refine v_get X (fun _ h => List.mem_cons_of_mem _ (List.mem_append_left _ (List.mem_append_left _ (List.mem_append_right _ h)))) 0 rfl rfl 2 (by decide) rfl (List.mem_of_getElem? (i := 3) rfl) rfl dX7_restore_27 ?_
        refine v_aload_n X dX7_restore_30 rfl ?_
        refine v_iload_n X dX7_restore_31 rfl ?_
        refine res_R X (run_V X (c_X7_imageOf (g := g) (by first | assumption | omega)) gX7_restore_X7_imageOf rfl hdX7_imageOf ⟨(Nat.le_of_ble_eq_true rfl), (Nat.le_of_ble_eq_true rfl)⟩ ⟨(Nat.le_of_ble_eq_true rfl), (Nat.le_of_ble_eq_true rfl)⟩ 0 rfl rfl rfl [0] rfl rfl rfl rfl (by simp [Value.category]) dX7_restore_32) [0] rfl rfl (fun _ => rfl) (fun r6 _ hr6 => ?_)
        dsimp only [patch, List.set, List.cons_append, List.nil_append, oAH, wAct, wClk]
        rcases ref_or hr6 with ⟨hk2, rfl⟩ | ⟨hk2, rfl⟩
        · skip
          refine res_W X (run_V X (c_X2_become (g := g) (by first | assumption | omega) (by first | assumption | omega) (by first | assumption | omega)) gX7_restore_X2_become rfl hdX2_become ⟨(Nat.le_of_ble_eq_true rfl), (Nat.le_of_ble_eq_true rfl)⟩ ⟨(Nat.le_of_ble_eq_true rfl), (Nat.le_of_ble_eq_true rfl)⟩ 1 rfl rfl rfl [1, 2, 3, 4, 5, 6, 7, 8] rfl rfl rfl rfl (by simp [Value.category]) dX7_restore_35) [1, 2, 3, 4, 5, 6, 7, 8] rfl rfl rfl ?_
          dsimp only [patch, List.set, List.cons_append, List.nil_append, oAH, wAct, wClk]
          refine v_aload_n X dX7_restore_38 rfl ?_
          refine v_get X (fun _ h => List.mem_cons_of_mem _ (List.mem_append_left _ (List.mem_append_left _ (List.mem_append_right _ h)))) 0 rfl rfl 6 (by decide) rfl (List.mem_of_getElem? (i := 4) rfl) rfl dX7_restore_39 ?_
          refine v_iconst X dX7_restore_42 ?_
          refine v_put X (fun _ h => List.mem_cons_of_mem _ (List.mem_append_left _ (List.mem_append_right _ h))) tyX0 tyX0_ok nmX0 13 rfl rfl 2 (by decide) rfl (List.mem_of_getElem? (i := 5) rfl) rfl rfl rfl (Nat.le_of_ble_eq_true rfl) dX7_restore_43 ?_
          dsimp only [List.set, oAH, wAct, wClk, List.cons_append, List.nil_append]
          refine v_iconst X dX7_restore_46 ?_
          refine v_iret X Y dX7_restore_47 (u := (_, _, _, _, _, _)) ?_ (by rfl)
          first
          | exact Or.inl ⟨by omega, rfl, rfl⟩
          | exact Or.inr (Or.inl ⟨by omega, Or.inl ⟨by omega, rfl, rfl⟩⟩)
          | exact Or.inr (Or.inr ⟨by omega, Or.inl ⟨by omega, rfl, rfl⟩⟩)
          | exact Or.inr (Or.inl ⟨by omega, Or.inr ⟨by omega, rfl, rfl⟩⟩)
          | exact Or.inr (Or.inr ⟨by omega, Or.inr ⟨by omega, rfl, rfl⟩⟩)
          | (exfalso; omega)
        · skip
          refine res_W X (run_V X (c_X2_become (g := g) (by first | assumption | omega) (by first | assumption | omega) (by first | assumption | omega)) gX7_restore_X2_become rfl hdX2_become ⟨(Nat.le_of_ble_eq_true rfl), (Nat.le_of_ble_eq_true rfl)⟩ ⟨(Nat.le_of_ble_eq_true rfl), (Nat.le_of_ble_eq_true rfl)⟩ 1 rfl rfl rfl [1, 2, 3, 4, 9, 10, 11, 12] rfl rfl rfl rfl (by simp [Value.category]) dX7_restore_35) [1, 2, 3, 4, 9, 10, 11, 12] rfl rfl rfl ?_
          dsimp only [patch, List.set, List.cons_append, List.nil_append, oAH, wAct, wClk]
          refine v_aload_n X dX7_restore_38 rfl ?_
          refine v_get X (fun _ h => List.mem_cons_of_mem _ (List.mem_append_left _ (List.mem_append_left _ (List.mem_append_right _ h)))) 0 rfl rfl 6 (by decide) rfl (List.mem_of_getElem? (i := 4) rfl) rfl dX7_restore_39 ?_
          refine v_iconst X dX7_restore_42 ?_
          refine v_put X (fun _ h => List.mem_cons_of_mem _ (List.mem_append_left _ (List.mem_append_right _ h))) tyX0 tyX0_ok nmX0 13 rfl rfl 2 (by decide) rfl (List.mem_of_getElem? (i := 5) rfl) rfl rfl rfl (Nat.le_of_ble_eq_true rfl) dX7_restore_43 ?_
          dsimp only [List.set, oAH, wAct, wClk, List.cons_append, List.nil_append]
          refine v_iconst X dX7_restore_46 ?_
          refine v_iret X Y dX7_restore_47 (u := (_, _, _, _, _, _)) ?_ (by rfl)
          first
          | exact Or.inl ⟨by omega, rfl, rfl⟩
          | exact Or.inr (Or.inl ⟨by omega, Or.inl ⟨by omega, rfl, rfl⟩⟩)
          | exact Or.inr (Or.inr ⟨by omega, Or.inl ⟨by omega, rfl, rfl⟩⟩)
          | exact Or.inr (Or.inl ⟨by omega, Or.inr ⟨by omega, rfl, rfl⟩⟩)
          | exact Or.inr (Or.inr ⟨by omega, Or.inr ⟨by omega, rfl, rfl⟩⟩)
          | (exfalso; omega)
      · skip
        refine v_ldc X (List.mem_of_getElem? (i := 2) rfl) dX7_restore_23 (n := -1000002) (by decide) ?_
        refine v_iret X Y dX7_restore_25 (u := (mk, cn, so, tu, sp, ln)) ?_ (by rfl)
        first
        | exact Or.inl ⟨by omega, rfl, rfl⟩
        | exact Or.inr (Or.inl ⟨by omega, Or.inl ⟨by omega, rfl, rfl⟩⟩)
        | exact Or.inr (Or.inr ⟨by omega, Or.inl ⟨by omega, rfl, rfl⟩⟩)
        | exact Or.inr (Or.inl ⟨by omega, Or.inr ⟨by omega, rfl, rfl⟩⟩)
        | exact Or.inr (Or.inr ⟨by omega, Or.inr ⟨by omega, rfl, rfl⟩⟩)
        | (exfalso; omega)
  · skip
    refine v_ldc X (List.mem_of_getElem? (i := 1) rfl) dX7_restore_9 (n := -1000001) (by decide) ?_
    refine v_iret X Y dX7_restore_11 (u := (mk, cn, so, tu, sp, ln)) ?_ (by rfl)
    first
    | exact Or.inl ⟨by omega, rfl, rfl⟩
    | exact Or.inr (Or.inl ⟨by omega, Or.inl ⟨by omega, rfl, rfl⟩⟩)
    | exact Or.inr (Or.inr ⟨by omega, Or.inl ⟨by omega, rfl, rfl⟩⟩)
    | exact Or.inr (Or.inl ⟨by omega, Or.inr ⟨by omega, rfl, rfl⟩⟩)
    | exact Or.inr (Or.inr ⟨by omega, Or.inr ⟨by omega, rfl, rfl⟩⟩)
    | (exfalso; omega)

