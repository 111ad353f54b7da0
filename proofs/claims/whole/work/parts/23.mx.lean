theorem hdX8_begin : yX8_begin.cls = RX8 ∧ yX8_begin.cls ≠ "java/lang/invoke/MethodHandle" ∧ yX8_begin.cls ≠ "java/lang/invoke/VarHandle" ∧ (parseMethodDescriptor yX8_begin.desc).map (fun d => d.parameters.length) = some 0 := ⟨rfl, by decide +kernel, by decide +kernel, by decide +kernel⟩
set_option maxHeartbeats 4000000 in
set_option maxRecDepth 100000 in
theorem c_X8_begin {g : Gx} {A : Nat → Nat} {th sq ac td lt ln cu tk sa ti ft fp le lf tr : Int} {fl fm fi fc ff fw ftp fk fe fr : Nat → Int}  (hftp : Bd 0 255 ftp) (htd : 0 ≤ td ∧ td ≤ 200) : CtV (S := PM) g yX8_begin wsX8_begin 2 42 [.ref (A 0)] (wMod g A th sq ac td lt ln cu tk sa ti ft fp le lf tr fl fm fi fc ff fw ftp fk fe fr) (fun u => u = (mnx ftp td (0, tk, sa, ti, 0, fp)) ∧ pmOK ftp td u) (fun u => wMod g A th sq ac (0) lt (td) ((u).1) ((u).2.1) ((u).2.2.1) ((u).2.2.2.1) ((u).2.2.2.2.1) ((u).2.2.2.2.2) le lf tr fl fm fi fc ff fw ftp fk fe fr) := by
  refine m_go (cc := cX8_begin) (nL := 1) (by decide +kernel) rfl (Nat.le_of_ble_eq_true rfl) (fun x X Y hnm => ?_)
  refine v_eq (lo2 := [some (.ref (A 0))]) rfl rfl rfl rfl ?_
  refine v_aload_n X dX8_begin_0 rfl ?_
  refine v_aload_n X dX8_begin_1 rfl ?_
  refine v_get X (fun _ h => List.mem_cons_of_mem _ (List.mem_append_right _ h)) 0 rfl rfl 10 (by decide) rfl (List.mem_of_getElem? (i := 1) rfl) rfl dX8_begin_2 ?_
  refine v_put X (fun _ h => List.mem_cons_of_mem _ (List.mem_append_right _ h)) tyX8 tyX8_ok nmX8 0 rfl rfl 12 (by decide) rfl (List.mem_of_getElem? (i := 2) rfl) rfl rfl rfl (Nat.le_of_ble_eq_true rfl) dX8_begin_5 ?_
  dsimp only [List.set, wMod]
  refine v_aload_n X dX8_begin_8 rfl ?_
  refine v_iconst X dX8_begin_9 ?_
  refine v_put X (fun _ h => List.mem_cons_of_mem _ (List.mem_append_right _ h)) tyX8 tyX8_ok nmX8 0 rfl rfl 10 (by decide) rfl (List.mem_of_getElem? (i := 1) rfl) rfl rfl rfl (Nat.le_of_ble_eq_true rfl) dX8_begin_10 ?_
  dsimp only [List.set, wMod]
  refine v_aload_n X dX8_begin_13 rfl ?_
  refine v_iconst X dX8_begin_14 ?_
  refine v_put X (fun _ h => List.mem_cons_of_mem _ (List.mem_append_right _ h)) tyX8 tyX8_ok nmX8 0 rfl rfl 13 (by decide) rfl (List.mem_of_getElem? (i := 3) rfl) rfl rfl rfl (Nat.le_of_ble_eq_true rfl) dX8_begin_15 ?_
  dsimp only [List.set, wMod]
  refine v_aload_n X dX8_begin_18 rfl ?_
  refine v_iconst X dX8_begin_19 ?_
  refine v_put X (fun _ h => List.mem_cons_of_mem _ (List.mem_append_right _ h)) tyX8 tyX8_ok nmX8 0 rfl rfl 17 (by decide) rfl (List.mem_of_getElem? (i := 4) rfl) rfl rfl rfl (Nat.le_of_ble_eq_true rfl) dX8_begin_20 ?_
  dsimp only [List.set, wMod]
  refine v_aload_n X dX8_begin_23 rfl ?_
  refine res_W X (run_V X (c_X8_nextToken (g := g) (by first | assumption | omega) (by first | assumption | omega) (by first | assumption | omega)) gX8_begin_X8_nextToken rfl hdX8_nextToken ⟨(Nat.le_of_ble_eq_true rfl), (Nat.le_of_ble_eq_true rfl)⟩ ⟨(Nat.le_of_ble_eq_true rfl), (Nat.le_of_ble_eq_true rfl)⟩ 0 rfl rfl rfl [0, 1, 2, 3, 4, 5, 6, 7, 8, 9, 10] rfl rfl rfl rfl (by simp [Value.category]) dX8_begin_24) [0, 1, 2, 3, 4, 5, 6, 7, 8, 9, 10] rfl rfl rfl ?_
  dsimp only [patch, List.set, wMod]
  refine v_vret X Y dX8_begin_27 (u := mnx ftp td (0, tk, sa, ti, 0, fp)) ?_ (by rfl)
  exact ⟨rfl, pmOK_0 htd.1⟩

theorem hdX8_clock : yX8_clock.cls = RX8 ∧ yX8_clock.cls ≠ "java/lang/invoke/MethodHandle" ∧ yX8_clock.cls ≠ "java/lang/invoke/VarHandle" ∧ (parseMethodDescriptor yX8_clock.desc).map (fun d => d.parameters.length) = some 0 := ⟨rfl, by decide +kernel, by decide +kernel, by decide +kernel⟩
set_option maxHeartbeats 4000000 in
set_option maxRecDepth 100000 in
theorem c_X8_clock {g : Gx} {A : Nat → Nat} {th sq ac td lt ln cu tk sa ti ft fp le lf tr : Int} {fl fm fi fc ff fw ftp fk fe fr : Nat → Int}  (hftp : Bd 0 255 ftp) (htd : 0 ≤ td ∧ td ≤ 200) (hff : Bd 0 999 ff) (hfc : Bd 0 60 fc) : CtI (S := Int × Int × (Nat → Int) × (Nat → Int) × PM) g yX8_clock wsX8_clock 5 108 [.ref (A 0)] (wMod g A th sq ac td lt ln cu tk sa ti ft fp le lf tr fl fm fi fc ff fw ftp fk fe fr) (fun v u => u.2.2.2.1 = (clR ftp td ff (mnx ftp td (0, tk, sa, ti, 0, fp))).1 ∧ u.2.2.2.2 = (clS ftp td ff (mnx ftp td (0, tk, sa, ti, 0, fp))) ∧ pmOK ftp td (clS ftp td ff (mnx ftp td (0, tk, sa, ti, 0, fp))) ∧ (((clS ftp td ff (mnx ftp td (0, tk, sa, ti, 0, fp))).2.2.2.2.1 ≠ 0 ∧ v = -1000100 - (clS ftp td ff (mnx ftp td (0, tk, sa, ti, 0, fp))).2.2.2.2.2 ∧ u.1 = (clS ftp td ff (mnx ftp td (0, tk, sa, ti, 0, fp))).2.2.2.2.1 ∧ u.2.1 = ac ∧ u.2.2.1 = fc) ∨ ((clS ftp td ff (mnx ftp td (0, tk, sa, ti, 0, fp))).2.2.2.2.1 = 0 ∧ v = (clR ftp td ff (mnx ftp td (0, tk, sa, ti, 0, fp))).1 1 ∧ u.1 = lt ∧ u.2.1 = 0 ∧ u.2.2.1 = m14 (clR ftp td ff (mnx ftp td (0, tk, sa, ti, 0, fp))).1 fc))) (fun u => wMod g A (0) sq (u.2.1) (0) (u.1) (td) ((u.2.2.2.2).1) ((u.2.2.2.2).2.1) ((u.2.2.2.2).2.2.1) ((u.2.2.2.2).2.2.2.1) ((u.2.2.2.2).2.2.2.2.1) ((u.2.2.2.2).2.2.2.2.2) le lf tr fl fm fi (u.2.2.1) (u.2.2.2.1) fw ftp fk fe fr) := by
  refine m_go (cc := cX8_clock) (nL := 2) (by decide +kernel) rfl (Nat.le_of_ble_eq_true rfl) (fun x X Y hnm => ?_)
  refine v_eq (lo2 := [some (.ref (A 0)), none]) rfl rfl rfl rfl ?_
  refine v_aload_n X dX8_clock_0 rfl ?_
  refine v_iconst X dX8_clock_1 ?_
  refine v_put X (fun _ h => List.mem_cons_of_mem _ (List.mem_append_right _ h)) tyX8 tyX8_ok nmX8 0 rfl rfl 0 (by decide) rfl (List.mem_of_getElem? (i := 1) rfl) rfl rfl rfl (Nat.le_of_ble_eq_true rfl) dX8_clock_2 ?_
  dsimp only [List.set, wMod]
  refine v_aload_n X dX8_clock_5 rfl ?_
  refine res_V X (run_V X (c_X8_begin (g := g) (by first | assumption | omega) (by first | assumption | omega)) gX8_clock_X8_begin rfl hdX8_begin ⟨(Nat.le_of_ble_eq_true rfl), (Nat.le_of_ble_eq_true rfl)⟩ ⟨(Nat.le_of_ble_eq_true rfl), (Nat.le_of_ble_eq_true rfl)⟩ 0 rfl rfl rfl [0, 1, 2, 3, 4, 5, 6, 7, 8, 9, 10] rfl rfl rfl rfl (by simp [Value.category]) dX8_clock_6) [0, 1, 2, 3, 4, 5, 6, 7, 8, 9, 10] rfl rfl (fun _ => rfl) (fun u0 hu0 => ?_)
  obtain ⟨cu0, tk0, sa0, ti0, ft0, fp0⟩ := u0
  dsimp only [patch, List.set, wMod]
  have ok0 := hu0.2
  refine v_iconst X dX8_clock_9 ?_
  refine v_istore_n X dX8_clock_10 1 rfl (by decide) rfl ?_
  dsimp only [List.set]
  have L11 : ∀ (nf : Nat) (f : Nat → Int) (i : Int) (h1 : 0 ≤ i ∧ i ≤ 14) (h2 : ∀ j : Nat, f j = if (j : Int) < i then 0 else ff j) (_ : (14 - i).toNat < nf), V g x 0 0 (wMod g A (0) sq ac (0) lt (td) (cu0) (tk0) (sa0) (ti0) (ft0) (fp0) le lf tr fl fm fi fc (f) fw ftp fk fe fr) [some (.ref (A 0)), some (.int (iI i))] 11 [] := by
    intro nf
    induction nf with
    | zero => intro f i h1 h2 hmu; exact absurd hmu (Nat.not_lt_zero _)
    | succ nf ih11 =>
      intro f i h1 h2 hmu
      refine v_iload_n X dX8_clock_11 rfl ?_
      refine v_bipush X dX8_clock_12 (by decide) ?_
      refine v_icmp_ge (tgt := 30) X dX8_clock_14 (by decide) (by omega) (by omega) (fun c2 => ?_) (fun c2 => ?_)
      · skip
        have J50 : ∀ (cu2 : Int) (tk2 : Int) (sa2 : Int) (ti2 : Int) (ft2 : Int) (fp2 : Int) (e2 : (cu2, tk2, sa2, ti2, ft2, fp2) = cl1 ftp td (cu0, tk0, sa0, ti0, ft0, fp0)) (ok2 : pmOK ftp td (cu2, tk2, sa2, ti2, ft2, fp2)), V g x 0 0 (wMod g A (0) sq ac (0) lt (td) (cu2) (tk2) (sa2) (ti2) (ft2) (fp2) le lf tr fl fm fi fc (zrI ff) fw ftp fk fe fr) [some (.ref (A 0)), none] 50 [] := by
          intro cu2 tk2 sa2 ti2 ft2 fp2 e2 ok2
          have v2 := numV_bd ok2
          refine v_aload_n X dX8_clock_50 rfl ?_
          refine v_get X (fun _ h => List.mem_cons_of_mem _ (List.mem_append_right _ h)) 0 rfl rfl 6 (by decide) rfl (List.mem_of_getElem? (i := 2) rfl) rfl dX8_clock_51 ?_
          refine v_iconst X dX8_clock_54 ?_
          refine v_aload_n X dX8_clock_55 rfl ?_
          refine v_iconst X dX8_clock_56 ?_
          refine v_bipush X dX8_clock_57 (by decide) ?_
          refine res_I X (run_V X (c_X8_number (g := g) (by first | assumption | omega) (by first | assumption | omega) (by first | assumption | omega) (by first | assumption | omega) (by first | assumption | omega)) gX8_clock_X8_number rfl hdX8_number ⟨(Nat.le_of_ble_eq_true rfl), (Nat.le_of_ble_eq_true rfl)⟩ ⟨(Nat.le_of_ble_eq_true rfl), (Nat.le_of_ble_eq_true rfl)⟩ 0 rfl rfl rfl [0, 1, 2, 3, 4, 5, 6, 7, 8, 9, 10] rfl rfl rfl rfl (by simp [Value.category]) dX8_clock_59) [0, 1, 2, 3, 4, 5, 6, 7, 8, 9, 10] rfl rfl (fun _ => rfl) (fun r3 u3 hr3 => ?_)
          obtain ⟨cu3, tk3, sa3, ti3, ft3, fp3⟩ := u3
          dsimp only [patch, List.set, wMod]
          have ok3 := hr3.2.2
          refine v_iast X 5 rfl (by omega) (by omega) (by omega) dX8_clock_62 ?_
          dsimp only [List.set, wMod]
          refine v_aload_n X dX8_clock_63 rfl ?_
          refine res_V X (run_V X (c_X8_mustEnd (g := g) (by first | assumption | omega) (by first | assumption | omega) (by first | assumption | omega)) gX8_clock_X8_mustEnd rfl hdX8_mustEnd ⟨(Nat.le_of_ble_eq_true rfl), (Nat.le_of_ble_eq_true rfl)⟩ ⟨(Nat.le_of_ble_eq_true rfl), (Nat.le_of_ble_eq_true rfl)⟩ 0 rfl rfl rfl [0, 1, 2, 3, 4, 5, 6, 7, 8, 9, 10] rfl rfl rfl rfl (by simp [Value.category]) dX8_clock_64) [0, 1, 2, 3, 4, 5, 6, 7, 8, 9, 10] rfl rfl (fun _ => rfl) (fun u4 hu4 => ?_)
          obtain ⟨cu4, tk4, sa4, ti4, ft4, fp4⟩ := u4
          dsimp only [patch, List.set, wMod]
          have ok4 := hu4.2
          have f4 := pm_f ok4
          have e4 : (cu4, tk4, sa4, ti4, ft4, fp4) = cl3 ftp td (cu0, tk0, sa0, ti0, ft0, fp0) := by
            rw [hu4.1, hr3.2.1, e2]
            rfl
          have em : r3 = numV ftp (cl1 ftp td (cu0, tk0, sa0, ti0, ft0, fp0)) := by
            rw [hr3.1, e2]
          have g3 : Bd 0 999 (updI (zrI ff) 0 r3) := Bd_up (Bd_zr hff) (by rw [hr3.1]; exact v2.1) (by rw [hr3.1]; exact v2.2)
          have g4 : updI (zrI ff) 0 r3 1 = 0 := rfl
          have J83 : ∀ (f : Nat → Int) (cu5 : Int) (tk5 : Int) (sa5 : Int) (ti5 : Int) (ft5 : Int) (fp5 : Int) (k : Nat) (hR : clR ftp td ff (cu0, tk0, sa0, ti0, ft0, fp0) = hlN ftp td k (f, (cu5, tk5, sa5, ti5, ft5, fp5))) (ok5 : pmOK ftp td (cu5, tk5, sa5, ti5, ft5, fp5)) (hk : hmK (f 1) ft5 k) (hf : Bd 0 999 f) (hc : 0 ≤ f 1 ∧ f 1 ≤ 4), V g x 0 0 (wMod g A (0) sq ac (0) lt (td) (cu5) (tk5) (sa5) (ti5) (ft5) (fp5) le lf tr fl fm fi fc (f) fw ftp fk fe fr) [some (.ref (A 0)), none] 83 [] := by
            intro f cu5 tk5 sa5 ti5 ft5 fp5 k hR ok5 hk hf hc
            have J101 : ∀ (f : Nat → Int) (cu5 : Int) (tk5 : Int) (sa5 : Int) (ti5 : Int) (ft5 : Int) (fp5 : Int) (eR : clR ftp td ff (cu0, tk0, sa0, ti0, ft0, fp0) = (f, (cu5, tk5, sa5, ti5, ft5, fp5))) (ok5 : pmOK ftp td (cu5, tk5, sa5, ti5, ft5, fp5)) (hf : Bd 0 999 f) (hc : 0 ≤ f 1 ∧ f 1 ≤ 4), V g x 0 0 (wMod g A (0) sq ac (0) lt (td) (cu5) (tk5) (sa5) (ti5) (ft5) (fp5) le lf tr fl fm fi fc (f) fw ftp fk fe fr) [some (.ref (A 0)), none] 101 [] := by
              intro f cu5 tk5 sa5 ti5 ft5 fp5 eR ok5 hf hc
              have J121 : ∀ (cu6 : Int) (tk6 : Int) (sa6 : Int) (ti6 : Int) (ft6 : Int) (fp6 : Int) (e6 : (cu6, tk6, sa6, ti6, ft6, fp6) = clS ftp td ff (cu0, tk0, sa0, ti0, ft0, fp0)) (ok6 : pmOK ftp td (cu6, tk6, sa6, ti6, ft6, fp6)), V g x 0 0 (wMod g A (0) sq ac (0) lt (td) (cu6) (tk6) (sa6) (ti6) (ft6) (fp6) le lf tr fl fm fi fc (f) fw ftp fk fe fr) [some (.ref (A 0)), none] 121 [] := by
                intro cu6 tk6 sa6 ti6 ft6 fp6 e6 ok6
                have f6 := pm_f ok6
                refine v_aload_n X dX8_clock_121 rfl ?_
                refine v_get X (fun _ h => List.mem_cons_of_mem _ (List.mem_append_right _ h)) 0 rfl rfl 17 (by decide) rfl (List.mem_of_getElem? (i := 5) rfl) rfl dX8_clock_122 ?_
                refine v_if_le (tgt := 144) X dX8_clock_125 (by decide) (by omega) (fun c6 => ?_) (fun c6 => ?_)
                · skip
                  refine v_aload_n X dX8_clock_144 rfl ?_
                  refine v_iconst X dX8_clock_145 ?_
                  refine v_put X (fun _ h => List.mem_cons_of_mem _ (List.mem_append_right _ h)) tyX8 tyX8_ok nmX8 0 rfl rfl 8 (by decide) rfl (List.mem_of_getElem? (i := 10) rfl) rfl rfl rfl (Nat.le_of_ble_eq_true rfl) dX8_clock_146 ?_
                  dsimp only [List.set, wMod]
                  refine v_iconst X dX8_clock_149 ?_
                  refine v_istore_n X dX8_clock_150 1 rfl (by decide) rfl ?_
                  dsimp only [List.set]
                  have L151 : ∀ (nf : Nat) (fd : Nat → Int) (i : Int) (h1 : 0 ≤ i ∧ i ≤ 14) (h2 : ∀ j : Nat, fd j = if (j : Int) < i then f j else fc j) (h3 : Bd 0 999 fd) (_ : (14 - i).toNat < nf), V g x 0 0 (wMod g A (0) sq (0) (0) lt (td) (cu6) (tk6) (sa6) (ti6) (ft6) (fp6) le lf tr fl fm fi (fd) (f) fw ftp fk fe fr) [some (.ref (A 0)), some (.int (iI i))] 151 [] := by
                    intro nf
                    induction nf with
                    | zero => intro fd i h1 h2 h3 hmu; exact absurd hmu (Nat.not_lt_zero _)
                    | succ nf ih151 =>
                      intro fd i h1 h2 h3 hmu
                      refine v_iload_n X dX8_clock_151 rfl ?_
                      refine v_bipush X dX8_clock_152 (by decide) ?_
                      refine v_icmp_ge (tgt := 175) X dX8_clock_154 (by decide) (by omega) (by omega) (fun c7 => ?_) (fun c7 => ?_)
                      · skip
                        have ey : fd = m14 f fc := funext (fun j => by
                          have q := h2 j
                          unfold m14
                          split <;> (rw [q]; first | rw [if_pos (by omega)] | rw [if_neg (by omega)]))
                        refine v_aload_n X dX8_clock_175 rfl ?_
                        refine v_get X (fun _ h => List.mem_cons_of_mem _ (List.mem_append_right _ h)) 0 rfl rfl 5 (by decide) rfl (List.mem_of_getElem? (i := 11) rfl) rfl dX8_clock_176 ?_
                        refine v_iconst X dX8_clock_179 ?_
                        refine v_iald X 4 rfl (by omega) (by omega) (by omega) dX8_clock_180 h3 (fun zw ezw lzw uzw => ?_)
                        refine v_iret X Y dX8_clock_181 (u := (lt, 0, m14 f fc, f, (cu6, tk6, sa6, ti6, ft6, fp6))) ?_ (by rw [ey] <;> rfl)
                        rw [← hu0.1, eR, ← e6]
                        exact ⟨rfl, rfl, ok6, Or.inr ⟨by show ft6 = 0; omega, by rw [ezw, ey]; rfl, rfl, rfl, rfl⟩⟩
                      · skip
                        refine v_aload_n X dX8_clock_157 rfl ?_
                        refine v_get X (fun _ h => List.mem_cons_of_mem _ (List.mem_append_right _ h)) 0 rfl rfl 5 (by decide) rfl (List.mem_of_getElem? (i := 11) rfl) rfl dX8_clock_158 ?_
                        refine v_iload_n X dX8_clock_161 rfl ?_
                        refine v_aload_n X dX8_clock_162 rfl ?_
                        refine v_get X (fun _ h => List.mem_cons_of_mem _ (List.mem_append_right _ h)) 0 rfl rfl 6 (by decide) rfl (List.mem_of_getElem? (i := 2) rfl) rfl dX8_clock_163 ?_
                        refine v_iload_n X dX8_clock_166 rfl ?_
                        refine v_iald X 5 rfl (by omega) (by omega) (by omega) dX8_clock_167 hf (fun zz ezz lzz uzz => ?_)
                        refine v_iast X 4 rfl (by omega) (by omega) (by omega) dX8_clock_168 ?_
                        dsimp only [List.set, wMod]
                        refine v_iinc X dX8_clock_169 rfl (by decide) rfl ?_
                        dsimp only [List.set]
                        refine v_goto (tgt := 151) X dX8_clock_172 (by decide) ?_
                        exact ih151 _ _ (by omega) (by
                            intro j
                            have q := h2 j
                            rw [updI_e]
                            by_cases e : j = i.toNat
                            · rw [if_pos e, if_pos (by omega), ezz, e]
                            · rw [if_neg e, q]
                              by_cases e2 : (j : Int) < i
                              · rw [if_pos e2, if_pos (by omega)]
                              · rw [if_neg e2, if_neg (by omega)]) (by exact Bd_up h3 (by omega) (by omega)) (by omega)
                  exact L151 _ _ _ (by omega) (by intro j; rw [if_neg (by omega)]) (by exact Bd_w hfc (by decide) (by decide)) (Nat.lt_succ_self _)
                · skip
                  refine v_aload_n X dX8_clock_128 rfl ?_
                  refine v_aload_n X dX8_clock_129 rfl ?_
                  refine v_get X (fun _ h => List.mem_cons_of_mem _ (List.mem_append_right _ h)) 0 rfl rfl 17 (by decide) rfl (List.mem_of_getElem? (i := 5) rfl) rfl dX8_clock_130 ?_
                  refine v_put X (fun _ h => List.mem_cons_of_mem _ (List.mem_append_right _ h)) tyX8 tyX8_ok nmX8 0 rfl rfl 11 (by decide) rfl (List.mem_of_getElem? (i := 7) rfl) rfl rfl rfl (Nat.le_of_ble_eq_true rfl) dX8_clock_133 ?_
                  dsimp only [List.set, wMod]
                  refine v_ldc X (List.mem_of_getElem? (i := 8) rfl) dX8_clock_136 (n := -1000100) (by decide) ?_
                  refine v_aload_n X dX8_clock_138 rfl ?_
                  refine v_get X (fun _ h => List.mem_cons_of_mem _ (List.mem_append_right _ h)) 0 rfl rfl 18 (by decide) rfl (List.mem_of_getElem? (i := 9) rfl) rfl dX8_clock_139 ?_
                  refine v_isub X dX8_clock_142 ?_
                  refine v_iret X Y dX8_clock_143 (u := (ft6, ac, fc, f, (cu6, tk6, sa6, ti6, ft6, fp6))) ?_ (by rfl)
                  rw [← hu0.1, eR, ← e6]
                  exact ⟨rfl, rfl, ok6, Or.inl ⟨by show ft6 ≠ 0; omega, rfl, rfl, rfl, rfl⟩⟩
              have f5 := pm_f ok5
              refine v_aload_n X dX8_clock_101 rfl ?_
              refine v_get X (fun _ h => List.mem_cons_of_mem _ (List.mem_append_right _ h)) 0 rfl rfl 17 (by decide) rfl (List.mem_of_getElem? (i := 5) rfl) rfl dX8_clock_102 ?_
              refine v_if_ne (tgt := 121) X dX8_clock_105 (by decide) (by omega) (fun c10 => ?_) (fun c10 => ?_)
              · skip
                exact J121 _ _ _ _ _ _ (by unfold clS; rw [eR]; dsimp only; (first | rw [if_pos ⟨by assumption, by assumption⟩] | rw [if_neg (fun z => by omega)]) <;> rfl) (by first | exact ok5 | exact pmOK_mbd (by decide) ok5)
              · skip
                refine v_aload_n X dX8_clock_108 rfl ?_
                refine v_get X (fun _ h => List.mem_cons_of_mem _ (List.mem_append_right _ h)) 0 rfl rfl 14 (by decide) rfl (List.mem_of_getElem? (i := 6) rfl) rfl dX8_clock_109 ?_
                refine v_iconst X dX8_clock_112 ?_
                refine v_icmp_eq (tgt := 121) X dX8_clock_113 (by decide) (by omega) (by omega) (fun c11 => ?_) (fun c11 => ?_)
                · skip
                  exact J121 _ _ _ _ _ _ (by unfold clS; rw [eR]; dsimp only; (first | rw [if_pos ⟨by assumption, by assumption⟩] | rw [if_neg (fun z => by omega)]) <;> rfl) (by first | exact ok5 | exact pmOK_mbd (by decide) ok5)
                · skip
                  refine v_aload_n X dX8_clock_116 rfl ?_
                  refine v_iconst X dX8_clock_117 ?_
                  refine res_W X (run_V X (c_X8_bad (g := g) (by first | assumption | omega)) gX8_clock_X8_bad rfl hdX8_bad ⟨(Nat.le_of_ble_eq_true rfl), (Nat.le_of_ble_eq_true rfl)⟩ ⟨(Nat.le_of_ble_eq_true rfl), (Nat.le_of_ble_eq_true rfl)⟩ 0 rfl rfl rfl [0, 1, 2, 3, 4, 5, 6, 7, 8, 9, 10] rfl rfl rfl rfl (by simp [Value.category]) dX8_clock_118) [0, 1, 2, 3, 4, 5, 6, 7, 8, 9, 10] rfl rfl rfl ?_
                  dsimp only [patch, List.set, wMod]
                  exact J121 _ _ _ _ _ _ (by unfold clS; rw [eR]; dsimp only; (first | rw [if_pos ⟨by assumption, by assumption⟩] | rw [if_neg (fun z => by omega)]) <;> rfl) (by first | exact ok5 | exact pmOK_mbd (by decide) ok5)
            have L83 : ∀ (nf : Nat) (f : Nat → Int) (cu5 : Int) (tk5 : Int) (sa5 : Int) (ti5 : Int) (ft5 : Int) (fp5 : Int) (k : Nat) (hR : clR ftp td ff (cu0, tk0, sa0, ti0, ft0, fp0) = hlN ftp td k (f, (cu5, tk5, sa5, ti5, ft5, fp5))) (ok5 : pmOK ftp td (cu5, tk5, sa5, ti5, ft5, fp5)) (hk : hmK (f 1) ft5 k) (hf : Bd 0 999 f) (hc : 0 ≤ f 1 ∧ f 1 ≤ 4) (_ : k < nf), V g x 0 0 (wMod g A (0) sq ac (0) lt (td) (cu5) (tk5) (sa5) (ti5) (ft5) (fp5) le lf tr fl fm fi fc (f) fw ftp fk fe fr) [some (.ref (A 0)), none] 83 [] := by
              intro nf
              induction nf with
              | zero => intro f cu5 tk5 sa5 ti5 ft5 fp5 k hR ok5 hk hf hc hmu; exact absurd hmu (Nat.not_lt_zero _)
              | succ nf ih83 =>
                intro f cu5 tk5 sa5 ti5 ft5 fp5 k hR ok5 hk hf hc hmu
                refine v_aload_n X dX8_clock_83 rfl ?_
                refine res_L X (run_V X (c_X8_name (g := g) (by first | assumption | omega) (by first | assumption | omega) (by first | assumption | omega)) gX8_clock_X8_name rfl hdX8_name ⟨(Nat.le_of_ble_eq_true rfl), (Nat.le_of_ble_eq_true rfl)⟩ ⟨(Nat.le_of_ble_eq_true rfl), (Nat.le_of_ble_eq_true rfl)⟩ 0 rfl rfl rfl [0, 1, 2, 3, 4, 5, 6, 7, 8, 9, 10] rfl rfl rfl rfl (by simp [Value.category]) dX8_clock_84) [0, 1, 2, 3, 4, 5, 6, 7, 8, 9, 10] rfl rfl (fun _ => rfl) (fun r6 u13 hr6 => ?_)
                dsimp only [patch, List.set, wMod]
                subst hr6
                refine v_ldc2 X (List.mem_of_getElem? (i := 4) rfl) dX8_clock_87 (n := 1751215716) (by decide) ?_
                refine v_lcmp X dX8_clock_90 (by exact namF_r hftp) (by exact ⟨by decide, by decide⟩) (fun c14 => ?_) (fun c14 => ?_) (fun c14 => ?_)
                · skip
                  refine v_if_ne (tgt := 101) X dX8_clock_91 (by decide) (by decide) (fun hh => ?_) (fun hh => ?_)
                  · skip
                    exact J101 _ _ _ _ _ _ _ (by rw [hR]; exact hlN_end (show namF ftp (cu5, tk5, sa5, ti5, ft5, fp5) ≠ 1751215716 by omega) _) (by assumption) (by assumption) (by assumption)
                  · skip
                    exfalso; omega
                · skip
                  refine v_if_ne (tgt := 101) X dX8_clock_91 (by decide) (by decide) (fun hh => ?_) (fun hh => ?_)
                  · skip
                    exfalso; omega
                  · skip
                    refine v_aload_n X dX8_clock_94 rfl ?_
                    refine res_V X (run_V X (c_X8_readHand (g := g) (by first | assumption | omega) (by first | assumption | omega) (by first | assumption | omega) (by first | assumption | omega) (by first | assumption | omega)) gX8_clock_X8_readHand rfl hdX8_readHand ⟨(Nat.le_of_ble_eq_true rfl), (Nat.le_of_ble_eq_true rfl)⟩ ⟨(Nat.le_of_ble_eq_true rfl), (Nat.le_of_ble_eq_true rfl)⟩ 0 rfl rfl rfl [0, 1, 2, 3, 4, 5, 6, 7, 8, 9, 10] rfl rfl rfl rfl (by simp [Value.category]) dX8_clock_95) [0, 1, 2, 3, 4, 5, 6, 7, 8, 9, 10] rfl rfl (fun _ => rfl) (fun u7 hu7 => ?_)
                    obtain ⟨f7, cu7, tk7, sa7, ti7, ft7, fp7⟩ := u7
                    dsimp only [patch, List.set, wMod]
                    have g1 := (Prod.mk.inj hu7.1).1
                    have g2 := (Prod.mk.inj hu7.1).2
                    have gg := hlN_go ok5 hc hk (by omega)
                    rw [← g1, ← g2] at gg
                    have g3b := hanF_bd ok5 hc hf
                    rw [← g1] at g3b
                    refine v_goto (tgt := 83) X dX8_clock_98 (by decide) ?_
                    exact ih83 _ _ _ _ _ _ _ (k - 1) (by rw [hR]; exact gg.2.1) (by exact hu7.2) (by exact gg.2.2.1) (by exact g3b) (by exact gg.2.2.2) (by have := gg.1; omega)
                · skip
                  refine v_if_ne (tgt := 101) X dX8_clock_91 (by decide) (by decide) (fun hh => ?_) (fun hh => ?_)
                  · skip
                    exact J101 _ _ _ _ _ _ _ (by rw [hR]; exact hlN_end (show namF ftp (cu5, tk5, sa5, ti5, ft5, fp5) ≠ 1751215716 by omega) _) (by assumption) (by assumption) (by assumption)
                  · skip
                    exfalso; omega
            exact L83 _ _ _ _ _ _ _ _ k (by assumption) (by assumption) (by assumption) (by assumption) (by assumption) (Nat.lt_succ_self _)
          refine v_aload_n X dX8_clock_67 rfl ?_
          refine res_L X (run_V X (c_X8_name (g := g) (by first | assumption | omega) (by first | assumption | omega) (by first | assumption | omega)) gX8_clock_X8_name rfl hdX8_name ⟨(Nat.le_of_ble_eq_true rfl), (Nat.le_of_ble_eq_true rfl)⟩ ⟨(Nat.le_of_ble_eq_true rfl), (Nat.le_of_ble_eq_true rfl)⟩ 0 rfl rfl rfl [0, 1, 2, 3, 4, 5, 6, 7, 8, 9, 10] rfl rfl rfl rfl (by simp [Value.category]) dX8_clock_68) [0, 1, 2, 3, 4, 5, 6, 7, 8, 9, 10] rfl rfl (fun _ => rfl) (fun r5 u17 hr5 => ?_)
          dsimp only [patch, List.set, wMod]
          subst hr5
          refine v_ldc2 X (List.mem_of_getElem? (i := 4) rfl) dX8_clock_71 (n := 1751215716) (by decide) ?_
          refine v_lcmp X dX8_clock_74 (by exact namF_r hftp) (by exact ⟨by decide, by decide⟩) (fun c18 => ?_) (fun c18 => ?_) (fun c18 => ?_)
          · skip
            refine v_if_eq (tgt := 83) X dX8_clock_75 (by decide) (by decide) (fun hh => ?_) (fun hh => ?_)
            · skip
              exfalso; omega
            · skip
              refine v_aload_n X dX8_clock_78 rfl ?_
              refine v_iconst X dX8_clock_79 ?_
              refine res_W X (run_V X (c_X8_bad (g := g) (by first | assumption | omega)) gX8_clock_X8_bad rfl hdX8_bad ⟨(Nat.le_of_ble_eq_true rfl), (Nat.le_of_ble_eq_true rfl)⟩ ⟨(Nat.le_of_ble_eq_true rfl), (Nat.le_of_ble_eq_true rfl)⟩ 0 rfl rfl rfl [0, 1, 2, 3, 4, 5, 6, 7, 8, 9, 10] rfl rfl rfl rfl (by simp [Value.category]) dX8_clock_80) [0, 1, 2, 3, 4, 5, 6, 7, 8, 9, 10] rfl rfl rfl ?_
              dsimp only [patch, List.set, wMod]
              exact J83 _ _ _ _ _ _ _ 5 (by unfold clR cl4; rw [← e4, ← em]; (first | rw [if_pos (by omega)] | rw [if_neg (by omega)]) <;> rfl) (by first | exact ok4 | exact pmOK_mbd (by decide) ok4) (fun _ => by show (5 : Int) - 0 ≤ ((5 : Nat) : Int); decide) g3 (by show (0 : Int) ≤ 0 ∧ (0 : Int) ≤ 4; exact ⟨by decide, by decide⟩)
          · skip
            refine v_if_eq (tgt := 83) X dX8_clock_75 (by decide) (by decide) (fun hh => ?_) (fun hh => ?_)
            · skip
              exact J83 _ _ _ _ _ _ _ 5 (by unfold clR cl4; rw [← e4, ← em]; (first | rw [if_pos (by omega)] | rw [if_neg (by omega)]) <;> rfl) (by first | exact ok4 | exact pmOK_mbd (by decide) ok4) (fun _ => by show (5 : Int) - 0 ≤ ((5 : Nat) : Int); decide) g3 (by show (0 : Int) ≤ 0 ∧ (0 : Int) ≤ 4; exact ⟨by decide, by decide⟩)
            · skip
              exfalso; omega
          · skip
            refine v_if_eq (tgt := 83) X dX8_clock_75 (by decide) (by decide) (fun hh => ?_) (fun hh => ?_)
            · skip
              exfalso; omega
            · skip
              refine v_aload_n X dX8_clock_78 rfl ?_
              refine v_iconst X dX8_clock_79 ?_
              refine res_W X (run_V X (c_X8_bad (g := g) (by first | assumption | omega)) gX8_clock_X8_bad rfl hdX8_bad ⟨(Nat.le_of_ble_eq_true rfl), (Nat.le_of_ble_eq_true rfl)⟩ ⟨(Nat.le_of_ble_eq_true rfl), (Nat.le_of_ble_eq_true rfl)⟩ 0 rfl rfl rfl [0, 1, 2, 3, 4, 5, 6, 7, 8, 9, 10] rfl rfl rfl rfl (by simp [Value.category]) dX8_clock_80) [0, 1, 2, 3, 4, 5, 6, 7, 8, 9, 10] rfl rfl rfl ?_
              dsimp only [patch, List.set, wMod]
              exact J83 _ _ _ _ _ _ _ 5 (by unfold clR cl4; rw [← e4, ← em]; (first | rw [if_pos (by omega)] | rw [if_neg (by omega)]) <;> rfl) (by first | exact ok4 | exact pmOK_mbd (by decide) ok4) (fun _ => by show (5 : Int) - 0 ≤ ((5 : Nat) : Int); decide) g3 (by show (0 : Int) ≤ 0 ∧ (0 : Int) ≤ 4; exact ⟨by decide, by decide⟩)
        have ez : f = zrI ff := funext (fun j => by
          have q := h2 j
          unfold zrI
          split <;> (rw [q]; first | rw [if_pos (by omega)] | rw [if_neg (by omega)]))
        subst ez
        refine v_aload_n X dX8_clock_30 rfl ?_
        refine v_aload_n X dX8_clock_31 rfl ?_
        refine res_L X (run_V X (c_X8_name (g := g) (by first | assumption | omega) (by first | assumption | omega) (by first | assumption | omega)) gX8_clock_X8_name rfl hdX8_name ⟨(Nat.le_of_ble_eq_true rfl), (Nat.le_of_ble_eq_true rfl)⟩ ⟨(Nat.le_of_ble_eq_true rfl), (Nat.le_of_ble_eq_true rfl)⟩ 0 rfl rfl rfl [0, 1, 2, 3, 4, 5, 6, 7, 8, 9, 10] rfl rfl rfl rfl (by simp [Value.category]) dX8_clock_32) [0, 1, 2, 3, 4, 5, 6, 7, 8, 9, 10] rfl rfl (fun _ => rfl) (fun r1 u20 hr1 => ?_)
        dsimp only [patch, List.set, wMod]
        subst hr1
        refine v_ldc2 X (List.mem_of_getElem? (i := 3) rfl) dX8_clock_35 (n := 1684627820) (by decide) ?_
        refine v_lcmp X dX8_clock_38 (by exact namF_r hftp) (by exact ⟨by decide, by decide⟩) (fun c21 => ?_) (fun c21 => ?_) (fun c21 => ?_)
        · skip
          refine v_if_ne (tgt := 46) X dX8_clock_39 (by decide) (by decide) (fun hh => ?_) (fun hh => ?_)
          · skip
            refine v_iconst X dX8_clock_46 ?_
            refine res_V X (run_V X (c_X8_must (g := g) (by first | assumption | omega) (by first | assumption | omega) (by first | assumption | omega) (by first | assumption | omega)) gX8_clock_X8_must rfl hdX8_must ⟨(Nat.le_of_ble_eq_true rfl), (Nat.le_of_ble_eq_true rfl)⟩ ⟨(Nat.le_of_ble_eq_true rfl), (Nat.le_of_ble_eq_true rfl)⟩ 0 rfl rfl rfl [0, 1, 2, 3, 4, 5, 6, 7, 8, 9, 10] rfl rfl rfl rfl (by simp [Value.category]) dX8_clock_47) [0, 1, 2, 3, 4, 5, 6, 7, 8, 9, 10] rfl rfl (fun _ => rfl) (fun u2 hu2 => ?_)
            obtain ⟨cu2, tk2, sa2, ti2, ft2, fp2⟩ := u2
            dsimp only [patch, List.set, wMod]
            refine v_drop 1 ?_
            dsimp only [List.set]
            exact J50 _ _ _ _ _ _ (by rw [hu2.1]; unfold cl1; (first | rw [if_pos (by omega)] | rw [if_neg (by omega)])) (by exact hu2.2)
          · skip
            exfalso; omega
        · skip
          refine v_if_ne (tgt := 46) X dX8_clock_39 (by decide) (by decide) (fun hh => ?_) (fun hh => ?_)
          · skip
            exfalso; omega
          · skip
            refine v_iconst X dX8_clock_42 ?_
            refine v_goto (tgt := 47) X dX8_clock_43 (by decide) ?_
            refine res_V X (run_V X (c_X8_must (g := g) (by first | assumption | omega) (by first | assumption | omega) (by first | assumption | omega) (by first | assumption | omega)) gX8_clock_X8_must rfl hdX8_must ⟨(Nat.le_of_ble_eq_true rfl), (Nat.le_of_ble_eq_true rfl)⟩ ⟨(Nat.le_of_ble_eq_true rfl), (Nat.le_of_ble_eq_true rfl)⟩ 0 rfl rfl rfl [0, 1, 2, 3, 4, 5, 6, 7, 8, 9, 10] rfl rfl rfl rfl (by simp [Value.category]) dX8_clock_47) [0, 1, 2, 3, 4, 5, 6, 7, 8, 9, 10] rfl rfl (fun _ => rfl) (fun u2 hu2 => ?_)
            obtain ⟨cu2, tk2, sa2, ti2, ft2, fp2⟩ := u2
            dsimp only [patch, List.set, wMod]
            refine v_drop 1 ?_
            dsimp only [List.set]
            exact J50 _ _ _ _ _ _ (by rw [hu2.1]; unfold cl1; (first | rw [if_pos (by omega)] | rw [if_neg (by omega)])) (by exact hu2.2)
        · skip
          refine v_if_ne (tgt := 46) X dX8_clock_39 (by decide) (by decide) (fun hh => ?_) (fun hh => ?_)
          · skip
            refine v_iconst X dX8_clock_46 ?_
            refine res_V X (run_V X (c_X8_must (g := g) (by first | assumption | omega) (by first | assumption | omega) (by first | assumption | omega) (by first | assumption | omega)) gX8_clock_X8_must rfl hdX8_must ⟨(Nat.le_of_ble_eq_true rfl), (Nat.le_of_ble_eq_true rfl)⟩ ⟨(Nat.le_of_ble_eq_true rfl), (Nat.le_of_ble_eq_true rfl)⟩ 0 rfl rfl rfl [0, 1, 2, 3, 4, 5, 6, 7, 8, 9, 10] rfl rfl rfl rfl (by simp [Value.category]) dX8_clock_47) [0, 1, 2, 3, 4, 5, 6, 7, 8, 9, 10] rfl rfl (fun _ => rfl) (fun u2 hu2 => ?_)
            obtain ⟨cu2, tk2, sa2, ti2, ft2, fp2⟩ := u2
            dsimp only [patch, List.set, wMod]
            refine v_drop 1 ?_
            dsimp only [List.set]
            exact J50 _ _ _ _ _ _ (by rw [hu2.1]; unfold cl1; (first | rw [if_pos (by omega)] | rw [if_neg (by omega)])) (by exact hu2.2)
          · skip
            exfalso; omega
      · skip
        refine v_aload_n X dX8_clock_17 rfl ?_
        refine v_get X (fun _ h => List.mem_cons_of_mem _ (List.mem_append_right _ h)) 0 rfl rfl 6 (by decide) rfl (List.mem_of_getElem? (i := 2) rfl) rfl dX8_clock_18 ?_
        refine v_iload_n X dX8_clock_21 rfl ?_
        refine v_iconst X dX8_clock_22 ?_
        refine v_iast X 5 rfl (by omega) (by omega) (by omega) dX8_clock_23 ?_
        dsimp only [List.set, wMod]
        refine v_iinc X dX8_clock_24 rfl (by decide) rfl ?_
        dsimp only [List.set]
        refine v_goto (tgt := 11) X dX8_clock_27 (by decide) ?_
        exact ih11 _ _ (by omega) (by
            intro j
            have q := h2 j
            rw [updI_e]
            by_cases e : j = i.toNat
            · rw [if_pos e, if_pos (by omega)]
            · rw [if_neg e, q]
              by_cases e2 : (j : Int) < i
              · rw [if_pos e2, if_pos (by omega)]
              · rw [if_neg e2, if_neg (by omega)]) (by omega)
  exact L11 _ _ _ (by omega) (by intro j; rw [if_neg (by omega)]) (Nat.lt_succ_self _)

