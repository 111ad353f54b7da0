/-! the law: side by side from call to call -/
def LInv (it la le fl fmm fim : Nat → Int) (tln : Int) (bt : Nat → Int) (mk cn : Int) (so tu sp : Nat → Int) (ln : Int) (hs ss fw sod tud spd ar rs : Nat → Int) (rc pa0 mk1 cn1 : Int) (so1 tu1 sp1 : Nat → Int) (mk2 cn2 : Int) (so2 tu2 sp2 fk fe ff trf : Nat → Int) (trn : Int) : Prop := SR it la le fl fmm fim ∧ (0 ≤ tln ∧ tln ≤ 200) ∧ Bd 0 255 bt ∧ CK mk cn so tu sp ∧ SA ln hs ss fw mk cn so tu sp ∧ (Bd 0 5 sod ∧ Bd 0 12 tud ∧ Bd 0 59 spd) ∧ RB ar rs rc pa0 ∧ SI 0 mk1 cn1 so1 tu1 sp1 fk fe ∧ SI 1 mk2 cn2 so2 tu2 sp2 fk fe ∧ Bd 0 1 fk ∧ Bd 0 60 fe ∧ Bd 0 999 ff ∧ TB (trf, trn)
def LLoop (g : Gx) (x : Xt) (b : Nat) (B A : Nat → Nat) (i : Int) : Prop := ∀ (lf fi : Int) (it la le bt : Nat → Int) (tln tk fm tt tf mk cn : Int) (so tu sp : Nat → Int) (mkd cnd : Int) (sod tud spd : Nat → Int) (mk1 cn1 : Int) (so1 tu1 sp1 : Nat → Int) (mk2 cn2 : Int) (so2 tu2 sp2 hs ss : Nat → Int) (ln wh sh mo fo : Int) (ar rs : Nat → Int) (rc pa0 : Int) (trf : Nat → Int) (trn lnm cum tkm sam tim ftm fpm lem lfm : Int) (fl fmm fim ff fw fk fe : Nat → Int), LInv it la le fl fmm fim tln bt mk cn so tu sp ln hs ss fw sod tud spd ar rs rc pa0 mk1 cn1 so1 tu1 sp1 mk2 cn2 so2 tu2 sp2 fk fe ff trf trn → V g x 43 1681 ((oAH g B (lf) (fi) :: (wRow g (B 1) (B 11) (B 12) (B 13) it la le ++ (wTap g (B 2) (B 14) bt tln tk fm tt tf ++ (wClk g (B 3) (B 15) (B 16) (B 17) mk cn so tu sp ++ (wClk g (B 4) (B 18) (B 19) (B 20) mkd cnd sod tud spd ++ (wClk g (B 5) (B 21) (B 22) (B 23) mk1 cn1 so1 tu1 sp1 ++ (wClk g (B 6) (B 24) (B 25) (B 26) mk2 cn2 so2 tu2 sp2 ++ (wAct g (B 7) (B 27) (B 28) hs ss ln ++ (wDou g (B 8) wh sh mo fo ++ (wRea g (B 9) (B 29) (B 30) ar rs rc pa0 ++ (wAsk g (B 10) (B 31) (trf) (trn)))))))))))) ++ (wMod g A 0 fi ln tln lf lnm cum tkm sam tim ftm fpm lem lfm trn fl fmm fim (clkF mk cn so tu sp) ff fw bt fk fe trf)) [some (.ref b), some (.ref (B 0)), some (.ref (A 0)), some (.int (iI i))] 18 []

set_option maxHeartbeats 4000000 in
set_option maxRecDepth 100000 in
theorem L_row {g : Gx} {x : Xt} {b L : Nat} {xs : Nat → Int32} {B A : Nat → Nat} {i : Int} {lf fi : Int} {it la le bt : Nat → Int} {tln tk fm tt tf mk cn : Int} {so tu sp : Nat → Int} {mkd cnd : Int} {sod tud spd : Nat → Int} {mk1 cn1 : Int} {so1 tu1 sp1 : Nat → Int} {mk2 cn2 : Int} {so2 tu2 sp2 hs ss : Nat → Int} {ln wh sh mo fo : Int} {ar rs : Nat → Int} {rc pa0 : Int} {trf : Nat → Int} {trn lnm cum tkm sam tim ftm fpm lem lfm : Int} {fl fmm fim ff fw fk fe : Nat → Int} (X : Xo g x wsL_law RL cL_law 4 room_1) (Z : Xs x b L xs) (hL : L ≤ 3584) (hi : 0 ≤ i ∧ i + 7 ≤ L) (hV : LInv it la le fl fmm fim tln bt mk cn so tu sp ln hs ss fw sod tud spd ar rs rc pa0 mk1 cn1 so1 tu1 sp1 mk2 cn2 so2 tu2 sp2 fk fe ff trf trn) (ih : LLoop g x b B A (i + 7)) : V g x 43 1681 ((oAH g B (lf) (fi) :: (wRow g (B 1) (B 11) (B 12) (B 13) it la le ++ (wTap g (B 2) (B 14) bt tln tk fm tt tf ++ (wClk g (B 3) (B 15) (B 16) (B 17) mk cn so tu sp ++ (wClk g (B 4) (B 18) (B 19) (B 20) mkd cnd sod tud spd ++ (wClk g (B 5) (B 21) (B 22) (B 23) mk1 cn1 so1 tu1 sp1 ++ (wClk g (B 6) (B 24) (B 25) (B 26) mk2 cn2 so2 tu2 sp2 ++ (wAct g (B 7) (B 27) (B 28) hs ss ln ++ (wDou g (B 8) wh sh mo fo ++ (wRea g (B 9) (B 29) (B 30) ar rs rc pa0 ++ (wAsk g (B 10) (B 31) (trf) (trn)))))))))))) ++ (wMod g A 0 fi ln tln lf lnm cum tkm sam tim ftm fpm lem lfm trn fl fmm fim (clkF mk cn so tu sp) ff fw bt fk fe trf)) [some (.ref b), some (.ref (B 0)), some (.ref (A 0)), some (.int (iI i))] 160 [] := by
  obtain ⟨hR, hT, hb, hK, hA, hd, hB, hI1, hI2, hfk, hfe, hff, hTB⟩ := hV
  obtain ⟨y1, ey1⟩ : ∃ y : Int, y = (xs (i + 1).toNat).toInt := ⟨_, rfl⟩
  have ry1 : R32 y1 := by rw [ey1]; exact iI_r _
  obtain ⟨y2, ey2⟩ : ∃ y : Int, y = (xs (i + 2).toNat).toInt := ⟨_, rfl⟩
  have ry2 : R32 y2 := by rw [ey2]; exact iI_r _
  obtain ⟨y3, ey3⟩ : ∃ y : Int, y = (xs (i + 3).toNat).toInt := ⟨_, rfl⟩
  have ry3 : R32 y3 := by rw [ey3]; exact iI_r _
  dsimp only [oAH, wRow, wTap, wClk, wAct, wDou, wRea, wAsk, wMod, List.cons_append, List.nil_append]
  refine v_aload_n X dL_law_160 rfl ?_
  refine v_aload_n X dL_law_161 rfl ?_
  refine v_iload_n X dL_law_162 rfl ?_
  refine v_iconst X dL_law_163 ?_
  refine v_iadd X dL_law_164 ?_
  refine v_sld X Z ey1 (by omega) (by omega) (by omega) dL_law_165 ?_
  refine v_aload_n X dL_law_166 rfl ?_
  refine v_iload_n X dL_law_167 rfl ?_
  refine v_iconst X dL_law_168 ?_
  refine v_iadd X dL_law_169 ?_
  refine v_sld X Z ey2 (by omega) (by omega) (by omega) dL_law_170 ?_
  refine v_aload_n X dL_law_171 rfl ?_
  refine v_iload_n X dL_law_172 rfl ?_
  refine v_iconst X dL_law_173 ?_
  refine v_iadd X dL_law_174 ?_
  refine v_sld X Z ey3 (by omega) (by omega) (by omega) dL_law_175 ?_
  refine res_I X (run_V X (c_X7_row (g := g) ry1 ry2 ry3) gL_law_X7_row rfl hdX7_row ⟨(Nat.le_of_ble_eq_true rfl), (Nat.le_of_ble_eq_true rfl)⟩ ⟨(Nat.le_of_ble_eq_true rfl), (Nat.le_of_ble_eq_true rfl)⟩ 0 rfl rfl rfl [0, 1, 2, 3, 4] rfl rfl rfl rfl (by simp [Value.category]) dL_law_176) [0, 1, 2, 3, 4] rfl rfl (fun _ => rfl) (fun v7 u7 h7 => ?_)
  obtain ⟨f7, la7, le7, it7⟩ := u7
  dsimp only [patch, List.set, oAH, wRow, wTap, wClk, wAct, wDou, wRea, wAsk, wMod, List.cons_append, List.nil_append]
  refine v_aload_n X dL_law_179 rfl ?_
  refine v_aload_n X dL_law_180 rfl ?_
  refine v_iload_n X dL_law_181 rfl ?_
  refine v_iconst X dL_law_182 ?_
  refine v_iadd X dL_law_183 ?_
  refine v_sld X Z ey1 (by omega) (by omega) (by omega) dL_law_184 ?_
  refine v_aload_n X dL_law_185 rfl ?_
  refine v_iload_n X dL_law_186 rfl ?_
  refine v_iconst X dL_law_187 ?_
  refine v_iadd X dL_law_188 ?_
  refine v_sld X Z ey2 (by omega) (by omega) (by omega) dL_law_189 ?_
  refine v_aload_n X dL_law_190 rfl ?_
  refine v_iload_n X dL_law_191 rfl ?_
  refine v_iconst X dL_law_192 ?_
  refine v_iadd X dL_law_193 ?_
  refine v_sld X Z ey3 (by omega) (by omega) (by omega) dL_law_194 ?_
  refine res_I X (run_V X (c_X8_row (g := g) ry1 ry2 ry3) gL_law_X8_row rfl hdX8_row ⟨(Nat.le_of_ble_eq_true rfl), (Nat.le_of_ble_eq_true rfl)⟩ ⟨(Nat.le_of_ble_eq_true rfl), (Nat.le_of_ble_eq_true rfl)⟩ 32 rfl rfl rfl [32, 33, 34, 35, 36, 37, 38, 39, 40, 41, 42] rfl rfl rfl rfl (by simp [Value.category]) dL_law_195) [32, 33, 34, 35, 36, 37, 38, 39, 40, 41, 42] rfl rfl (fun _ => rfl) (fun v8 u8 h8 => ?_)
  obtain ⟨f8, fl8, fm8, fi8⟩ := u8
  dsimp only [patch, List.set, oAH, wRow, wTap, wClk, wAct, wDou, wRea, wAsk, wMod, List.cons_append, List.nil_append]
  have key := st_row hR h7 h8
  obtain ⟨k1, k2, k3⟩ := key
  subst k2
  refine v_icmp_eqT (tgt := 1156) X dL_law_198 (by decide) (k1) ?_
  refine v_iinc X dL_law_1156 rfl (by decide) rfl ?_
  dsimp only [List.set]
  refine v_goto (tgt := 18) X dL_law_1159 (by decide) ?_
  exact ih lf _ _ _ _ bt tln tk fm tt tf mk cn so tu sp mkd cnd sod tud spd mk1 cn1 so1 tu1 sp1 mk2 cn2 so2 tu2 sp2 hs ss ln wh sh mo fo ar rs rc pa0 trf trn lnm cum tkm sam tim ftm fpm lem lfm _ _ _ ff fw fk fe ⟨k3, hT, hb, hK, hA, hd, hB, hI1, hI2, hfk, hfe, hff, hTB⟩

set_option maxHeartbeats 4000000 in
set_option maxRecDepth 100000 in
theorem L_set {g : Gx} {x : Xt} {b L : Nat} {xs : Nat → Int32} {B A : Nat → Nat} {i : Int} {lf fi : Int} {it la le bt : Nat → Int} {tln tk fm tt tf mk cn : Int} {so tu sp : Nat → Int} {mkd cnd : Int} {sod tud spd : Nat → Int} {mk1 cn1 : Int} {so1 tu1 sp1 : Nat → Int} {mk2 cn2 : Int} {so2 tu2 sp2 hs ss : Nat → Int} {ln wh sh mo fo : Int} {ar rs : Nat → Int} {rc pa0 : Int} {trf : Nat → Int} {trn lnm cum tkm sam tim ftm fpm lem lfm : Int} {fl fmm fim ff fw fk fe : Nat → Int} (X : Xo g x wsL_law RL cL_law 4 room_1) (Z : Xs x b L xs) (hL : L ≤ 3584) (hi : 0 ≤ i ∧ i + 7 ≤ L) (hV : LInv it la le fl fmm fim tln bt mk cn so tu sp ln hs ss fw sod tud spd ar rs rc pa0 mk1 cn1 so1 tu1 sp1 mk2 cn2 so2 tu2 sp2 fk fe ff trf trn) (ih : LLoop g x b B A (i + 7)) : V g x 43 1681 ((oAH g B (lf) (fi) :: (wRow g (B 1) (B 11) (B 12) (B 13) it la le ++ (wTap g (B 2) (B 14) bt tln tk fm tt tf ++ (wClk g (B 3) (B 15) (B 16) (B 17) mk cn so tu sp ++ (wClk g (B 4) (B 18) (B 19) (B 20) mkd cnd sod tud spd ++ (wClk g (B 5) (B 21) (B 22) (B 23) mk1 cn1 so1 tu1 sp1 ++ (wClk g (B 6) (B 24) (B 25) (B 26) mk2 cn2 so2 tu2 sp2 ++ (wAct g (B 7) (B 27) (B 28) hs ss ln ++ (wDou g (B 8) wh sh mo fo ++ (wRea g (B 9) (B 29) (B 30) ar rs rc pa0 ++ (wAsk g (B 10) (B 31) (trf) (trn)))))))))))) ++ (wMod g A 0 fi ln tln lf lnm cum tkm sam tim ftm fpm lem lfm trn fl fmm fim (clkF mk cn so tu sp) ff fw bt fk fe trf)) [some (.ref b), some (.ref (B 0)), some (.ref (A 0)), some (.int (iI i))] 203 [] := by
  obtain ⟨hR, hT, hb, hK, hA, hd, hB, hI1, hI2, hfk, hfe, hff, hTB⟩ := hV
  obtain ⟨y1, ey1⟩ : ∃ y : Int, y = (xs (i + 1).toNat).toInt := ⟨_, rfl⟩
  have ry1 : R32 y1 := by rw [ey1]; exact iI_r _
  obtain ⟨y2, ey2⟩ : ∃ y : Int, y = (xs (i + 2).toNat).toInt := ⟨_, rfl⟩
  have ry2 : R32 y2 := by rw [ey2]; exact iI_r _
  obtain ⟨y3, ey3⟩ : ∃ y : Int, y = (xs (i + 3).toNat).toInt := ⟨_, rfl⟩
  have ry3 : R32 y3 := by rw [ey3]; exact iI_r _
  dsimp only [oAH, wRow, wTap, wClk, wAct, wDou, wRea, wAsk, wMod, List.cons_append, List.nil_append]
  refine v_aload_n X dL_law_203 rfl ?_
  refine v_aload_n X dL_law_204 rfl ?_
  refine v_iload_n X dL_law_205 rfl ?_
  refine v_iconst X dL_law_206 ?_
  refine v_iadd X dL_law_207 ?_
  refine v_sld X Z ey1 (by omega) (by omega) (by omega) dL_law_208 ?_
  refine v_aload_n X dL_law_209 rfl ?_
  refine v_iload_n X dL_law_210 rfl ?_
  refine v_iconst X dL_law_211 ?_
  refine v_iadd X dL_law_212 ?_
  refine v_sld X Z ey2 (by omega) (by omega) (by omega) dL_law_213 ?_
  refine v_aload_n X dL_law_214 rfl ?_
  refine v_iload_n X dL_law_215 rfl ?_
  refine v_iconst X dL_law_216 ?_
  refine v_iadd X dL_law_217 ?_
  refine v_sld X Z ey3 (by omega) (by omega) (by omega) dL_law_218 ?_
  refine res_I X (run_V X (c_X7_set (g := g) (hR.1) (hR.2.1) (hR.2.2.1) ry1 ry2 ry3) gL_law_X7_set rfl hdX7_set ⟨(Nat.le_of_ble_eq_true rfl), (Nat.le_of_ble_eq_true rfl)⟩ ⟨(Nat.le_of_ble_eq_true rfl), (Nat.le_of_ble_eq_true rfl)⟩ 0 rfl rfl rfl [0, 1, 2, 3, 4] rfl rfl rfl rfl (by simp [Value.category]) dL_law_219) [0, 1, 2, 3, 4] rfl rfl (fun _ => rfl) (fun v7 u7 h7 => ?_)
  obtain ⟨f7, it7⟩ := u7
  dsimp only [patch, List.set, oAH, wRow, wTap, wClk, wAct, wDou, wRea, wAsk, wMod, List.cons_append, List.nil_append]
  refine v_aload_n X dL_law_222 rfl ?_
  refine v_aload_n X dL_law_223 rfl ?_
  refine v_iload_n X dL_law_224 rfl ?_
  refine v_iconst X dL_law_225 ?_
  refine v_iadd X dL_law_226 ?_
  refine v_sld X Z ey1 (by omega) (by omega) (by omega) dL_law_227 ?_
  refine v_aload_n X dL_law_228 rfl ?_
  refine v_iload_n X dL_law_229 rfl ?_
  refine v_iconst X dL_law_230 ?_
  refine v_iadd X dL_law_231 ?_
  refine v_sld X Z ey2 (by omega) (by omega) (by omega) dL_law_232 ?_
  refine v_aload_n X dL_law_233 rfl ?_
  refine v_iload_n X dL_law_234 rfl ?_
  refine v_iconst X dL_law_235 ?_
  refine v_iadd X dL_law_236 ?_
  refine v_sld X Z ey3 (by omega) (by omega) (by omega) dL_law_237 ?_
  refine res_I X (run_V X (c_X8_set (g := g) (hR.2.2.2.1) (hR.2.2.2.2.1) (hR.2.2.2.2.2.1) ry1 ry2 ry3) gL_law_X8_set rfl hdX8_set ⟨(Nat.le_of_ble_eq_true rfl), (Nat.le_of_ble_eq_true rfl)⟩ ⟨(Nat.le_of_ble_eq_true rfl), (Nat.le_of_ble_eq_true rfl)⟩ 32 rfl rfl rfl [32, 33, 34, 35, 36, 37, 38, 39, 40, 41, 42] rfl rfl rfl rfl (by simp [Value.category]) dL_law_238) [32, 33, 34, 35, 36, 37, 38, 39, 40, 41, 42] rfl rfl (fun _ => rfl) (fun v8 u8 h8 => ?_)
  obtain ⟨f8, fi8⟩ := u8
  dsimp only [patch, List.set, oAH, wRow, wTap, wClk, wAct, wDou, wRea, wAsk, wMod, List.cons_append, List.nil_append]
  have key := st_set hR ry3 h7 h8
  obtain ⟨k1, k2, k3⟩ := key
  subst k2
  refine v_icmp_eqT (tgt := 1156) X dL_law_241 (by decide) (k1) ?_
  refine v_iinc X dL_law_1156 rfl (by decide) rfl ?_
  dsimp only [List.set]
  refine v_goto (tgt := 18) X dL_law_1159 (by decide) ?_
  exact ih lf _ _ la le bt tln tk fm tt tf mk cn so tu sp mkd cnd sod tud spd mk1 cn1 so1 tu1 sp1 mk2 cn2 so2 tu2 sp2 hs ss ln wh sh mo fo ar rs rc pa0 trf trn lnm cum tkm sam tim ftm fpm lem lfm fl fmm _ ff fw fk fe ⟨k3, hT, hb, hK, hA, hd, hB, hI1, hI2, hfk, hfe, hff, hTB⟩

set_option maxHeartbeats 4000000 in
set_option maxRecDepth 100000 in
theorem L_copy {g : Gx} {x : Xt} {b L : Nat} {xs : Nat → Int32} {B A : Nat → Nat} {i : Int} {lf fi : Int} {it la le bt : Nat → Int} {tln tk fm tt tf mk cn : Int} {so tu sp : Nat → Int} {mkd cnd : Int} {sod tud spd : Nat → Int} {mk1 cn1 : Int} {so1 tu1 sp1 : Nat → Int} {mk2 cn2 : Int} {so2 tu2 sp2 hs ss : Nat → Int} {ln wh sh mo fo : Int} {ar rs : Nat → Int} {rc pa0 : Int} {trf : Nat → Int} {trn lnm cum tkm sam tim ftm fpm lem lfm : Int} {fl fmm fim ff fw fk fe : Nat → Int} (X : Xo g x wsL_law RL cL_law 4 room_1) (Z : Xs x b L xs) (hL : L ≤ 3584) (hi : 0 ≤ i ∧ i + 7 ≤ L) (hV : LInv it la le fl fmm fim tln bt mk cn so tu sp ln hs ss fw sod tud spd ar rs rc pa0 mk1 cn1 so1 tu1 sp1 mk2 cn2 so2 tu2 sp2 fk fe ff trf trn) (ih : LLoop g x b B A (i + 7)) : V g x 43 1681 ((oAH g B (lf) (fi) :: (wRow g (B 1) (B 11) (B 12) (B 13) it la le ++ (wTap g (B 2) (B 14) bt tln tk fm tt tf ++ (wClk g (B 3) (B 15) (B 16) (B 17) mk cn so tu sp ++ (wClk g (B 4) (B 18) (B 19) (B 20) mkd cnd sod tud spd ++ (wClk g (B 5) (B 21) (B 22) (B 23) mk1 cn1 so1 tu1 sp1 ++ (wClk g (B 6) (B 24) (B 25) (B 26) mk2 cn2 so2 tu2 sp2 ++ (wAct g (B 7) (B 27) (B 28) hs ss ln ++ (wDou g (B 8) wh sh mo fo ++ (wRea g (B 9) (B 29) (B 30) ar rs rc pa0 ++ (wAsk g (B 10) (B 31) (trf) (trn)))))))))))) ++ (wMod g A 0 fi ln tln lf lnm cum tkm sam tim ftm fpm lem lfm trn fl fmm fim (clkF mk cn so tu sp) ff fw bt fk fe trf)) [some (.ref b), some (.ref (B 0)), some (.ref (A 0)), some (.int (iI i))] 246 [] := by
  obtain ⟨hR, hT, hb, hK, hA, hd, hB, hI1, hI2, hfk, hfe, hff, hTB⟩ := hV
  obtain ⟨y1, ey1⟩ : ∃ y : Int, y = (xs (i + 1).toNat).toInt := ⟨_, rfl⟩
  have ry1 : R32 y1 := by rw [ey1]; exact iI_r _
  obtain ⟨y2, ey2⟩ : ∃ y : Int, y = (xs (i + 2).toNat).toInt := ⟨_, rfl⟩
  have ry2 : R32 y2 := by rw [ey2]; exact iI_r _
  obtain ⟨y3, ey3⟩ : ∃ y : Int, y = (xs (i + 3).toNat).toInt := ⟨_, rfl⟩
  have ry3 : R32 y3 := by rw [ey3]; exact iI_r _
  obtain ⟨y4, ey4⟩ : ∃ y : Int, y = (xs (i + 4).toNat).toInt := ⟨_, rfl⟩
  have ry4 : R32 y4 := by rw [ey4]; exact iI_r _
  obtain ⟨y5, ey5⟩ : ∃ y : Int, y = (xs (i + 5).toNat).toInt := ⟨_, rfl⟩
  have ry5 : R32 y5 := by rw [ey5]; exact iI_r _
  dsimp only [oAH, wRow, wTap, wClk, wAct, wDou, wRea, wAsk, wMod, List.cons_append, List.nil_append]
  refine v_aload_n X dL_law_246 rfl ?_
  refine v_aload_n X dL_law_247 rfl ?_
  refine v_iload_n X dL_law_248 rfl ?_
  refine v_iconst X dL_law_249 ?_
  refine v_iadd X dL_law_250 ?_
  refine v_sld X Z ey1 (by omega) (by omega) (by omega) dL_law_251 ?_
  refine v_aload_n X dL_law_252 rfl ?_
  refine v_iload_n X dL_law_253 rfl ?_
  refine v_iconst X dL_law_254 ?_
  refine v_iadd X dL_law_255 ?_
  refine v_sld X Z ey2 (by omega) (by omega) (by omega) dL_law_256 ?_
  refine v_aload_n X dL_law_257 rfl ?_
  refine v_iload_n X dL_law_258 rfl ?_
  refine v_iconst X dL_law_259 ?_
  refine v_iadd X dL_law_260 ?_
  refine v_sld X Z ey3 (by omega) (by omega) (by omega) dL_law_261 ?_
  refine v_aload_n X dL_law_262 rfl ?_
  refine v_iload_n X dL_law_263 rfl ?_
  refine v_iconst X dL_law_264 ?_
  refine v_iadd X dL_law_265 ?_
  refine v_sld X Z ey4 (by omega) (by omega) (by omega) dL_law_266 ?_
  refine v_aload_n X dL_law_267 rfl ?_
  refine v_iload_n X dL_law_268 rfl ?_
  refine v_iconst X dL_law_269 ?_
  refine v_iadd X dL_law_270 ?_
  refine v_sld X Z ey5 (by omega) (by omega) (by omega) dL_law_271 ?_
  refine res_I X (run_V X (c_X7_copy (g := g) (hR.1) (hR.2.1) (hR.2.2.1) ry1 ry2 ry3 ry4 ry5) gL_law_X7_copy rfl hdX7_copy ⟨(Nat.le_of_ble_eq_true rfl), (Nat.le_of_ble_eq_true rfl)⟩ ⟨(Nat.le_of_ble_eq_true rfl), (Nat.le_of_ble_eq_true rfl)⟩ 0 rfl rfl rfl [0, 1, 2, 3, 4] rfl rfl rfl rfl (by simp [Value.category]) dL_law_272) [0, 1, 2, 3, 4] rfl rfl (fun _ => rfl) (fun v7 u7 h7 => ?_)
  obtain ⟨f7, it7⟩ := u7
  dsimp only [patch, List.set, oAH, wRow, wTap, wClk, wAct, wDou, wRea, wAsk, wMod, List.cons_append, List.nil_append]
  refine v_aload_n X dL_law_275 rfl ?_
  refine v_aload_n X dL_law_276 rfl ?_
  refine v_iload_n X dL_law_277 rfl ?_
  refine v_iconst X dL_law_278 ?_
  refine v_iadd X dL_law_279 ?_
  refine v_sld X Z ey1 (by omega) (by omega) (by omega) dL_law_280 ?_
  refine v_aload_n X dL_law_281 rfl ?_
  refine v_iload_n X dL_law_282 rfl ?_
  refine v_iconst X dL_law_283 ?_
  refine v_iadd X dL_law_284 ?_
  refine v_sld X Z ey2 (by omega) (by omega) (by omega) dL_law_285 ?_
  refine v_aload_n X dL_law_286 rfl ?_
  refine v_iload_n X dL_law_287 rfl ?_
  refine v_iconst X dL_law_288 ?_
  refine v_iadd X dL_law_289 ?_
  refine v_sld X Z ey3 (by omega) (by omega) (by omega) dL_law_290 ?_
  refine v_aload_n X dL_law_291 rfl ?_
  refine v_iload_n X dL_law_292 rfl ?_
  refine v_iconst X dL_law_293 ?_
  refine v_iadd X dL_law_294 ?_
  refine v_sld X Z ey4 (by omega) (by omega) (by omega) dL_law_295 ?_
  refine v_aload_n X dL_law_296 rfl ?_
  refine v_iload_n X dL_law_297 rfl ?_
  refine v_iconst X dL_law_298 ?_
  refine v_iadd X dL_law_299 ?_
  refine v_sld X Z ey5 (by omega) (by omega) (by omega) dL_law_300 ?_
  refine res_I X (run_V X (c_X8_copy (g := g) (hR.2.2.2.1) (hR.2.2.2.2.1) (hR.2.2.2.2.2.1) ry1 ry2 ry3 ry4 ry5) gL_law_X8_copy rfl hdX8_copy ⟨(Nat.le_of_ble_eq_true rfl), (Nat.le_of_ble_eq_true rfl)⟩ ⟨(Nat.le_of_ble_eq_true rfl), (Nat.le_of_ble_eq_true rfl)⟩ 32 rfl rfl rfl [32, 33, 34, 35, 36, 37, 38, 39, 40, 41, 42] rfl rfl rfl rfl (by simp [Value.category]) dL_law_301) [32, 33, 34, 35, 36, 37, 38, 39, 40, 41, 42] rfl rfl (fun _ => rfl) (fun v8 u8 h8 => ?_)
  obtain ⟨f8, fi8⟩ := u8
  dsimp only [patch, List.set, oAH, wRow, wTap, wClk, wAct, wDou, wRea, wAsk, wMod, List.cons_append, List.nil_append]
  have key := st_copy hR h7 h8
  obtain ⟨k1, k2, k3⟩ := key
  subst k2
  refine v_icmp_eqT (tgt := 1156) X dL_law_304 (by decide) (k1) ?_
  refine v_iinc X dL_law_1156 rfl (by decide) rfl ?_
  dsimp only [List.set]
  refine v_goto (tgt := 18) X dL_law_1159 (by decide) ?_
  exact ih lf _ _ la le bt tln tk fm tt tf mk cn so tu sp mkd cnd sod tud spd mk1 cn1 so1 tu1 sp1 mk2 cn2 so2 tu2 sp2 hs ss ln wh sh mo fo ar rs rc pa0 trf trn lnm cum tkm sam tim ftm fpm lem lfm fl fmm _ ff fw fk fe ⟨k3, hT, hb, hK, hA, hd, hB, hI1, hI2, hfk, hfe, hff, hTB⟩

set_option maxHeartbeats 4000000 in
set_option maxRecDepth 100000 in
theorem L_drop {g : Gx} {x : Xt} {b L : Nat} {xs : Nat → Int32} {B A : Nat → Nat} {i : Int} {lf fi : Int} {it la le bt : Nat → Int} {tln tk fm tt tf mk cn : Int} {so tu sp : Nat → Int} {mkd cnd : Int} {sod tud spd : Nat → Int} {mk1 cn1 : Int} {so1 tu1 sp1 : Nat → Int} {mk2 cn2 : Int} {so2 tu2 sp2 hs ss : Nat → Int} {ln wh sh mo fo : Int} {ar rs : Nat → Int} {rc pa0 : Int} {trf : Nat → Int} {trn lnm cum tkm sam tim ftm fpm lem lfm : Int} {fl fmm fim ff fw fk fe : Nat → Int} (X : Xo g x wsL_law RL cL_law 4 room_1) (Z : Xs x b L xs) (hL : L ≤ 3584) (hi : 0 ≤ i ∧ i + 7 ≤ L) (hV : LInv it la le fl fmm fim tln bt mk cn so tu sp ln hs ss fw sod tud spd ar rs rc pa0 mk1 cn1 so1 tu1 sp1 mk2 cn2 so2 tu2 sp2 fk fe ff trf trn) (ih : LLoop g x b B A (i + 7)) : V g x 43 1681 ((oAH g B (lf) (fi) :: (wRow g (B 1) (B 11) (B 12) (B 13) it la le ++ (wTap g (B 2) (B 14) bt tln tk fm tt tf ++ (wClk g (B 3) (B 15) (B 16) (B 17) mk cn so tu sp ++ (wClk g (B 4) (B 18) (B 19) (B 20) mkd cnd sod tud spd ++ (wClk g (B 5) (B 21) (B 22) (B 23) mk1 cn1 so1 tu1 sp1 ++ (wClk g (B 6) (B 24) (B 25) (B 26) mk2 cn2 so2 tu2 sp2 ++ (wAct g (B 7) (B 27) (B 28) hs ss ln ++ (wDou g (B 8) wh sh mo fo ++ (wRea g (B 9) (B 29) (B 30) ar rs rc pa0 ++ (wAsk g (B 10) (B 31) (trf) (trn)))))))))))) ++ (wMod g A 0 fi ln tln lf lnm cum tkm sam tim ftm fpm lem lfm trn fl fmm fim (clkF mk cn so tu sp) ff fw bt fk fe trf)) [some (.ref b), some (.ref (B 0)), some (.ref (A 0)), some (.int (iI i))] 309 [] := by
  obtain ⟨hR, hT, hb, hK, hA, hd, hB, hI1, hI2, hfk, hfe, hff, hTB⟩ := hV
  obtain ⟨y1, ey1⟩ : ∃ y : Int, y = (xs (i + 1).toNat).toInt := ⟨_, rfl⟩
  have ry1 : R32 y1 := by rw [ey1]; exact iI_r _
  dsimp only [oAH, wRow, wTap, wClk, wAct, wDou, wRea, wAsk, wMod, List.cons_append, List.nil_append]
  refine v_aload_n X dL_law_309 rfl ?_
  refine v_aload_n X dL_law_310 rfl ?_
  refine v_iload_n X dL_law_311 rfl ?_
  refine v_iconst X dL_law_312 ?_
  refine v_iadd X dL_law_313 ?_
  refine v_sld X Z ey1 (by omega) (by omega) (by omega) dL_law_314 ?_
  refine res_I X (run_V X (c_X7_drop (g := g) (hR.1) (hR.2.1) (hR.2.2.1) ry1) gL_law_X7_drop rfl hdX7_drop ⟨(Nat.le_of_ble_eq_true rfl), (Nat.le_of_ble_eq_true rfl)⟩ ⟨(Nat.le_of_ble_eq_true rfl), (Nat.le_of_ble_eq_true rfl)⟩ 0 rfl rfl rfl [0, 1, 2, 3, 4] rfl rfl rfl rfl (by simp [Value.category]) dL_law_315) [0, 1, 2, 3, 4] rfl rfl (fun _ => rfl) (fun v7 u7 h7 => ?_)
  obtain ⟨f7, la7, le7⟩ := u7
  dsimp only [patch, List.set, oAH, wRow, wTap, wClk, wAct, wDou, wRea, wAsk, wMod, List.cons_append, List.nil_append]
  refine v_aload_n X dL_law_318 rfl ?_
  refine v_aload_n X dL_law_319 rfl ?_
  refine v_iload_n X dL_law_320 rfl ?_
  refine v_iconst X dL_law_321 ?_
  refine v_iadd X dL_law_322 ?_
  refine v_sld X Z ey1 (by omega) (by omega) (by omega) dL_law_323 ?_
  refine res_I X (run_V X (c_X8_drop (g := g) (hR.2.2.2.1) (hR.2.2.2.2.1) (hR.2.2.2.2.2.1) ry1) gL_law_X8_drop rfl hdX8_drop ⟨(Nat.le_of_ble_eq_true rfl), (Nat.le_of_ble_eq_true rfl)⟩ ⟨(Nat.le_of_ble_eq_true rfl), (Nat.le_of_ble_eq_true rfl)⟩ 32 rfl rfl rfl [32, 33, 34, 35, 36, 37, 38, 39, 40, 41, 42] rfl rfl rfl rfl (by simp [Value.category]) dL_law_324) [32, 33, 34, 35, 36, 37, 38, 39, 40, 41, 42] rfl rfl (fun _ => rfl) (fun v8 u8 h8 => ?_)
  obtain ⟨f8, fl8⟩ := u8
  dsimp only [patch, List.set, oAH, wRow, wTap, wClk, wAct, wDou, wRea, wAsk, wMod, List.cons_append, List.nil_append]
  have key := st_drop hR h7 h8
  obtain ⟨k1, k2, k3⟩ := key
  subst k2
  refine v_icmp_eqT (tgt := 1156) X dL_law_327 (by decide) (k1) ?_
  refine v_iinc X dL_law_1156 rfl (by decide) rfl ?_
  dsimp only [List.set]
  refine v_goto (tgt := 18) X dL_law_1159 (by decide) ?_
  exact ih lf _ it _ _ bt tln tk fm tt tf mk cn so tu sp mkd cnd sod tud spd mk1 cn1 so1 tu1 sp1 mk2 cn2 so2 tu2 sp2 hs ss ln wh sh mo fo ar rs rc pa0 trf trn lnm cum tkm sam tim ftm fpm lem lfm _ fmm fim ff fw fk fe ⟨k3, hT, hb, hK, hA, hd, hB, hI1, hI2, hfk, hfe, hff, hTB⟩

set_option maxHeartbeats 4000000 in
set_option maxRecDepth 100000 in
theorem L_feed {g : Gx} {x : Xt} {b L : Nat} {xs : Nat → Int32} {B A : Nat → Nat} {i : Int} {lf fi : Int} {it la le bt : Nat → Int} {tln tk fm tt tf mk cn : Int} {so tu sp : Nat → Int} {mkd cnd : Int} {sod tud spd : Nat → Int} {mk1 cn1 : Int} {so1 tu1 sp1 : Nat → Int} {mk2 cn2 : Int} {so2 tu2 sp2 hs ss : Nat → Int} {ln wh sh mo fo : Int} {ar rs : Nat → Int} {rc pa0 : Int} {trf : Nat → Int} {trn lnm cum tkm sam tim ftm fpm lem lfm : Int} {fl fmm fim ff fw fk fe : Nat → Int} (X : Xo g x wsL_law RL cL_law 4 room_1) (Z : Xs x b L xs) (hL : L ≤ 3584) (hi : 0 ≤ i ∧ i + 7 ≤ L) (hV : LInv it la le fl fmm fim tln bt mk cn so tu sp ln hs ss fw sod tud spd ar rs rc pa0 mk1 cn1 so1 tu1 sp1 mk2 cn2 so2 tu2 sp2 fk fe ff trf trn) (ih : LLoop g x b B A (i + 7)) : V g x 43 1681 ((oAH g B (lf) (fi) :: (wRow g (B 1) (B 11) (B 12) (B 13) it la le ++ (wTap g (B 2) (B 14) bt tln tk fm tt tf ++ (wClk g (B 3) (B 15) (B 16) (B 17) mk cn so tu sp ++ (wClk g (B 4) (B 18) (B 19) (B 20) mkd cnd sod tud spd ++ (wClk g (B 5) (B 21) (B 22) (B 23) mk1 cn1 so1 tu1 sp1 ++ (wClk g (B 6) (B 24) (B 25) (B 26) mk2 cn2 so2 tu2 sp2 ++ (wAct g (B 7) (B 27) (B 28) hs ss ln ++ (wDou g (B 8) wh sh mo fo ++ (wRea g (B 9) (B 29) (B 30) ar rs rc pa0 ++ (wAsk g (B 10) (B 31) (trf) (trn)))))))))))) ++ (wMod g A 0 fi ln tln lf lnm cum tkm sam tim ftm fpm lem lfm trn fl fmm fim (clkF mk cn so tu sp) ff fw bt fk fe trf)) [some (.ref b), some (.ref (B 0)), some (.ref (A 0)), some (.int (iI i))] 332 [] := by
  obtain ⟨hR, hT, hb, hK, hA, hd, hB, hI1, hI2, hfk, hfe, hff, hTB⟩ := hV
  obtain ⟨y1, ey1⟩ : ∃ y : Int, y = (xs (i + 1).toNat).toInt := ⟨_, rfl⟩
  have ry1 : R32 y1 := by rw [ey1]; exact iI_r _
  obtain ⟨y2, ey2⟩ : ∃ y : Int, y = (xs (i + 2).toNat).toInt := ⟨_, rfl⟩
  have ry2 : R32 y2 := by rw [ey2]; exact iI_r _
  obtain ⟨y3, ey3⟩ : ∃ y : Int, y = (xs (i + 3).toNat).toInt := ⟨_, rfl⟩
  have ry3 : R32 y3 := by rw [ey3]; exact iI_r _
  dsimp only [oAH, wRow, wTap, wClk, wAct, wDou, wRea, wAsk, wMod, List.cons_append, List.nil_append]
  refine v_aload_n X dL_law_332 rfl ?_
  refine v_aload_n X dL_law_333 rfl ?_
  refine v_iload_n X dL_law_334 rfl ?_
  refine v_iconst X dL_law_335 ?_
  refine v_iadd X dL_law_336 ?_
  refine v_sld X Z ey1 (by omega) (by omega) (by omega) dL_law_337 ?_
  refine v_i2l X dL_law_338 ry1 ?_
  refine v_bipush X dL_law_339 (by decide) ?_
  refine v_lshl X dL_law_341 ?_
  refine v_aload_n X dL_law_342 rfl ?_
  refine v_iload_n X dL_law_343 rfl ?_
  refine v_iconst X dL_law_344 ?_
  refine v_iadd X dL_law_345 ?_
  refine v_sld X Z ey2 (by omega) (by omega) (by omega) dL_law_346 ?_
  refine v_i2l X dL_law_347 ry2 ?_
  refine v_ldc2 X (List.mem_of_getElem? (i := 6) rfl) dL_law_348 (n := 4294967295) (by decide) ?_
  refine v_land X dL_law_351 ?_
  refine v_lor X dL_law_352 ?_
  refine v_aload_n X dL_law_353 rfl ?_
  refine v_iload_n X dL_law_354 rfl ?_
  refine v_iconst X dL_law_355 ?_
  refine v_iadd X dL_law_356 ?_
  refine v_sld X Z ey3 (by omega) (by omega) (by omega) dL_law_357 ?_
  refine res_I X (run_V X (c_X7_feed (g := g) (hb) (hT) ry3) gL_law_X7_feed rfl hdX7_feed ⟨(Nat.le_of_ble_eq_true rfl), (Nat.le_of_ble_eq_true rfl)⟩ ⟨(Nat.le_of_ble_eq_true rfl), (Nat.le_of_ble_eq_true rfl)⟩ 0 rfl rfl rfl [0, 5, 6] rfl rfl rfl rfl (by simp [Value.category]) dL_law_358) [0, 5, 6] rfl rfl (fun _ => rfl) (fun v7 u7 h7 => ?_)
  obtain ⟨b7, l7⟩ := u7
  dsimp only [patch, List.set, oAH, wRow, wTap, wClk, wAct, wDou, wRea, wAsk, wMod, List.cons_append, List.nil_append]
  refine v_aload_n X dL_law_361 rfl ?_
  refine v_aload_n X dL_law_362 rfl ?_
  refine v_iload_n X dL_law_363 rfl ?_
  refine v_iconst X dL_law_364 ?_
  refine v_iadd X dL_law_365 ?_
  refine v_sld X Z ey1 (by omega) (by omega) (by omega) dL_law_366 ?_
  refine v_i2l X dL_law_367 ry1 ?_
  refine v_bipush X dL_law_368 (by decide) ?_
  refine v_lshl X dL_law_370 ?_
  refine v_aload_n X dL_law_371 rfl ?_
  refine v_iload_n X dL_law_372 rfl ?_
  refine v_iconst X dL_law_373 ?_
  refine v_iadd X dL_law_374 ?_
  refine v_sld X Z ey2 (by omega) (by omega) (by omega) dL_law_375 ?_
  refine v_i2l X dL_law_376 ry2 ?_
  refine v_ldc2 X (List.mem_of_getElem? (i := 6) rfl) dL_law_377 (n := 4294967295) (by decide) ?_
  refine v_land X dL_law_380 ?_
  refine v_lor X dL_law_381 ?_
  refine v_aload_n X dL_law_382 rfl ?_
  refine v_iload_n X dL_law_383 rfl ?_
  refine v_iconst X dL_law_384 ?_
  refine v_iadd X dL_law_385 ?_
  refine v_sld X Z ey3 (by omega) (by omega) (by omega) dL_law_386 ?_
  refine res_I X (run_V X (c_X8_feed (g := g) (hb) (hT) ry3) gL_law_X8_feed rfl hdX8_feed ⟨(Nat.le_of_ble_eq_true rfl), (Nat.le_of_ble_eq_true rfl)⟩ ⟨(Nat.le_of_ble_eq_true rfl), (Nat.le_of_ble_eq_true rfl)⟩ 32 rfl rfl rfl [32, 33, 34, 35, 36, 37, 38, 39, 40, 41, 42] rfl rfl rfl rfl (by simp [Value.category]) dL_law_387) [32, 33, 34, 35, 36, 37, 38, 39, 40, 41, 42] rfl rfl (fun _ => rfl) (fun v8 u8 h8 => ?_)
  obtain ⟨b8, l8⟩ := u8
  dsimp only [patch, List.set, oAH, wRow, wTap, wClk, wAct, wDou, wRea, wAsk, wMod, List.cons_append, List.nil_append]
  have key := st_feed hb hT h7 h8
  obtain ⟨k1, k2, k3, k4, k5⟩ := key
  subst k2
  subst k3
  refine v_icmp_eqT (tgt := 1156) X dL_law_390 (by decide) (k1) ?_
  refine v_iinc X dL_law_1156 rfl (by decide) rfl ?_
  dsimp only [List.set]
  refine v_goto (tgt := 18) X dL_law_1159 (by decide) ?_
  exact ih lf fi it la le _ _ tk fm tt tf mk cn so tu sp mkd cnd sod tud spd mk1 cn1 so1 tu1 sp1 mk2 cn2 so2 tu2 sp2 hs ss ln wh sh mo fo ar rs rc pa0 trf trn lnm cum tkm sam tim ftm fpm lem lfm fl fmm fim ff fw fk fe ⟨hR, k5, k4, hK, hA, hd, hB, hI1, hI2, hfk, hfe, hff, hTB⟩

set_option maxHeartbeats 4000000 in
set_option maxRecDepth 100000 in
theorem L_clock {g : Gx} {x : Xt} {b L : Nat} {xs : Nat → Int32} {B A : Nat → Nat} {i : Int} {lf fi : Int} {it la le bt : Nat → Int} {tln tk fm tt tf mk cn : Int} {so tu sp : Nat → Int} {mkd cnd : Int} {sod tud spd : Nat → Int} {mk1 cn1 : Int} {so1 tu1 sp1 : Nat → Int} {mk2 cn2 : Int} {so2 tu2 sp2 hs ss : Nat → Int} {ln wh sh mo fo : Int} {ar rs : Nat → Int} {rc pa0 : Int} {trf : Nat → Int} {trn lnm cum tkm sam tim ftm fpm lem lfm : Int} {fl fmm fim ff fw fk fe : Nat → Int} (X : Xo g x wsL_law RL cL_law 4 room_1) (Z : Xs x b L xs) (hL : L ≤ 3584) (hi : 0 ≤ i ∧ i + 7 ≤ L) (hV : LInv it la le fl fmm fim tln bt mk cn so tu sp ln hs ss fw sod tud spd ar rs rc pa0 mk1 cn1 so1 tu1 sp1 mk2 cn2 so2 tu2 sp2 fk fe ff trf trn) (ih : LLoop g x b B A (i + 7)) : V g x 43 1681 ((oAH g B (lf) (fi) :: (wRow g (B 1) (B 11) (B 12) (B 13) it la le ++ (wTap g (B 2) (B 14) bt tln tk fm tt tf ++ (wClk g (B 3) (B 15) (B 16) (B 17) mk cn so tu sp ++ (wClk g (B 4) (B 18) (B 19) (B 20) mkd cnd sod tud spd ++ (wClk g (B 5) (B 21) (B 22) (B 23) mk1 cn1 so1 tu1 sp1 ++ (wClk g (B 6) (B 24) (B 25) (B 26) mk2 cn2 so2 tu2 sp2 ++ (wAct g (B 7) (B 27) (B 28) hs ss ln ++ (wDou g (B 8) wh sh mo fo ++ (wRea g (B 9) (B 29) (B 30) ar rs rc pa0 ++ (wAsk g (B 10) (B 31) (trf) (trn)))))))))))) ++ (wMod g A 0 fi ln tln lf lnm cum tkm sam tim ftm fpm lem lfm trn fl fmm fim (clkF mk cn so tu sp) ff fw bt fk fe trf)) [some (.ref b), some (.ref (B 0)), some (.ref (A 0)), some (.int (iI i))] 395 [] := by
  obtain ⟨hR, hT, hb, hK, hA, hd, hB, hI1, hI2, hfk, hfe, hff, hTB⟩ := hV
  dsimp only [oAH, wRow, wTap, wClk, wAct, wDou, wRea, wAsk, wMod, List.cons_append, List.nil_append]
  refine v_aload_n X dL_law_395 rfl ?_
  refine res_I X (run_V X (c_X7_clock (g := g) (hb) (hT) (hK.c4) (hK.m60) (hK.2.1) (hK.2.2.1) (hK.2.2.2.1) (hd.1) (hd.2.1) (hd.2.2)) gL_law_X7_clock rfl hdX7_clock ⟨(Nat.le_of_ble_eq_true rfl), (Nat.le_of_ble_eq_true rfl)⟩ ⟨(Nat.le_of_ble_eq_true rfl), (Nat.le_of_ble_eq_true rfl)⟩ 0 rfl rfl rfl [0, 5, 6, 7, 8, 9, 10, 11, 12, 13, 14, 23, 24, 25] rfl rfl rfl rfl (by simp [Value.category]) dL_law_396) [0, 5, 6, 7, 8, 9, 10, 11, 12, 13, 14, 23, 24, 25] rfl rfl (fun _ => rfl) (fun v7 u7 h7 => ?_)
  obtain ⟨l7, m7, c7, s7, t7, p7, n7⟩ := u7
  dsimp only [patch, List.set, oAH, wRow, wTap, wClk, wAct, wDou, wRea, wAsk, wMod, List.cons_append, List.nil_append]
  refine v_aload_n X dL_law_399 rfl ?_
  refine res_I X (run_V X (c_X8_clock (g := g) (hb) (hT) (hff) (clkF_bd hK)) gL_law_X8_clock rfl hdX8_clock ⟨(Nat.le_of_ble_eq_true rfl), (Nat.le_of_ble_eq_true rfl)⟩ ⟨(Nat.le_of_ble_eq_true rfl), (Nat.le_of_ble_eq_true rfl)⟩ 32 rfl rfl rfl [32, 33, 34, 35, 36, 37, 38, 39, 40, 41, 42] rfl rfl rfl rfl (by simp [Value.category]) dL_law_400) [32, 33, 34, 35, 36, 37, 38, 39, 40, 41, 42] rfl rfl (fun _ => rfl) (fun v8 u8 h8 => ?_)
  obtain ⟨t8, a8, fc8, ff8, cu8, tk8, sa8, ti8, ft8, fp8⟩ := u8
  dsimp only [patch, List.set, oAH, wRow, wTap, wClk, wAct, wDou, wRea, wAsk, wMod, List.cons_append, List.nil_append]
  have key := st_clock hT hK hA hd hff h7 h8
  obtain ⟨k1, k2, k3, k4, k5, k6, k7, k8⟩ := key
  subst k2
  subst k3
  subst k4
  refine v_icmp_eqT (tgt := 1156) X dL_law_403 (by decide) (k1) ?_
  refine v_iinc X dL_law_1156 rfl (by decide) rfl ?_
  dsimp only [List.set]
  refine v_goto (tgt := 18) X dL_law_1159 (by decide) ?_
  exact ih _ fi it la le bt _ _ _ _ _ _ _ _ _ _ _ _ _ _ _ mk1 cn1 so1 tu1 sp1 mk2 cn2 so2 tu2 sp2 hs ss _ wh sh mo fo ar rs rc pa0 trf trn _ _ _ _ _ _ _ lem lfm fl fmm fim _ fw fk fe ⟨hR, ⟨Int.le_refl _, (by decide : (0 : Int) ≤ 200)⟩, hb, k5, k6, k7, hB, hI1, hI2, hfk, hfe, k8, hTB⟩

set_option maxHeartbeats 4000000 in
set_option maxRecDepth 100000 in
theorem L_fault {g : Gx} {x : Xt} {b L : Nat} {xs : Nat → Int32} {B A : Nat → Nat} {i : Int} {lf fi : Int} {it la le bt : Nat → Int} {tln tk fm tt tf mk cn : Int} {so tu sp : Nat → Int} {mkd cnd : Int} {sod tud spd : Nat → Int} {mk1 cn1 : Int} {so1 tu1 sp1 : Nat → Int} {mk2 cn2 : Int} {so2 tu2 sp2 hs ss : Nat → Int} {ln wh sh mo fo : Int} {ar rs : Nat → Int} {rc pa0 : Int} {trf : Nat → Int} {trn lnm cum tkm sam tim ftm fpm lem lfm : Int} {fl fmm fim ff fw fk fe : Nat → Int} (X : Xo g x wsL_law RL cL_law 4 room_1) (Z : Xs x b L xs) (hL : L ≤ 3584) (hi : 0 ≤ i ∧ i + 7 ≤ L) (hV : LInv it la le fl fmm fim tln bt mk cn so tu sp ln hs ss fw sod tud spd ar rs rc pa0 mk1 cn1 so1 tu1 sp1 mk2 cn2 so2 tu2 sp2 fk fe ff trf trn) (ih : LLoop g x b B A (i + 7)) : V g x 43 1681 ((oAH g B (lf) (fi) :: (wRow g (B 1) (B 11) (B 12) (B 13) it la le ++ (wTap g (B 2) (B 14) bt tln tk fm tt tf ++ (wClk g (B 3) (B 15) (B 16) (B 17) mk cn so tu sp ++ (wClk g (B 4) (B 18) (B 19) (B 20) mkd cnd sod tud spd ++ (wClk g (B 5) (B 21) (B 22) (B 23) mk1 cn1 so1 tu1 sp1 ++ (wClk g (B 6) (B 24) (B 25) (B 26) mk2 cn2 so2 tu2 sp2 ++ (wAct g (B 7) (B 27) (B 28) hs ss ln ++ (wDou g (B 8) wh sh mo fo ++ (wRea g (B 9) (B 29) (B 30) ar rs rc pa0 ++ (wAsk g (B 10) (B 31) (trf) (trn)))))))))))) ++ (wMod g A 0 fi ln tln lf lnm cum tkm sam tim ftm fpm lem lfm trn fl fmm fim (clkF mk cn so tu sp) ff fw bt fk fe trf)) [some (.ref b), some (.ref (B 0)), some (.ref (A 0)), some (.int (iI i))] 408 [] := by
  obtain ⟨hR, hT, hb, hK, hA, hd, hB, hI1, hI2, hfk, hfe, hff, hTB⟩ := hV
  dsimp only [oAH, wRow, wTap, wClk, wAct, wDou, wRea, wAsk, wMod, List.cons_append, List.nil_append]
  refine v_aload_n X dL_law_408 rfl ?_
  refine res_E X (run_V X (c_X7_fault (g := g) ) gL_law_X7_fault rfl hdX7_fault ⟨(Nat.le_of_ble_eq_true rfl), (Nat.le_of_ble_eq_true rfl)⟩ ⟨(Nat.le_of_ble_eq_true rfl), (Nat.le_of_ble_eq_true rfl)⟩ 0 rfl rfl rfl [0] rfl rfl rfl rfl (by simp [Value.category]) dL_law_409) [0] rfl rfl ?_
  refine v_aload_n X dL_law_412 rfl ?_
  refine res_F X (run_V X (c_X8_fault (g := g) ) gL_law_X8_fault rfl hdX8_fault ⟨(Nat.le_of_ble_eq_true rfl), (Nat.le_of_ble_eq_true rfl)⟩ ⟨(Nat.le_of_ble_eq_true rfl), (Nat.le_of_ble_eq_true rfl)⟩ 32 rfl rfl rfl [32, 33, 34, 35, 36, 37, 38, 39, 40, 41, 42] rfl rfl rfl rfl (by simp [Value.category]) dL_law_413) [32, 33, 34, 35, 36, 37, 38, 39, 40, 41, 42] rfl rfl rfl ?_
  dsimp only [patch, List.set, oAH, wRow, wTap, wClk, wAct, wDou, wRea, wAsk, wMod, List.cons_append, List.nil_append]
  refine v_icmp_eqT (tgt := 1156) X dL_law_416 (by decide) (rfl) ?_
  refine v_iinc X dL_law_1156 rfl (by decide) rfl ?_
  dsimp only [List.set]
  refine v_goto (tgt := 18) X dL_law_1159 (by decide) ?_
  exact ih lf fi it la le bt tln tk fm tt tf mk cn so tu sp mkd cnd sod tud spd mk1 cn1 so1 tu1 sp1 mk2 cn2 so2 tu2 sp2 hs ss ln wh sh mo fo ar rs rc pa0 trf trn lnm cum tkm sam tim ftm fpm lem lfm fl fmm fim ff fw fk fe ⟨hR, hT, hb, hK, hA, hd, hB, hI1, hI2, hfk, hfe, hff, hTB⟩
