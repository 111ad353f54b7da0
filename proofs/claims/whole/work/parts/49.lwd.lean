set_option maxHeartbeats 4000000 in
set_option maxRecDepth 100000 in
theorem L_restore {g : Gx} {x : Xt} {b L : Nat} {xs : Nat → Int32} {B A : Nat → Nat} {i : Int} {lf fi : Int} {it la le bt : Nat → Int} {tln tk fm tt tf mk cn : Int} {so tu sp : Nat → Int} {mkd cnd : Int} {sod tud spd : Nat → Int} {mk1 cn1 : Int} {so1 tu1 sp1 : Nat → Int} {mk2 cn2 : Int} {so2 tu2 sp2 hs ss : Nat → Int} {ln wh sh mo fo : Int} {ar rs : Nat → Int} {rc pa0 : Int} {trf : Nat → Int} {trn lnm cum tkm sam tim ftm fpm lem lfm : Int} {fl fmm fim ff fw fk fe : Nat → Int} (X : Xo g x wsL_law RL cL_law 4 room_1) (Z : Xs x b L xs) (hL : L ≤ 3584) (hi : 0 ≤ i ∧ i + 7 ≤ L) (hV : LInv it la le fl fmm fim tln bt mk cn so tu sp ln hs ss fw sod tud spd ar rs rc pa0 mk1 cn1 so1 tu1 sp1 mk2 cn2 so2 tu2 sp2 fk fe ff trf trn) (ih : LLoop g x b B A (i + 7)) : V g x 43 1681 ((oAH g B (lf) (fi) :: (wRow g (B 1) (B 11) (B 12) (B 13) it la le ++ (wTap g (B 2) (B 14) bt tln tk fm tt tf ++ (wClk g (B 3) (B 15) (B 16) (B 17) mk cn so tu sp ++ (wClk g (B 4) (B 18) (B 19) (B 20) mkd cnd sod tud spd ++ (wClk g (B 5) (B 21) (B 22) (B 23) mk1 cn1 so1 tu1 sp1 ++ (wClk g (B 6) (B 24) (B 25) (B 26) mk2 cn2 so2 tu2 sp2 ++ (wAct g (B 7) (B 27) (B 28) hs ss ln ++ (wDou g (B 8) wh sh mo fo ++ (wRea g (B 9) (B 29) (B 30) ar rs rc pa0 ++ (wAsk g (B 10) (B 31) (trf) (trn)))))))))))) ++ (wMod g A 0 fi ln tln lf lnm cum tkm sam tim ftm fpm lem lfm trn fl fmm fim (clkF mk cn so tu sp) ff fw bt fk fe trf)) [some (.ref b), some (.ref (B 0)), some (.ref (A 0)), some (.int (iI i))] 985 [] := by
  obtain ⟨hR, hT, hb, hK, hA, hd, hB, hI1, hI2, hfk, hfe, hff, hTB⟩ := hV
  obtain ⟨y1, ey1⟩ : ∃ y : Int, y = (xs (i + 1).toNat).toInt := ⟨_, rfl⟩
  have ry1 : R32 y1 := by rw [ey1]; exact iI_r _
  dsimp only [oAH, wRow, wTap, wClk, wAct, wDou, wRea, wAsk, wMod, List.cons_append, List.nil_append]
  refine v_aload_n X dL_law_985 rfl ?_
  refine v_aload_n X dL_law_986 rfl ?_
  refine v_iload_n X dL_law_987 rfl ?_
  refine v_iconst X dL_law_988 ?_
  refine v_iadd X dL_law_989 ?_
  refine v_sld X Z ey1 (by omega) (by omega) (by omega) dL_law_990 ?_
  refine res_I X (run_V X (c_X7_restore (g := g) (hI1.1) (hI1.2.1) (hI1.2.2.1) (hI1.2.2.2.1) (hI2.1) (hI2.2.1) (hI2.2.2.1) (hI2.2.2.2.1) ry1) gL_law_X7_restore rfl hdX7_restore ⟨(Nat.le_of_ble_eq_true rfl), (Nat.le_of_ble_eq_true rfl)⟩ ⟨(Nat.le_of_ble_eq_true rfl), (Nat.le_of_ble_eq_true rfl)⟩ 0 rfl rfl rfl [0, 7, 8, 9, 10, 15, 16, 17, 18, 19, 20, 21, 22, 23, 24, 25] rfl rfl rfl rfl (by simp [Value.category]) dL_law_991) [0, 7, 8, 9, 10, 15, 16, 17, 18, 19, 20, 21, 22, 23, 24, 25] rfl rfl (fun _ => rfl) (fun v7 u7 h7 => ?_)
  obtain ⟨m7, c7, a1, a2, a3, l7⟩ := u7
  dsimp only [patch, List.set, oAH, wRow, wTap, wClk, wAct, wDou, wRea, wAsk, wMod, List.cons_append, List.nil_append]
  refine v_aload_n X dL_law_994 rfl ?_
  refine v_aload_n X dL_law_995 rfl ?_
  refine v_iload_n X dL_law_996 rfl ?_
  refine v_iconst X dL_law_997 ?_
  refine v_iadd X dL_law_998 ?_
  refine v_sld X Z ey1 (by omega) (by omega) (by omega) dL_law_999 ?_
  refine res_I X (run_V X (c_X8_restore (g := g) (clkF_bd hK) (hfk) (hfe) ry1) gL_law_X8_restore rfl hdX8_restore ⟨(Nat.le_of_ble_eq_true rfl), (Nat.le_of_ble_eq_true rfl)⟩ ⟨(Nat.le_of_ble_eq_true rfl), (Nat.le_of_ble_eq_true rfl)⟩ 32 rfl rfl rfl [32, 33, 34, 35, 36, 37, 38, 39, 40, 41, 42] rfl rfl rfl rfl (by simp [Value.category]) dL_law_1000) [32, 33, 34, 35, 36, 37, 38, 39, 40, 41, 42] rfl rfl (fun _ => rfl) (fun v8 u8 h8 => ?_)
  obtain ⟨fc8, a8⟩ := u8
  dsimp only [patch, List.set, oAH, wRow, wTap, wClk, wAct, wDou, wRea, wAsk, wMod, List.cons_append, List.nil_append]
  have key := st_restore hK hA hI1 hI2 h7 h8
  obtain ⟨k1, k2, k3, k4, k5⟩ := key
  subst k2
  subst k3
  refine v_icmp_eqT (tgt := 1156) X dL_law_1003 (by decide) (k1) ?_
  refine v_iinc X dL_law_1156 rfl (by decide) rfl ?_
  dsimp only [List.set]
  refine v_goto (tgt := 18) X dL_law_1159 (by decide) ?_
  exact ih lf fi it la le bt tln tk fm tt tf _ _ _ _ _ mkd cnd sod tud spd mk1 cn1 so1 tu1 sp1 mk2 cn2 so2 tu2 sp2 hs ss _ wh sh mo fo ar rs rc pa0 trf trn lnm cum tkm sam tim ftm fpm lem lfm fl fmm fim ff fw fk fe ⟨hR, hT, hb, k4, k5, hd, hB, hI1, hI2, hfk, hfe, hff, hTB⟩

set_option maxHeartbeats 4000000 in
set_option maxRecDepth 100000 in
theorem L_kind {g : Gx} {x : Xt} {b L : Nat} {xs : Nat → Int32} {B A : Nat → Nat} {i : Int} {lf fi : Int} {it la le bt : Nat → Int} {tln tk fm tt tf mk cn : Int} {so tu sp : Nat → Int} {mkd cnd : Int} {sod tud spd : Nat → Int} {mk1 cn1 : Int} {so1 tu1 sp1 : Nat → Int} {mk2 cn2 : Int} {so2 tu2 sp2 hs ss : Nat → Int} {ln wh sh mo fo : Int} {ar rs : Nat → Int} {rc pa0 : Int} {trf : Nat → Int} {trn lnm cum tkm sam tim ftm fpm lem lfm : Int} {fl fmm fim ff fw fk fe : Nat → Int} (X : Xo g x wsL_law RL cL_law 4 room_1) (Z : Xs x b L xs) (hL : L ≤ 3584) (hi : 0 ≤ i ∧ i + 7 ≤ L) (hV : LInv it la le fl fmm fim tln bt mk cn so tu sp ln hs ss fw sod tud spd ar rs rc pa0 mk1 cn1 so1 tu1 sp1 mk2 cn2 so2 tu2 sp2 fk fe ff trf trn) (ih : LLoop g x b B A (i + 7)) : V g x 43 1681 ((oAH g B (lf) (fi) :: (wRow g (B 1) (B 11) (B 12) (B 13) it la le ++ (wTap g (B 2) (B 14) bt tln tk fm tt tf ++ (wClk g (B 3) (B 15) (B 16) (B 17) mk cn so tu sp ++ (wClk g (B 4) (B 18) (B 19) (B 20) mkd cnd sod tud spd ++ (wClk g (B 5) (B 21) (B 22) (B 23) mk1 cn1 so1 tu1 sp1 ++ (wClk g (B 6) (B 24) (B 25) (B 26) mk2 cn2 so2 tu2 sp2 ++ (wAct g (B 7) (B 27) (B 28) hs ss ln ++ (wDou g (B 8) wh sh mo fo ++ (wRea g (B 9) (B 29) (B 30) ar rs rc pa0 ++ (wAsk g (B 10) (B 31) (trf) (trn)))))))))))) ++ (wMod g A 0 fi ln tln lf lnm cum tkm sam tim ftm fpm lem lfm trn fl fmm fim (clkF mk cn so tu sp) ff fw bt fk fe trf)) [some (.ref b), some (.ref (B 0)), some (.ref (A 0)), some (.int (iI i))] 1008 [] := by
  obtain ⟨hR, hT, hb, hK, hA, hd, hB, hI1, hI2, hfk, hfe, hff, hTB⟩ := hV
  obtain ⟨y1, ey1⟩ : ∃ y : Int, y = (xs (i + 1).toNat).toInt := ⟨_, rfl⟩
  have ry1 : R32 y1 := by rw [ey1]; exact iI_r _
  dsimp only [oAH, wRow, wTap, wClk, wAct, wDou, wRea, wAsk, wMod, List.cons_append, List.nil_append]
  refine v_aload_n X dL_law_1008 rfl ?_
  refine v_aload_n X dL_law_1009 rfl ?_
  refine v_iload_n X dL_law_1010 rfl ?_
  refine v_iconst X dL_law_1011 ?_
  refine v_iadd X dL_law_1012 ?_
  refine v_sld X Z ey1 (by omega) (by omega) (by omega) dL_law_1013 ?_
  refine res_E X (run_V X (c_X7_kind (g := g) (hK.c4) (hK.m60) (hK.2.1) (hK.2.2.1) (hK.2.2.2.1) ry1) gL_law_X7_kind rfl hdX7_kind ⟨(Nat.le_of_ble_eq_true rfl), (Nat.le_of_ble_eq_true rfl)⟩ ⟨(Nat.le_of_ble_eq_true rfl), (Nat.le_of_ble_eq_true rfl)⟩ 0 rfl rfl rfl [0, 7, 8, 9, 10] rfl rfl rfl rfl (by simp [Value.category]) dL_law_1014) [0, 7, 8, 9, 10] rfl rfl ?_
  refine v_aload_n X dL_law_1017 rfl ?_
  refine v_aload_n X dL_law_1018 rfl ?_
  refine v_iload_n X dL_law_1019 rfl ?_
  refine v_iconst X dL_law_1020 ?_
  refine v_iadd X dL_law_1021 ?_
  refine v_sld X Z ey1 (by omega) (by omega) (by omega) dL_law_1022 ?_
  refine res_F X (run_V X (c_X8_kind (g := g) (clkF_bd hK) (clkF_c1 hK) ry1) gL_law_X8_kind rfl hdX8_kind ⟨(Nat.le_of_ble_eq_true rfl), (Nat.le_of_ble_eq_true rfl)⟩ ⟨(Nat.le_of_ble_eq_true rfl), (Nat.le_of_ble_eq_true rfl)⟩ 32 rfl rfl rfl [32, 33, 34, 35, 36, 37, 38, 39, 40, 41, 42] rfl rfl rfl rfl (by simp [Value.category]) dL_law_1023) [32, 33, 34, 35, 36, 37, 38, 39, 40, 41, 42] rfl rfl rfl ?_
  dsimp only [patch, List.set, oAH, wRow, wTap, wClk, wAct, wDou, wRea, wAsk, wMod, List.cons_append, List.nil_append]
  refine v_icmp_eqT (tgt := 1156) X dL_law_1026 (by decide) (e_kind hK) ?_
  refine v_iinc X dL_law_1156 rfl (by decide) rfl ?_
  dsimp only [List.set]
  refine v_goto (tgt := 18) X dL_law_1159 (by decide) ?_
  exact ih lf fi it la le bt tln tk fm tt tf mk cn so tu sp mkd cnd sod tud spd mk1 cn1 so1 tu1 sp1 mk2 cn2 so2 tu2 sp2 hs ss ln wh sh mo fo ar rs rc pa0 trf trn lnm cum tkm sam tim ftm fpm lem lfm fl fmm fim ff fw fk fe ⟨hR, hT, hb, hK, hA, hd, hB, hI1, hI2, hfk, hfe, hff, hTB⟩

set_option maxHeartbeats 4000000 in
set_option maxRecDepth 100000 in
theorem L_as {g : Gx} {x : Xt} {b L : Nat} {xs : Nat → Int32} {B A : Nat → Nat} {i : Int} {lf fi : Int} {it la le bt : Nat → Int} {tln tk fm tt tf mk cn : Int} {so tu sp : Nat → Int} {mkd cnd : Int} {sod tud spd : Nat → Int} {mk1 cn1 : Int} {so1 tu1 sp1 : Nat → Int} {mk2 cn2 : Int} {so2 tu2 sp2 hs ss : Nat → Int} {ln wh sh mo fo : Int} {ar rs : Nat → Int} {rc pa0 : Int} {trf : Nat → Int} {trn lnm cum tkm sam tim ftm fpm lem lfm : Int} {fl fmm fim ff fw fk fe : Nat → Int} (X : Xo g x wsL_law RL cL_law 4 room_1) (Z : Xs x b L xs) (hL : L ≤ 3584) (hi : 0 ≤ i ∧ i + 7 ≤ L) (hV : LInv it la le fl fmm fim tln bt mk cn so tu sp ln hs ss fw sod tud spd ar rs rc pa0 mk1 cn1 so1 tu1 sp1 mk2 cn2 so2 tu2 sp2 fk fe ff trf trn) (ih : LLoop g x b B A (i + 7)) : V g x 43 1681 ((oAH g B (lf) (fi) :: (wRow g (B 1) (B 11) (B 12) (B 13) it la le ++ (wTap g (B 2) (B 14) bt tln tk fm tt tf ++ (wClk g (B 3) (B 15) (B 16) (B 17) mk cn so tu sp ++ (wClk g (B 4) (B 18) (B 19) (B 20) mkd cnd sod tud spd ++ (wClk g (B 5) (B 21) (B 22) (B 23) mk1 cn1 so1 tu1 sp1 ++ (wClk g (B 6) (B 24) (B 25) (B 26) mk2 cn2 so2 tu2 sp2 ++ (wAct g (B 7) (B 27) (B 28) hs ss ln ++ (wDou g (B 8) wh sh mo fo ++ (wRea g (B 9) (B 29) (B 30) ar rs rc pa0 ++ (wAsk g (B 10) (B 31) (trf) (trn)))))))))))) ++ (wMod g A 0 fi ln tln lf lnm cum tkm sam tim ftm fpm lem lfm trn fl fmm fim (clkF mk cn so tu sp) ff fw bt fk fe trf)) [some (.ref b), some (.ref (B 0)), some (.ref (A 0)), some (.int (iI i))] 1031 [] := by
  obtain ⟨hR, hT, hb, hK, hA, hd, hB, hI1, hI2, hfk, hfe, hff, hTB⟩ := hV
  obtain ⟨y1, ey1⟩ : ∃ y : Int, y = (xs (i + 1).toNat).toInt := ⟨_, rfl⟩
  have ry1 : R32 y1 := by rw [ey1]; exact iI_r _
  obtain ⟨y2, ey2⟩ : ∃ y : Int, y = (xs (i + 2).toNat).toInt := ⟨_, rfl⟩
  have ry2 : R32 y2 := by rw [ey2]; exact iI_r _
  dsimp only [oAH, wRow, wTap, wClk, wAct, wDou, wRea, wAsk, wMod, List.cons_append, List.nil_append]
  refine v_aload_n X dL_law_1031 rfl ?_
  refine v_aload_n X dL_law_1032 rfl ?_
  refine v_iload_n X dL_law_1033 rfl ?_
  refine v_iconst X dL_law_1034 ?_
  refine v_iadd X dL_law_1035 ?_
  refine v_sld X Z ey1 (by omega) (by omega) (by omega) dL_law_1036 ?_
  refine v_aload_n X dL_law_1037 rfl ?_
  refine v_iload_n X dL_law_1038 rfl ?_
  refine v_iconst X dL_law_1039 ?_
  refine v_iadd X dL_law_1040 ?_
  refine v_sld X Z ey2 (by omega) (by omega) (by omega) dL_law_1041 ?_
  refine res_I X (run_V X (c_X7_as (g := g) (hK.c4) (hK.m60) (hK.2.1) (hK.2.2.1) (hK.2.2.2.1) ry1 ry2) gL_law_X7_as rfl hdX7_as ⟨(Nat.le_of_ble_eq_true rfl), (Nat.le_of_ble_eq_true rfl)⟩ ⟨(Nat.le_of_ble_eq_true rfl), (Nat.le_of_ble_eq_true rfl)⟩ 0 rfl rfl rfl [0, 7, 8, 9, 10] rfl rfl rfl rfl (by simp [Value.category]) dL_law_1042) [0, 7, 8, 9, 10] rfl rfl (fun _ => rfl) (fun v7 u7 h7 => ?_)
  dsimp only [patch, List.set, oAH, wRow, wTap, wClk, wAct, wDou, wRea, wAsk, wMod, List.cons_append, List.nil_append]
  refine v_aload_n X dL_law_1045 rfl ?_
  refine v_aload_n X dL_law_1046 rfl ?_
  refine v_iload_n X dL_law_1047 rfl ?_
  refine v_iconst X dL_law_1048 ?_
  refine v_iadd X dL_law_1049 ?_
  refine v_sld X Z ey1 (by omega) (by omega) (by omega) dL_law_1050 ?_
  refine v_aload_n X dL_law_1051 rfl ?_
  refine v_iload_n X dL_law_1052 rfl ?_
  refine v_iconst X dL_law_1053 ?_
  refine v_iadd X dL_law_1054 ?_
  refine v_sld X Z ey2 (by omega) (by omega) (by omega) dL_law_1055 ?_
  refine res_I X (run_V X (c_X8_as (g := g) (clkF_bd hK) (clkF_c1 hK) ry1 ry2) gL_law_X8_as rfl hdX8_as ⟨(Nat.le_of_ble_eq_true rfl), (Nat.le_of_ble_eq_true rfl)⟩ ⟨(Nat.le_of_ble_eq_true rfl), (Nat.le_of_ble_eq_true rfl)⟩ 32 rfl rfl rfl [32, 33, 34, 35, 36, 37, 38, 39, 40, 41, 42] rfl rfl rfl rfl (by simp [Value.category]) dL_law_1056) [32, 33, 34, 35, 36, 37, 38, 39, 40, 41, 42] rfl rfl (fun _ => rfl) (fun v8 u8 h8 => ?_)
  dsimp only [patch, List.set, oAH, wRow, wTap, wClk, wAct, wDou, wRea, wAsk, wMod, List.cons_append, List.nil_append]
  have key := st_as hK h7 h8
  obtain ⟨k1, k2⟩ := key
  subst k2
  refine v_icmp_eqT (tgt := 1156) X dL_law_1059 (by decide) (k1) ?_
  refine v_iinc X dL_law_1156 rfl (by decide) rfl ?_
  dsimp only [List.set]
  refine v_goto (tgt := 18) X dL_law_1159 (by decide) ?_
  exact ih lf _ it la le bt tln tk fm tt tf mk cn so tu sp mkd cnd sod tud spd mk1 cn1 so1 tu1 sp1 mk2 cn2 so2 tu2 sp2 hs ss ln wh sh mo fo ar rs rc pa0 trf trn lnm cum tkm sam tim ftm fpm lem lfm fl fmm fim ff fw fk fe ⟨hR, hT, hb, hK, hA, hd, hB, hI1, hI2, hfk, hfe, hff, hTB⟩

set_option maxHeartbeats 4000000 in
set_option maxRecDepth 100000 in
theorem L_ask {g : Gx} {x : Xt} {b L : Nat} {xs : Nat → Int32} {B A : Nat → Nat} {i : Int} {lf fi : Int} {it la le bt : Nat → Int} {tln tk fm tt tf mk cn : Int} {so tu sp : Nat → Int} {mkd cnd : Int} {sod tud spd : Nat → Int} {mk1 cn1 : Int} {so1 tu1 sp1 : Nat → Int} {mk2 cn2 : Int} {so2 tu2 sp2 hs ss : Nat → Int} {ln wh sh mo fo : Int} {ar rs : Nat → Int} {rc pa0 : Int} {trf : Nat → Int} {trn lnm cum tkm sam tim ftm fpm lem lfm : Int} {fl fmm fim ff fw fk fe : Nat → Int} (X : Xo g x wsL_law RL cL_law 4 room_1) (Z : Xs x b L xs) (hL : L ≤ 3584) (hi : 0 ≤ i ∧ i + 7 ≤ L) (hV : LInv it la le fl fmm fim tln bt mk cn so tu sp ln hs ss fw sod tud spd ar rs rc pa0 mk1 cn1 so1 tu1 sp1 mk2 cn2 so2 tu2 sp2 fk fe ff trf trn) (ih : LLoop g x b B A (i + 7)) : V g x 43 1681 ((oAH g B (lf) (fi) :: (wRow g (B 1) (B 11) (B 12) (B 13) it la le ++ (wTap g (B 2) (B 14) bt tln tk fm tt tf ++ (wClk g (B 3) (B 15) (B 16) (B 17) mk cn so tu sp ++ (wClk g (B 4) (B 18) (B 19) (B 20) mkd cnd sod tud spd ++ (wClk g (B 5) (B 21) (B 22) (B 23) mk1 cn1 so1 tu1 sp1 ++ (wClk g (B 6) (B 24) (B 25) (B 26) mk2 cn2 so2 tu2 sp2 ++ (wAct g (B 7) (B 27) (B 28) hs ss ln ++ (wDou g (B 8) wh sh mo fo ++ (wRea g (B 9) (B 29) (B 30) ar rs rc pa0 ++ (wAsk g (B 10) (B 31) (trf) (trn)))))))))))) ++ (wMod g A 0 fi ln tln lf lnm cum tkm sam tim ftm fpm lem lfm trn fl fmm fim (clkF mk cn so tu sp) ff fw bt fk fe trf)) [some (.ref b), some (.ref (B 0)), some (.ref (A 0)), some (.int (iI i))] 1064 [] := by
  obtain ⟨hR, hT, hb, hK, hA, hd, hB, hI1, hI2, hfk, hfe, hff, hTB⟩ := hV
  obtain ⟨y1, ey1⟩ : ∃ y : Int, y = (xs (i + 1).toNat).toInt := ⟨_, rfl⟩
  have ry1 : R32 y1 := by rw [ey1]; exact iI_r _
  obtain ⟨y2, ey2⟩ : ∃ y : Int, y = (xs (i + 2).toNat).toInt := ⟨_, rfl⟩
  have ry2 : R32 y2 := by rw [ey2]; exact iI_r _
  dsimp only [oAH, wRow, wTap, wClk, wAct, wDou, wRea, wAsk, wMod, List.cons_append, List.nil_append]
  refine v_aload_n X dL_law_1064 rfl ?_
  refine v_aload_n X dL_law_1065 rfl ?_
  refine v_iload_n X dL_law_1066 rfl ?_
  refine v_iconst X dL_law_1067 ?_
  refine v_iadd X dL_law_1068 ?_
  refine v_sld X Z ey1 (by omega) (by omega) (by omega) dL_law_1069 ?_
  refine v_aload_n X dL_law_1070 rfl ?_
  refine v_iload_n X dL_law_1071 rfl ?_
  refine v_iconst X dL_law_1072 ?_
  refine v_iadd X dL_law_1073 ?_
  refine v_sld X Z ey2 (by omega) (by omega) (by omega) dL_law_1074 ?_
  refine res_I X (run_V X (c_X7_ask (g := g) (t := (trf, trn)) (hK.c4) (hK.m60) (hK.2.1) (hK.2.2.1) (hK.2.2.2.1) ry1 ry2) gL_law_X7_ask rfl hdX7_ask ⟨(Nat.le_of_ble_eq_true rfl), (Nat.le_of_ble_eq_true rfl)⟩ ⟨(Nat.le_of_ble_eq_true rfl), (Nat.le_of_ble_eq_true rfl)⟩ 0 rfl rfl rfl [0, 7, 8, 9, 10, 30, 31] rfl rfl rfl rfl (by simp [Value.category]) dL_law_1075) [0, 7, 8, 9, 10, 30, 31] rfl rfl (fun _ => rfl) (fun v7 u7 h7 => ?_)
  obtain ⟨f7, n7⟩ := u7
  dsimp only [patch, List.set, oAH, wRow, wTap, wClk, wAct, wDou, wRea, wAsk, wMod, List.cons_append, List.nil_append]
  refine v_aload_n X dL_law_1078 rfl ?_
  refine v_aload_n X dL_law_1079 rfl ?_
  refine v_iload_n X dL_law_1080 rfl ?_
  refine v_iconst X dL_law_1081 ?_
  refine v_iadd X dL_law_1082 ?_
  refine v_sld X Z ey1 (by omega) (by omega) (by omega) dL_law_1083 ?_
  refine v_aload_n X dL_law_1084 rfl ?_
  refine v_iload_n X dL_law_1085 rfl ?_
  refine v_iconst X dL_law_1086 ?_
  refine v_iadd X dL_law_1087 ?_
  refine v_sld X Z ey2 (by omega) (by omega) (by omega) dL_law_1088 ?_
  refine res_I X (run_V X (c_X8_ask (g := g) (clkF_bd hK) (clkF_c1 hK) (hTB.1) (clkF_hk hK) ry1 ry2) gL_law_X8_ask rfl hdX8_ask ⟨(Nat.le_of_ble_eq_true rfl), (Nat.le_of_ble_eq_true rfl)⟩ ⟨(Nat.le_of_ble_eq_true rfl), (Nat.le_of_ble_eq_true rfl)⟩ 32 rfl rfl rfl [32, 33, 34, 35, 36, 37, 38, 39, 40, 41, 42] rfl rfl rfl rfl (by simp [Value.category]) dL_law_1089) [32, 33, 34, 35, 36, 37, 38, 39, 40, 41, 42] rfl rfl (fun _ => rfl) (fun v8 u8 h8 => ?_)
  obtain ⟨f8, n8⟩ := u8
  dsimp only [patch, List.set, oAH, wRow, wTap, wClk, wAct, wDou, wRea, wAsk, wMod, List.cons_append, List.nil_append]
  have key := st_ask hK hTB h7 h8
  obtain ⟨k1, k2, k3, k4⟩ := key
  subst k2
  subst k3
  refine v_icmp_eqT (tgt := 1156) X dL_law_1092 (by decide) (k1) ?_
  refine v_iinc X dL_law_1156 rfl (by decide) rfl ?_
  dsimp only [List.set]
  refine v_goto (tgt := 18) X dL_law_1159 (by decide) ?_
  exact ih lf fi it la le bt tln tk fm tt tf mk cn so tu sp mkd cnd sod tud spd mk1 cn1 so1 tu1 sp1 mk2 cn2 so2 tu2 sp2 hs ss ln wh sh mo fo ar rs rc pa0 _ _ lnm cum tkm sam tim ftm fpm lem lfm fl fmm fim ff fw fk fe ⟨hR, hT, hb, hK, hA, hd, hB, hI1, hI2, hfk, hfe, hff, k4⟩

set_option maxHeartbeats 4000000 in
set_option maxRecDepth 100000 in
theorem L_trace {g : Gx} {x : Xt} {b L : Nat} {xs : Nat → Int32} {B A : Nat → Nat} {i : Int} {lf fi : Int} {it la le bt : Nat → Int} {tln tk fm tt tf mk cn : Int} {so tu sp : Nat → Int} {mkd cnd : Int} {sod tud spd : Nat → Int} {mk1 cn1 : Int} {so1 tu1 sp1 : Nat → Int} {mk2 cn2 : Int} {so2 tu2 sp2 hs ss : Nat → Int} {ln wh sh mo fo : Int} {ar rs : Nat → Int} {rc pa0 : Int} {trf : Nat → Int} {trn lnm cum tkm sam tim ftm fpm lem lfm : Int} {fl fmm fim ff fw fk fe : Nat → Int} (X : Xo g x wsL_law RL cL_law 4 room_1) (Z : Xs x b L xs) (hL : L ≤ 3584) (hi : 0 ≤ i ∧ i + 7 ≤ L) (hV : LInv it la le fl fmm fim tln bt mk cn so tu sp ln hs ss fw sod tud spd ar rs rc pa0 mk1 cn1 so1 tu1 sp1 mk2 cn2 so2 tu2 sp2 fk fe ff trf trn) (ih : LLoop g x b B A (i + 7)) : V g x 43 1681 ((oAH g B (lf) (fi) :: (wRow g (B 1) (B 11) (B 12) (B 13) it la le ++ (wTap g (B 2) (B 14) bt tln tk fm tt tf ++ (wClk g (B 3) (B 15) (B 16) (B 17) mk cn so tu sp ++ (wClk g (B 4) (B 18) (B 19) (B 20) mkd cnd sod tud spd ++ (wClk g (B 5) (B 21) (B 22) (B 23) mk1 cn1 so1 tu1 sp1 ++ (wClk g (B 6) (B 24) (B 25) (B 26) mk2 cn2 so2 tu2 sp2 ++ (wAct g (B 7) (B 27) (B 28) hs ss ln ++ (wDou g (B 8) wh sh mo fo ++ (wRea g (B 9) (B 29) (B 30) ar rs rc pa0 ++ (wAsk g (B 10) (B 31) (trf) (trn)))))))))))) ++ (wMod g A 0 fi ln tln lf lnm cum tkm sam tim ftm fpm lem lfm trn fl fmm fim (clkF mk cn so tu sp) ff fw bt fk fe trf)) [some (.ref b), some (.ref (B 0)), some (.ref (A 0)), some (.int (iI i))] 1097 [] := by
  obtain ⟨hR, hT, hb, hK, hA, hd, hB, hI1, hI2, hfk, hfe, hff, hTB⟩ := hV
  obtain ⟨y1, ey1⟩ : ∃ y : Int, y = (xs (i + 1).toNat).toInt := ⟨_, rfl⟩
  have ry1 : R32 y1 := by rw [ey1]; exact iI_r _
  dsimp only [oAH, wRow, wTap, wClk, wAct, wDou, wRea, wAsk, wMod, List.cons_append, List.nil_append]
  refine v_aload_n X dL_law_1097 rfl ?_
  refine v_aload_n X dL_law_1098 rfl ?_
  refine v_iload_n X dL_law_1099 rfl ?_
  refine v_iconst X dL_law_1100 ?_
  refine v_iadd X dL_law_1101 ?_
  refine v_sld X Z ey1 (by omega) (by omega) (by omega) dL_law_1102 ?_
  refine res_E X (run_V X (c_X7_trace (g := g) (t := (trf, trn)) (hTB.1) (hTB.2) ry1) gL_law_X7_trace rfl hdX7_trace ⟨(Nat.le_of_ble_eq_true rfl), (Nat.le_of_ble_eq_true rfl)⟩ ⟨(Nat.le_of_ble_eq_true rfl), (Nat.le_of_ble_eq_true rfl)⟩ 0 rfl rfl rfl [0, 30, 31] rfl rfl rfl rfl (by simp [Value.category]) dL_law_1103) [0, 30, 31] rfl rfl ?_
  refine v_aload_n X dL_law_1106 rfl ?_
  refine v_aload_n X dL_law_1107 rfl ?_
  refine v_iload_n X dL_law_1108 rfl ?_
  refine v_iconst X dL_law_1109 ?_
  refine v_iadd X dL_law_1110 ?_
  refine v_sld X Z ey1 (by omega) (by omega) (by omega) dL_law_1111 ?_
  refine res_F X (run_V X (c_X8_trace (g := g) (hTB.1) (hTB.2) ry1) gL_law_X8_trace rfl hdX8_trace ⟨(Nat.le_of_ble_eq_true rfl), (Nat.le_of_ble_eq_true rfl)⟩ ⟨(Nat.le_of_ble_eq_true rfl), (Nat.le_of_ble_eq_true rfl)⟩ 32 rfl rfl rfl [32, 33, 34, 35, 36, 37, 38, 39, 40, 41, 42] rfl rfl rfl rfl (by simp [Value.category]) dL_law_1112) [32, 33, 34, 35, 36, 37, 38, 39, 40, 41, 42] rfl rfl rfl ?_
  dsimp only [patch, List.set, oAH, wRow, wTap, wClk, wAct, wDou, wRea, wAsk, wMod, List.cons_append, List.nil_append]
  refine v_icmp_eqT (tgt := 1156) X dL_law_1115 (by decide) (rfl) ?_
  refine v_iinc X dL_law_1156 rfl (by decide) rfl ?_
  dsimp only [List.set]
  refine v_goto (tgt := 18) X dL_law_1159 (by decide) ?_
  exact ih lf fi it la le bt tln tk fm tt tf mk cn so tu sp mkd cnd sod tud spd mk1 cn1 so1 tu1 sp1 mk2 cn2 so2 tu2 sp2 hs ss ln wh sh mo fo ar rs rc pa0 trf trn lnm cum tkm sam tim ftm fpm lem lfm fl fmm fim ff fw fk fe ⟨hR, hT, hb, hK, hA, hd, hB, hI1, hI2, hfk, hfe, hff, hTB⟩

set_option maxHeartbeats 4000000 in
set_option maxRecDepth 100000 in
theorem L_count {g : Gx} {x : Xt} {b L : Nat} {xs : Nat → Int32} {B A : Nat → Nat} {i : Int} {lf fi : Int} {it la le bt : Nat → Int} {tln tk fm tt tf mk cn : Int} {so tu sp : Nat → Int} {mkd cnd : Int} {sod tud spd : Nat → Int} {mk1 cn1 : Int} {so1 tu1 sp1 : Nat → Int} {mk2 cn2 : Int} {so2 tu2 sp2 hs ss : Nat → Int} {ln wh sh mo fo : Int} {ar rs : Nat → Int} {rc pa0 : Int} {trf : Nat → Int} {trn lnm cum tkm sam tim ftm fpm lem lfm : Int} {fl fmm fim ff fw fk fe : Nat → Int} (X : Xo g x wsL_law RL cL_law 4 room_1) (Z : Xs x b L xs) (hL : L ≤ 3584) (hi : 0 ≤ i ∧ i + 7 ≤ L) (hV : LInv it la le fl fmm fim tln bt mk cn so tu sp ln hs ss fw sod tud spd ar rs rc pa0 mk1 cn1 so1 tu1 sp1 mk2 cn2 so2 tu2 sp2 fk fe ff trf trn) (ih : LLoop g x b B A (i + 7)) : V g x 43 1681 ((oAH g B (lf) (fi) :: (wRow g (B 1) (B 11) (B 12) (B 13) it la le ++ (wTap g (B 2) (B 14) bt tln tk fm tt tf ++ (wClk g (B 3) (B 15) (B 16) (B 17) mk cn so tu sp ++ (wClk g (B 4) (B 18) (B 19) (B 20) mkd cnd sod tud spd ++ (wClk g (B 5) (B 21) (B 22) (B 23) mk1 cn1 so1 tu1 sp1 ++ (wClk g (B 6) (B 24) (B 25) (B 26) mk2 cn2 so2 tu2 sp2 ++ (wAct g (B 7) (B 27) (B 28) hs ss ln ++ (wDou g (B 8) wh sh mo fo ++ (wRea g (B 9) (B 29) (B 30) ar rs rc pa0 ++ (wAsk g (B 10) (B 31) (trf) (trn)))))))))))) ++ (wMod g A 0 fi ln tln lf lnm cum tkm sam tim ftm fpm lem lfm trn fl fmm fim (clkF mk cn so tu sp) ff fw bt fk fe trf)) [some (.ref b), some (.ref (B 0)), some (.ref (A 0)), some (.int (iI i))] 1120 [] := by
  obtain ⟨hR, hT, hb, hK, hA, hd, hB, hI1, hI2, hfk, hfe, hff, hTB⟩ := hV
  obtain ⟨y1, ey1⟩ : ∃ y : Int, y = (xs (i + 1).toNat).toInt := ⟨_, rfl⟩
  have ry1 : R32 y1 := by rw [ey1]; exact iI_r _
  dsimp only [oAH, wRow, wTap, wClk, wAct, wDou, wRea, wAsk, wMod, List.cons_append, List.nil_append]
  refine v_aload_n X dL_law_1120 rfl ?_
  refine v_aload_n X dL_law_1121 rfl ?_
  refine v_iload_n X dL_law_1122 rfl ?_
  refine v_iconst X dL_law_1123 ?_
  refine v_iadd X dL_law_1124 ?_
  refine v_sld X Z ey1 (by omega) (by omega) (by omega) dL_law_1125 ?_
  refine res_E X (run_V X (c_X7_count (g := g) (hR.2.1) (hK.c4) (hK.m60) (hK.2.1) (hK.2.2.1) (hK.2.2.2.1) (hA.1) (hT) ry1) gL_law_X7_count rfl hdX7_count ⟨(Nat.le_of_ble_eq_true rfl), (Nat.le_of_ble_eq_true rfl)⟩ ⟨(Nat.le_of_ble_eq_true rfl), (Nat.le_of_ble_eq_true rfl)⟩ 0 rfl rfl rfl [0, 1, 2, 3, 4, 5, 6, 7, 8, 9, 10, 23, 24, 25] rfl rfl rfl rfl (by simp [Value.category]) dL_law_1126) [0, 1, 2, 3, 4, 5, 6, 7, 8, 9, 10, 23, 24, 25] rfl rfl ?_
  refine v_aload_n X dL_law_1129 rfl ?_
  refine v_aload_n X dL_law_1130 rfl ?_
  refine v_iload_n X dL_law_1131 rfl ?_
  refine v_iconst X dL_law_1132 ?_
  refine v_iadd X dL_law_1133 ?_
  refine v_sld X Z ey1 (by omega) (by omega) (by omega) dL_law_1134 ?_
  refine res_F X (run_V X (c_X8_count (g := g) (clkF_bd hK) (clkF_c1 hK) (hR.2.2.2.1) ry1) gL_law_X8_count rfl hdX8_count ⟨(Nat.le_of_ble_eq_true rfl), (Nat.le_of_ble_eq_true rfl)⟩ ⟨(Nat.le_of_ble_eq_true rfl), (Nat.le_of_ble_eq_true rfl)⟩ 32 rfl rfl rfl [32, 33, 34, 35, 36, 37, 38, 39, 40, 41, 42] rfl rfl rfl rfl (by simp [Value.category]) dL_law_1135) [32, 33, 34, 35, 36, 37, 38, 39, 40, 41, 42] rfl rfl rfl ?_
  dsimp only [patch, List.set, oAH, wRow, wTap, wClk, wAct, wDou, wRea, wAsk, wMod, List.cons_append, List.nil_append]
  refine v_icmp_eqT (tgt := 1156) X dL_law_1138 (by decide) (e_count hR hK) ?_
  refine v_iinc X dL_law_1156 rfl (by decide) rfl ?_
  dsimp only [List.set]
  refine v_goto (tgt := 18) X dL_law_1159 (by decide) ?_
  exact ih lf fi it la le bt tln tk fm tt tf mk cn so tu sp mkd cnd sod tud spd mk1 cn1 so1 tu1 sp1 mk2 cn2 so2 tu2 sp2 hs ss ln wh sh mo fo ar rs rc pa0 trf trn lnm cum tkm sam tim ftm fpm lem lfm fl fmm fim ff fw fk fe ⟨hR, hT, hb, hK, hA, hd, hB, hI1, hI2, hfk, hfe, hff, hTB⟩

set_option maxHeartbeats 4000000 in
set_option maxRecDepth 100000 in
theorem L_status {g : Gx} {x : Xt} {b L : Nat} {xs : Nat → Int32} {B A : Nat → Nat} {i : Int} {lf fi : Int} {it la le bt : Nat → Int} {tln tk fm tt tf mk cn : Int} {so tu sp : Nat → Int} {mkd cnd : Int} {sod tud spd : Nat → Int} {mk1 cn1 : Int} {so1 tu1 sp1 : Nat → Int} {mk2 cn2 : Int} {so2 tu2 sp2 hs ss : Nat → Int} {ln wh sh mo fo : Int} {ar rs : Nat → Int} {rc pa0 : Int} {trf : Nat → Int} {trn lnm cum tkm sam tim ftm fpm lem lfm : Int} {fl fmm fim ff fw fk fe : Nat → Int} (X : Xo g x wsL_law RL cL_law 4 room_1) (Z : Xs x b L xs) (hL : L ≤ 3584) (hi : 0 ≤ i ∧ i + 7 ≤ L) (hV : LInv it la le fl fmm fim tln bt mk cn so tu sp ln hs ss fw sod tud spd ar rs rc pa0 mk1 cn1 so1 tu1 sp1 mk2 cn2 so2 tu2 sp2 fk fe ff trf trn) (ih : LLoop g x b B A (i + 7)) : V g x 43 1681 ((oAH g B (lf) (fi) :: (wRow g (B 1) (B 11) (B 12) (B 13) it la le ++ (wTap g (B 2) (B 14) bt tln tk fm tt tf ++ (wClk g (B 3) (B 15) (B 16) (B 17) mk cn so tu sp ++ (wClk g (B 4) (B 18) (B 19) (B 20) mkd cnd sod tud spd ++ (wClk g (B 5) (B 21) (B 22) (B 23) mk1 cn1 so1 tu1 sp1 ++ (wClk g (B 6) (B 24) (B 25) (B 26) mk2 cn2 so2 tu2 sp2 ++ (wAct g (B 7) (B 27) (B 28) hs ss ln ++ (wDou g (B 8) wh sh mo fo ++ (wRea g (B 9) (B 29) (B 30) ar rs rc pa0 ++ (wAsk g (B 10) (B 31) (trf) (trn)))))))))))) ++ (wMod g A 0 fi ln tln lf lnm cum tkm sam tim ftm fpm lem lfm trn fl fmm fim (clkF mk cn so tu sp) ff fw bt fk fe trf)) [some (.ref b), some (.ref (B 0)), some (.ref (A 0)), some (.int (iI i))] 1143 [] := by
  obtain ⟨hR, hT, hb, hK, hA, hd, hB, hI1, hI2, hfk, hfe, hff, hTB⟩ := hV
  dsimp only [oAH, wRow, wTap, wClk, wAct, wDou, wRea, wAsk, wMod, List.cons_append, List.nil_append]
  refine v_aload_n X dL_law_1143 rfl ?_
  refine res_E X (run_V X (c_X7_status (g := g) ) gL_law_X7_status rfl hdX7_status ⟨(Nat.le_of_ble_eq_true rfl), (Nat.le_of_ble_eq_true rfl)⟩ ⟨(Nat.le_of_ble_eq_true rfl), (Nat.le_of_ble_eq_true rfl)⟩ 0 rfl rfl rfl [0] rfl rfl rfl rfl (by simp [Value.category]) dL_law_1144) [0] rfl rfl ?_
  refine v_aload_n X dL_law_1147 rfl ?_
  refine res_F X (run_V X (c_X8_status (g := g) ) gL_law_X8_status rfl hdX8_status ⟨(Nat.le_of_ble_eq_true rfl), (Nat.le_of_ble_eq_true rfl)⟩ ⟨(Nat.le_of_ble_eq_true rfl), (Nat.le_of_ble_eq_true rfl)⟩ 32 rfl rfl rfl [32, 33, 34, 35, 36, 37, 38, 39, 40, 41, 42] rfl rfl rfl rfl (by simp [Value.category]) dL_law_1148) [32, 33, 34, 35, 36, 37, 38, 39, 40, 41, 42] rfl rfl rfl ?_
  dsimp only [patch, List.set, oAH, wRow, wTap, wClk, wAct, wDou, wRea, wAsk, wMod, List.cons_append, List.nil_append]
  refine v_icmp_eqT (tgt := 1156) X dL_law_1151 (by decide) (rfl) ?_
  refine v_iinc X dL_law_1156 rfl (by decide) rfl ?_
  dsimp only [List.set]
  refine v_goto (tgt := 18) X dL_law_1159 (by decide) ?_
  exact ih lf fi it la le bt tln tk fm tt tf mk cn so tu sp mkd cnd sod tud spd mk1 cn1 so1 tu1 sp1 mk2 cn2 so2 tu2 sp2 hs ss ln wh sh mo fo ar rs rc pa0 trf trn lnm cum tkm sam tim ftm fpm lem lfm fl fmm fim ff fw fk fe ⟨hR, hT, hb, hK, hA, hd, hB, hI1, hI2, hfk, hfe, hff, hTB⟩
