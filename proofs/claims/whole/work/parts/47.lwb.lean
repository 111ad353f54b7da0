set_option maxHeartbeats 4000000 in
set_option maxRecDepth 100000 in
theorem L_slip {g : Gx} {x : Xt} {b L : Nat} {xs : Nat → Int32} {B A : Nat → Nat} {i : Int} {lf fi : Int} {it la le bt : Nat → Int} {tln tk fm tt tf mk cn : Int} {so tu sp : Nat → Int} {mkd cnd : Int} {sod tud spd : Nat → Int} {mk1 cn1 : Int} {so1 tu1 sp1 : Nat → Int} {mk2 cn2 : Int} {so2 tu2 sp2 hs ss : Nat → Int} {ln wh sh mo fo : Int} {ar rs : Nat → Int} {rc pa0 : Int} {trf : Nat → Int} {trn lnm cum tkm sam tim ftm fpm lem lfm : Int} {fl fmm fim ff fw fk fe : Nat → Int} (X : Xo g x wsL_law RL cL_law 4 room_1) (Z : Xs x b L xs) (hL : L ≤ 3584) (hi : 0 ≤ i ∧ i + 7 ≤ L) (hV : LInv it la le fl fmm fim tln bt mk cn so tu sp ln hs ss fw sod tud spd ar rs rc pa0 mk1 cn1 so1 tu1 sp1 mk2 cn2 so2 tu2 sp2 fk fe ff trf trn) (ih : LLoop g x b B A (i + 7)) : V g x 43 1681 ((oAH g B (lf) (fi) :: (wRow g (B 1) (B 11) (B 12) (B 13) it la le ++ (wTap g (B 2) (B 14) bt tln tk fm tt tf ++ (wClk g (B 3) (B 15) (B 16) (B 17) mk cn so tu sp ++ (wClk g (B 4) (B 18) (B 19) (B 20) mkd cnd sod tud spd ++ (wClk g (B 5) (B 21) (B 22) (B 23) mk1 cn1 so1 tu1 sp1 ++ (wClk g (B 6) (B 24) (B 25) (B 26) mk2 cn2 so2 tu2 sp2 ++ (wAct g (B 7) (B 27) (B 28) hs ss ln ++ (wDou g (B 8) wh sh mo fo ++ (wRea g (B 9) (B 29) (B 30) ar rs rc pa0 ++ (wAsk g (B 10) (B 31) (trf) (trn)))))))))))) ++ (wMod g A 0 fi ln tln lf lnm cum tkm sam tim ftm fpm lem lfm trn fl fmm fim (clkF mk cn so tu sp) ff fw bt fk fe trf)) [some (.ref b), some (.ref (B 0)), some (.ref (A 0)), some (.int (iI i))] 421 [] := by
  obtain ⟨hR, hT, hb, hK, hA, hd, hB, hI1, hI2, hfk, hfe, hff, hTB⟩ := hV
  obtain ⟨y1, ey1⟩ : ∃ y : Int, y = (xs (i + 1).toNat).toInt := ⟨_, rfl⟩
  have ry1 : R32 y1 := by rw [ey1]; exact iI_r _
  obtain ⟨y2, ey2⟩ : ∃ y : Int, y = (xs (i + 2).toNat).toInt := ⟨_, rfl⟩
  have ry2 : R32 y2 := by rw [ey2]; exact iI_r _
  dsimp only [oAH, wRow, wTap, wClk, wAct, wDou, wRea, wAsk, wMod, List.cons_append, List.nil_append]
  refine v_aload_n X dL_law_421 rfl ?_
  refine v_aload_n X dL_law_422 rfl ?_
  refine v_iload_n X dL_law_423 rfl ?_
  refine v_iconst X dL_law_424 ?_
  refine v_iadd X dL_law_425 ?_
  refine v_sld X Z ey1 (by omega) (by omega) (by omega) dL_law_426 ?_
  refine v_aload_n X dL_law_427 rfl ?_
  refine v_iload_n X dL_law_428 rfl ?_
  refine v_iconst X dL_law_429 ?_
  refine v_iadd X dL_law_430 ?_
  refine v_sld X Z ey2 (by omega) (by omega) (by omega) dL_law_431 ?_
  refine res_I X (run_V X (c_X7_slip (g := g) (hK.c4) (hK.m60) (hK.2.1) (hK.2.2.1) (hK.2.2.2.1) (hK.mc.1) (hA.1) ry1 ry2) gL_law_X7_slip rfl hdX7_slip ⟨(Nat.le_of_ble_eq_true rfl), (Nat.le_of_ble_eq_true rfl)⟩ ⟨(Nat.le_of_ble_eq_true rfl), (Nat.le_of_ble_eq_true rfl)⟩ 0 rfl rfl rfl [0, 7, 8, 9, 10, 23, 24, 25] rfl rfl rfl rfl (by simp [Value.category]) dL_law_432) [0, 7, 8, 9, 10, 23, 24, 25] rfl rfl (fun _ => rfl) (fun v7 u7 h7 => ?_)
  obtain ⟨sp7, hs7, ss7, l7⟩ := u7
  dsimp only [patch, List.set, oAH, wRow, wTap, wClk, wAct, wDou, wRea, wAsk, wMod, List.cons_append, List.nil_append]
  refine v_aload_n X dL_law_435 rfl ?_
  refine v_aload_n X dL_law_436 rfl ?_
  refine v_iload_n X dL_law_437 rfl ?_
  refine v_iconst X dL_law_438 ?_
  refine v_iadd X dL_law_439 ?_
  refine v_sld X Z ey1 (by omega) (by omega) (by omega) dL_law_440 ?_
  refine v_aload_n X dL_law_441 rfl ?_
  refine v_iload_n X dL_law_442 rfl ?_
  refine v_iconst X dL_law_443 ?_
  refine v_iadd X dL_law_444 ?_
  refine v_sld X Z ey2 (by omega) (by omega) (by omega) dL_law_445 ?_
  refine res_I X (run_V X (c_X8_slip (g := g) (clkF_bd hK) (clkF_c1 hK) (clkF_t3 hK) (hA.2.2.2.1) (hA.1) hK.mc.1 ry1 ry2) gL_law_X8_slip rfl hdX8_slip ⟨(Nat.le_of_ble_eq_true rfl), (Nat.le_of_ble_eq_true rfl)⟩ ⟨(Nat.le_of_ble_eq_true rfl), (Nat.le_of_ble_eq_true rfl)⟩ 32 rfl rfl rfl [32, 33, 34, 35, 36, 37, 38, 39, 40, 41, 42] rfl rfl rfl rfl (by simp [Value.category]) dL_law_446) [32, 33, 34, 35, 36, 37, 38, 39, 40, 41, 42] rfl rfl (fun _ => rfl) (fun v8 u8 h8 => ?_)
  obtain ⟨fc8, fw8, a8⟩ := u8
  dsimp only [patch, List.set, oAH, wRow, wTap, wClk, wAct, wDou, wRea, wAsk, wMod, List.cons_append, List.nil_append]
  have key := st_slip hK hA h7 h8
  obtain ⟨k1, k2, k3, k4, k5⟩ := key
  subst k2
  subst k3
  refine v_icmp_eqT (tgt := 1156) X dL_law_449 (by decide) (k1) ?_
  refine v_iinc X dL_law_1156 rfl (by decide) rfl ?_
  dsimp only [List.set]
  refine v_goto (tgt := 18) X dL_law_1159 (by decide) ?_
  exact ih lf fi it la le bt tln tk fm tt tf mk cn so tu _ mkd cnd sod tud spd mk1 cn1 so1 tu1 sp1 mk2 cn2 so2 tu2 sp2 _ _ _ wh sh mo fo ar rs rc pa0 trf trn lnm cum tkm sam tim ftm fpm lem lfm fl fmm fim ff _ fk fe ⟨hR, hT, hb, k4, k5, hd, hB, hI1, hI2, hfk, hfe, hff, hTB⟩

set_option maxHeartbeats 4000000 in
set_option maxRecDepth 100000 in
theorem L_undo {g : Gx} {x : Xt} {b L : Nat} {xs : Nat → Int32} {B A : Nat → Nat} {i : Int} {lf fi : Int} {it la le bt : Nat → Int} {tln tk fm tt tf mk cn : Int} {so tu sp : Nat → Int} {mkd cnd : Int} {sod tud spd : Nat → Int} {mk1 cn1 : Int} {so1 tu1 sp1 : Nat → Int} {mk2 cn2 : Int} {so2 tu2 sp2 hs ss : Nat → Int} {ln wh sh mo fo : Int} {ar rs : Nat → Int} {rc pa0 : Int} {trf : Nat → Int} {trn lnm cum tkm sam tim ftm fpm lem lfm : Int} {fl fmm fim ff fw fk fe : Nat → Int} (X : Xo g x wsL_law RL cL_law 4 room_1) (Z : Xs x b L xs) (hL : L ≤ 3584) (hi : 0 ≤ i ∧ i + 7 ≤ L) (hV : LInv it la le fl fmm fim tln bt mk cn so tu sp ln hs ss fw sod tud spd ar rs rc pa0 mk1 cn1 so1 tu1 sp1 mk2 cn2 so2 tu2 sp2 fk fe ff trf trn) (ih : LLoop g x b B A (i + 7)) : V g x 43 1681 ((oAH g B (lf) (fi) :: (wRow g (B 1) (B 11) (B 12) (B 13) it la le ++ (wTap g (B 2) (B 14) bt tln tk fm tt tf ++ (wClk g (B 3) (B 15) (B 16) (B 17) mk cn so tu sp ++ (wClk g (B 4) (B 18) (B 19) (B 20) mkd cnd sod tud spd ++ (wClk g (B 5) (B 21) (B 22) (B 23) mk1 cn1 so1 tu1 sp1 ++ (wClk g (B 6) (B 24) (B 25) (B 26) mk2 cn2 so2 tu2 sp2 ++ (wAct g (B 7) (B 27) (B 28) hs ss ln ++ (wDou g (B 8) wh sh mo fo ++ (wRea g (B 9) (B 29) (B 30) ar rs rc pa0 ++ (wAsk g (B 10) (B 31) (trf) (trn)))))))))))) ++ (wMod g A 0 fi ln tln lf lnm cum tkm sam tim ftm fpm lem lfm trn fl fmm fim (clkF mk cn so tu sp) ff fw bt fk fe trf)) [some (.ref b), some (.ref (B 0)), some (.ref (A 0)), some (.int (iI i))] 454 [] := by
  obtain ⟨hR, hT, hb, hK, hA, hd, hB, hI1, hI2, hfk, hfe, hff, hTB⟩ := hV
  dsimp only [oAH, wRow, wTap, wClk, wAct, wDou, wRea, wAsk, wMod, List.cons_append, List.nil_append]
  refine v_aload_n X dL_law_454 rfl ?_
  refine res_F X (run_V X (c_X7_undo (g := g) (hK.c4) (hK.m60) (hK.2.1) (hK.2.2.1) (hK.2.2.2.1) (hA.1) (hA.2.1) (hA.2.2.1) (SA_hc hA)) gL_law_X7_undo rfl hdX7_undo ⟨(Nat.le_of_ble_eq_true rfl), (Nat.le_of_ble_eq_true rfl)⟩ ⟨(Nat.le_of_ble_eq_true rfl), (Nat.le_of_ble_eq_true rfl)⟩ 0 rfl rfl rfl [0, 7, 8, 9, 10, 23, 24, 25] rfl rfl rfl rfl (by simp [Value.category]) dL_law_455) [0, 7, 8, 9, 10, 23, 24, 25] rfl rfl rfl ?_
  dsimp only [patch, List.set, oAH, wRow, wTap, wClk, wAct, wDou, wRea, wAsk, wMod, List.cons_append, List.nil_append]
  refine v_aload_n X dL_law_458 rfl ?_
  refine res_F X (run_V X (c_X8_undo (g := g) (clkF_bd hK) (hA.2.2.2.1) (hA.1)) gL_law_X8_undo rfl hdX8_undo ⟨(Nat.le_of_ble_eq_true rfl), (Nat.le_of_ble_eq_true rfl)⟩ ⟨(Nat.le_of_ble_eq_true rfl), (Nat.le_of_ble_eq_true rfl)⟩ 32 rfl rfl rfl [32, 33, 34, 35, 36, 37, 38, 39, 40, 41, 42] rfl rfl rfl rfl (by simp [Value.category]) dL_law_459) [32, 33, 34, 35, 36, 37, 38, 39, 40, 41, 42] rfl rfl rfl ?_
  dsimp only [patch, List.set, oAH, wRow, wTap, wClk, wAct, wDou, wRea, wAsk, wMod, List.cons_append, List.nil_append]
  obtain ⟨k1, k2, k3, k4, k5⟩ := st_undo hK hA
  rw [k2, k3]
  refine v_icmp_eqT (tgt := 1156) X dL_law_462 (by decide) (k1) ?_
  refine v_iinc X dL_law_1156 rfl (by decide) rfl ?_
  dsimp only [List.set]
  refine v_goto (tgt := 18) X dL_law_1159 (by decide) ?_
  exact ih lf fi it la le bt tln tk fm tt tf mk cn so tu _ mkd cnd sod tud spd mk1 cn1 so1 tu1 sp1 mk2 cn2 so2 tu2 sp2 hs ss _ wh sh mo fo ar rs rc pa0 trf trn lnm cum tkm sam tim ftm fpm lem lfm fl fmm fim ff fw fk fe ⟨hR, hT, hb, k4, k5, hd, hB, hI1, hI2, hfk, hfe, hff, hTB⟩

set_option maxHeartbeats 4000000 in
set_option maxRecDepth 100000 in
theorem L_hand {g : Gx} {x : Xt} {b L : Nat} {xs : Nat → Int32} {B A : Nat → Nat} {i : Int} {lf fi : Int} {it la le bt : Nat → Int} {tln tk fm tt tf mk cn : Int} {so tu sp : Nat → Int} {mkd cnd : Int} {sod tud spd : Nat → Int} {mk1 cn1 : Int} {so1 tu1 sp1 : Nat → Int} {mk2 cn2 : Int} {so2 tu2 sp2 hs ss : Nat → Int} {ln wh sh mo fo : Int} {ar rs : Nat → Int} {rc pa0 : Int} {trf : Nat → Int} {trn lnm cum tkm sam tim ftm fpm lem lfm : Int} {fl fmm fim ff fw fk fe : Nat → Int} (X : Xo g x wsL_law RL cL_law 4 room_1) (Z : Xs x b L xs) (hL : L ≤ 3584) (hi : 0 ≤ i ∧ i + 7 ≤ L) (hV : LInv it la le fl fmm fim tln bt mk cn so tu sp ln hs ss fw sod tud spd ar rs rc pa0 mk1 cn1 so1 tu1 sp1 mk2 cn2 so2 tu2 sp2 fk fe ff trf trn) (ih : LLoop g x b B A (i + 7)) : V g x 43 1681 ((oAH g B (lf) (fi) :: (wRow g (B 1) (B 11) (B 12) (B 13) it la le ++ (wTap g (B 2) (B 14) bt tln tk fm tt tf ++ (wClk g (B 3) (B 15) (B 16) (B 17) mk cn so tu sp ++ (wClk g (B 4) (B 18) (B 19) (B 20) mkd cnd sod tud spd ++ (wClk g (B 5) (B 21) (B 22) (B 23) mk1 cn1 so1 tu1 sp1 ++ (wClk g (B 6) (B 24) (B 25) (B 26) mk2 cn2 so2 tu2 sp2 ++ (wAct g (B 7) (B 27) (B 28) hs ss ln ++ (wDou g (B 8) wh sh mo fo ++ (wRea g (B 9) (B 29) (B 30) ar rs rc pa0 ++ (wAsk g (B 10) (B 31) (trf) (trn)))))))))))) ++ (wMod g A 0 fi ln tln lf lnm cum tkm sam tim ftm fpm lem lfm trn fl fmm fim (clkF mk cn so tu sp) ff fw bt fk fe trf)) [some (.ref b), some (.ref (B 0)), some (.ref (A 0)), some (.int (iI i))] 467 [] := by
  obtain ⟨hR, hT, hb, hK, hA, hd, hB, hI1, hI2, hfk, hfe, hff, hTB⟩ := hV
  obtain ⟨y1, ey1⟩ : ∃ y : Int, y = (xs (i + 1).toNat).toInt := ⟨_, rfl⟩
  have ry1 : R32 y1 := by rw [ey1]; exact iI_r _
  obtain ⟨y2, ey2⟩ : ∃ y : Int, y = (xs (i + 2).toNat).toInt := ⟨_, rfl⟩
  have ry2 : R32 y2 := by rw [ey2]; exact iI_r _
  dsimp only [oAH, wRow, wTap, wClk, wAct, wDou, wRea, wAsk, wMod, List.cons_append, List.nil_append]
  refine v_aload_n X dL_law_467 rfl ?_
  refine v_aload_n X dL_law_468 rfl ?_
  refine v_iload_n X dL_law_469 rfl ?_
  refine v_iconst X dL_law_470 ?_
  refine v_iadd X dL_law_471 ?_
  refine v_sld X Z ey1 (by omega) (by omega) (by omega) dL_law_472 ?_
  refine v_aload_n X dL_law_473 rfl ?_
  refine v_iload_n X dL_law_474 rfl ?_
  refine v_iconst X dL_law_475 ?_
  refine v_iadd X dL_law_476 ?_
  refine v_sld X Z ey2 (by omega) (by omega) (by omega) dL_law_477 ?_
  refine res_E X (run_V X (c_X7_hand (g := g) (hK.c4) (hK.m60) (hK.2.1) (hK.2.2.1) (hK.2.2.2.1) ry1 ry2) gL_law_X7_hand rfl hdX7_hand ⟨(Nat.le_of_ble_eq_true rfl), (Nat.le_of_ble_eq_true rfl)⟩ ⟨(Nat.le_of_ble_eq_true rfl), (Nat.le_of_ble_eq_true rfl)⟩ 0 rfl rfl rfl [0, 7, 8, 9, 10] rfl rfl rfl rfl (by simp [Value.category]) dL_law_478) [0, 7, 8, 9, 10] rfl rfl ?_
  refine v_aload_n X dL_law_481 rfl ?_
  refine v_aload_n X dL_law_482 rfl ?_
  refine v_iload_n X dL_law_483 rfl ?_
  refine v_iconst X dL_law_484 ?_
  refine v_iadd X dL_law_485 ?_
  refine v_sld X Z ey1 (by omega) (by omega) (by omega) dL_law_486 ?_
  refine v_aload_n X dL_law_487 rfl ?_
  refine v_iload_n X dL_law_488 rfl ?_
  refine v_iconst X dL_law_489 ?_
  refine v_iadd X dL_law_490 ?_
  refine v_sld X Z ey2 (by omega) (by omega) (by omega) dL_law_491 ?_
  refine res_F X (run_V X (c_X8_hand (g := g) (clkF_bd hK) (clkF_c1 hK) (clkF_t3 hK) ry1 ry2) gL_law_X8_hand rfl hdX8_hand ⟨(Nat.le_of_ble_eq_true rfl), (Nat.le_of_ble_eq_true rfl)⟩ ⟨(Nat.le_of_ble_eq_true rfl), (Nat.le_of_ble_eq_true rfl)⟩ 32 rfl rfl rfl [32, 33, 34, 35, 36, 37, 38, 39, 40, 41, 42] rfl rfl rfl rfl (by simp [Value.category]) dL_law_492) [32, 33, 34, 35, 36, 37, 38, 39, 40, 41, 42] rfl rfl rfl ?_
  dsimp only [patch, List.set, oAH, wRow, wTap, wClk, wAct, wDou, wRea, wAsk, wMod, List.cons_append, List.nil_append]
  refine v_icmp_eqT (tgt := 1156) X dL_law_495 (by decide) (e_hand hK) ?_
  refine v_iinc X dL_law_1156 rfl (by decide) rfl ?_
  dsimp only [List.set]
  refine v_goto (tgt := 18) X dL_law_1159 (by decide) ?_
  exact ih lf fi it la le bt tln tk fm tt tf mk cn so tu sp mkd cnd sod tud spd mk1 cn1 so1 tu1 sp1 mk2 cn2 so2 tu2 sp2 hs ss ln wh sh mo fo ar rs rc pa0 trf trn lnm cum tkm sam tim ftm fpm lem lfm fl fmm fim ff fw fk fe ⟨hR, hT, hb, hK, hA, hd, hB, hI1, hI2, hfk, hfe, hff, hTB⟩

set_option maxHeartbeats 4000000 in
set_option maxRecDepth 100000 in
theorem L_points {g : Gx} {x : Xt} {b L : Nat} {xs : Nat → Int32} {B A : Nat → Nat} {i : Int} {lf fi : Int} {it la le bt : Nat → Int} {tln tk fm tt tf mk cn : Int} {so tu sp : Nat → Int} {mkd cnd : Int} {sod tud spd : Nat → Int} {mk1 cn1 : Int} {so1 tu1 sp1 : Nat → Int} {mk2 cn2 : Int} {so2 tu2 sp2 hs ss : Nat → Int} {ln wh sh mo fo : Int} {ar rs : Nat → Int} {rc pa0 : Int} {trf : Nat → Int} {trn lnm cum tkm sam tim ftm fpm lem lfm : Int} {fl fmm fim ff fw fk fe : Nat → Int} (X : Xo g x wsL_law RL cL_law 4 room_1) (Z : Xs x b L xs) (hL : L ≤ 3584) (hi : 0 ≤ i ∧ i + 7 ≤ L) (hV : LInv it la le fl fmm fim tln bt mk cn so tu sp ln hs ss fw sod tud spd ar rs rc pa0 mk1 cn1 so1 tu1 sp1 mk2 cn2 so2 tu2 sp2 fk fe ff trf trn) (ih : LLoop g x b B A (i + 7)) : V g x 43 1681 ((oAH g B (lf) (fi) :: (wRow g (B 1) (B 11) (B 12) (B 13) it la le ++ (wTap g (B 2) (B 14) bt tln tk fm tt tf ++ (wClk g (B 3) (B 15) (B 16) (B 17) mk cn so tu sp ++ (wClk g (B 4) (B 18) (B 19) (B 20) mkd cnd sod tud spd ++ (wClk g (B 5) (B 21) (B 22) (B 23) mk1 cn1 so1 tu1 sp1 ++ (wClk g (B 6) (B 24) (B 25) (B 26) mk2 cn2 so2 tu2 sp2 ++ (wAct g (B 7) (B 27) (B 28) hs ss ln ++ (wDou g (B 8) wh sh mo fo ++ (wRea g (B 9) (B 29) (B 30) ar rs rc pa0 ++ (wAsk g (B 10) (B 31) (trf) (trn)))))))))))) ++ (wMod g A 0 fi ln tln lf lnm cum tkm sam tim ftm fpm lem lfm trn fl fmm fim (clkF mk cn so tu sp) ff fw bt fk fe trf)) [some (.ref b), some (.ref (B 0)), some (.ref (A 0)), some (.int (iI i))] 500 [] := by
  obtain ⟨hR, hT, hb, hK, hA, hd, hB, hI1, hI2, hfk, hfe, hff, hTB⟩ := hV
  obtain ⟨y1, ey1⟩ : ∃ y : Int, y = (xs (i + 1).toNat).toInt := ⟨_, rfl⟩
  have ry1 : R32 y1 := by rw [ey1]; exact iI_r _
  obtain ⟨y2, ey2⟩ : ∃ y : Int, y = (xs (i + 2).toNat).toInt := ⟨_, rfl⟩
  have ry2 : R32 y2 := by rw [ey2]; exact iI_r _
  obtain ⟨y3, ey3⟩ : ∃ y : Int, y = (xs (i + 3).toNat).toInt := ⟨_, rfl⟩
  have ry3 : R32 y3 := by rw [ey3]; exact iI_r _
  obtain ⟨y4, ey4⟩ : ∃ y : Int, y = (xs (i + 4).toNat).toInt := ⟨_, rfl⟩
  have ry4 : R32 y4 := by rw [ey4]; exact iI_r _
  dsimp only [oAH, wRow, wTap, wClk, wAct, wDou, wRea, wAsk, wMod, List.cons_append, List.nil_append]
  refine v_aload_n X dL_law_500 rfl ?_
  refine v_aload_n X dL_law_501 rfl ?_
  refine v_iload_n X dL_law_502 rfl ?_
  refine v_iconst X dL_law_503 ?_
  refine v_iadd X dL_law_504 ?_
  refine v_sld X Z ey1 (by omega) (by omega) (by omega) dL_law_505 ?_
  refine v_aload_n X dL_law_506 rfl ?_
  refine v_iload_n X dL_law_507 rfl ?_
  refine v_iconst X dL_law_508 ?_
  refine v_iadd X dL_law_509 ?_
  refine v_sld X Z ey2 (by omega) (by omega) (by omega) dL_law_510 ?_
  refine v_aload_n X dL_law_511 rfl ?_
  refine v_iload_n X dL_law_512 rfl ?_
  refine v_iconst X dL_law_513 ?_
  refine v_iadd X dL_law_514 ?_
  refine v_sld X Z ey3 (by omega) (by omega) (by omega) dL_law_515 ?_
  refine v_aload_n X dL_law_516 rfl ?_
  refine v_iload_n X dL_law_517 rfl ?_
  refine v_iconst X dL_law_518 ?_
  refine v_iadd X dL_law_519 ?_
  refine v_sld X Z ey4 (by omega) (by omega) (by omega) dL_law_520 ?_
  refine res_E X (run_V X (c_X7_points (g := g) (hK.c4) (hK.m60) (hK.2.1) (hK.2.2.1) (hK.2.2.2.1) ry1 ry2 ry3 ry4) gL_law_X7_points rfl hdX7_points ⟨(Nat.le_of_ble_eq_true rfl), (Nat.le_of_ble_eq_true rfl)⟩ ⟨(Nat.le_of_ble_eq_true rfl), (Nat.le_of_ble_eq_true rfl)⟩ 0 rfl rfl rfl [0, 7, 8, 9, 10] rfl rfl rfl rfl (by simp [Value.category]) dL_law_521) [0, 7, 8, 9, 10] rfl rfl ?_
  refine v_aload_n X dL_law_524 rfl ?_
  refine v_aload_n X dL_law_525 rfl ?_
  refine v_iload_n X dL_law_526 rfl ?_
  refine v_iconst X dL_law_527 ?_
  refine v_iadd X dL_law_528 ?_
  refine v_sld X Z ey1 (by omega) (by omega) (by omega) dL_law_529 ?_
  refine v_aload_n X dL_law_530 rfl ?_
  refine v_iload_n X dL_law_531 rfl ?_
  refine v_iconst X dL_law_532 ?_
  refine v_iadd X dL_law_533 ?_
  refine v_sld X Z ey2 (by omega) (by omega) (by omega) dL_law_534 ?_
  refine v_aload_n X dL_law_535 rfl ?_
  refine v_iload_n X dL_law_536 rfl ?_
  refine v_iconst X dL_law_537 ?_
  refine v_iadd X dL_law_538 ?_
  refine v_sld X Z ey3 (by omega) (by omega) (by omega) dL_law_539 ?_
  refine v_aload_n X dL_law_540 rfl ?_
  refine v_iload_n X dL_law_541 rfl ?_
  refine v_iconst X dL_law_542 ?_
  refine v_iadd X dL_law_543 ?_
  refine v_sld X Z ey4 (by omega) (by omega) (by omega) dL_law_544 ?_
  refine res_F X (run_V X (c_X8_points (g := g) (clkF_bd hK) (clkF_c1 hK) (clkF_t3 hK) hK.mc.1 ry1 ry2 ry3 ry4) gL_law_X8_points rfl hdX8_points ⟨(Nat.le_of_ble_eq_true rfl), (Nat.le_of_ble_eq_true rfl)⟩ ⟨(Nat.le_of_ble_eq_true rfl), (Nat.le_of_ble_eq_true rfl)⟩ 32 rfl rfl rfl [32, 33, 34, 35, 36, 37, 38, 39, 40, 41, 42] rfl rfl rfl rfl (by simp [Value.category]) dL_law_545) [32, 33, 34, 35, 36, 37, 38, 39, 40, 41, 42] rfl rfl rfl ?_
  dsimp only [patch, List.set, oAH, wRow, wTap, wClk, wAct, wDou, wRea, wAsk, wMod, List.cons_append, List.nil_append]
  refine v_icmp_eqT (tgt := 1156) X dL_law_548 (by decide) (e_points hK) ?_
  refine v_iinc X dL_law_1156 rfl (by decide) rfl ?_
  dsimp only [List.set]
  refine v_goto (tgt := 18) X dL_law_1159 (by decide) ?_
  exact ih lf fi it la le bt tln tk fm tt tf mk cn so tu sp mkd cnd sod tud spd mk1 cn1 so1 tu1 sp1 mk2 cn2 so2 tu2 sp2 hs ss ln wh sh mo fo ar rs rc pa0 trf trn lnm cum tkm sam tim ftm fpm lem lfm fl fmm fim ff fw fk fe ⟨hR, hT, hb, hK, hA, hd, hB, hI1, hI2, hfk, hfe, hff, hTB⟩

set_option maxHeartbeats 4000000 in
set_option maxRecDepth 100000 in
theorem L_doubts {g : Gx} {x : Xt} {b L : Nat} {xs : Nat → Int32} {B A : Nat → Nat} {i : Int} {lf fi : Int} {it la le bt : Nat → Int} {tln tk fm tt tf mk cn : Int} {so tu sp : Nat → Int} {mkd cnd : Int} {sod tud spd : Nat → Int} {mk1 cn1 : Int} {so1 tu1 sp1 : Nat → Int} {mk2 cn2 : Int} {so2 tu2 sp2 hs ss : Nat → Int} {ln wh sh mo fo : Int} {ar rs : Nat → Int} {rc pa0 : Int} {trf : Nat → Int} {trn lnm cum tkm sam tim ftm fpm lem lfm : Int} {fl fmm fim ff fw fk fe : Nat → Int} (X : Xo g x wsL_law RL cL_law 4 room_1) (Z : Xs x b L xs) (hL : L ≤ 3584) (hi : 0 ≤ i ∧ i + 7 ≤ L) (hV : LInv it la le fl fmm fim tln bt mk cn so tu sp ln hs ss fw sod tud spd ar rs rc pa0 mk1 cn1 so1 tu1 sp1 mk2 cn2 so2 tu2 sp2 fk fe ff trf trn) (ih : LLoop g x b B A (i + 7)) : V g x 43 1681 ((oAH g B (lf) (fi) :: (wRow g (B 1) (B 11) (B 12) (B 13) it la le ++ (wTap g (B 2) (B 14) bt tln tk fm tt tf ++ (wClk g (B 3) (B 15) (B 16) (B 17) mk cn so tu sp ++ (wClk g (B 4) (B 18) (B 19) (B 20) mkd cnd sod tud spd ++ (wClk g (B 5) (B 21) (B 22) (B 23) mk1 cn1 so1 tu1 sp1 ++ (wClk g (B 6) (B 24) (B 25) (B 26) mk2 cn2 so2 tu2 sp2 ++ (wAct g (B 7) (B 27) (B 28) hs ss ln ++ (wDou g (B 8) wh sh mo fo ++ (wRea g (B 9) (B 29) (B 30) ar rs rc pa0 ++ (wAsk g (B 10) (B 31) (trf) (trn)))))))))))) ++ (wMod g A 0 fi ln tln lf lnm cum tkm sam tim ftm fpm lem lfm trn fl fmm fim (clkF mk cn so tu sp) ff fw bt fk fe trf)) [some (.ref b), some (.ref (B 0)), some (.ref (A 0)), some (.int (iI i))] 553 [] := by
  obtain ⟨hR, hT, hb, hK, hA, hd, hB, hI1, hI2, hfk, hfe, hff, hTB⟩ := hV
  obtain ⟨y1, ey1⟩ : ∃ y : Int, y = (xs (i + 1).toNat).toInt := ⟨_, rfl⟩
  have ry1 : R32 y1 := by rw [ey1]; exact iI_r _
  obtain ⟨y2, ey2⟩ : ∃ y : Int, y = (xs (i + 2).toNat).toInt := ⟨_, rfl⟩
  have ry2 : R32 y2 := by rw [ey2]; exact iI_r _
  dsimp only [oAH, wRow, wTap, wClk, wAct, wDou, wRea, wAsk, wMod, List.cons_append, List.nil_append]
  refine v_aload_n X dL_law_553 rfl ?_
  refine v_aload_n X dL_law_554 rfl ?_
  refine v_iload_n X dL_law_555 rfl ?_
  refine v_iconst X dL_law_556 ?_
  refine v_iadd X dL_law_557 ?_
  refine v_sld X Z ey1 (by omega) (by omega) (by omega) dL_law_558 ?_
  refine v_aload_n X dL_law_559 rfl ?_
  refine v_iload_n X dL_law_560 rfl ?_
  refine v_iconst X dL_law_561 ?_
  refine v_iadd X dL_law_562 ?_
  refine v_sld X Z ey2 (by omega) (by omega) (by omega) dL_law_563 ?_
  refine res_I X (run_V X (c_X7_doubts (g := g) (hK.c4) (hK.m60) (hK.2.1) (hK.2.2.1) (hK.2.2.2.1) ry1 ry2) gL_law_X7_doubts rfl hdX7_doubts ⟨(Nat.le_of_ble_eq_true rfl), (Nat.le_of_ble_eq_true rfl)⟩ ⟨(Nat.le_of_ble_eq_true rfl), (Nat.le_of_ble_eq_true rfl)⟩ 0 rfl rfl rfl [0, 7, 8, 9, 10, 26] rfl rfl rfl rfl (by simp [Value.category]) dL_law_564) [0, 7, 8, 9, 10, 26] rfl rfl (fun _ => rfl) (fun v7 u7 h7 => ?_)
  obtain ⟨x1, x2, x3, x4⟩ := u7
  dsimp only [patch, List.set, oAH, wRow, wTap, wClk, wAct, wDou, wRea, wAsk, wMod, List.cons_append, List.nil_append]
  refine v_aload_n X dL_law_567 rfl ?_
  refine v_aload_n X dL_law_568 rfl ?_
  refine v_iload_n X dL_law_569 rfl ?_
  refine v_iconst X dL_law_570 ?_
  refine v_iadd X dL_law_571 ?_
  refine v_sld X Z ey1 (by omega) (by omega) (by omega) dL_law_572 ?_
  refine v_aload_n X dL_law_573 rfl ?_
  refine v_iload_n X dL_law_574 rfl ?_
  refine v_iconst X dL_law_575 ?_
  refine v_iadd X dL_law_576 ?_
  refine v_sld X Z ey2 (by omega) (by omega) (by omega) dL_law_577 ?_
  refine res_F X (run_V X (c_X8_doubts (g := g) (clkF_bd hK) (clkF_c1 hK) (clkF_t3 hK) ry1 ry2) gL_law_X8_doubts rfl hdX8_doubts ⟨(Nat.le_of_ble_eq_true rfl), (Nat.le_of_ble_eq_true rfl)⟩ ⟨(Nat.le_of_ble_eq_true rfl), (Nat.le_of_ble_eq_true rfl)⟩ 32 rfl rfl rfl [32, 33, 34, 35, 36, 37, 38, 39, 40, 41, 42] rfl rfl rfl rfl (by simp [Value.category]) dL_law_578) [32, 33, 34, 35, 36, 37, 38, 39, 40, 41, 42] rfl rfl rfl ?_
  dsimp only [patch, List.set, oAH, wRow, wTap, wClk, wAct, wDou, wRea, wAsk, wMod, List.cons_append, List.nil_append]
  refine v_icmp_eqT (tgt := 1156) X dL_law_581 (by decide) (st_doubts hK h7) ?_
  refine v_iinc X dL_law_1156 rfl (by decide) rfl ?_
  dsimp only [List.set]
  refine v_goto (tgt := 18) X dL_law_1159 (by decide) ?_
  exact ih lf fi it la le bt tln tk fm tt tf mk cn so tu sp mkd cnd sod tud spd mk1 cn1 so1 tu1 sp1 mk2 cn2 so2 tu2 sp2 hs ss ln _ _ _ _ ar rs rc pa0 trf trn lnm cum tkm sam tim ftm fpm lem lfm fl fmm fim ff fw fk fe ⟨hR, hT, hb, hK, hA, hd, hB, hI1, hI2, hfk, hfe, hff, hTB⟩

set_option maxHeartbeats 4000000 in
set_option maxRecDepth 100000 in
theorem L_doubt {g : Gx} {x : Xt} {b L : Nat} {xs : Nat → Int32} {B A : Nat → Nat} {i : Int} {lf fi : Int} {it la le bt : Nat → Int} {tln tk fm tt tf mk cn : Int} {so tu sp : Nat → Int} {mkd cnd : Int} {sod tud spd : Nat → Int} {mk1 cn1 : Int} {so1 tu1 sp1 : Nat → Int} {mk2 cn2 : Int} {so2 tu2 sp2 hs ss : Nat → Int} {ln wh sh mo fo : Int} {ar rs : Nat → Int} {rc pa0 : Int} {trf : Nat → Int} {trn lnm cum tkm sam tim ftm fpm lem lfm : Int} {fl fmm fim ff fw fk fe : Nat → Int} (X : Xo g x wsL_law RL cL_law 4 room_1) (Z : Xs x b L xs) (hL : L ≤ 3584) (hi : 0 ≤ i ∧ i + 7 ≤ L) (hV : LInv it la le fl fmm fim tln bt mk cn so tu sp ln hs ss fw sod tud spd ar rs rc pa0 mk1 cn1 so1 tu1 sp1 mk2 cn2 so2 tu2 sp2 fk fe ff trf trn) (ih : LLoop g x b B A (i + 7)) : V g x 43 1681 ((oAH g B (lf) (fi) :: (wRow g (B 1) (B 11) (B 12) (B 13) it la le ++ (wTap g (B 2) (B 14) bt tln tk fm tt tf ++ (wClk g (B 3) (B 15) (B 16) (B 17) mk cn so tu sp ++ (wClk g (B 4) (B 18) (B 19) (B 20) mkd cnd sod tud spd ++ (wClk g (B 5) (B 21) (B 22) (B 23) mk1 cn1 so1 tu1 sp1 ++ (wClk g (B 6) (B 24) (B 25) (B 26) mk2 cn2 so2 tu2 sp2 ++ (wAct g (B 7) (B 27) (B 28) hs ss ln ++ (wDou g (B 8) wh sh mo fo ++ (wRea g (B 9) (B 29) (B 30) ar rs rc pa0 ++ (wAsk g (B 10) (B 31) (trf) (trn)))))))))))) ++ (wMod g A 0 fi ln tln lf lnm cum tkm sam tim ftm fpm lem lfm trn fl fmm fim (clkF mk cn so tu sp) ff fw bt fk fe trf)) [some (.ref b), some (.ref (B 0)), some (.ref (A 0)), some (.int (iI i))] 586 [] := by
  obtain ⟨hR, hT, hb, hK, hA, hd, hB, hI1, hI2, hfk, hfe, hff, hTB⟩ := hV
  obtain ⟨y1, ey1⟩ : ∃ y : Int, y = (xs (i + 1).toNat).toInt := ⟨_, rfl⟩
  have ry1 : R32 y1 := by rw [ey1]; exact iI_r _
  obtain ⟨y2, ey2⟩ : ∃ y : Int, y = (xs (i + 2).toNat).toInt := ⟨_, rfl⟩
  have ry2 : R32 y2 := by rw [ey2]; exact iI_r _
  obtain ⟨y3, ey3⟩ : ∃ y : Int, y = (xs (i + 3).toNat).toInt := ⟨_, rfl⟩
  have ry3 : R32 y3 := by rw [ey3]; exact iI_r _
  obtain ⟨y4, ey4⟩ : ∃ y : Int, y = (xs (i + 4).toNat).toInt := ⟨_, rfl⟩
  have ry4 : R32 y4 := by rw [ey4]; exact iI_r _
  dsimp only [oAH, wRow, wTap, wClk, wAct, wDou, wRea, wAsk, wMod, List.cons_append, List.nil_append]
  refine v_aload_n X dL_law_586 rfl ?_
  refine v_aload_n X dL_law_587 rfl ?_
  refine v_iload_n X dL_law_588 rfl ?_
  refine v_iconst X dL_law_589 ?_
  refine v_iadd X dL_law_590 ?_
  refine v_sld X Z ey1 (by omega) (by omega) (by omega) dL_law_591 ?_
  refine v_aload_n X dL_law_592 rfl ?_
  refine v_iload_n X dL_law_593 rfl ?_
  refine v_iconst X dL_law_594 ?_
  refine v_iadd X dL_law_595 ?_
  refine v_sld X Z ey2 (by omega) (by omega) (by omega) dL_law_596 ?_
  refine v_aload_n X dL_law_597 rfl ?_
  refine v_iload_n X dL_law_598 rfl ?_
  refine v_iconst X dL_law_599 ?_
  refine v_iadd X dL_law_600 ?_
  refine v_sld X Z ey3 (by omega) (by omega) (by omega) dL_law_601 ?_
  refine v_aload_n X dL_law_602 rfl ?_
  refine v_iload_n X dL_law_603 rfl ?_
  refine v_iconst X dL_law_604 ?_
  refine v_iadd X dL_law_605 ?_
  refine v_sld X Z ey4 (by omega) (by omega) (by omega) dL_law_606 ?_
  refine res_I X (run_V X (c_X7_doubt (g := g) (hK.c4) (hK.m60) (hK.2.1) (hK.2.2.1) (hK.2.2.2.1) ry1 ry2 ry3 ry4) gL_law_X7_doubt rfl hdX7_doubt ⟨(Nat.le_of_ble_eq_true rfl), (Nat.le_of_ble_eq_true rfl)⟩ ⟨(Nat.le_of_ble_eq_true rfl), (Nat.le_of_ble_eq_true rfl)⟩ 0 rfl rfl rfl [0, 7, 8, 9, 10, 26] rfl rfl rfl rfl (by simp [Value.category]) dL_law_607) [0, 7, 8, 9, 10, 26] rfl rfl (fun _ => rfl) (fun v7 u7 h7 => ?_)
  obtain ⟨x1, x2, x3, x4⟩ := u7
  dsimp only [patch, List.set, oAH, wRow, wTap, wClk, wAct, wDou, wRea, wAsk, wMod, List.cons_append, List.nil_append]
  refine v_aload_n X dL_law_610 rfl ?_
  refine v_aload_n X dL_law_611 rfl ?_
  refine v_iload_n X dL_law_612 rfl ?_
  refine v_iconst X dL_law_613 ?_
  refine v_iadd X dL_law_614 ?_
  refine v_sld X Z ey1 (by omega) (by omega) (by omega) dL_law_615 ?_
  refine v_aload_n X dL_law_616 rfl ?_
  refine v_iload_n X dL_law_617 rfl ?_
  refine v_iconst X dL_law_618 ?_
  refine v_iadd X dL_law_619 ?_
  refine v_sld X Z ey2 (by omega) (by omega) (by omega) dL_law_620 ?_
  refine v_aload_n X dL_law_621 rfl ?_
  refine v_iload_n X dL_law_622 rfl ?_
  refine v_iconst X dL_law_623 ?_
  refine v_iadd X dL_law_624 ?_
  refine v_sld X Z ey3 (by omega) (by omega) (by omega) dL_law_625 ?_
  refine v_aload_n X dL_law_626 rfl ?_
  refine v_iload_n X dL_law_627 rfl ?_
  refine v_iconst X dL_law_628 ?_
  refine v_iadd X dL_law_629 ?_
  refine v_sld X Z ey4 (by omega) (by omega) (by omega) dL_law_630 ?_
  refine res_I X (run_V X (c_X8_doubt (g := g) (clkF_bd hK) (clkF_c1 hK) (clkF_t3 hK) ry1 ry2 ry3 ry4) gL_law_X8_doubt rfl hdX8_doubt ⟨(Nat.le_of_ble_eq_true rfl), (Nat.le_of_ble_eq_true rfl)⟩ ⟨(Nat.le_of_ble_eq_true rfl), (Nat.le_of_ble_eq_true rfl)⟩ 32 rfl rfl rfl [32, 33, 34, 35, 36, 37, 38, 39, 40, 41, 42] rfl rfl rfl rfl (by simp [Value.category]) dL_law_631) [32, 33, 34, 35, 36, 37, 38, 39, 40, 41, 42] rfl rfl (fun _ => rfl) (fun v8 u8 h8 => ?_)
  dsimp only [patch, List.set, oAH, wRow, wTap, wClk, wAct, wDou, wRea, wAsk, wMod, List.cons_append, List.nil_append]
  refine v_icmp_eqT (tgt := 1156) X dL_law_634 (by decide) (st_doubt hK h7 h8) ?_
  refine v_iinc X dL_law_1156 rfl (by decide) rfl ?_
  dsimp only [List.set]
  refine v_goto (tgt := 18) X dL_law_1159 (by decide) ?_
  exact ih lf fi it la le bt tln tk fm tt tf mk cn so tu sp mkd cnd sod tud spd mk1 cn1 so1 tu1 sp1 mk2 cn2 so2 tu2 sp2 hs ss ln _ _ _ _ ar rs rc pa0 trf trn lnm cum tkm sam tim ftm fpm lem lfm fl fmm fim ff fw fk fe ⟨hR, hT, hb, hK, hA, hd, hB, hI1, hI2, hfk, hfe, hff, hTB⟩

set_option maxHeartbeats 4000000 in
set_option maxRecDepth 100000 in
theorem L_isDoubt {g : Gx} {x : Xt} {b L : Nat} {xs : Nat → Int32} {B A : Nat → Nat} {i : Int} {lf fi : Int} {it la le bt : Nat → Int} {tln tk fm tt tf mk cn : Int} {so tu sp : Nat → Int} {mkd cnd : Int} {sod tud spd : Nat → Int} {mk1 cn1 : Int} {so1 tu1 sp1 : Nat → Int} {mk2 cn2 : Int} {so2 tu2 sp2 hs ss : Nat → Int} {ln wh sh mo fo : Int} {ar rs : Nat → Int} {rc pa0 : Int} {trf : Nat → Int} {trn lnm cum tkm sam tim ftm fpm lem lfm : Int} {fl fmm fim ff fw fk fe : Nat → Int} (X : Xo g x wsL_law RL cL_law 4 room_1) (Z : Xs x b L xs) (hL : L ≤ 3584) (hi : 0 ≤ i ∧ i + 7 ≤ L) (hV : LInv it la le fl fmm fim tln bt mk cn so tu sp ln hs ss fw sod tud spd ar rs rc pa0 mk1 cn1 so1 tu1 sp1 mk2 cn2 so2 tu2 sp2 fk fe ff trf trn) (ih : LLoop g x b B A (i + 7)) : V g x 43 1681 ((oAH g B (lf) (fi) :: (wRow g (B 1) (B 11) (B 12) (B 13) it la le ++ (wTap g (B 2) (B 14) bt tln tk fm tt tf ++ (wClk g (B 3) (B 15) (B 16) (B 17) mk cn so tu sp ++ (wClk g (B 4) (B 18) (B 19) (B 20) mkd cnd sod tud spd ++ (wClk g (B 5) (B 21) (B 22) (B 23) mk1 cn1 so1 tu1 sp1 ++ (wClk g (B 6) (B 24) (B 25) (B 26) mk2 cn2 so2 tu2 sp2 ++ (wAct g (B 7) (B 27) (B 28) hs ss ln ++ (wDou g (B 8) wh sh mo fo ++ (wRea g (B 9) (B 29) (B 30) ar rs rc pa0 ++ (wAsk g (B 10) (B 31) (trf) (trn)))))))))))) ++ (wMod g A 0 fi ln tln lf lnm cum tkm sam tim ftm fpm lem lfm trn fl fmm fim (clkF mk cn so tu sp) ff fw bt fk fe trf)) [some (.ref b), some (.ref (B 0)), some (.ref (A 0)), some (.int (iI i))] 639 [] := by
  obtain ⟨hR, hT, hb, hK, hA, hd, hB, hI1, hI2, hfk, hfe, hff, hTB⟩ := hV
  obtain ⟨y1, ey1⟩ : ∃ y : Int, y = (xs (i + 1).toNat).toInt := ⟨_, rfl⟩
  have ry1 : R32 y1 := by rw [ey1]; exact iI_r _
  obtain ⟨y2, ey2⟩ : ∃ y : Int, y = (xs (i + 2).toNat).toInt := ⟨_, rfl⟩
  have ry2 : R32 y2 := by rw [ey2]; exact iI_r _
  obtain ⟨y3, ey3⟩ : ∃ y : Int, y = (xs (i + 3).toNat).toInt := ⟨_, rfl⟩
  have ry3 : R32 y3 := by rw [ey3]; exact iI_r _
  obtain ⟨y4, ey4⟩ : ∃ y : Int, y = (xs (i + 4).toNat).toInt := ⟨_, rfl⟩
  have ry4 : R32 y4 := by rw [ey4]; exact iI_r _
  dsimp only [oAH, wRow, wTap, wClk, wAct, wDou, wRea, wAsk, wMod, List.cons_append, List.nil_append]
  refine v_aload_n X dL_law_639 rfl ?_
  refine v_aload_n X dL_law_640 rfl ?_
  refine v_iload_n X dL_law_641 rfl ?_
  refine v_iconst X dL_law_642 ?_
  refine v_iadd X dL_law_643 ?_
  refine v_sld X Z ey1 (by omega) (by omega) (by omega) dL_law_644 ?_
  refine v_aload_n X dL_law_645 rfl ?_
  refine v_iload_n X dL_law_646 rfl ?_
  refine v_iconst X dL_law_647 ?_
  refine v_iadd X dL_law_648 ?_
  refine v_sld X Z ey2 (by omega) (by omega) (by omega) dL_law_649 ?_
  refine v_aload_n X dL_law_650 rfl ?_
  refine v_iload_n X dL_law_651 rfl ?_
  refine v_iconst X dL_law_652 ?_
  refine v_iadd X dL_law_653 ?_
  refine v_sld X Z ey3 (by omega) (by omega) (by omega) dL_law_654 ?_
  refine v_aload_n X dL_law_655 rfl ?_
  refine v_iload_n X dL_law_656 rfl ?_
  refine v_iconst X dL_law_657 ?_
  refine v_iadd X dL_law_658 ?_
  refine v_sld X Z ey4 (by omega) (by omega) (by omega) dL_law_659 ?_
  refine res_I X (run_V X (c_X7_isDoubt (g := g) (hK.c4) (hK.m60) (hK.2.1) (hK.2.2.1) (hK.2.2.2.1) ry1 ry2 ry3 ry4) gL_law_X7_isDoubt rfl hdX7_isDoubt ⟨(Nat.le_of_ble_eq_true rfl), (Nat.le_of_ble_eq_true rfl)⟩ ⟨(Nat.le_of_ble_eq_true rfl), (Nat.le_of_ble_eq_true rfl)⟩ 0 rfl rfl rfl [0, 7, 8, 9, 10, 26] rfl rfl rfl rfl (by simp [Value.category]) dL_law_660) [0, 7, 8, 9, 10, 26] rfl rfl (fun _ => rfl) (fun v7 u7 h7 => ?_)
  obtain ⟨x1, x2, x3, x4⟩ := u7
  dsimp only [patch, List.set, oAH, wRow, wTap, wClk, wAct, wDou, wRea, wAsk, wMod, List.cons_append, List.nil_append]
  refine v_aload_n X dL_law_663 rfl ?_
  refine v_aload_n X dL_law_664 rfl ?_
  refine v_iload_n X dL_law_665 rfl ?_
  refine v_iconst X dL_law_666 ?_
  refine v_iadd X dL_law_667 ?_
  refine v_sld X Z ey1 (by omega) (by omega) (by omega) dL_law_668 ?_
  refine v_aload_n X dL_law_669 rfl ?_
  refine v_iload_n X dL_law_670 rfl ?_
  refine v_iconst X dL_law_671 ?_
  refine v_iadd X dL_law_672 ?_
  refine v_sld X Z ey2 (by omega) (by omega) (by omega) dL_law_673 ?_
  refine v_aload_n X dL_law_674 rfl ?_
  refine v_iload_n X dL_law_675 rfl ?_
  refine v_iconst X dL_law_676 ?_
  refine v_iadd X dL_law_677 ?_
  refine v_sld X Z ey3 (by omega) (by omega) (by omega) dL_law_678 ?_
  refine v_aload_n X dL_law_679 rfl ?_
  refine v_iload_n X dL_law_680 rfl ?_
  refine v_iconst X dL_law_681 ?_
  refine v_iadd X dL_law_682 ?_
  refine v_sld X Z ey4 (by omega) (by omega) (by omega) dL_law_683 ?_
  refine res_F X (run_V X (c_X8_isDoubt (g := g) (clkF_bd hK) (clkF_c1 hK) (clkF_t3 hK) ry1 ry2 ry3 ry4) gL_law_X8_isDoubt rfl hdX8_isDoubt ⟨(Nat.le_of_ble_eq_true rfl), (Nat.le_of_ble_eq_true rfl)⟩ ⟨(Nat.le_of_ble_eq_true rfl), (Nat.le_of_ble_eq_true rfl)⟩ 32 rfl rfl rfl [32, 33, 34, 35, 36, 37, 38, 39, 40, 41, 42] rfl rfl rfl rfl (by simp [Value.category]) dL_law_684) [32, 33, 34, 35, 36, 37, 38, 39, 40, 41, 42] rfl rfl rfl ?_
  dsimp only [patch, List.set, oAH, wRow, wTap, wClk, wAct, wDou, wRea, wAsk, wMod, List.cons_append, List.nil_append]
  refine v_icmp_eqT (tgt := 1156) X dL_law_687 (by decide) (st_isDoubt hK h7) ?_
  refine v_iinc X dL_law_1156 rfl (by decide) rfl ?_
  dsimp only [List.set]
  refine v_goto (tgt := 18) X dL_law_1159 (by decide) ?_
  exact ih lf fi it la le bt tln tk fm tt tf mk cn so tu sp mkd cnd sod tud spd mk1 cn1 so1 tu1 sp1 mk2 cn2 so2 tu2 sp2 hs ss ln _ _ _ _ ar rs rc pa0 trf trn lnm cum tkm sam tim ftm fpm lem lfm fl fmm fim ff fw fk fe ⟨hR, hT, hb, hK, hA, hd, hB, hI1, hI2, hfk, hfe, hff, hTB⟩
