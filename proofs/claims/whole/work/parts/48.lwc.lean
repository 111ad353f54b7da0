set_option maxHeartbeats 4000000 in
set_option maxRecDepth 100000 in
theorem L_next {g : Gx} {x : Xt} {b L : Nat} {xs : Nat → Int32} {B A : Nat → Nat} {i : Int} {lf fi : Int} {it la le bt : Nat → Int} {tln tk fm tt tf mk cn : Int} {so tu sp : Nat → Int} {mkd cnd : Int} {sod tud spd : Nat → Int} {mk1 cn1 : Int} {so1 tu1 sp1 : Nat → Int} {mk2 cn2 : Int} {so2 tu2 sp2 hs ss : Nat → Int} {ln wh sh mo fo : Int} {ar rs : Nat → Int} {rc pa0 : Int} {trf : Nat → Int} {trn lnm cum tkm sam tim ftm fpm lem lfm : Int} {fl fmm fim ff fw fk fe : Nat → Int} (X : Xo g x wsL_law RL cL_law 4 room_1) (Z : Xs x b L xs) (hL : L ≤ 3584) (hi : 0 ≤ i ∧ i + 7 ≤ L) (hV : LInv it la le fl fmm fim tln bt mk cn so tu sp ln hs ss fw sod tud spd ar rs rc pa0 mk1 cn1 so1 tu1 sp1 mk2 cn2 so2 tu2 sp2 fk fe ff trf trn) (ih : LLoop g x b B A (i + 7)) : V g x 43 1681 ((oAH g B (lf) (fi) :: (wRow g (B 1) (B 11) (B 12) (B 13) it la le ++ (wTap g (B 2) (B 14) bt tln tk fm tt tf ++ (wClk g (B 3) (B 15) (B 16) (B 17) mk cn so tu sp ++ (wClk g (B 4) (B 18) (B 19) (B 20) mkd cnd sod tud spd ++ (wClk g (B 5) (B 21) (B 22) (B 23) mk1 cn1 so1 tu1 sp1 ++ (wClk g (B 6) (B 24) (B 25) (B 26) mk2 cn2 so2 tu2 sp2 ++ (wAct g (B 7) (B 27) (B 28) hs ss ln ++ (wDou g (B 8) wh sh mo fo ++ (wRea g (B 9) (B 29) (B 30) ar rs rc pa0 ++ (wAsk g (B 10) (B 31) (trf) (trn)))))))))))) ++ (wMod g A 0 fi ln tln lf lnm cum tkm sam tim ftm fpm lem lfm trn fl fmm fim (clkF mk cn so tu sp) ff fw bt fk fe trf)) [some (.ref b), some (.ref (B 0)), some (.ref (A 0)), some (.int (iI i))] 692 [] := by
  obtain ⟨hR, hT, hb, hK, hA, hd, hB, hI1, hI2, hfk, hfe, hff, hTB⟩ := hV
  obtain ⟨y1, ey1⟩ : ∃ y : Int, y = (xs (i + 1).toNat).toInt := ⟨_, rfl⟩
  have ry1 : R32 y1 := by rw [ey1]; exact iI_r _
  obtain ⟨y2, ey2⟩ : ∃ y : Int, y = (xs (i + 2).toNat).toInt := ⟨_, rfl⟩
  have ry2 : R32 y2 := by rw [ey2]; exact iI_r _
  obtain ⟨y3, ey3⟩ : ∃ y : Int, y = (xs (i + 3).toNat).toInt := ⟨_, rfl⟩
  have ry3 : R32 y3 := by rw [ey3]; exact iI_r _
  obtain ⟨y4, ey4⟩ : ∃ y : Int, y = (xs (i + 4).toNat).toInt := ⟨_, rfl⟩
  have ry4 : R32 y4 := by rw [ey4]; exact iI_r _
  obtain ⟨y5, ey5⟩ : ∃ y : Int, y = (xs (i + 5).toNat).toInt := ⟨_, rfl⟩
  have ry5 : R32 y5 := by rw [ey5]; exact iI_r _
  obtain ⟨y6, ey6⟩ : ∃ y : Int, y = (xs (i + 6).toNat).toInt := ⟨_, rfl⟩
  have ry6 : R32 y6 := by rw [ey6]; exact iI_r _
  dsimp only [oAH, wRow, wTap, wClk, wAct, wDou, wRea, wAsk, wMod, List.cons_append, List.nil_append]
  refine v_aload_n X dL_law_692 rfl ?_
  refine v_aload_n X dL_law_693 rfl ?_
  refine v_iload_n X dL_law_694 rfl ?_
  refine v_iconst X dL_law_695 ?_
  refine v_iadd X dL_law_696 ?_
  refine v_sld X Z ey1 (by omega) (by omega) (by omega) dL_law_697 ?_
  refine v_aload_n X dL_law_698 rfl ?_
  refine v_iload_n X dL_law_699 rfl ?_
  refine v_iconst X dL_law_700 ?_
  refine v_iadd X dL_law_701 ?_
  refine v_sld X Z ey2 (by omega) (by omega) (by omega) dL_law_702 ?_
  refine v_aload_n X dL_law_703 rfl ?_
  refine v_iload_n X dL_law_704 rfl ?_
  refine v_iconst X dL_law_705 ?_
  refine v_iadd X dL_law_706 ?_
  refine v_sld X Z ey3 (by omega) (by omega) (by omega) dL_law_707 ?_
  refine v_aload_n X dL_law_708 rfl ?_
  refine v_iload_n X dL_law_709 rfl ?_
  refine v_iconst X dL_law_710 ?_
  refine v_iadd X dL_law_711 ?_
  refine v_sld X Z ey4 (by omega) (by omega) (by omega) dL_law_712 ?_
  refine v_aload_n X dL_law_713 rfl ?_
  refine v_iload_n X dL_law_714 rfl ?_
  refine v_iconst X dL_law_715 ?_
  refine v_iadd X dL_law_716 ?_
  refine v_sld X Z ey5 (by omega) (by omega) (by omega) dL_law_717 ?_
  refine v_aload_n X dL_law_718 rfl ?_
  refine v_iload_n X dL_law_719 rfl ?_
  refine v_bipush X dL_law_720 (by decide) ?_
  refine v_iadd X dL_law_722 ?_
  refine v_sld X Z ey6 (by omega) (by omega) (by omega) dL_law_723 ?_
  refine res_E X (run_V X (c_X7_next (g := g) (hK.c4) (hK.m60) (hK.2.1) (hK.2.2.1) (hK.2.2.2.1) ry1 ry2 ry3 ry4 ry5 ry6) gL_law_X7_next rfl hdX7_next ⟨(Nat.le_of_ble_eq_true rfl), (Nat.le_of_ble_eq_true rfl)⟩ ⟨(Nat.le_of_ble_eq_true rfl), (Nat.le_of_ble_eq_true rfl)⟩ 0 rfl rfl rfl [0, 7, 8, 9, 10] rfl rfl rfl rfl (by simp [Value.category]) dL_law_724) [0, 7, 8, 9, 10] rfl rfl ?_
  refine v_aload_n X dL_law_727 rfl ?_
  refine v_aload_n X dL_law_728 rfl ?_
  refine v_iload_n X dL_law_729 rfl ?_
  refine v_iconst X dL_law_730 ?_
  refine v_iadd X dL_law_731 ?_
  refine v_sld X Z ey1 (by omega) (by omega) (by omega) dL_law_732 ?_
  refine v_aload_n X dL_law_733 rfl ?_
  refine v_iload_n X dL_law_734 rfl ?_
  refine v_iconst X dL_law_735 ?_
  refine v_iadd X dL_law_736 ?_
  refine v_sld X Z ey2 (by omega) (by omega) (by omega) dL_law_737 ?_
  refine v_aload_n X dL_law_738 rfl ?_
  refine v_iload_n X dL_law_739 rfl ?_
  refine v_iconst X dL_law_740 ?_
  refine v_iadd X dL_law_741 ?_
  refine v_sld X Z ey3 (by omega) (by omega) (by omega) dL_law_742 ?_
  refine v_aload_n X dL_law_743 rfl ?_
  refine v_iload_n X dL_law_744 rfl ?_
  refine v_iconst X dL_law_745 ?_
  refine v_iadd X dL_law_746 ?_
  refine v_sld X Z ey4 (by omega) (by omega) (by omega) dL_law_747 ?_
  refine v_aload_n X dL_law_748 rfl ?_
  refine v_iload_n X dL_law_749 rfl ?_
  refine v_iconst X dL_law_750 ?_
  refine v_iadd X dL_law_751 ?_
  refine v_sld X Z ey5 (by omega) (by omega) (by omega) dL_law_752 ?_
  refine v_aload_n X dL_law_753 rfl ?_
  refine v_iload_n X dL_law_754 rfl ?_
  refine v_bipush X dL_law_755 (by decide) ?_
  refine v_iadd X dL_law_757 ?_
  refine v_sld X Z ey6 (by omega) (by omega) (by omega) dL_law_758 ?_
  refine res_I X (run_V X (c_X8_next (g := g) (clkF_bd hK) (clkF_c1 hK) (clkF_t3 hK) ry1 ry2 ry3 ry4 ry5 ry6) gL_law_X8_next rfl hdX8_next ⟨(Nat.le_of_ble_eq_true rfl), (Nat.le_of_ble_eq_true rfl)⟩ ⟨(Nat.le_of_ble_eq_true rfl), (Nat.le_of_ble_eq_true rfl)⟩ 32 rfl rfl rfl [32, 33, 34, 35, 36, 37, 38, 39, 40, 41, 42] rfl rfl rfl rfl (by simp [Value.category]) dL_law_759) [32, 33, 34, 35, 36, 37, 38, 39, 40, 41, 42] rfl rfl (fun _ => rfl) (fun v8 u8 h8 => ?_)
  dsimp only [patch, List.set, oAH, wRow, wTap, wClk, wAct, wDou, wRea, wAsk, wMod, List.cons_append, List.nil_append]
  refine v_icmp_eqT (tgt := 1156) X dL_law_762 (by decide) (st_next hK h8) ?_
  refine v_iinc X dL_law_1156 rfl (by decide) rfl ?_
  dsimp only [List.set]
  refine v_goto (tgt := 18) X dL_law_1159 (by decide) ?_
  exact ih lf fi it la le bt tln tk fm tt tf mk cn so tu sp mkd cnd sod tud spd mk1 cn1 so1 tu1 sp1 mk2 cn2 so2 tu2 sp2 hs ss ln wh sh mo fo ar rs rc pa0 trf trn lnm cum tkm sam tim ftm fpm lem lfm fl fmm fim ff fw fk fe ⟨hR, hT, hb, hK, hA, hd, hB, hI1, hI2, hfk, hfe, hff, hTB⟩

set_option maxHeartbeats 4000000 in
set_option maxRecDepth 100000 in
theorem L_often {g : Gx} {x : Xt} {b L : Nat} {xs : Nat → Int32} {B A : Nat → Nat} {i : Int} {lf fi : Int} {it la le bt : Nat → Int} {tln tk fm tt tf mk cn : Int} {so tu sp : Nat → Int} {mkd cnd : Int} {sod tud spd : Nat → Int} {mk1 cn1 : Int} {so1 tu1 sp1 : Nat → Int} {mk2 cn2 : Int} {so2 tu2 sp2 hs ss : Nat → Int} {ln wh sh mo fo : Int} {ar rs : Nat → Int} {rc pa0 : Int} {trf : Nat → Int} {trn lnm cum tkm sam tim ftm fpm lem lfm : Int} {fl fmm fim ff fw fk fe : Nat → Int} (X : Xo g x wsL_law RL cL_law 4 room_1) (Z : Xs x b L xs) (hL : L ≤ 3584) (hi : 0 ≤ i ∧ i + 7 ≤ L) (hV : LInv it la le fl fmm fim tln bt mk cn so tu sp ln hs ss fw sod tud spd ar rs rc pa0 mk1 cn1 so1 tu1 sp1 mk2 cn2 so2 tu2 sp2 fk fe ff trf trn) (ih : LLoop g x b B A (i + 7)) : V g x 43 1681 ((oAH g B (lf) (fi) :: (wRow g (B 1) (B 11) (B 12) (B 13) it la le ++ (wTap g (B 2) (B 14) bt tln tk fm tt tf ++ (wClk g (B 3) (B 15) (B 16) (B 17) mk cn so tu sp ++ (wClk g (B 4) (B 18) (B 19) (B 20) mkd cnd sod tud spd ++ (wClk g (B 5) (B 21) (B 22) (B 23) mk1 cn1 so1 tu1 sp1 ++ (wClk g (B 6) (B 24) (B 25) (B 26) mk2 cn2 so2 tu2 sp2 ++ (wAct g (B 7) (B 27) (B 28) hs ss ln ++ (wDou g (B 8) wh sh mo fo ++ (wRea g (B 9) (B 29) (B 30) ar rs rc pa0 ++ (wAsk g (B 10) (B 31) (trf) (trn)))))))))))) ++ (wMod g A 0 fi ln tln lf lnm cum tkm sam tim ftm fpm lem lfm trn fl fmm fim (clkF mk cn so tu sp) ff fw bt fk fe trf)) [some (.ref b), some (.ref (B 0)), some (.ref (A 0)), some (.int (iI i))] 767 [] := by
  obtain ⟨hR, hT, hb, hK, hA, hd, hB, hI1, hI2, hfk, hfe, hff, hTB⟩ := hV
  obtain ⟨y1, ey1⟩ : ∃ y : Int, y = (xs (i + 1).toNat).toInt := ⟨_, rfl⟩
  have ry1 : R32 y1 := by rw [ey1]; exact iI_r _
  obtain ⟨y2, ey2⟩ : ∃ y : Int, y = (xs (i + 2).toNat).toInt := ⟨_, rfl⟩
  have ry2 : R32 y2 := by rw [ey2]; exact iI_r _
  obtain ⟨y3, ey3⟩ : ∃ y : Int, y = (xs (i + 3).toNat).toInt := ⟨_, rfl⟩
  have ry3 : R32 y3 := by rw [ey3]; exact iI_r _
  dsimp only [oAH, wRow, wTap, wClk, wAct, wDou, wRea, wAsk, wMod, List.cons_append, List.nil_append]
  refine v_aload_n X dL_law_767 rfl ?_
  refine v_aload_n X dL_law_768 rfl ?_
  refine v_iload_n X dL_law_769 rfl ?_
  refine v_iconst X dL_law_770 ?_
  refine v_iadd X dL_law_771 ?_
  refine v_sld X Z ey1 (by omega) (by omega) (by omega) dL_law_772 ?_
  refine v_aload_n X dL_law_773 rfl ?_
  refine v_iload_n X dL_law_774 rfl ?_
  refine v_iconst X dL_law_775 ?_
  refine v_iadd X dL_law_776 ?_
  refine v_sld X Z ey2 (by omega) (by omega) (by omega) dL_law_777 ?_
  refine v_aload_n X dL_law_778 rfl ?_
  refine v_iload_n X dL_law_779 rfl ?_
  refine v_iconst X dL_law_780 ?_
  refine v_iadd X dL_law_781 ?_
  refine v_sld X Z ey3 (by omega) (by omega) (by omega) dL_law_782 ?_
  refine res_E X (run_V X (c_X7_often (g := g) (hK.c4) (hK.m60) (hK.2.1) (hK.2.2.1) (hK.2.2.2.1) ry1 ry2 ry3) gL_law_X7_often rfl hdX7_often ⟨(Nat.le_of_ble_eq_true rfl), (Nat.le_of_ble_eq_true rfl)⟩ ⟨(Nat.le_of_ble_eq_true rfl), (Nat.le_of_ble_eq_true rfl)⟩ 0 rfl rfl rfl [0, 7, 8, 9, 10] rfl rfl rfl rfl (by simp [Value.category]) dL_law_783) [0, 7, 8, 9, 10] rfl rfl ?_
  refine v_aload_n X dL_law_786 rfl ?_
  refine v_aload_n X dL_law_787 rfl ?_
  refine v_iload_n X dL_law_788 rfl ?_
  refine v_iconst X dL_law_789 ?_
  refine v_iadd X dL_law_790 ?_
  refine v_sld X Z ey1 (by omega) (by omega) (by omega) dL_law_791 ?_
  refine v_aload_n X dL_law_792 rfl ?_
  refine v_iload_n X dL_law_793 rfl ?_
  refine v_iconst X dL_law_794 ?_
  refine v_iadd X dL_law_795 ?_
  refine v_sld X Z ey2 (by omega) (by omega) (by omega) dL_law_796 ?_
  refine v_aload_n X dL_law_797 rfl ?_
  refine v_iload_n X dL_law_798 rfl ?_
  refine v_iconst X dL_law_799 ?_
  refine v_iadd X dL_law_800 ?_
  refine v_sld X Z ey3 (by omega) (by omega) (by omega) dL_law_801 ?_
  refine res_F X (run_V X (c_X8_often (g := g) (clkF_bd hK) (clkF_c1 hK) (clkF_t3 hK) ry1 ry2 ry3) gL_law_X8_often rfl hdX8_often ⟨(Nat.le_of_ble_eq_true rfl), (Nat.le_of_ble_eq_true rfl)⟩ ⟨(Nat.le_of_ble_eq_true rfl), (Nat.le_of_ble_eq_true rfl)⟩ 32 rfl rfl rfl [32, 33, 34, 35, 36, 37, 38, 39, 40, 41, 42] rfl rfl rfl rfl (by simp [Value.category]) dL_law_802) [32, 33, 34, 35, 36, 37, 38, 39, 40, 41, 42] rfl rfl rfl ?_
  dsimp only [patch, List.set, oAH, wRow, wTap, wClk, wAct, wDou, wRea, wAsk, wMod, List.cons_append, List.nil_append]
  refine v_icmp_eqT (tgt := 1156) X dL_law_805 (by decide) (e_often hK) ?_
  refine v_iinc X dL_law_1156 rfl (by decide) rfl ?_
  dsimp only [List.set]
  refine v_goto (tgt := 18) X dL_law_1159 (by decide) ?_
  exact ih lf fi it la le bt tln tk fm tt tf mk cn so tu sp mkd cnd sod tud spd mk1 cn1 so1 tu1 sp1 mk2 cn2 so2 tu2 sp2 hs ss ln wh sh mo fo ar rs rc pa0 trf trn lnm cum tkm sam tim ftm fpm lem lfm fl fmm fim ff fw fk fe ⟨hR, hT, hb, hK, hA, hd, hB, hI1, hI2, hfk, hfe, hff, hTB⟩

set_option maxHeartbeats 4000000 in
set_option maxRecDepth 100000 in
theorem L_all {g : Gx} {x : Xt} {b L : Nat} {xs : Nat → Int32} {B A : Nat → Nat} {i : Int} {lf fi : Int} {it la le bt : Nat → Int} {tln tk fm tt tf mk cn : Int} {so tu sp : Nat → Int} {mkd cnd : Int} {sod tud spd : Nat → Int} {mk1 cn1 : Int} {so1 tu1 sp1 : Nat → Int} {mk2 cn2 : Int} {so2 tu2 sp2 hs ss : Nat → Int} {ln wh sh mo fo : Int} {ar rs : Nat → Int} {rc pa0 : Int} {trf : Nat → Int} {trn lnm cum tkm sam tim ftm fpm lem lfm : Int} {fl fmm fim ff fw fk fe : Nat → Int} (X : Xo g x wsL_law RL cL_law 4 room_1) (Z : Xs x b L xs) (hL : L ≤ 3584) (hi : 0 ≤ i ∧ i + 7 ≤ L) (hV : LInv it la le fl fmm fim tln bt mk cn so tu sp ln hs ss fw sod tud spd ar rs rc pa0 mk1 cn1 so1 tu1 sp1 mk2 cn2 so2 tu2 sp2 fk fe ff trf trn) (ih : LLoop g x b B A (i + 7)) : V g x 43 1681 ((oAH g B (lf) (fi) :: (wRow g (B 1) (B 11) (B 12) (B 13) it la le ++ (wTap g (B 2) (B 14) bt tln tk fm tt tf ++ (wClk g (B 3) (B 15) (B 16) (B 17) mk cn so tu sp ++ (wClk g (B 4) (B 18) (B 19) (B 20) mkd cnd sod tud spd ++ (wClk g (B 5) (B 21) (B 22) (B 23) mk1 cn1 so1 tu1 sp1 ++ (wClk g (B 6) (B 24) (B 25) (B 26) mk2 cn2 so2 tu2 sp2 ++ (wAct g (B 7) (B 27) (B 28) hs ss ln ++ (wDou g (B 8) wh sh mo fo ++ (wRea g (B 9) (B 29) (B 30) ar rs rc pa0 ++ (wAsk g (B 10) (B 31) (trf) (trn)))))))))))) ++ (wMod g A 0 fi ln tln lf lnm cum tkm sam tim ftm fpm lem lfm trn fl fmm fim (clkF mk cn so tu sp) ff fw bt fk fe trf)) [some (.ref b), some (.ref (B 0)), some (.ref (A 0)), some (.int (iI i))] 810 [] := by
  obtain ⟨hR, hT, hb, hK, hA, hd, hB, hI1, hI2, hfk, hfe, hff, hTB⟩ := hV
  dsimp only [oAH, wRow, wTap, wClk, wAct, wDou, wRea, wAsk, wMod, List.cons_append, List.nil_append]
  refine v_aload_n X dL_law_810 rfl ?_
  refine res_E X (run_V X (c_X7_all (g := g) (hK.c4) (hK.m60) (hK.2.1) (hK.2.2.1) (hK.2.2.2.1)) gL_law_X7_all rfl hdX7_all ⟨(Nat.le_of_ble_eq_true rfl), (Nat.le_of_ble_eq_true rfl)⟩ ⟨(Nat.le_of_ble_eq_true rfl), (Nat.le_of_ble_eq_true rfl)⟩ 0 rfl rfl rfl [0, 7, 8, 9, 10] rfl rfl rfl rfl (by simp [Value.category]) dL_law_811) [0, 7, 8, 9, 10] rfl rfl ?_
  refine v_aload_n X dL_law_814 rfl ?_
  refine res_F X (run_V X (c_X8_all (g := g) (clkF_bd hK) (clkF_c1 hK) (clkF_t3 hK)) gL_law_X8_all rfl hdX8_all ⟨(Nat.le_of_ble_eq_true rfl), (Nat.le_of_ble_eq_true rfl)⟩ ⟨(Nat.le_of_ble_eq_true rfl), (Nat.le_of_ble_eq_true rfl)⟩ 32 rfl rfl rfl [32, 33, 34, 35, 36, 37, 38, 39, 40, 41, 42] rfl rfl rfl rfl (by simp [Value.category]) dL_law_815) [32, 33, 34, 35, 36, 37, 38, 39, 40, 41, 42] rfl rfl rfl ?_
  dsimp only [patch, List.set, oAH, wRow, wTap, wClk, wAct, wDou, wRea, wAsk, wMod, List.cons_append, List.nil_append]
  refine v_icmp_eqT (tgt := 1156) X dL_law_818 (by decide) (e_all hK) ?_
  refine v_iinc X dL_law_1156 rfl (by decide) rfl ?_
  dsimp only [List.set]
  refine v_goto (tgt := 18) X dL_law_1159 (by decide) ?_
  exact ih lf fi it la le bt tln tk fm tt tf mk cn so tu sp mkd cnd sod tud spd mk1 cn1 so1 tu1 sp1 mk2 cn2 so2 tu2 sp2 hs ss ln wh sh mo fo ar rs rc pa0 trf trn lnm cum tkm sam tim ftm fpm lem lfm fl fmm fim ff fw fk fe ⟨hR, hT, hb, hK, hA, hd, hB, hI1, hI2, hfk, hfe, hff, hTB⟩

set_option maxHeartbeats 4000000 in
set_option maxRecDepth 100000 in
theorem L_lies {g : Gx} {x : Xt} {b L : Nat} {xs : Nat → Int32} {B A : Nat → Nat} {i : Int} {lf fi : Int} {it la le bt : Nat → Int} {tln tk fm tt tf mk cn : Int} {so tu sp : Nat → Int} {mkd cnd : Int} {sod tud spd : Nat → Int} {mk1 cn1 : Int} {so1 tu1 sp1 : Nat → Int} {mk2 cn2 : Int} {so2 tu2 sp2 hs ss : Nat → Int} {ln wh sh mo fo : Int} {ar rs : Nat → Int} {rc pa0 : Int} {trf : Nat → Int} {trn lnm cum tkm sam tim ftm fpm lem lfm : Int} {fl fmm fim ff fw fk fe : Nat → Int} (X : Xo g x wsL_law RL cL_law 4 room_1) (Z : Xs x b L xs) (hL : L ≤ 3584) (hi : 0 ≤ i ∧ i + 7 ≤ L) (hV : LInv it la le fl fmm fim tln bt mk cn so tu sp ln hs ss fw sod tud spd ar rs rc pa0 mk1 cn1 so1 tu1 sp1 mk2 cn2 so2 tu2 sp2 fk fe ff trf trn) (ih : LLoop g x b B A (i + 7)) : V g x 43 1681 ((oAH g B (lf) (fi) :: (wRow g (B 1) (B 11) (B 12) (B 13) it la le ++ (wTap g (B 2) (B 14) bt tln tk fm tt tf ++ (wClk g (B 3) (B 15) (B 16) (B 17) mk cn so tu sp ++ (wClk g (B 4) (B 18) (B 19) (B 20) mkd cnd sod tud spd ++ (wClk g (B 5) (B 21) (B 22) (B 23) mk1 cn1 so1 tu1 sp1 ++ (wClk g (B 6) (B 24) (B 25) (B 26) mk2 cn2 so2 tu2 sp2 ++ (wAct g (B 7) (B 27) (B 28) hs ss ln ++ (wDou g (B 8) wh sh mo fo ++ (wRea g (B 9) (B 29) (B 30) ar rs rc pa0 ++ (wAsk g (B 10) (B 31) (trf) (trn)))))))))))) ++ (wMod g A 0 fi ln tln lf lnm cum tkm sam tim ftm fpm lem lfm trn fl fmm fim (clkF mk cn so tu sp) ff fw bt fk fe trf)) [some (.ref b), some (.ref (B 0)), some (.ref (A 0)), some (.int (iI i))] 823 [] := by
  obtain ⟨hR, hT, hb, hK, hA, hd, hB, hI1, hI2, hfk, hfe, hff, hTB⟩ := hV
  obtain ⟨y1, ey1⟩ : ∃ y : Int, y = (xs (i + 1).toNat).toInt := ⟨_, rfl⟩
  have ry1 : R32 y1 := by rw [ey1]; exact iI_r _
  obtain ⟨y2, ey2⟩ : ∃ y : Int, y = (xs (i + 2).toNat).toInt := ⟨_, rfl⟩
  have ry2 : R32 y2 := by rw [ey2]; exact iI_r _
  obtain ⟨y3, ey3⟩ : ∃ y : Int, y = (xs (i + 3).toNat).toInt := ⟨_, rfl⟩
  have ry3 : R32 y3 := by rw [ey3]; exact iI_r _
  obtain ⟨y4, ey4⟩ : ∃ y : Int, y = (xs (i + 4).toNat).toInt := ⟨_, rfl⟩
  have ry4 : R32 y4 := by rw [ey4]; exact iI_r _
  dsimp only [oAH, wRow, wTap, wClk, wAct, wDou, wRea, wAsk, wMod, List.cons_append, List.nil_append]
  refine v_aload_n X dL_law_823 rfl ?_
  refine v_aload_n X dL_law_824 rfl ?_
  refine v_iload_n X dL_law_825 rfl ?_
  refine v_iconst X dL_law_826 ?_
  refine v_iadd X dL_law_827 ?_
  refine v_sld X Z ey1 (by omega) (by omega) (by omega) dL_law_828 ?_
  refine v_aload_n X dL_law_829 rfl ?_
  refine v_iload_n X dL_law_830 rfl ?_
  refine v_iconst X dL_law_831 ?_
  refine v_iadd X dL_law_832 ?_
  refine v_sld X Z ey2 (by omega) (by omega) (by omega) dL_law_833 ?_
  refine v_aload_n X dL_law_834 rfl ?_
  refine v_iload_n X dL_law_835 rfl ?_
  refine v_iconst X dL_law_836 ?_
  refine v_iadd X dL_law_837 ?_
  refine v_sld X Z ey3 (by omega) (by omega) (by omega) dL_law_838 ?_
  refine v_aload_n X dL_law_839 rfl ?_
  refine v_iload_n X dL_law_840 rfl ?_
  refine v_iconst X dL_law_841 ?_
  refine v_iadd X dL_law_842 ?_
  refine v_sld X Z ey4 (by omega) (by omega) (by omega) dL_law_843 ?_
  refine res_I X (run_V X (c2_X7_lies (g := g) (hR.1) (hR.2.1) (hR.2.2.1) (hK.c4) (hK.m60) (hK.2.1) (hK.2.2.1) (hK.2.2.2.1) (hB.1) (hB.2.1) (hB.2.2.1) (hB.2.2.2) ry1 ry2 ry3 ry4) gL_law_X7_lies rfl hdX7_lies ⟨(Nat.le_of_ble_eq_true rfl), (Nat.le_of_ble_eq_true rfl)⟩ ⟨(Nat.le_of_ble_eq_true rfl), (Nat.le_of_ble_eq_true rfl)⟩ 0 rfl rfl rfl [0, 1, 2, 3, 4, 7, 8, 9, 10, 27, 28, 29] rfl rfl rfl rfl (by simp [Value.category]) dL_law_844) [0, 1, 2, 3, 4, 7, 8, 9, 10, 27, 28, 29] rfl rfl (fun _ => rfl) (fun v7 u7 h7 => ?_)
  obtain ⟨f7, ar7, rs7, rc7, pa7⟩ := u7
  dsimp only [patch, List.set, oAH, wRow, wTap, wClk, wAct, wDou, wRea, wAsk, wMod, List.cons_append, List.nil_append]
  refine v_aload_n X dL_law_847 rfl ?_
  refine v_aload_n X dL_law_848 rfl ?_
  refine v_iload_n X dL_law_849 rfl ?_
  refine v_iconst X dL_law_850 ?_
  refine v_iadd X dL_law_851 ?_
  refine v_sld X Z ey1 (by omega) (by omega) (by omega) dL_law_852 ?_
  refine v_aload_n X dL_law_853 rfl ?_
  refine v_iload_n X dL_law_854 rfl ?_
  refine v_iconst X dL_law_855 ?_
  refine v_iadd X dL_law_856 ?_
  refine v_sld X Z ey2 (by omega) (by omega) (by omega) dL_law_857 ?_
  refine v_aload_n X dL_law_858 rfl ?_
  refine v_iload_n X dL_law_859 rfl ?_
  refine v_iconst X dL_law_860 ?_
  refine v_iadd X dL_law_861 ?_
  refine v_sld X Z ey3 (by omega) (by omega) (by omega) dL_law_862 ?_
  refine v_aload_n X dL_law_863 rfl ?_
  refine v_iload_n X dL_law_864 rfl ?_
  refine v_iconst X dL_law_865 ?_
  refine v_iadd X dL_law_866 ?_
  refine v_sld X Z ey4 (by omega) (by omega) (by omega) dL_law_867 ?_
  refine res_I X (run_V X (c_X8_lies (g := g) (clkF_bd hK) (clkF_c1 hK) (clkF_t3 hK) (hR.2.2.2.1) (hR.2.2.2.2.1) (hR.2.2.2.2.2.1) hK.mc.2.1 ry1 ry2 ry3 ry4) gL_law_X8_lies rfl hdX8_lies ⟨(Nat.le_of_ble_eq_true rfl), (Nat.le_of_ble_eq_true rfl)⟩ ⟨(Nat.le_of_ble_eq_true rfl), (Nat.le_of_ble_eq_true rfl)⟩ 32 rfl rfl rfl [32, 33, 34, 35, 36, 37, 38, 39, 40, 41, 42] rfl rfl rfl rfl (by simp [Value.category]) dL_law_868) [32, 33, 34, 35, 36, 37, 38, 39, 40, 41, 42] rfl rfl (fun _ => rfl) (fun v8 u8 h8 => ?_)
  obtain ⟨s8, x1, x2⟩ := u8
  dsimp only [patch, List.set, oAH, wRow, wTap, wClk, wAct, wDou, wRea, wAsk, wMod, List.cons_append, List.nil_append]
  have key := st_lies hR hK hB h7 h8
  obtain ⟨k1, k2, k3⟩ := key
  subst k2
  refine v_icmp_eqT (tgt := 1156) X dL_law_871 (by decide) (k1) ?_
  refine v_iinc X dL_law_1156 rfl (by decide) rfl ?_
  dsimp only [List.set]
  refine v_goto (tgt := 18) X dL_law_1159 (by decide) ?_
  exact ih lf _ it la le bt tln tk fm tt tf mk cn so tu sp mkd cnd sod tud spd mk1 cn1 so1 tu1 sp1 mk2 cn2 so2 tu2 sp2 hs ss ln wh sh mo fo _ _ _ _ trf trn lnm cum tkm sam tim ftm fpm _ _ fl fmm fim ff fw fk fe ⟨hR, hT, hb, hK, hA, hd, k3, hI1, hI2, hfk, hfe, hff, hTB⟩

set_option maxHeartbeats 4000000 in
set_option maxRecDepth 100000 in
theorem L_firstLie {g : Gx} {x : Xt} {b L : Nat} {xs : Nat → Int32} {B A : Nat → Nat} {i : Int} {lf fi : Int} {it la le bt : Nat → Int} {tln tk fm tt tf mk cn : Int} {so tu sp : Nat → Int} {mkd cnd : Int} {sod tud spd : Nat → Int} {mk1 cn1 : Int} {so1 tu1 sp1 : Nat → Int} {mk2 cn2 : Int} {so2 tu2 sp2 hs ss : Nat → Int} {ln wh sh mo fo : Int} {ar rs : Nat → Int} {rc pa0 : Int} {trf : Nat → Int} {trn lnm cum tkm sam tim ftm fpm lem lfm : Int} {fl fmm fim ff fw fk fe : Nat → Int} (X : Xo g x wsL_law RL cL_law 4 room_1) (Z : Xs x b L xs) (hL : L ≤ 3584) (hi : 0 ≤ i ∧ i + 7 ≤ L) (hV : LInv it la le fl fmm fim tln bt mk cn so tu sp ln hs ss fw sod tud spd ar rs rc pa0 mk1 cn1 so1 tu1 sp1 mk2 cn2 so2 tu2 sp2 fk fe ff trf trn) (ih : LLoop g x b B A (i + 7)) : V g x 43 1681 ((oAH g B (lf) (fi) :: (wRow g (B 1) (B 11) (B 12) (B 13) it la le ++ (wTap g (B 2) (B 14) bt tln tk fm tt tf ++ (wClk g (B 3) (B 15) (B 16) (B 17) mk cn so tu sp ++ (wClk g (B 4) (B 18) (B 19) (B 20) mkd cnd sod tud spd ++ (wClk g (B 5) (B 21) (B 22) (B 23) mk1 cn1 so1 tu1 sp1 ++ (wClk g (B 6) (B 24) (B 25) (B 26) mk2 cn2 so2 tu2 sp2 ++ (wAct g (B 7) (B 27) (B 28) hs ss ln ++ (wDou g (B 8) wh sh mo fo ++ (wRea g (B 9) (B 29) (B 30) ar rs rc pa0 ++ (wAsk g (B 10) (B 31) (trf) (trn)))))))))))) ++ (wMod g A 0 fi ln tln lf lnm cum tkm sam tim ftm fpm lem lfm trn fl fmm fim (clkF mk cn so tu sp) ff fw bt fk fe trf)) [some (.ref b), some (.ref (B 0)), some (.ref (A 0)), some (.int (iI i))] 876 [] := by
  obtain ⟨hR, hT, hb, hK, hA, hd, hB, hI1, hI2, hfk, hfe, hff, hTB⟩ := hV
  obtain ⟨y1, ey1⟩ : ∃ y : Int, y = (xs (i + 1).toNat).toInt := ⟨_, rfl⟩
  have ry1 : R32 y1 := by rw [ey1]; exact iI_r _
  obtain ⟨y2, ey2⟩ : ∃ y : Int, y = (xs (i + 2).toNat).toInt := ⟨_, rfl⟩
  have ry2 : R32 y2 := by rw [ey2]; exact iI_r _
  obtain ⟨y3, ey3⟩ : ∃ y : Int, y = (xs (i + 3).toNat).toInt := ⟨_, rfl⟩
  have ry3 : R32 y3 := by rw [ey3]; exact iI_r _
  dsimp only [oAH, wRow, wTap, wClk, wAct, wDou, wRea, wAsk, wMod, List.cons_append, List.nil_append]
  refine v_aload_n X dL_law_876 rfl ?_
  refine v_aload_n X dL_law_877 rfl ?_
  refine v_iload_n X dL_law_878 rfl ?_
  refine v_iconst X dL_law_879 ?_
  refine v_iadd X dL_law_880 ?_
  refine v_sld X Z ey1 (by omega) (by omega) (by omega) dL_law_881 ?_
  refine v_aload_n X dL_law_882 rfl ?_
  refine v_iload_n X dL_law_883 rfl ?_
  refine v_iconst X dL_law_884 ?_
  refine v_iadd X dL_law_885 ?_
  refine v_sld X Z ey2 (by omega) (by omega) (by omega) dL_law_886 ?_
  refine v_aload_n X dL_law_887 rfl ?_
  refine v_iload_n X dL_law_888 rfl ?_
  refine v_iconst X dL_law_889 ?_
  refine v_iadd X dL_law_890 ?_
  refine v_sld X Z ey3 (by omega) (by omega) (by omega) dL_law_891 ?_
  refine res_I X (run_V X (c2_X7_firstLie (g := g) (hR.1) (hR.2.1) (hR.2.2.1) (hK.c4) (hK.m60) (hK.2.1) (hK.2.2.1) (hK.2.2.2.1) (hB.1) (hB.2.1) (hB.2.2.1) (hB.2.2.2) ry1 ry2 ry3) gL_law_X7_firstLie rfl hdX7_firstLie ⟨(Nat.le_of_ble_eq_true rfl), (Nat.le_of_ble_eq_true rfl)⟩ ⟨(Nat.le_of_ble_eq_true rfl), (Nat.le_of_ble_eq_true rfl)⟩ 0 rfl rfl rfl [0, 1, 2, 3, 4, 7, 8, 9, 10, 27, 28, 29] rfl rfl rfl rfl (by simp [Value.category]) dL_law_892) [0, 1, 2, 3, 4, 7, 8, 9, 10, 27, 28, 29] rfl rfl (fun _ => rfl) (fun v7 u7 h7 => ?_)
  obtain ⟨f7, ar7, rs7, rc7, pa7⟩ := u7
  dsimp only [patch, List.set, oAH, wRow, wTap, wClk, wAct, wDou, wRea, wAsk, wMod, List.cons_append, List.nil_append]
  refine v_aload_n X dL_law_895 rfl ?_
  refine v_aload_n X dL_law_896 rfl ?_
  refine v_iload_n X dL_law_897 rfl ?_
  refine v_iconst X dL_law_898 ?_
  refine v_iadd X dL_law_899 ?_
  refine v_sld X Z ey1 (by omega) (by omega) (by omega) dL_law_900 ?_
  refine v_aload_n X dL_law_901 rfl ?_
  refine v_iload_n X dL_law_902 rfl ?_
  refine v_iconst X dL_law_903 ?_
  refine v_iadd X dL_law_904 ?_
  refine v_sld X Z ey2 (by omega) (by omega) (by omega) dL_law_905 ?_
  refine v_aload_n X dL_law_906 rfl ?_
  refine v_iload_n X dL_law_907 rfl ?_
  refine v_iconst X dL_law_908 ?_
  refine v_iadd X dL_law_909 ?_
  refine v_sld X Z ey3 (by omega) (by omega) (by omega) dL_law_910 ?_
  refine res_I X (run_V X (c_X8_firstLie (g := g) (clkF_bd hK) (clkF_c1 hK) (clkF_t3 hK) (hR.2.2.2.1) (hR.2.2.2.2.1) (hR.2.2.2.2.2.1) hK.mc.2.1 ry1 ry2 ry3) gL_law_X8_firstLie rfl hdX8_firstLie ⟨(Nat.le_of_ble_eq_true rfl), (Nat.le_of_ble_eq_true rfl)⟩ ⟨(Nat.le_of_ble_eq_true rfl), (Nat.le_of_ble_eq_true rfl)⟩ 32 rfl rfl rfl [32, 33, 34, 35, 36, 37, 38, 39, 40, 41, 42] rfl rfl rfl rfl (by simp [Value.category]) dL_law_911) [32, 33, 34, 35, 36, 37, 38, 39, 40, 41, 42] rfl rfl (fun _ => rfl) (fun v8 u8 h8 => ?_)
  obtain ⟨s8, x1, x2⟩ := u8
  dsimp only [patch, List.set, oAH, wRow, wTap, wClk, wAct, wDou, wRea, wAsk, wMod, List.cons_append, List.nil_append]
  have key := st_firstLie hR hK hB h7 h8
  obtain ⟨k1, k2, k3⟩ := key
  subst k2
  refine v_icmp_eqT (tgt := 1156) X dL_law_914 (by decide) (k1) ?_
  refine v_iinc X dL_law_1156 rfl (by decide) rfl ?_
  dsimp only [List.set]
  refine v_goto (tgt := 18) X dL_law_1159 (by decide) ?_
  exact ih lf _ it la le bt tln tk fm tt tf mk cn so tu sp mkd cnd sod tud spd mk1 cn1 so1 tu1 sp1 mk2 cn2 so2 tu2 sp2 hs ss ln wh sh mo fo _ _ _ _ trf trn lnm cum tkm sam tim ftm fpm _ _ fl fmm fim ff fw fk fe ⟨hR, hT, hb, hK, hA, hd, k3, hI1, hI2, hfk, hfe, hff, hTB⟩

set_option maxHeartbeats 4000000 in
set_option maxRecDepth 100000 in
theorem L_glass {g : Gx} {x : Xt} {b L : Nat} {xs : Nat → Int32} {B A : Nat → Nat} {i : Int} {lf fi : Int} {it la le bt : Nat → Int} {tln tk fm tt tf mk cn : Int} {so tu sp : Nat → Int} {mkd cnd : Int} {sod tud spd : Nat → Int} {mk1 cn1 : Int} {so1 tu1 sp1 : Nat → Int} {mk2 cn2 : Int} {so2 tu2 sp2 hs ss : Nat → Int} {ln wh sh mo fo : Int} {ar rs : Nat → Int} {rc pa0 : Int} {trf : Nat → Int} {trn lnm cum tkm sam tim ftm fpm lem lfm : Int} {fl fmm fim ff fw fk fe : Nat → Int} (X : Xo g x wsL_law RL cL_law 4 room_1) (Z : Xs x b L xs) (hL : L ≤ 3584) (hi : 0 ≤ i ∧ i + 7 ≤ L) (hV : LInv it la le fl fmm fim tln bt mk cn so tu sp ln hs ss fw sod tud spd ar rs rc pa0 mk1 cn1 so1 tu1 sp1 mk2 cn2 so2 tu2 sp2 fk fe ff trf trn) (ih : LLoop g x b B A (i + 7)) : V g x 43 1681 ((oAH g B (lf) (fi) :: (wRow g (B 1) (B 11) (B 12) (B 13) it la le ++ (wTap g (B 2) (B 14) bt tln tk fm tt tf ++ (wClk g (B 3) (B 15) (B 16) (B 17) mk cn so tu sp ++ (wClk g (B 4) (B 18) (B 19) (B 20) mkd cnd sod tud spd ++ (wClk g (B 5) (B 21) (B 22) (B 23) mk1 cn1 so1 tu1 sp1 ++ (wClk g (B 6) (B 24) (B 25) (B 26) mk2 cn2 so2 tu2 sp2 ++ (wAct g (B 7) (B 27) (B 28) hs ss ln ++ (wDou g (B 8) wh sh mo fo ++ (wRea g (B 9) (B 29) (B 30) ar rs rc pa0 ++ (wAsk g (B 10) (B 31) (trf) (trn)))))))))))) ++ (wMod g A 0 fi ln tln lf lnm cum tkm sam tim ftm fpm lem lfm trn fl fmm fim (clkF mk cn so tu sp) ff fw bt fk fe trf)) [some (.ref b), some (.ref (B 0)), some (.ref (A 0)), some (.int (iI i))] 919 [] := by
  obtain ⟨hR, hT, hb, hK, hA, hd, hB, hI1, hI2, hfk, hfe, hff, hTB⟩ := hV
  obtain ⟨y1, ey1⟩ : ∃ y : Int, y = (xs (i + 1).toNat).toInt := ⟨_, rfl⟩
  have ry1 : R32 y1 := by rw [ey1]; exact iI_r _
  obtain ⟨y2, ey2⟩ : ∃ y : Int, y = (xs (i + 2).toNat).toInt := ⟨_, rfl⟩
  have ry2 : R32 y2 := by rw [ey2]; exact iI_r _
  obtain ⟨y3, ey3⟩ : ∃ y : Int, y = (xs (i + 3).toNat).toInt := ⟨_, rfl⟩
  have ry3 : R32 y3 := by rw [ey3]; exact iI_r _
  dsimp only [oAH, wRow, wTap, wClk, wAct, wDou, wRea, wAsk, wMod, List.cons_append, List.nil_append]
  refine v_aload_n X dL_law_919 rfl ?_
  refine v_aload_n X dL_law_920 rfl ?_
  refine v_iload_n X dL_law_921 rfl ?_
  refine v_iconst X dL_law_922 ?_
  refine v_iadd X dL_law_923 ?_
  refine v_sld X Z ey1 (by omega) (by omega) (by omega) dL_law_924 ?_
  refine v_aload_n X dL_law_925 rfl ?_
  refine v_iload_n X dL_law_926 rfl ?_
  refine v_iconst X dL_law_927 ?_
  refine v_iadd X dL_law_928 ?_
  refine v_sld X Z ey2 (by omega) (by omega) (by omega) dL_law_929 ?_
  refine v_aload_n X dL_law_930 rfl ?_
  refine v_iload_n X dL_law_931 rfl ?_
  refine v_iconst X dL_law_932 ?_
  refine v_iadd X dL_law_933 ?_
  refine v_sld X Z ey3 (by omega) (by omega) (by omega) dL_law_934 ?_
  refine res_E X (run_V X (c_X7_glass (g := g) (hK.c4) (hK.m60) (hK.2.1) (hK.2.2.1) (hK.2.2.2.1) ry1 ry2 ry3) gL_law_X7_glass rfl hdX7_glass ⟨(Nat.le_of_ble_eq_true rfl), (Nat.le_of_ble_eq_true rfl)⟩ ⟨(Nat.le_of_ble_eq_true rfl), (Nat.le_of_ble_eq_true rfl)⟩ 0 rfl rfl rfl [0, 7, 8, 9, 10] rfl rfl rfl rfl (by simp [Value.category]) dL_law_935) [0, 7, 8, 9, 10] rfl rfl ?_
  refine v_aload_n X dL_law_938 rfl ?_
  refine v_aload_n X dL_law_939 rfl ?_
  refine v_iload_n X dL_law_940 rfl ?_
  refine v_iconst X dL_law_941 ?_
  refine v_iadd X dL_law_942 ?_
  refine v_sld X Z ey1 (by omega) (by omega) (by omega) dL_law_943 ?_
  refine v_aload_n X dL_law_944 rfl ?_
  refine v_iload_n X dL_law_945 rfl ?_
  refine v_iconst X dL_law_946 ?_
  refine v_iadd X dL_law_947 ?_
  refine v_sld X Z ey2 (by omega) (by omega) (by omega) dL_law_948 ?_
  refine v_aload_n X dL_law_949 rfl ?_
  refine v_iload_n X dL_law_950 rfl ?_
  refine v_iconst X dL_law_951 ?_
  refine v_iadd X dL_law_952 ?_
  refine v_sld X Z ey3 (by omega) (by omega) (by omega) dL_law_953 ?_
  refine res_F X (run_V X (c_X8_glass (g := g) (clkF_bd hK) (clkF_c1 hK) (clkF_t3 hK) ry1 ry2 ry3) gL_law_X8_glass rfl hdX8_glass ⟨(Nat.le_of_ble_eq_true rfl), (Nat.le_of_ble_eq_true rfl)⟩ ⟨(Nat.le_of_ble_eq_true rfl), (Nat.le_of_ble_eq_true rfl)⟩ 32 rfl rfl rfl [32, 33, 34, 35, 36, 37, 38, 39, 40, 41, 42] rfl rfl rfl rfl (by simp [Value.category]) dL_law_954) [32, 33, 34, 35, 36, 37, 38, 39, 40, 41, 42] rfl rfl rfl ?_
  dsimp only [patch, List.set, oAH, wRow, wTap, wClk, wAct, wDou, wRea, wAsk, wMod, List.cons_append, List.nil_append]
  refine v_icmp_eqT (tgt := 1156) X dL_law_957 (by decide) (glass_eq hK) ?_
  refine v_iinc X dL_law_1156 rfl (by decide) rfl ?_
  dsimp only [List.set]
  refine v_goto (tgt := 18) X dL_law_1159 (by decide) ?_
  exact ih lf fi it la le bt tln tk fm tt tf mk cn so tu sp mkd cnd sod tud spd mk1 cn1 so1 tu1 sp1 mk2 cn2 so2 tu2 sp2 hs ss ln wh sh mo fo ar rs rc pa0 trf trn lnm cum tkm sam tim ftm fpm lem lfm fl fmm fim ff fw fk fe ⟨hR, hT, hb, hK, hA, hd, hB, hI1, hI2, hfk, hfe, hff, hTB⟩

set_option maxHeartbeats 4000000 in
set_option maxRecDepth 100000 in
theorem L_image {g : Gx} {x : Xt} {b L : Nat} {xs : Nat → Int32} {B A : Nat → Nat} {i : Int} {lf fi : Int} {it la le bt : Nat → Int} {tln tk fm tt tf mk cn : Int} {so tu sp : Nat → Int} {mkd cnd : Int} {sod tud spd : Nat → Int} {mk1 cn1 : Int} {so1 tu1 sp1 : Nat → Int} {mk2 cn2 : Int} {so2 tu2 sp2 hs ss : Nat → Int} {ln wh sh mo fo : Int} {ar rs : Nat → Int} {rc pa0 : Int} {trf : Nat → Int} {trn lnm cum tkm sam tim ftm fpm lem lfm : Int} {fl fmm fim ff fw fk fe : Nat → Int} (X : Xo g x wsL_law RL cL_law 4 room_1) (Z : Xs x b L xs) (hL : L ≤ 3584) (hi : 0 ≤ i ∧ i + 7 ≤ L) (hV : LInv it la le fl fmm fim tln bt mk cn so tu sp ln hs ss fw sod tud spd ar rs rc pa0 mk1 cn1 so1 tu1 sp1 mk2 cn2 so2 tu2 sp2 fk fe ff trf trn) (ih : LLoop g x b B A (i + 7)) : V g x 43 1681 ((oAH g B (lf) (fi) :: (wRow g (B 1) (B 11) (B 12) (B 13) it la le ++ (wTap g (B 2) (B 14) bt tln tk fm tt tf ++ (wClk g (B 3) (B 15) (B 16) (B 17) mk cn so tu sp ++ (wClk g (B 4) (B 18) (B 19) (B 20) mkd cnd sod tud spd ++ (wClk g (B 5) (B 21) (B 22) (B 23) mk1 cn1 so1 tu1 sp1 ++ (wClk g (B 6) (B 24) (B 25) (B 26) mk2 cn2 so2 tu2 sp2 ++ (wAct g (B 7) (B 27) (B 28) hs ss ln ++ (wDou g (B 8) wh sh mo fo ++ (wRea g (B 9) (B 29) (B 30) ar rs rc pa0 ++ (wAsk g (B 10) (B 31) (trf) (trn)))))))))))) ++ (wMod g A 0 fi ln tln lf lnm cum tkm sam tim ftm fpm lem lfm trn fl fmm fim (clkF mk cn so tu sp) ff fw bt fk fe trf)) [some (.ref b), some (.ref (B 0)), some (.ref (A 0)), some (.int (iI i))] 962 [] := by
  obtain ⟨hR, hT, hb, hK, hA, hd, hB, hI1, hI2, hfk, hfe, hff, hTB⟩ := hV
  obtain ⟨y1, ey1⟩ : ∃ y : Int, y = (xs (i + 1).toNat).toInt := ⟨_, rfl⟩
  have ry1 : R32 y1 := by rw [ey1]; exact iI_r _
  dsimp only [oAH, wRow, wTap, wClk, wAct, wDou, wRea, wAsk, wMod, List.cons_append, List.nil_append]
  refine v_aload_n X dL_law_962 rfl ?_
  refine v_aload_n X dL_law_963 rfl ?_
  refine v_iload_n X dL_law_964 rfl ?_
  refine v_iconst X dL_law_965 ?_
  refine v_iadd X dL_law_966 ?_
  refine v_sld X Z ey1 (by omega) (by omega) (by omega) dL_law_967 ?_
  refine res_I X (run_V X (c_X7_image (g := g) (hK.c4) (hK.m60) (hK.2.1) (hK.2.2.1) (hK.2.2.2.1) ry1) gL_law_X7_image rfl hdX7_image ⟨(Nat.le_of_ble_eq_true rfl), (Nat.le_of_ble_eq_true rfl)⟩ ⟨(Nat.le_of_ble_eq_true rfl), (Nat.le_of_ble_eq_true rfl)⟩ 0 rfl rfl rfl [0, 7, 8, 9, 10, 15, 16, 17, 18, 19, 20, 21, 22] rfl rfl rfl rfl (by simp [Value.category]) dL_law_968) [0, 7, 8, 9, 10, 15, 16, 17, 18, 19, 20, 21, 22] rfl rfl (fun _ => rfl) (fun v7 u7 h7 => ?_)
  obtain ⟨⟨m7, c7, a1, a2, a3⟩, ⟨m8, c8, b1, b2, b3⟩⟩ := u7
  dsimp only [patch, List.set, oAH, wRow, wTap, wClk, wAct, wDou, wRea, wAsk, wMod, List.cons_append, List.nil_append]
  refine v_aload_n X dL_law_971 rfl ?_
  refine v_aload_n X dL_law_972 rfl ?_
  refine v_iload_n X dL_law_973 rfl ?_
  refine v_iconst X dL_law_974 ?_
  refine v_iadd X dL_law_975 ?_
  refine v_sld X Z ey1 (by omega) (by omega) (by omega) dL_law_976 ?_
  refine res_I X (run_V X (c_X8_image (g := g) (clkF_bd hK) ry1) gL_law_X8_image rfl hdX8_image ⟨(Nat.le_of_ble_eq_true rfl), (Nat.le_of_ble_eq_true rfl)⟩ ⟨(Nat.le_of_ble_eq_true rfl), (Nat.le_of_ble_eq_true rfl)⟩ 32 rfl rfl rfl [32, 33, 34, 35, 36, 37, 38, 39, 40, 41, 42] rfl rfl rfl rfl (by simp [Value.category]) dL_law_977) [32, 33, 34, 35, 36, 37, 38, 39, 40, 41, 42] rfl rfl (fun _ => rfl) (fun v8 u8 h8 => ?_)
  obtain ⟨fk8, fe8⟩ := u8
  dsimp only [patch, List.set, oAH, wRow, wTap, wClk, wAct, wDou, wRea, wAsk, wMod, List.cons_append, List.nil_append]
  obtain ⟨k1, k2, k3, k4, k5⟩ := st_image hK hI1 hI2 hfk hfe h7 h8
  refine v_icmp_eqT (tgt := 1156) X dL_law_980 (by decide) (k1) ?_
  refine v_iinc X dL_law_1156 rfl (by decide) rfl ?_
  dsimp only [List.set]
  refine v_goto (tgt := 18) X dL_law_1159 (by decide) ?_
  exact ih lf fi it la le bt tln tk fm tt tf mk cn so tu sp mkd cnd sod tud spd _ _ _ _ _ _ _ _ _ _ hs ss ln wh sh mo fo ar rs rc pa0 trf trn lnm cum tkm sam tim ftm fpm lem lfm fl fmm fim ff fw _ _ ⟨hR, hT, hb, hK, hA, hd, hB, k2, k3, k4, k5, hff, hTB⟩
