set_option maxHeartbeats 4000000 in
set_option maxRecDepth 100000 in
theorem law_loop {g : Gx} {x : Xt} {b L : Nat} {xs : Nat → Int32} {B A : Nat → Nat} (X : Xo g x wsL_law RL cL_law 4 room_1) (Z : Xs x b L xs) (E : Xl x b) (hL : L ≤ 3584) : ∀ (nf : Nat) (i : Int), 0 ≤ i → i ≤ 3584 → ((L : Int) - i).toNat < nf → LLoop g x b B A i := by
  intro nf
  induction nf with
  | zero => intro i _ _ h; exact absurd h (Nat.not_lt_zero _)
  | succ nf ih =>
    intro i h0 h1 hmu lf fi it la le bt tln tk fm tt tf mk cn so tu sp mkd cnd sod tud spd mk1 cn1 so1 tu1 sp1 mk2 cn2 so2 tu2 sp2 hs ss ln wh sh mo fo ar rs rc pa0 trf trn lnm cum tkm sam tim ftm fpm lem lfm fl fmm fim ff fw fk fe hV
    have ihn : i + 7 ≤ L → LLoop g x b B A (i + 7) := fun z => ih (i + 7) (by omega) (by omega) (by omega)
    obtain ⟨y0, ey0⟩ : ∃ y : Int, y = (xs i.toNat).toInt := ⟨_, rfl⟩
    refine v_iload_n X dL_law_18 rfl ?_
    refine v_aload_n X dL_law_19 rfl ?_
    refine v_slen X Z dL_law_20 ?_
    refine v_bipush X dL_law_21 (by decide) ?_
    refine v_isub X dL_law_23 ?_
    refine v_icmp_gt (tgt := 1162) X dL_law_24 (by decide) (by omega) (by omega) (fun c => ?_) (fun c => ?_)
    · refine v_iconst X dL_law_1162 ?_
      exact v_lawret X E dL_law_1163
    · refine v_aload_n X dL_law_27 rfl ?_
      refine v_iload_n X dL_law_28 rfl ?_
      refine v_sld X Z ey0 h0 (by omega) (by omega) dL_law_29 ?_
      refine v_bipush X dL_law_30 (by decide) ?_
      refine v_iand X dL_law_32 ?_
      obtain ⟨z, hz⟩ : ∃ z : Int, z = iAnd y0 31 := ⟨_, rfl⟩
      rw [← hz]
      have rz : R32 z := by rw [hz]; exact iI_r _
      clear hz
      by_cases s0 : z = 0
      · subst s0
        refine v_tabIn (off := 127) (tgt := 160) X dL_law_33 (by decide) (by decide) (by decide) rfl (by decide) ?_
        exact L_row X Z hL ⟨h0, by omega⟩ hV (ihn (by omega))
      by_cases s1 : z = 1
      · subst s1
        refine v_tabIn (off := 170) (tgt := 203) X dL_law_33 (by decide) (by decide) (by decide) rfl (by decide) ?_
        exact L_set X Z hL ⟨h0, by omega⟩ hV (ihn (by omega))
      by_cases s2 : z = 2
      · subst s2
        refine v_tabIn (off := 213) (tgt := 246) X dL_law_33 (by decide) (by decide) (by decide) rfl (by decide) ?_
        exact L_copy X Z hL ⟨h0, by omega⟩ hV (ihn (by omega))
      by_cases s3 : z = 3
      · subst s3
        refine v_tabIn (off := 276) (tgt := 309) X dL_law_33 (by decide) (by decide) (by decide) rfl (by decide) ?_
        exact L_drop X Z hL ⟨h0, by omega⟩ hV (ihn (by omega))
      by_cases s4 : z = 4
      · subst s4
        refine v_tabIn (off := 299) (tgt := 332) X dL_law_33 (by decide) (by decide) (by decide) rfl (by decide) ?_
        exact L_feed X Z hL ⟨h0, by omega⟩ hV (ihn (by omega))
      by_cases s5 : z = 5
      · subst s5
        refine v_tabIn (off := 362) (tgt := 395) X dL_law_33 (by decide) (by decide) (by decide) rfl (by decide) ?_
        exact L_clock X Z hL ⟨h0, by omega⟩ hV (ihn (by omega))
      by_cases s6 : z = 6
      · subst s6
        refine v_tabIn (off := 375) (tgt := 408) X dL_law_33 (by decide) (by decide) (by decide) rfl (by decide) ?_
        exact L_fault X Z hL ⟨h0, by omega⟩ hV (ihn (by omega))
      by_cases s7 : z = 7
      · subst s7
        refine v_tabIn (off := 388) (tgt := 421) X dL_law_33 (by decide) (by decide) (by decide) rfl (by decide) ?_
        exact L_slip X Z hL ⟨h0, by omega⟩ hV (ihn (by omega))
      by_cases s8 : z = 8
      · subst s8
        refine v_tabIn (off := 421) (tgt := 454) X dL_law_33 (by decide) (by decide) (by decide) rfl (by decide) ?_
        exact L_undo X Z hL ⟨h0, by omega⟩ hV (ihn (by omega))
      by_cases s9 : z = 9
      · subst s9
        refine v_tabIn (off := 434) (tgt := 467) X dL_law_33 (by decide) (by decide) (by decide) rfl (by decide) ?_
        exact L_hand X Z hL ⟨h0, by omega⟩ hV (ihn (by omega))
      by_cases s10 : z = 10
      · subst s10
        refine v_tabIn (off := 467) (tgt := 500) X dL_law_33 (by decide) (by decide) (by decide) rfl (by decide) ?_
        exact L_points X Z hL ⟨h0, by omega⟩ hV (ihn (by omega))
      by_cases s11 : z = 11
      · subst s11
        refine v_tabIn (off := 520) (tgt := 553) X dL_law_33 (by decide) (by decide) (by decide) rfl (by decide) ?_
        exact L_doubts X Z hL ⟨h0, by omega⟩ hV (ihn (by omega))
      by_cases s12 : z = 12
      · subst s12
        refine v_tabIn (off := 553) (tgt := 586) X dL_law_33 (by decide) (by decide) (by decide) rfl (by decide) ?_
        exact L_doubt X Z hL ⟨h0, by omega⟩ hV (ihn (by omega))
      by_cases s13 : z = 13
      · subst s13
        refine v_tabIn (off := 606) (tgt := 639) X dL_law_33 (by decide) (by decide) (by decide) rfl (by decide) ?_
        exact L_isDoubt X Z hL ⟨h0, by omega⟩ hV (ihn (by omega))
      by_cases s14 : z = 14
      · subst s14
        refine v_tabIn (off := 659) (tgt := 692) X dL_law_33 (by decide) (by decide) (by decide) rfl (by decide) ?_
        exact L_next X Z hL ⟨h0, by omega⟩ hV (ihn (by omega))
      by_cases s15 : z = 15
      · subst s15
        refine v_tabIn (off := 734) (tgt := 767) X dL_law_33 (by decide) (by decide) (by decide) rfl (by decide) ?_
        exact L_often X Z hL ⟨h0, by omega⟩ hV (ihn (by omega))
      by_cases s16 : z = 16
      · subst s16
        refine v_tabIn (off := 777) (tgt := 810) X dL_law_33 (by decide) (by decide) (by decide) rfl (by decide) ?_
        exact L_all X Z hL ⟨h0, by omega⟩ hV (ihn (by omega))
      by_cases s17 : z = 17
      · subst s17
        refine v_tabIn (off := 790) (tgt := 823) X dL_law_33 (by decide) (by decide) (by decide) rfl (by decide) ?_
        exact L_lies X Z hL ⟨h0, by omega⟩ hV (ihn (by omega))
      by_cases s18 : z = 18
      · subst s18
        refine v_tabIn (off := 843) (tgt := 876) X dL_law_33 (by decide) (by decide) (by decide) rfl (by decide) ?_
        exact L_firstLie X Z hL ⟨h0, by omega⟩ hV (ihn (by omega))
      by_cases s19 : z = 19
      · subst s19
        refine v_tabIn (off := 886) (tgt := 919) X dL_law_33 (by decide) (by decide) (by decide) rfl (by decide) ?_
        exact L_glass X Z hL ⟨h0, by omega⟩ hV (ihn (by omega))
      by_cases s20 : z = 20
      · subst s20
        refine v_tabIn (off := 929) (tgt := 962) X dL_law_33 (by decide) (by decide) (by decide) rfl (by decide) ?_
        exact L_image X Z hL ⟨h0, by omega⟩ hV (ihn (by omega))
      by_cases s21 : z = 21
      · subst s21
        refine v_tabIn (off := 952) (tgt := 985) X dL_law_33 (by decide) (by decide) (by decide) rfl (by decide) ?_
        exact L_restore X Z hL ⟨h0, by omega⟩ hV (ihn (by omega))
      by_cases s22 : z = 22
      · subst s22
        refine v_tabIn (off := 975) (tgt := 1008) X dL_law_33 (by decide) (by decide) (by decide) rfl (by decide) ?_
        exact L_kind X Z hL ⟨h0, by omega⟩ hV (ihn (by omega))
      by_cases s23 : z = 23
      · subst s23
        refine v_tabIn (off := 998) (tgt := 1031) X dL_law_33 (by decide) (by decide) (by decide) rfl (by decide) ?_
        exact L_as X Z hL ⟨h0, by omega⟩ hV (ihn (by omega))
      by_cases s24 : z = 24
      · subst s24
        refine v_tabIn (off := 1031) (tgt := 1064) X dL_law_33 (by decide) (by decide) (by decide) rfl (by decide) ?_
        exact L_ask X Z hL ⟨h0, by omega⟩ hV (ihn (by omega))
      by_cases s25 : z = 25
      · subst s25
        refine v_tabIn (off := 1064) (tgt := 1097) X dL_law_33 (by decide) (by decide) (by decide) rfl (by decide) ?_
        exact L_trace X Z hL ⟨h0, by omega⟩ hV (ihn (by omega))
      by_cases s26 : z = 26
      · subst s26
        refine v_tabIn (off := 1087) (tgt := 1120) X dL_law_33 (by decide) (by decide) (by decide) rfl (by decide) ?_
        exact L_count X Z hL ⟨h0, by omega⟩ hV (ihn (by omega))
      by_cases s27 : z = 27
      · subst s27
        refine v_tabIn (off := 1110) (tgt := 1143) X dL_law_33 (by decide) (by decide) (by decide) rfl (by decide) ?_
        exact L_status X Z hL ⟨h0, by omega⟩ hV (ihn (by omega))
      refine v_tabOut (tgt := 1156) X dL_law_33 rz (by omega) (by decide) ?_
      refine v_iinc X dL_law_1156 rfl (by decide) rfl ?_
      dsimp only [List.set]
      refine v_goto (tgt := 18) X dL_law_1159 (by decide) ?_
      exact ihn (by omega) lf fi it la le bt tln tk fm tt tf mk cn so tu sp mkd cnd sod tud spd mk1 cn1 so1 tu1 sp1 mk2 cn2 so2 tu2 sp2 hs ss ln wh sh mo fo ar rs rc pa0 trf trn lnm cum tkm sam tim ftm fpm lem lfm fl fmm fim ff fw fk fe hV
