theorem hdJ9_floorMod_7cf53 : yJ9_floorMod_7cf53.cls = RJ9 ∧ yJ9_floorMod_7cf53.cls ≠ "java/lang/invoke/MethodHandle" ∧ yJ9_floorMod_7cf53.cls ≠ "java/lang/invoke/VarHandle" ∧ (parseMethodDescriptor yJ9_floorMod_7cf53.desc).map (fun d => d.parameters.length) = some 2 := ⟨rfl, by decide +kernel, by decide +kernel, by decide +kernel⟩
set_option maxHeartbeats 4000000 in
set_option maxRecDepth 100000 in
theorem c_J9_floorMod_7cf53 {g : Gx} {a b : Int} (ha : R32 a) (hb : R32 b) (h0 : 0 < b) : CtE g yJ9_floorMod_7cf53 wsJ9_floorMod_7cf53 0 0 [.int (iI a), .int (iI b)] ([]) (a % b) ([]) := by
  refine m_go (cc := cJ9_floorMod_7cf53) (nL := 3) (by decide +kernel) rfl (Nat.le_of_ble_eq_true rfl) (fun x X Y hnm => ?_)
  refine v_eq (lo2 := [some (.int (iI a)), some (.int (iI b)), none]) rfl rfl rfl rfl ?_
  have q1 := tmod_emod (x := a) h0
  have q2 := tmod_neg (x := a) h0
  have q3 := iXor_neg ha hb h0
  have q4 := iXor_r a b
  have q5 := Int.tmod_lt_of_pos a h0
  have q6 := Int.lt_tmod_of_pos a h0
  refine v_iload_n X dJ9_floorMod_7cf53_0 rfl ?_
  refine v_iload_n X dJ9_floorMod_7cf53_1 rfl ?_
  refine v_irem X dJ9_floorMod_7cf53_2 (by omega) (by omega) (by omega) ?_
  refine v_istore_n X dJ9_floorMod_7cf53_3 2 rfl (by decide) rfl ?_
  dsimp only [List.set]
  refine v_iload_n X dJ9_floorMod_7cf53_4 rfl ?_
  refine v_iload_n X dJ9_floorMod_7cf53_5 rfl ?_
  refine v_ixor X dJ9_floorMod_7cf53_6 ?_
  refine v_if_ge (tgt := 18) X dJ9_floorMod_7cf53_7 (by decide) (by omega) (fun c1 => ?_) (fun c1 => ?_)
  · skip
    refine v_iload_n X dJ9_floorMod_7cf53_18 rfl ?_
    exact v_iret X Y dJ9_floorMod_7cf53_19 (u := ()) (by rw [q1]; split <;> omega) (by rfl)
  · skip
    refine v_iload_n X dJ9_floorMod_7cf53_10 rfl ?_
    refine v_if_eq (tgt := 18) X dJ9_floorMod_7cf53_11 (by decide) (by omega) (fun c2 => ?_) (fun c2 => ?_)
    · skip
      refine v_iload_n X dJ9_floorMod_7cf53_18 rfl ?_
      exact v_iret X Y dJ9_floorMod_7cf53_19 (u := ()) (by rw [q1]; split <;> omega) (by rfl)
    · skip
      refine v_iload_n X dJ9_floorMod_7cf53_14 rfl ?_
      refine v_iload_n X dJ9_floorMod_7cf53_15 rfl ?_
      refine v_iadd X dJ9_floorMod_7cf53_16 ?_
      exact v_iret X Y dJ9_floorMod_7cf53_17 (u := ()) (by rw [q1]; split <;> omega) (by rfl)

theorem hdX7_rest : yX7_rest.cls = RX7 ∧ yX7_rest.cls ≠ "java/lang/invoke/MethodHandle" ∧ yX7_rest.cls ≠ "java/lang/invoke/VarHandle" ∧ (parseMethodDescriptor yX7_rest.desc).map (fun d => d.parameters.length) = some 2 := ⟨rfl, by decide +kernel, by decide +kernel, by decide +kernel⟩
set_option maxHeartbeats 4000000 in
set_option maxRecDepth 100000 in
theorem c_X7_rest {g : Gx} {n w : Int} (hn : R32 n) (hw : R32 w) : CtE g yX7_rest wsX7_rest 1 22 [.int (iI n), .int (iI w)] ([]) (restI n w) ([]) := by
  refine m_go (cc := cX7_rest) (nL := 2) (by decide +kernel) rfl (Nat.le_of_ble_eq_true rfl) (fun x X Y hnm => ?_)
  refine v_eq (lo2 := [some (.int (iI n)), some (.int (iI w))]) rfl rfl rfl rfl ?_
  refine v_iload_n X dX7_rest_0 rfl ?_
  refine v_iconst X dX7_rest_1 ?_
  refine v_icmp_ge (tgt := 9) X dX7_rest_2 (by decide) (by omega) (by omega) (fun c1 => ?_) (fun c1 => ?_)
  · skip
    refine v_iload_n X dX7_rest_9 rfl ?_
    refine v_iload_n X dX7_rest_10 rfl ?_
    refine res_E X (run_S X (c_J9_floorMod_7cf53 (g := g) (by first | assumption | omega) (by first | assumption | omega) (by first | assumption | omega)) gX7_rest_J9_floorMod_7cf53 rfl hdJ9_floorMod_7cf53.2 ⟨(Nat.le_of_ble_eq_true rfl), (Nat.le_of_ble_eq_true rfl)⟩ ⟨(Nat.le_of_ble_eq_true rfl), (Nat.le_of_ble_eq_true rfl)⟩ [] rfl rfl rfl rfl (by simp [Value.category]) dX7_rest_11) [] rfl rfl ?_
    exact v_iret X Y dX7_rest_14 (u := ()) (by unfold restI; split <;> omega) (by rfl)
  · skip
    refine v_iconst X dX7_rest_5 ?_
    refine v_goto (tgt := 14) X dX7_rest_6 (by decide) ?_
    exact v_iret X Y dX7_rest_14 (u := ()) (by unfold restI; split <;> omega) (by rfl)

theorem hdX7_common : yX7_common.cls = RX7 ∧ yX7_common.cls ≠ "java/lang/invoke/MethodHandle" ∧ yX7_common.cls ≠ "java/lang/invoke/VarHandle" ∧ (parseMethodDescriptor yX7_common.desc).map (fun d => d.parameters.length) = some 2 := ⟨rfl, by decide +kernel, by decide +kernel, by decide +kernel⟩
set_option maxHeartbeats 4000000 in
set_option maxRecDepth 100000 in
theorem c_X7_common {g : Gx} {a b : Int} (ha : 0 ≤ a) (ha2 : a ≤ 2147483647) (hb : 0 ≤ b) (hb2 : b ≤ 2147483647) : CtE g yX7_common wsX7_common 0 0 [.int (iI a), .int (iI b)] ([]) ((Int.gcd a b : Int)) ([]) := by
  refine m_go (cc := cX7_common) (nL := 6) (by decide +kernel) rfl (Nat.le_of_ble_eq_true rfl) (fun x X Y hnm => ?_)
  refine v_eq (lo2 := [some (.int (iI a)), some (.int (iI b)), none, none, none, none]) rfl rfl rfl rfl ?_
  refine v_iload_n X dX7_common_0 rfl ?_
  refine v_istore_n X dX7_common_1 2 rfl (by decide) rfl ?_
  dsimp only [List.set]
  refine v_iload_n X dX7_common_2 rfl ?_
  refine v_istore_n X dX7_common_3 3 rfl (by decide) rfl ?_
  dsimp only [List.set]
  refine v_iconst X dX7_common_4 ?_
  refine v_istore X dX7_common_5 (by decide) rfl ?_
  dsimp only [List.set]
  have L7 : ∀ (nf : Nat) (gr : Int) (ls : Int) (s : Int) (h1 : 0 ≤ gr ∧ gr ≤ 2147483647) (h2 : 0 ≤ ls ∧ ls ≤ 2147483647) (h3 : 0 ≤ s ∧ s ≤ 64) (h4 : PG gr ls s) (h5 : (Int.gcd gr ls : Int) = Int.gcd a b) (_ : (64 - s).toNat < nf), V g x 0 0 ([]) [some (.int (iI a)), some (.int (iI b)), some (.int (iI gr)), some (.int (iI ls)), some (.int (iI s)), none] 7 [] := by
    intro nf
    induction nf with
    | zero => intro gr ls s h1 h2 h3 h4 h5 hmu; exact absurd hmu (Nat.not_lt_zero _)
    | succ nf ih7 =>
      intro gr ls s h1 h2 h3 h4 h5 hmu
      refine v_iload X dX7_common_7 rfl ?_
      refine v_bipush X dX7_common_9 (by decide) ?_
      refine v_icmp_ge (tgt := 34) X dX7_common_11 (by decide) (by omega) (by omega) (fun c1 => ?_) (fun c1 => ?_)
      · skip
        refine v_iload_n X dX7_common_34 rfl ?_
        exact v_iret X Y dX7_common_35 (u := ()) (by
            have e9 : ¬ s < 64 → s = 64 := by omega
            have e : ls = 0 := by
              first | omega | exact PG_end h2.1 ((e9 (by omega)) ▸ h4)
            rw [← h5, e, gcd_0 h1.1]) (by rfl)
      · skip
        refine v_iload_n X dX7_common_14 rfl ?_
        refine v_if_le (tgt := 34) X dX7_common_15 (by decide) (by omega) (fun c2 => ?_) (fun c2 => ?_)
        · skip
          refine v_iload_n X dX7_common_34 rfl ?_
          exact v_iret X Y dX7_common_35 (u := ()) (by
              have e9 : ¬ s < 64 → s = 64 := by omega
              have e : ls = 0 := by
                first | omega | exact PG_end h2.1 ((e9 (by omega)) ▸ h4)
              rw [← h5, e, gcd_0 h1.1]) (by rfl)
        · skip
          refine v_iload_n X dX7_common_18 rfl ?_
          refine v_iload_n X dX7_common_19 rfl ?_
          refine v_irem X dX7_common_20 (by omega) (by omega) (by omega) ?_
          have q1 := Int.tmod_lt_of_pos gr (show 0 < ls by omega)
          have q2 := Int.tmod_nonneg ls h1.1
          refine v_istore X dX7_common_21 (by decide) rfl ?_
          dsimp only [List.set]
          refine v_iload_n X dX7_common_23 rfl ?_
          refine v_istore_n X dX7_common_24 2 rfl (by decide) rfl ?_
          dsimp only [List.set]
          refine v_iload X dX7_common_25 rfl ?_
          refine v_istore_n X dX7_common_27 3 rfl (by decide) rfl ?_
          dsimp only [List.set]
          refine v_iinc X dX7_common_28 rfl (by decide) rfl ?_
          dsimp only [List.set]
          refine v_goto (tgt := 7) X dX7_common_31 (by decide) ?_
          refine v_drop 5 ?_
          dsimp only [List.set]
          exact ih7 _ _ _ (by omega) (by omega) (by omega) (by exact PG_step h1.1 h1.2 (by omega) h2.2 h3.1 h4) (by rw [gcd_step h1.1 h2.1]; exact h5) (by omega)
  exact L7 _ _ _ _ (by omega) (by omega) (by omega) (by exact PG_0 _ _) (by rfl) (Nat.lt_succ_self _)

theorem hdX7_part : yX7_part.cls = RX7 ∧ yX7_part.cls ≠ "java/lang/invoke/MethodHandle" ∧ yX7_part.cls ≠ "java/lang/invoke/VarHandle" ∧ (parseMethodDescriptor yX7_part.desc).map (fun d => d.parameters.length) = some 3 := ⟨rfl, by decide +kernel, by decide +kernel, by decide +kernel⟩
set_option maxHeartbeats 4000000 in
set_option maxRecDepth 100000 in
theorem c_X7_part {g : Gx} {a b w : Int} (ha : 0 ≤ a) (ha2 : a ≤ 2147483647) (hb : 0 ≤ b) (hb2 : b ≤ 2147483647) (hw : R32 w) : CtE g yX7_part wsX7_part 1 25 [.int (iI a), .int (iI b), .int (iI w)] ([]) (toldI a b w) ([]) := by
  refine m_go (cc := cX7_part) (nL := 4) (by decide +kernel) rfl (Nat.le_of_ble_eq_true rfl) (fun x X Y hnm => ?_)
  refine v_eq (lo2 := [some (.int (iI a)), some (.int (iI b)), some (.int (iI w)), none]) rfl rfl rfl rfl ?_
  have q1 := gcd_le ha hb (show (0:Int) ≤ 2147483647 by omega) ha2 hb2
  have q2 := tdiv_of_nn (b := (Int.gcd a b : Int)) ha
  have q3 := tdiv_of_nn (b := (Int.gcd a b : Int)) hb
  refine v_iload_n X dX7_part_0 rfl ?_
  refine v_iload_n X dX7_part_1 rfl ?_
  refine res_E X (run_S X (c_X7_common (g := g) (by first | assumption | omega) (by first | assumption | omega) (by first | assumption | omega) (by first | assumption | omega)) gX7_part_X7_common rfl hdX7_common.2 ⟨(Nat.le_of_ble_eq_true rfl), (Nat.le_of_ble_eq_true rfl)⟩ ⟨(Nat.le_of_ble_eq_true rfl), (Nat.le_of_ble_eq_true rfl)⟩ [] rfl rfl rfl rfl (by simp [Value.category]) dX7_part_2) [] rfl rfl ?_
  refine v_istore_n X dX7_part_5 3 rfl (by decide) rfl ?_
  dsimp only [List.set]
  refine v_iload_n X dX7_part_6 rfl ?_
  refine v_iconst X dX7_part_7 ?_
  refine v_icmp_ge (tgt := 13) X dX7_part_8 (by decide) (by omega) (by omega) (fun c1 => ?_) (fun c1 => ?_)
  · skip
    refine v_iload_n X dX7_part_13 rfl ?_
    refine v_if_ne (tgt := 23) X dX7_part_14 (by decide) (by omega) (fun c2 => ?_) (fun c2 => ?_)
    · skip
      refine v_iload_n X dX7_part_23 rfl ?_
      refine v_iload_n X dX7_part_24 rfl ?_
      refine v_idiv X dX7_part_25 (by omega) (by omega) (by omega) ?_
      exact v_iret X Y dX7_part_26 (u := ()) (by unfold toldI; split <;> omega) (by rfl)
    · skip
      refine v_iload_n X dX7_part_17 rfl ?_
      refine v_iload_n X dX7_part_18 rfl ?_
      refine v_idiv X dX7_part_19 (by omega) (by omega) (by omega) ?_
      refine v_goto (tgt := 26) X dX7_part_20 (by decide) ?_
      exact v_iret X Y dX7_part_26 (u := ()) (by unfold toldI; split <;> omega) (by rfl)
  · skip
    refine v_iconst X dX7_part_11 ?_
    exact v_iret X Y dX7_part_12 (u := ()) (by
        have e : ((Int.gcd a b : Nat) : Int) = 0 := by omega
        unfold toldI; rw [e]; split <;> simp) (by rfl)

theorem hdX7_isRow : yX7_isRow.cls = RX7 ∧ yX7_isRow.cls ≠ "java/lang/invoke/MethodHandle" ∧ yX7_isRow.cls ≠ "java/lang/invoke/VarHandle" ∧ (parseMethodDescriptor yX7_isRow.desc).map (fun d => d.parameters.length) = some 1 := ⟨rfl, by decide +kernel, by decide +kernel, by decide +kernel⟩
set_option maxHeartbeats 4000000 in
set_option maxRecDepth 100000 in
theorem c_X7_isRow {g : Gx} {a : Int} (ha : R32 a) : CtE g yX7_isRow wsX7_isRow 0 0 [.int (iI a)] ([]) (if 0 ≤ a ∧ a < 8 then 1 else 0) ([]) := by
  refine m_go (cc := cX7_isRow) (nL := 1) (by decide +kernel) rfl (Nat.le_of_ble_eq_true rfl) (fun x X Y hnm => ?_)
  refine v_eq (lo2 := [some (.int (iI a))]) rfl rfl rfl rfl ?_
  refine v_iload_n X dX7_isRow_0 rfl ?_
  refine v_if_lt (tgt := 14) X dX7_isRow_1 (by decide) (by omega) (fun c1 => ?_) (fun c1 => ?_)
  · skip
    refine v_iconst X dX7_isRow_14 ?_
    exact v_zret X Y dX7_isRow_15 (by first | decide | omega | (split <;> omega)) (u := ()) (by first | rfl | omega | (split <;> omega) | (simp [*]; done)) (by rfl)
  · skip
    refine v_iload_n X dX7_isRow_4 rfl ?_
    refine v_bipush X dX7_isRow_5 (by decide) ?_
    refine v_icmp_ge (tgt := 14) X dX7_isRow_7 (by decide) (by omega) (by omega) (fun c2 => ?_) (fun c2 => ?_)
    · skip
      refine v_iconst X dX7_isRow_14 ?_
      exact v_zret X Y dX7_isRow_15 (by first | decide | omega | (split <;> omega)) (u := ()) (by first | rfl | omega | (split <;> omega) | (simp [*]; done)) (by rfl)
    · skip
      refine v_iconst X dX7_isRow_10 ?_
      refine v_goto (tgt := 15) X dX7_isRow_11 (by decide) ?_
      exact v_zret X Y dX7_isRow_15 (by first | decide | omega | (split <;> omega)) (u := ()) (by first | rfl | omega | (split <;> omega) | (simp [*]; done)) (by rfl)

theorem hdX7_isWithin : yX7_isWithin.cls = RX7 ∧ yX7_isWithin.cls ≠ "java/lang/invoke/MethodHandle" ∧ yX7_isWithin.cls ≠ "java/lang/invoke/VarHandle" ∧ (parseMethodDescriptor yX7_isWithin.desc).map (fun d => d.parameters.length) = some 3 := ⟨rfl, by decide +kernel, by decide +kernel, by decide +kernel⟩
set_option maxHeartbeats 4000000 in
set_option maxRecDepth 100000 in
theorem c_X7_isWithin {g : Gx} {v l m : Int} (hv : R32 v) (hl : R32 l) (hm : R32 m) : CtE g yX7_isWithin wsX7_isWithin 0 0 [.int (iI v), .int (iI l), .int (iI m)] ([]) (if l ≤ v ∧ v ≤ m then 1 else 0) ([]) := by
  refine m_go (cc := cX7_isWithin) (nL := 3) (by decide +kernel) rfl (Nat.le_of_ble_eq_true rfl) (fun x X Y hnm => ?_)
  refine v_eq (lo2 := [some (.int (iI v)), some (.int (iI l)), some (.int (iI m))]) rfl rfl rfl rfl ?_
  refine v_iload_n X dX7_isWithin_0 rfl ?_
  refine v_iload_n X dX7_isWithin_1 rfl ?_
  refine v_icmp_gt (tgt := 14) X dX7_isWithin_2 (by decide) (by omega) (by omega) (fun c1 => ?_) (fun c1 => ?_)
  · skip
    refine v_iconst X dX7_isWithin_14 ?_
    exact v_zret X Y dX7_isWithin_15 (by first | decide | omega | (split <;> omega)) (u := ()) (by first | rfl | omega | (split <;> omega) | (simp [*]; done)) (by rfl)
  · skip
    refine v_iload_n X dX7_isWithin_5 rfl ?_
    refine v_iload_n X dX7_isWithin_6 rfl ?_
    refine v_icmp_gt (tgt := 14) X dX7_isWithin_7 (by decide) (by omega) (by omega) (fun c2 => ?_) (fun c2 => ?_)
    · skip
      refine v_iconst X dX7_isWithin_14 ?_
      exact v_zret X Y dX7_isWithin_15 (by first | decide | omega | (split <;> omega)) (u := ()) (by first | rfl | omega | (split <;> omega) | (simp [*]; done)) (by rfl)
    · skip
      refine v_iconst X dX7_isWithin_10 ?_
      refine v_goto (tgt := 15) X dX7_isWithin_11 (by decide) ?_
      exact v_zret X Y dX7_isWithin_15 (by first | decide | omega | (split <;> omega)) (u := ()) (by first | rfl | omega | (split <;> omega) | (simp [*]; done)) (by rfl)

theorem hdX7_isMoment : yX7_isMoment.cls = RX7 ∧ yX7_isMoment.cls ≠ "java/lang/invoke/MethodHandle" ∧ yX7_isMoment.cls ≠ "java/lang/invoke/VarHandle" ∧ (parseMethodDescriptor yX7_isMoment.desc).map (fun d => d.parameters.length) = some 2 := ⟨rfl, by decide +kernel, by decide +kernel, by decide +kernel⟩
set_option maxHeartbeats 4000000 in
set_option maxRecDepth 100000 in
theorem c_X7_isMoment {g : Gx} {p q : Int} (hp : R32 p) (hq : R32 q) : CtE g yX7_isMoment wsX7_isMoment 1 22 [.int (iI p), .int (iI q)] ([]) (if 1 ≤ q ∧ q ≤ 9999 ∧ 0 ≤ p ∧ p < q then 1 else 0) ([]) := by
  refine m_go (cc := cX7_isMoment) (nL := 2) (by decide +kernel) rfl (Nat.le_of_ble_eq_true rfl) (fun x X Y hnm => ?_)
  refine v_eq (lo2 := [some (.int (iI p)), some (.int (iI q))]) rfl rfl rfl rfl ?_
  refine v_iload_n X dX7_isMoment_0 rfl ?_
  refine v_iconst X dX7_isMoment_1 ?_
  refine v_sipush X dX7_isMoment_2 (by decide) ?_
  refine res_E X (run_S X (c_X7_isWithin (g := g) (by first | assumption | omega) (by first | assumption | omega) (by first | assumption | omega)) gX7_isMoment_X7_isWithin rfl hdX7_isWithin.2 ⟨(Nat.le_of_ble_eq_true rfl), (Nat.le_of_ble_eq_true rfl)⟩ ⟨(Nat.le_of_ble_eq_true rfl), (Nat.le_of_ble_eq_true rfl)⟩ [] rfl rfl rfl rfl (by simp [Value.category]) dX7_isMoment_5) [] rfl rfl ?_
  refine v_ifb_eq (tgt := 26) X dX7_isMoment_8 (by decide) (fun c1 => ?_) (fun c1 => ?_)
  · skip
    refine v_iconst X dX7_isMoment_26 ?_
    exact v_zret X Y dX7_isMoment_27 (by first | decide | omega | (split <;> omega)) (u := ()) (by first | rfl | omega | (split <;> omega) | (simp [*]; done)) (by rfl)
  · skip
    refine v_iload_n X dX7_isMoment_11 rfl ?_
    refine v_iconst X dX7_isMoment_12 ?_
    refine v_iload_n X dX7_isMoment_13 rfl ?_
    refine v_iconst X dX7_isMoment_14 ?_
    refine v_isub X dX7_isMoment_15 ?_
    refine res_E X (run_S X (c_X7_isWithin (g := g) (by first | assumption | omega) (by first | assumption | omega) (by first | assumption | omega)) gX7_isMoment_X7_isWithin rfl hdX7_isWithin.2 ⟨(Nat.le_of_ble_eq_true rfl), (Nat.le_of_ble_eq_true rfl)⟩ ⟨(Nat.le_of_ble_eq_true rfl), (Nat.le_of_ble_eq_true rfl)⟩ [] rfl rfl rfl rfl (by simp [Value.category]) dX7_isMoment_16) [] rfl rfl ?_
    refine v_ifb_eq (tgt := 26) X dX7_isMoment_19 (by decide) (fun c2 => ?_) (fun c2 => ?_)
    · skip
      refine v_iconst X dX7_isMoment_26 ?_
      exact v_zret X Y dX7_isMoment_27 (by first | decide | omega | (split <;> omega)) (u := ()) (by first | rfl | omega | (split <;> omega) | (simp [*]; done)) (by rfl)
    · skip
      refine v_iconst X dX7_isMoment_22 ?_
      refine v_goto (tgt := 27) X dX7_isMoment_23 (by decide) ?_
      exact v_zret X Y dX7_isMoment_27 (by first | decide | omega | (split <;> omega)) (u := ()) (by first | rfl | omega | (split <;> omega) | (simp [*]; done)) (by rfl)

theorem hdX2_isNone : yX2_isNone.cls = RX2 ∧ yX2_isNone.cls ≠ "java/lang/invoke/MethodHandle" ∧ yX2_isNone.cls ≠ "java/lang/invoke/VarHandle" ∧ (parseMethodDescriptor yX2_isNone.desc).map (fun d => d.parameters.length) = some 0 := ⟨rfl, by decide +kernel, by decide +kernel, by decide +kernel⟩
set_option maxHeartbeats 4000000 in
set_option maxRecDepth 100000 in
theorem c_X2_isNone {g : Gx} {a a1 a2 a3 : Nat} {mk cn : Int} {so tu sp : Nat → Int}  (hcn : 0 ≤ cn ∧ cn ≤ 4) : CtE g yX2_isNone wsX2_isNone 0 0 [.ref a] (wClk g a a1 a2 a3 mk cn so tu sp) (if cn = 0 then 1 else 0) (wClk g a a1 a2 a3 mk cn so tu sp) := by
  refine m_go (cc := cX2_isNone) (nL := 1) (by decide +kernel) rfl (Nat.le_of_ble_eq_true rfl) (fun x X Y hnm => ?_)
  refine v_eq (lo2 := [some (.ref a)]) rfl rfl rfl rfl ?_
  refine v_aload_n X dX2_isNone_0 rfl ?_
  refine v_get X (fun _ h => List.mem_cons_of_mem _ (List.mem_append_right _ h)) 0 rfl rfl 4 (by decide) rfl (List.mem_of_getElem? (i := 1) rfl) rfl dX2_isNone_1 ?_
  refine v_if_ne (tgt := 11) X dX2_isNone_4 (by decide) (by omega) (fun c1 => ?_) (fun c1 => ?_)
  · skip
    refine v_iconst X dX2_isNone_11 ?_
    exact v_zret X Y dX2_isNone_12 (by first | decide | omega | (split <;> omega)) (u := ()) (by first | rfl | omega | (split <;> omega) | (simp [*]; done)) (by rfl)
  · skip
    refine v_iconst X dX2_isNone_7 ?_
    refine v_goto (tgt := 12) X dX2_isNone_8 (by decide) ?_
    exact v_zret X Y dX2_isNone_12 (by first | decide | omega | (split <;> omega)) (u := ()) (by first | rfl | omega | (split <;> omega) | (simp [*]; done)) (by rfl)

theorem hdX2_has : yX2_has.cls = RX2 ∧ yX2_has.cls ≠ "java/lang/invoke/MethodHandle" ∧ yX2_has.cls ≠ "java/lang/invoke/VarHandle" ∧ (parseMethodDescriptor yX2_has.desc).map (fun d => d.parameters.length) = some 1 := ⟨rfl, by decide +kernel, by decide +kernel, by decide +kernel⟩
set_option maxHeartbeats 4000000 in
set_option maxRecDepth 100000 in
theorem c_X2_has {g : Gx} {a a1 a2 a3 : Nat} {mk cn : Int} {so tu sp : Nat → Int} {h : Int} (hcn : 0 ≤ cn ∧ cn ≤ 4) (hh : R32 h) : CtE g yX2_has wsX2_has 0 0 [.ref a, .int (iI h)] (wClk g a a1 a2 a3 mk cn so tu sp) (if 0 ≤ h ∧ h < cn then 1 else 0) (wClk g a a1 a2 a3 mk cn so tu sp) := by
  refine m_go (cc := cX2_has) (nL := 2) (by decide +kernel) rfl (Nat.le_of_ble_eq_true rfl) (fun x X Y hnm => ?_)
  refine v_eq (lo2 := [some (.ref a), some (.int (iI h))]) rfl rfl rfl rfl ?_
  refine v_iload_n X dX2_has_0 rfl ?_
  refine v_if_lt (tgt := 21) X dX2_has_1 (by decide) (by omega) (fun c1 => ?_) (fun c1 => ?_)
  · skip
    refine v_iconst X dX2_has_21 ?_
    exact v_zret X Y dX2_has_22 (by first | decide | omega | (split <;> omega)) (u := ()) (by first | rfl | omega | (split <;> omega) | (simp [*]; done)) (by rfl)
  · skip
    refine v_iload_n X dX2_has_4 rfl ?_
    refine v_aload_n X dX2_has_5 rfl ?_
    refine v_get X (fun _ h => List.mem_cons_of_mem _ (List.mem_append_right _ h)) 0 rfl rfl 4 (by decide) rfl (List.mem_of_getElem? (i := 1) rfl) rfl dX2_has_6 ?_
    refine v_icmp_ge (tgt := 21) X dX2_has_9 (by decide) (by omega) (by omega) (fun c2 => ?_) (fun c2 => ?_)
    · skip
      refine v_iconst X dX2_has_21 ?_
      exact v_zret X Y dX2_has_22 (by first | decide | omega | (split <;> omega)) (u := ()) (by first | rfl | omega | (split <;> omega) | (simp [*]; done)) (by rfl)
    · skip
      refine v_iload_n X dX2_has_12 rfl ?_
      refine v_iconst X dX2_has_13 ?_
      refine v_icmp_ge (tgt := 21) X dX2_has_14 (by decide) (by omega) (by omega) (fun c3 => ?_) (fun c3 => ?_)
      · skip
        refine v_iconst X dX2_has_21 ?_
        exact v_zret X Y dX2_has_22 (by first | decide | omega | (split <;> omega)) (u := ()) (by first | rfl | omega | (split <;> omega) | (simp [*]; done)) (by rfl)
      · skip
        refine v_iconst X dX2_has_17 ?_
        refine v_goto (tgt := 22) X dX2_has_18 (by decide) ?_
        exact v_zret X Y dX2_has_22 (by first | decide | omega | (split <;> omega)) (u := ()) (by first | rfl | omega | (split <;> omega) | (simp [*]; done)) (by rfl)

theorem hdX2_sortOf : yX2_sortOf.cls = RX2 ∧ yX2_sortOf.cls ≠ "java/lang/invoke/MethodHandle" ∧ yX2_sortOf.cls ≠ "java/lang/invoke/VarHandle" ∧ (parseMethodDescriptor yX2_sortOf.desc).map (fun d => d.parameters.length) = some 1 := ⟨rfl, by decide +kernel, by decide +kernel, by decide +kernel⟩
set_option maxHeartbeats 4000000 in
set_option maxRecDepth 100000 in
theorem c_X2_sortOf {g : Gx} {a a1 a2 a3 : Nat} {mk cn : Int} {so tu sp : Nat → Int} {h : Int} (hcn : 0 ≤ cn ∧ cn ≤ 4) (hso : Bd 0 5 so) (hh : R32 h) : CtE g yX2_sortOf wsX2_sortOf 1 21 [.ref a, .int (iI h)] (wClk g a a1 a2 a3 mk cn so tu sp) (atI cn so h) (wClk g a a1 a2 a3 mk cn so tu sp) := by
  refine m_go (cc := cX2_sortOf) (nL := 2) (by decide +kernel) rfl (Nat.le_of_ble_eq_true rfl) (fun x X Y hnm => ?_)
  refine v_eq (lo2 := [some (.ref a), some (.int (iI h))]) rfl rfl rfl rfl ?_
  refine v_aload_n X dX2_sortOf_0 rfl ?_
  refine v_iload_n X dX2_sortOf_1 rfl ?_
  refine res_E X (run_V X (c_X2_has (g := g) (by first | assumption | omega) (by first | assumption | omega)) gX2_sortOf_X2_has rfl hdX2_has ⟨(Nat.le_of_ble_eq_true rfl), (Nat.le_of_ble_eq_true rfl)⟩ ⟨(Nat.le_of_ble_eq_true rfl), (Nat.le_of_ble_eq_true rfl)⟩ 0 rfl rfl rfl [0, 1, 2, 3] rfl rfl rfl rfl (by simp [Value.category]) dX2_sortOf_2) [0, 1, 2, 3] rfl rfl ?_
  refine v_ifb_eq (tgt := 17) X dX2_sortOf_5 (by decide) (fun c1 => ?_) (fun c1 => ?_)
  · skip
    refine v_iconst X dX2_sortOf_17 ?_
    exact v_iret X Y dX2_sortOf_18 (u := ()) (by unfold atI; split <;> omega) (by rfl)
  · skip
    refine v_aload_n X dX2_sortOf_8 rfl ?_
    refine v_get X (fun _ h => List.mem_cons_of_mem _ (List.mem_append_right _ h)) 0 rfl rfl 0 (by decide) rfl (List.mem_of_getElem? (i := 1) rfl) rfl dX2_sortOf_9 ?_
    refine v_iload_n X dX2_sortOf_12 rfl ?_
    refine v_iald X 1 rfl (by omega) (by omega) (by omega) dX2_sortOf_13 hso (fun z2 ez2 lz2 uz2 => ?_)
    refine v_goto (tgt := 18) X dX2_sortOf_14 (by decide) ?_
    exact v_iret X Y dX2_sortOf_18 (u := ()) (by unfold atI; split <;> omega) (by rfl)

theorem hdX2_turnsOf : yX2_turnsOf.cls = RX2 ∧ yX2_turnsOf.cls ≠ "java/lang/invoke/MethodHandle" ∧ yX2_turnsOf.cls ≠ "java/lang/invoke/VarHandle" ∧ (parseMethodDescriptor yX2_turnsOf.desc).map (fun d => d.parameters.length) = some 1 := ⟨rfl, by decide +kernel, by decide +kernel, by decide +kernel⟩
set_option maxHeartbeats 4000000 in
set_option maxRecDepth 100000 in
theorem c_X2_turnsOf {g : Gx} {a a1 a2 a3 : Nat} {mk cn : Int} {so tu sp : Nat → Int} {h : Int} (hcn : 0 ≤ cn ∧ cn ≤ 4) (htu : Bd 0 12 tu) (hh : R32 h) : CtE g yX2_turnsOf wsX2_turnsOf 1 21 [.ref a, .int (iI h)] (wClk g a a1 a2 a3 mk cn so tu sp) (atI cn tu h) (wClk g a a1 a2 a3 mk cn so tu sp) := by
  refine m_go (cc := cX2_turnsOf) (nL := 2) (by decide +kernel) rfl (Nat.le_of_ble_eq_true rfl) (fun x X Y hnm => ?_)
  refine v_eq (lo2 := [some (.ref a), some (.int (iI h))]) rfl rfl rfl rfl ?_
  refine v_aload_n X dX2_turnsOf_0 rfl ?_
  refine v_iload_n X dX2_turnsOf_1 rfl ?_
  refine res_E X (run_V X (c_X2_has (g := g) (by first | assumption | omega) (by first | assumption | omega)) gX2_turnsOf_X2_has rfl hdX2_has ⟨(Nat.le_of_ble_eq_true rfl), (Nat.le_of_ble_eq_true rfl)⟩ ⟨(Nat.le_of_ble_eq_true rfl), (Nat.le_of_ble_eq_true rfl)⟩ 0 rfl rfl rfl [0, 1, 2, 3] rfl rfl rfl rfl (by simp [Value.category]) dX2_turnsOf_2) [0, 1, 2, 3] rfl rfl ?_
  refine v_ifb_eq (tgt := 17) X dX2_turnsOf_5 (by decide) (fun c1 => ?_) (fun c1 => ?_)
  · skip
    refine v_iconst X dX2_turnsOf_17 ?_
    exact v_iret X Y dX2_turnsOf_18 (u := ()) (by unfold atI; split <;> omega) (by rfl)
  · skip
    refine v_aload_n X dX2_turnsOf_8 rfl ?_
    refine v_get X (fun _ h => List.mem_cons_of_mem _ (List.mem_append_right _ h)) 0 rfl rfl 1 (by decide) rfl (List.mem_of_getElem? (i := 1) rfl) rfl dX2_turnsOf_9 ?_
    refine v_iload_n X dX2_turnsOf_12 rfl ?_
    refine v_iald X 2 rfl (by omega) (by omega) (by omega) dX2_turnsOf_13 htu (fun z2 ez2 lz2 uz2 => ?_)
    refine v_goto (tgt := 18) X dX2_turnsOf_14 (by decide) ?_
    exact v_iret X Y dX2_turnsOf_18 (u := ()) (by unfold atI; split <;> omega) (by rfl)

theorem hdX2_slipOf : yX2_slipOf.cls = RX2 ∧ yX2_slipOf.cls ≠ "java/lang/invoke/MethodHandle" ∧ yX2_slipOf.cls ≠ "java/lang/invoke/VarHandle" ∧ (parseMethodDescriptor yX2_slipOf.desc).map (fun d => d.parameters.length) = some 1 := ⟨rfl, by decide +kernel, by decide +kernel, by decide +kernel⟩
set_option maxHeartbeats 4000000 in
set_option maxRecDepth 100000 in
theorem c_X2_slipOf {g : Gx} {a a1 a2 a3 : Nat} {mk cn : Int} {so tu sp : Nat → Int} {h : Int} (hcn : 0 ≤ cn ∧ cn ≤ 4) (hsp : Bd 0 59 sp) (hh : R32 h) : CtE g yX2_slipOf wsX2_slipOf 1 21 [.ref a, .int (iI h)] (wClk g a a1 a2 a3 mk cn so tu sp) (atI cn sp h) (wClk g a a1 a2 a3 mk cn so tu sp) := by
  refine m_go (cc := cX2_slipOf) (nL := 2) (by decide +kernel) rfl (Nat.le_of_ble_eq_true rfl) (fun x X Y hnm => ?_)
  refine v_eq (lo2 := [some (.ref a), some (.int (iI h))]) rfl rfl rfl rfl ?_
  refine v_aload_n X dX2_slipOf_0 rfl ?_
  refine v_iload_n X dX2_slipOf_1 rfl ?_
  refine res_E X (run_V X (c_X2_has (g := g) (by first | assumption | omega) (by first | assumption | omega)) gX2_slipOf_X2_has rfl hdX2_has ⟨(Nat.le_of_ble_eq_true rfl), (Nat.le_of_ble_eq_true rfl)⟩ ⟨(Nat.le_of_ble_eq_true rfl), (Nat.le_of_ble_eq_true rfl)⟩ 0 rfl rfl rfl [0, 1, 2, 3] rfl rfl rfl rfl (by simp [Value.category]) dX2_slipOf_2) [0, 1, 2, 3] rfl rfl ?_
  refine v_ifb_eq (tgt := 17) X dX2_slipOf_5 (by decide) (fun c1 => ?_) (fun c1 => ?_)
  · skip
    refine v_iconst X dX2_slipOf_17 ?_
    exact v_iret X Y dX2_slipOf_18 (u := ()) (by unfold atI; split <;> omega) (by rfl)
  · skip
    refine v_aload_n X dX2_slipOf_8 rfl ?_
    refine v_get X (fun _ h => List.mem_cons_of_mem _ (List.mem_append_right _ h)) 0 rfl rfl 2 (by decide) rfl (List.mem_of_getElem? (i := 1) rfl) rfl dX2_slipOf_9 ?_
    refine v_iload_n X dX2_slipOf_12 rfl ?_
    refine v_iald X 3 rfl (by omega) (by omega) (by omega) dX2_slipOf_13 hsp (fun z2 ez2 lz2 uz2 => ?_)
    refine v_goto (tgt := 18) X dX2_slipOf_14 (by decide) ?_
    exact v_iret X Y dX2_slipOf_18 (u := ()) (by unfold atI; split <;> omega) (by rfl)

theorem hdX2_speedOf : yX2_speedOf.cls = RX2 ∧ yX2_speedOf.cls ≠ "java/lang/invoke/MethodHandle" ∧ yX2_speedOf.cls ≠ "java/lang/invoke/VarHandle" ∧ (parseMethodDescriptor yX2_speedOf.desc).map (fun d => d.parameters.length) = some 1 := ⟨rfl, by decide +kernel, by decide +kernel, by decide +kernel⟩
set_option maxHeartbeats 4000000 in
set_option maxRecDepth 100000 in
theorem c_X2_speedOf {g : Gx} {a a1 a2 a3 : Nat} {mk cn : Int} {so tu sp : Nat → Int} {h : Int} (hcn : 0 ≤ cn ∧ cn ≤ 4) (hso : Bd 0 5 so) (htu : Bd 0 12 tu) (hh : R32 h) : CtE g yX2_speedOf wsX2_speedOf 2 42 [.ref a, .int (iI h)] (wClk g a a1 a2 a3 mk cn so tu sp) (spdI cn so tu h) (wClk g a a1 a2 a3 mk cn so tu sp) := by
  refine m_go (cc := cX2_speedOf) (nL := 3) (by decide +kernel) rfl (Nat.le_of_ble_eq_true rfl) (fun x X Y hnm => ?_)
  refine v_eq (lo2 := [some (.ref a), some (.int (iI h)), none]) rfl rfl rfl rfl ?_
  have q1 := atI_bd (cn := cn) (h := h) hso (by omega) (by omega)
  have q2 := atI_bd (cn := cn) (h := h) htu (by omega) (by omega)
  refine v_aload_n X dX2_speedOf_0 rfl ?_
  refine v_iload_n X dX2_speedOf_1 rfl ?_
  refine res_E X (run_V X (c_X2_sortOf (g := g) (by first | assumption | omega) (by first | assumption | omega) (by first | assumption | omega)) gX2_speedOf_X2_sortOf rfl hdX2_sortOf ⟨(Nat.le_of_ble_eq_true rfl), (Nat.le_of_ble_eq_true rfl)⟩ ⟨(Nat.le_of_ble_eq_true rfl), (Nat.le_of_ble_eq_true rfl)⟩ 0 rfl rfl rfl [0, 1, 2, 3] rfl rfl rfl rfl (by simp [Value.category]) dX2_speedOf_2) [0, 1, 2, 3] rfl rfl ?_
  refine v_istore_n X dX2_speedOf_5 2 rfl (by decide) rfl ?_
  dsimp only [List.set]
  refine v_iload_n X dX2_speedOf_6 rfl ?_
  refine v_iconst X dX2_speedOf_7 ?_
  refine v_icmp_ne (tgt := 18) X dX2_speedOf_8 (by decide) (by omega) (by omega) (fun c1 => ?_) (fun c1 => ?_)
  · skip
    refine v_iload_n X dX2_speedOf_18 rfl ?_
    refine v_iconst X dX2_speedOf_19 ?_
    refine v_icmp_ne (tgt := 33) X dX2_speedOf_20 (by decide) (by omega) (by omega) (fun c2 => ?_) (fun c2 => ?_)
    · skip
      refine v_aload_n X dX2_speedOf_33 rfl ?_
      refine v_iload_n X dX2_speedOf_34 rfl ?_
      refine res_E X (run_V X (c_X2_turnsOf (g := g) (by first | assumption | omega) (by first | assumption | omega) (by first | assumption | omega)) gX2_speedOf_X2_turnsOf rfl hdX2_turnsOf ⟨(Nat.le_of_ble_eq_true rfl), (Nat.le_of_ble_eq_true rfl)⟩ ⟨(Nat.le_of_ble_eq_true rfl), (Nat.le_of_ble_eq_true rfl)⟩ 0 rfl rfl rfl [0, 1, 2, 3] rfl rfl rfl rfl (by simp [Value.category]) dX2_speedOf_35) [0, 1, 2, 3] rfl rfl ?_
      exact v_iret X Y dX2_speedOf_38 (u := ()) (by unfold spdI; split <;> first | omega | (split <;> omega)) (by rfl)
    · skip
      refine v_iconst X dX2_speedOf_23 ?_
      refine v_aload_n X dX2_speedOf_24 rfl ?_
      refine v_iload_n X dX2_speedOf_25 rfl ?_
      refine res_E X (run_V X (c_X2_turnsOf (g := g) (by first | assumption | omega) (by first | assumption | omega) (by first | assumption | omega)) gX2_speedOf_X2_turnsOf rfl hdX2_turnsOf ⟨(Nat.le_of_ble_eq_true rfl), (Nat.le_of_ble_eq_true rfl)⟩ ⟨(Nat.le_of_ble_eq_true rfl), (Nat.le_of_ble_eq_true rfl)⟩ 0 rfl rfl rfl [0, 1, 2, 3] rfl rfl rfl rfl (by simp [Value.category]) dX2_speedOf_26) [0, 1, 2, 3] rfl rfl ?_
      refine v_imul X dX2_speedOf_29 ?_
      refine v_goto (tgt := 38) X dX2_speedOf_30 (by decide) ?_
      exact v_iret X Y dX2_speedOf_38 (u := ()) (by unfold spdI; split <;> first | omega | (split <;> omega)) (by rfl)
  · skip
    refine v_aload_n X dX2_speedOf_11 rfl ?_
    refine v_iload_n X dX2_speedOf_12 rfl ?_
    refine res_E X (run_V X (c_X2_turnsOf (g := g) (by first | assumption | omega) (by first | assumption | omega) (by first | assumption | omega)) gX2_speedOf_X2_turnsOf rfl hdX2_turnsOf ⟨(Nat.le_of_ble_eq_true rfl), (Nat.le_of_ble_eq_true rfl)⟩ ⟨(Nat.le_of_ble_eq_true rfl), (Nat.le_of_ble_eq_true rfl)⟩ 0 rfl rfl rfl [0, 1, 2, 3] rfl rfl rfl rfl (by simp [Value.category]) dX2_speedOf_13) [0, 1, 2, 3] rfl rfl ?_
    refine v_ineg X dX2_speedOf_16 ?_
    exact v_iret X Y dX2_speedOf_17 (u := ()) (by unfold spdI; split <;> first | omega | (split <;> omega)) (by rfl)

theorem hdX2_arcBelow : yX2_arcBelow.cls = RX2 ∧ yX2_arcBelow.cls ≠ "java/lang/invoke/MethodHandle" ∧ yX2_arcBelow.cls ≠ "java/lang/invoke/VarHandle" ∧ (parseMethodDescriptor yX2_arcBelow.desc).map (fun d => d.parameters.length) = some 1 := ⟨rfl, by decide +kernel, by decide +kernel, by decide +kernel⟩
set_option maxHeartbeats 4000000 in
set_option maxRecDepth 100000 in
theorem c_X2_arcBelow {g : Gx} {a a1 a2 a3 : Nat} {mk cn : Int} {so tu sp : Nat → Int} {q : Int}  : CtE g yX2_arcBelow wsX2_arcBelow 0 0 [.ref a, .int (iI q)] (wClk g a a1 a2 a3 mk cn so tu sp) (q * mk) (wClk g a a1 a2 a3 mk cn so tu sp) := by
  refine m_go (cc := cX2_arcBelow) (nL := 2) (by decide +kernel) rfl (Nat.le_of_ble_eq_true rfl) (fun x X Y hnm => ?_)
  refine v_eq (lo2 := [some (.ref a), some (.int (iI q))]) rfl rfl rfl rfl ?_
  refine v_iload_n X dX2_arcBelow_0 rfl ?_
  refine v_aload_n X dX2_arcBelow_1 rfl ?_
  refine v_get X (fun _ h => List.mem_cons_of_mem _ (List.mem_append_right _ h)) 0 rfl rfl 3 (by decide) rfl (List.mem_of_getElem? (i := 1) rfl) rfl dX2_arcBelow_2 ?_
  refine v_imul X dX2_arcBelow_5 ?_
  exact v_iret X Y dX2_arcBelow_6 (u := ()) (by rfl) (by rfl)

theorem hdX2_arcAbove : yX2_arcAbove.cls = RX2 ∧ yX2_arcAbove.cls ≠ "java/lang/invoke/MethodHandle" ∧ yX2_arcAbove.cls ≠ "java/lang/invoke/VarHandle" ∧ (parseMethodDescriptor yX2_arcAbove.desc).map (fun d => d.parameters.length) = some 3 := ⟨rfl, by decide +kernel, by decide +kernel, by decide +kernel⟩
set_option maxHeartbeats 4000000 in
set_option maxRecDepth 100000 in
theorem c_X2_arcAbove {g : Gx} {a a1 a2 a3 : Nat} {mk cn : Int} {so tu sp : Nat → Int} {h p q : Int} (hcn : 0 ≤ cn ∧ cn ≤ 4) (hso : Bd 0 5 so) (htu : Bd 0 12 tu) (hsp : Bd 0 59 sp) (hmk : 0 ≤ mk ∧ mk ≤ 60) (hh : R32 h) (hp : 0 ≤ p ∧ p ≤ 9999) (hq : 0 ≤ q ∧ q ≤ 9999) : CtE g yX2_arcAbove wsX2_arcAbove 3 64 [.ref a, .int (iI h), .int (iI p), .int (iI q)] (wClk g a a1 a2 a3 mk cn so tu sp) (restI (spdI cn so tu h * p * mk + atI cn sp h * q) (q * mk)) (wClk g a a1 a2 a3 mk cn so tu sp) := by
  refine m_go (cc := cX2_arcAbove) (nL := 4) (by decide +kernel) rfl (Nat.le_of_ble_eq_true rfl) (fun x X Y hnm => ?_)
  refine v_eq (lo2 := [some (.ref a), some (.int (iI h)), some (.int (iI p)), some (.int (iI q))]) rfl rfl rfl rfl ?_
  have q1 := spdI_bd (cn := cn) (so := so) (h := h) htu
  have q2 := atI_bd (cn := cn) (h := h) hsp (by omega) (by omega)
  have q3 := mul_bd q1 hp
  have q4 := mul_bd q3 hmk
  have q5 := mul_bd (A := 59) ⟨by omega, q2.2⟩ hq
  have q6 := mul_nn hq hmk
  refine v_aload_n X dX2_arcAbove_0 rfl ?_
  refine v_iload_n X dX2_arcAbove_1 rfl ?_
  refine res_E X (run_V X (c_X2_speedOf (g := g) (by first | assumption | omega) (by first | assumption | omega) (by first | assumption | omega) (by first | assumption | omega)) gX2_arcAbove_X2_speedOf rfl hdX2_speedOf ⟨(Nat.le_of_ble_eq_true rfl), (Nat.le_of_ble_eq_true rfl)⟩ ⟨(Nat.le_of_ble_eq_true rfl), (Nat.le_of_ble_eq_true rfl)⟩ 0 rfl rfl rfl [0, 1, 2, 3] rfl rfl rfl rfl (by simp [Value.category]) dX2_arcAbove_2) [0, 1, 2, 3] rfl rfl ?_
  refine v_iload_n X dX2_arcAbove_5 rfl ?_
  refine v_imul X dX2_arcAbove_6 ?_
  refine v_aload_n X dX2_arcAbove_7 rfl ?_
  refine v_get X (fun _ h => List.mem_cons_of_mem _ (List.mem_append_right _ h)) 0 rfl rfl 3 (by decide) rfl (List.mem_of_getElem? (i := 1) rfl) rfl dX2_arcAbove_8 ?_
  refine v_imul X dX2_arcAbove_11 ?_
  refine v_aload_n X dX2_arcAbove_12 rfl ?_
  refine v_iload_n X dX2_arcAbove_13 rfl ?_
  refine res_E X (run_V X (c_X2_slipOf (g := g) (by first | assumption | omega) (by first | assumption | omega) (by first | assumption | omega)) gX2_arcAbove_X2_slipOf rfl hdX2_slipOf ⟨(Nat.le_of_ble_eq_true rfl), (Nat.le_of_ble_eq_true rfl)⟩ ⟨(Nat.le_of_ble_eq_true rfl), (Nat.le_of_ble_eq_true rfl)⟩ 0 rfl rfl rfl [0, 1, 2, 3] rfl rfl rfl rfl (by simp [Value.category]) dX2_arcAbove_14) [0, 1, 2, 3] rfl rfl ?_
  refine v_iload_n X dX2_arcAbove_17 rfl ?_
  refine v_imul X dX2_arcAbove_18 ?_
  refine v_iadd X dX2_arcAbove_19 ?_
  refine v_aload_n X dX2_arcAbove_20 rfl ?_
  refine v_iload_n X dX2_arcAbove_21 rfl ?_
  refine res_E X (run_V X (c_X2_arcBelow (g := g) ) gX2_arcAbove_X2_arcBelow rfl hdX2_arcBelow ⟨(Nat.le_of_ble_eq_true rfl), (Nat.le_of_ble_eq_true rfl)⟩ ⟨(Nat.le_of_ble_eq_true rfl), (Nat.le_of_ble_eq_true rfl)⟩ 0 rfl rfl rfl [0, 1, 2, 3] rfl rfl rfl rfl (by simp [Value.category]) dX2_arcAbove_22) [0, 1, 2, 3] rfl rfl ?_
  refine res_E X (run_SN X (c_X7_rest (g := g) (by first | assumption | omega) (by first | assumption | omega)) gX2_arcAbove_X7_rest_n48 rfl (List.mem_of_getElem? (i := 10) rfl) (List.mem_of_getElem? (i := 32) rfl) (List.mem_of_getElem? (i := 31) rfl) hdX7_rest.2 ⟨(Nat.le_of_ble_eq_true rfl), (Nat.le_of_ble_eq_true rfl)⟩ ⟨(Nat.le_of_ble_eq_true rfl), (Nat.le_of_ble_eq_true rfl)⟩ [] rfl rfl rfl rfl (by simp [Value.category]) dX2_arcAbove_25) [] rfl rfl ?_
  exact v_iret X Y dX2_arcAbove_28 (u := ()) (by rfl) (by rfl)

theorem hdX2_slippedHands : yX2_slippedHands.cls = RX2 ∧ yX2_slippedHands.cls ≠ "java/lang/invoke/MethodHandle" ∧ yX2_slippedHands.cls ≠ "java/lang/invoke/VarHandle" ∧ (parseMethodDescriptor yX2_slippedHands.desc).map (fun d => d.parameters.length) = some 0 := ⟨rfl, by decide +kernel, by decide +kernel, by decide +kernel⟩
set_option maxHeartbeats 4000000 in
set_option maxRecDepth 100000 in
theorem c_X2_slippedHands {g : Gx} {a a1 a2 a3 : Nat} {mk cn : Int} {so tu sp : Nat → Int}  (hcn : 0 ≤ cn ∧ cn ≤ 4) (hsp : Bd 0 59 sp) : CtE g yX2_slippedHands wsX2_slippedHands 2 42 [.ref a] (wClk g a a1 a2 a3 mk cn so tu sp) (cntN (fun j => decide (sp j ≠ 0)) cn.toNat) (wClk g a a1 a2 a3 mk cn so tu sp) := by
  refine m_go (cc := cX2_slippedHands) (nL := 3) (by decide +kernel) rfl (Nat.le_of_ble_eq_true rfl) (fun x X Y hnm => ?_)
  refine v_eq (lo2 := [some (.ref a), none, none]) rfl rfl rfl rfl ?_
  refine v_iconst X dX2_slippedHands_0 ?_
  refine v_istore_n X dX2_slippedHands_1 1 rfl (by decide) rfl ?_
  dsimp only [List.set]
  refine v_iconst X dX2_slippedHands_2 ?_
  refine v_istore_n X dX2_slippedHands_3 2 rfl (by decide) rfl ?_
  dsimp only [List.set]
  have L4 : ∀ (nf : Nat) (k : Int) (i : Int) (h1 : 0 ≤ i ∧ i ≤ cn) (h2 : k = cntN (fun j => decide (sp j ≠ 0)) i.toNat) (h3 : 0 ≤ k ∧ k ≤ i) (_ : (cn - i).toNat < nf), V g x 0 0 (wClk g a a1 a2 a3 mk cn so tu sp) [some (.ref a), some (.int (iI k)), some (.int (iI i))] 4 [] := by
    intro nf
    induction nf with
    | zero => intro k i h1 h2 h3 hmu; exact absurd hmu (Nat.not_lt_zero _)
    | succ nf ih4 =>
      intro k i h1 h2 h3 hmu
      refine v_iload_n X dX2_slippedHands_4 rfl ?_
      refine v_aload_n X dX2_slippedHands_5 rfl ?_
      refine v_get X (fun _ h => List.mem_cons_of_mem _ (List.mem_append_right _ h)) 0 rfl rfl 4 (by decide) rfl (List.mem_of_getElem? (i := 1) rfl) rfl dX2_slippedHands_6 ?_
      refine v_icmp_ge (tgt := 29) X dX2_slippedHands_9 (by decide) (by omega) (by omega) (fun c1 => ?_) (fun c1 => ?_)
      · skip
        refine v_iload_n X dX2_slippedHands_29 rfl ?_
        exact v_iret X Y dX2_slippedHands_30 (u := ()) (by
            have e : i = cn := by omega
            rw [h2, e]) (by rfl)
      · skip
        refine v_aload_n X dX2_slippedHands_12 rfl ?_
        refine v_iload_n X dX2_slippedHands_13 rfl ?_
        refine res_E X (run_V X (c_X2_slipOf (g := g) (by first | assumption | omega) (by first | assumption | omega) (by first | assumption | omega)) gX2_slippedHands_X2_slipOf rfl hdX2_slipOf ⟨(Nat.le_of_ble_eq_true rfl), (Nat.le_of_ble_eq_true rfl)⟩ ⟨(Nat.le_of_ble_eq_true rfl), (Nat.le_of_ble_eq_true rfl)⟩ 0 rfl rfl rfl [0, 1, 2, 3] rfl rfl rfl rfl (by simp [Value.category]) dX2_slippedHands_14) [0, 1, 2, 3] rfl rfl ?_
        have q1 := atI_bd (cn := cn) (h := i) hsp (by omega) (by omega)
        refine v_if_eq (tgt := 23) X dX2_slippedHands_17 (by decide) (by omega) (fun c2 => ?_) (fun c2 => ?_)
        · skip
          refine v_iinc X dX2_slippedHands_23 rfl (by decide) rfl ?_
          dsimp only [List.set]
          refine v_goto (tgt := 4) X dX2_slippedHands_26 (by decide) ?_
          exact ih4 _ _ (by omega) (by rw [cntN_s h1.1]; unfold atI at c2; rw [if_pos (by omega)] at c2; simp only [decide_eq_true_eq]; split <;> omega) (by omega) (by omega)
        · skip
          refine v_iinc X dX2_slippedHands_20 rfl (by decide) rfl ?_
          dsimp only [List.set]
          refine v_iinc X dX2_slippedHands_23 rfl (by decide) rfl ?_
          dsimp only [List.set]
          refine v_goto (tgt := 4) X dX2_slippedHands_26 (by decide) ?_
          exact ih4 _ _ (by omega) (by rw [cntN_s h1.1]; unfold atI at c2; rw [if_pos (by omega)] at c2; simp only [decide_eq_true_eq]; split <;> omega) (by omega) (by omega)
  exact L4 _ _ _ (by omega) (by rfl) (by omega) (Nat.lt_succ_self _)

theorem hdX2_setSlip : yX2_setSlip.cls = RX2 ∧ yX2_setSlip.cls ≠ "java/lang/invoke/MethodHandle" ∧ yX2_setSlip.cls ≠ "java/lang/invoke/VarHandle" ∧ (parseMethodDescriptor yX2_setSlip.desc).map (fun d => d.parameters.length) = some 2 := ⟨rfl, by decide +kernel, by decide +kernel, by decide +kernel⟩
set_option maxHeartbeats 4000000 in
set_option maxRecDepth 100000 in
theorem c_X2_setSlip {g : Gx} {a a1 a2 a3 : Nat} {mk cn : Int} {so tu sp : Nat → Int} {h v : Int} (hcn : 0 ≤ cn ∧ cn ≤ 4) (hh : 0 ≤ h ∧ h < cn) : CtW g yX2_setSlip wsX2_setSlip 1 21 [.ref a, .int (iI h), .int (iI v)] (wClk g a a1 a2 a3 mk cn so tu sp) (wClk g a a1 a2 a3 mk cn so tu (updI sp h.toNat v)) := by
  refine m_go (cc := cX2_setSlip) (nL := 3) (by decide +kernel) rfl (Nat.le_of_ble_eq_true rfl) (fun x X Y hnm => ?_)
  refine v_eq (lo2 := [some (.ref a), some (.int (iI h)), some (.int (iI v))]) rfl rfl rfl rfl ?_
  refine v_aload_n X dX2_setSlip_0 rfl ?_
  refine v_iload_n X dX2_setSlip_1 rfl ?_
  refine res_E X (run_V X (c_X2_has (g := g) (by first | assumption | omega) (by first | assumption | omega)) gX2_setSlip_X2_has rfl hdX2_has ⟨(Nat.le_of_ble_eq_true rfl), (Nat.le_of_ble_eq_true rfl)⟩ ⟨(Nat.le_of_ble_eq_true rfl), (Nat.le_of_ble_eq_true rfl)⟩ 0 rfl rfl rfl [0, 1, 2, 3] rfl rfl rfl rfl (by simp [Value.category]) dX2_setSlip_2) [0, 1, 2, 3] rfl rfl ?_
  refine v_ifb_eq (tgt := 15) X dX2_setSlip_5 (by decide) (fun c1 => ?_) (fun c1 => ?_)
  · skip
    exfalso; omega
  · skip
    refine v_aload_n X dX2_setSlip_8 rfl ?_
    refine v_get X (fun _ h => List.mem_cons_of_mem _ (List.mem_append_right _ h)) 0 rfl rfl 2 (by decide) rfl (List.mem_of_getElem? (i := 1) rfl) rfl dX2_setSlip_9 ?_
    refine v_iload_n X dX2_setSlip_12 rfl ?_
    refine v_iload_n X dX2_setSlip_13 rfl ?_
    refine v_iast X 3 rfl (by omega) (by omega) (by omega) dX2_setSlip_14 ?_
    dsimp only [List.set, wClk]
    exact v_vret X Y dX2_setSlip_15 (u := ()) trivial (by rfl)

theorem hdX2_add : yX2_add.cls = RX2 ∧ yX2_add.cls ≠ "java/lang/invoke/MethodHandle" ∧ yX2_add.cls ≠ "java/lang/invoke/VarHandle" ∧ (parseMethodDescriptor yX2_add.desc).map (fun d => d.parameters.length) = some 2 := ⟨rfl, by decide +kernel, by decide +kernel, by decide +kernel⟩
set_option maxHeartbeats 4000000 in
set_option maxRecDepth 100000 in
theorem c_X2_add {g : Gx} {a a1 a2 a3 : Nat} {mk cn : Int} {so tu sp : Nat → Int} {s t : Int} (hcn : 0 ≤ cn ∧ cn < 4) : CtW g yX2_add wsX2_add 0 0 [.ref a, .int (iI s), .int (iI t)] (wClk g a a1 a2 a3 mk cn so tu sp) (wClk g a a1 a2 a3 mk (cn + 1) (updI so cn.toNat s) (updI tu cn.toNat t) (updI sp cn.toNat 0)) := by
  refine m_go (cc := cX2_add) (nL := 3) (by decide +kernel) rfl (Nat.le_of_ble_eq_true rfl) (fun x X Y hnm => ?_)
  refine v_eq (lo2 := [some (.ref a), some (.int (iI s)), some (.int (iI t))]) rfl rfl rfl rfl ?_
  refine v_aload_n X dX2_add_0 rfl ?_
  refine v_get X (fun _ h => List.mem_cons_of_mem _ (List.mem_append_right _ h)) 0 rfl rfl 4 (by decide) rfl (List.mem_of_getElem? (i := 1) rfl) rfl dX2_add_1 ?_
  refine v_if_lt (tgt := 55) X dX2_add_4 (by decide) (by omega) (fun c1 => ?_) (fun c1 => ?_)
  · skip
    exfalso; omega
  · skip
    refine v_aload_n X dX2_add_7 rfl ?_
    refine v_get X (fun _ h => List.mem_cons_of_mem _ (List.mem_append_right _ h)) 0 rfl rfl 4 (by decide) rfl (List.mem_of_getElem? (i := 1) rfl) rfl dX2_add_8 ?_
    refine v_iconst X dX2_add_11 ?_
    refine v_icmp_ge (tgt := 55) X dX2_add_12 (by decide) (by omega) (by omega) (fun c2 => ?_) (fun c2 => ?_)
    · skip
      exfalso; omega
    · skip
      refine v_aload_n X dX2_add_15 rfl ?_
      refine v_get X (fun _ h => List.mem_cons_of_mem _ (List.mem_append_right _ h)) 0 rfl rfl 0 (by decide) rfl (List.mem_of_getElem? (i := 2) rfl) rfl dX2_add_16 ?_
      refine v_aload_n X dX2_add_19 rfl ?_
      refine v_get X (fun _ h => List.mem_cons_of_mem _ (List.mem_append_right _ h)) 0 rfl rfl 4 (by decide) rfl (List.mem_of_getElem? (i := 1) rfl) rfl dX2_add_20 ?_
      refine v_iload_n X dX2_add_23 rfl ?_
      refine v_iast X 1 rfl (by omega) (by omega) (by omega) dX2_add_24 ?_
      dsimp only [List.set, wClk]
      refine v_aload_n X dX2_add_25 rfl ?_
      refine v_get X (fun _ h => List.mem_cons_of_mem _ (List.mem_append_right _ h)) 0 rfl rfl 1 (by decide) rfl (List.mem_of_getElem? (i := 3) rfl) rfl dX2_add_26 ?_
      refine v_aload_n X dX2_add_29 rfl ?_
      refine v_get X (fun _ h => List.mem_cons_of_mem _ (List.mem_append_right _ h)) 0 rfl rfl 4 (by decide) rfl (List.mem_of_getElem? (i := 1) rfl) rfl dX2_add_30 ?_
      refine v_iload_n X dX2_add_33 rfl ?_
      refine v_iast X 2 rfl (by omega) (by omega) (by omega) dX2_add_34 ?_
      dsimp only [List.set, wClk]
      refine v_aload_n X dX2_add_35 rfl ?_
      refine v_get X (fun _ h => List.mem_cons_of_mem _ (List.mem_append_right _ h)) 0 rfl rfl 2 (by decide) rfl (List.mem_of_getElem? (i := 4) rfl) rfl dX2_add_36 ?_
      refine v_aload_n X dX2_add_39 rfl ?_
      refine v_get X (fun _ h => List.mem_cons_of_mem _ (List.mem_append_right _ h)) 0 rfl rfl 4 (by decide) rfl (List.mem_of_getElem? (i := 1) rfl) rfl dX2_add_40 ?_
      refine v_iconst X dX2_add_43 ?_
      refine v_iast X 3 rfl (by omega) (by omega) (by omega) dX2_add_44 ?_
      dsimp only [List.set, wClk]
      refine v_aload_n X dX2_add_45 rfl ?_
      refine v_dup X dX2_add_46 rfl ?_
      refine v_get X (fun _ h => List.mem_cons_of_mem _ (List.mem_append_right _ h)) 0 rfl rfl 4 (by decide) rfl (List.mem_of_getElem? (i := 1) rfl) rfl dX2_add_47 ?_
      refine v_iconst X dX2_add_50 ?_
      refine v_iadd X dX2_add_51 ?_
      refine v_put X (fun _ h => List.mem_cons_of_mem _ (List.mem_append_right _ h)) tyX2 tyX2_ok nmX2 0 rfl rfl 4 (by decide) rfl (List.mem_of_getElem? (i := 1) rfl) rfl rfl rfl (Nat.le_of_ble_eq_true rfl) dX2_add_52 ?_
      dsimp only [List.set, wClk]
      exact v_vret X Y dX2_add_55 (u := ()) trivial (by rfl)

theorem hdX2_become : yX2_become.cls = RX2 ∧ yX2_become.cls ≠ "java/lang/invoke/MethodHandle" ∧ yX2_become.cls ≠ "java/lang/invoke/VarHandle" ∧ (parseMethodDescriptor yX2_become.desc).map (fun d => d.parameters.length) = some 1 := ⟨rfl, by decide +kernel, by decide +kernel, by decide +kernel⟩
set_option maxHeartbeats 4000000 in
set_option maxRecDepth 100000 in
theorem c_X2_become {g : Gx} {a a1 a2 a3 b b1 b2 b3 : Nat} {mk cn mk2 cn2 : Int} {so tu sp so2 tu2 sp2 : Nat → Int} (hso : Bd 0 5 so2) (htu : Bd 0 12 tu2) (hsp : Bd 0 59 sp2) : CtW g yX2_become wsX2_become 0 0 [.ref a, .ref b] (wClk g a a1 a2 a3 mk cn so tu sp ++ wClk g b b1 b2 b3 mk2 cn2 so2 tu2 sp2) (wClk g a a1 a2 a3 mk2 cn2 (mixI so2 so) (mixI tu2 tu) (mixI sp2 sp) ++ wClk g b b1 b2 b3 mk2 cn2 so2 tu2 sp2) := by
  refine m_go (cc := cX2_become) (nL := 3) (by decide +kernel) rfl (Nat.le_of_ble_eq_true rfl) (fun x X Y hnm => ?_)
  refine v_eq (lo2 := [some (.ref a), some (.ref b), none]) rfl rfl rfl rfl ?_
  refine v_aload_n X dX2_become_0 rfl ?_
  refine v_aload_n X dX2_become_1 rfl ?_
  refine v_get X (fun _ h => List.mem_cons_of_mem _ (List.mem_append_right _ h)) 4 rfl rfl 3 (by decide) rfl (List.mem_of_getElem? (i := 1) rfl) rfl dX2_become_2 ?_
  refine v_put X (fun _ h => List.mem_cons_of_mem _ (List.mem_append_right _ h)) tyX2 tyX2_ok nmX2 0 rfl rfl 3 (by decide) rfl (List.mem_of_getElem? (i := 1) rfl) rfl rfl rfl (Nat.le_of_ble_eq_true rfl) dX2_become_5 ?_
  dsimp only [List.set, wClk, List.cons_append, List.nil_append]
  refine v_aload_n X dX2_become_8 rfl ?_
  refine v_aload_n X dX2_become_9 rfl ?_
  refine v_get X (fun _ h => List.mem_cons_of_mem _ (List.mem_append_right _ h)) 4 rfl rfl 4 (by decide) rfl (List.mem_of_getElem? (i := 2) rfl) rfl dX2_become_10 ?_
  refine v_put X (fun _ h => List.mem_cons_of_mem _ (List.mem_append_right _ h)) tyX2 tyX2_ok nmX2 0 rfl rfl 4 (by decide) rfl (List.mem_of_getElem? (i := 2) rfl) rfl rfl rfl (Nat.le_of_ble_eq_true rfl) dX2_become_13 ?_
  dsimp only [List.set, wClk, List.cons_append, List.nil_append]
  refine v_iconst X dX2_become_16 ?_
  refine v_istore_n X dX2_become_17 2 rfl (by decide) rfl ?_
  dsimp only [List.set]
  have L18 : ∀ (nf : Nat) (f1 : Nat → Int) (f2 : Nat → Int) (f3 : Nat → Int) (i : Int) (h1 : 0 ≤ i ∧ i ≤ 4) (h2 : ∀ j : Nat, f1 j = (if (j : Int) < i then so2 j else so j) ∧ f2 j = (if (j : Int) < i then tu2 j else tu j) ∧ f3 j = (if (j : Int) < i then sp2 j else sp j)) (_ : (4 - i).toNat < nf), V g x 0 0 (wClk g a a1 a2 a3 mk2 cn2 f1 f2 f3 ++ wClk g b b1 b2 b3 mk2 cn2 so2 tu2 sp2) [some (.ref a), some (.ref b), some (.int (iI i))] 18 [] := by
    intro nf
    induction nf with
    | zero => intro f1 f2 f3 i h1 h2 hmu; exact absurd hmu (Nat.not_lt_zero _)
    | succ nf ih18 =>
      intro f1 f2 f3 i h1 h2 hmu
      refine v_iload_n X dX2_become_18 rfl ?_
      refine v_iconst X dX2_become_19 ?_
      refine v_icmp_ge (tgt := 65) X dX2_become_20 (by decide) (by omega) (by omega) (fun c1 => ?_) (fun c1 => ?_)
      · skip
        exact v_vret X Y dX2_become_65 (u := ()) trivial (by
            have e : i = 4 := by omega
            subst e
            rw [show f1 = mixI so2 so from funext (fun j => mix_of (h2 j).1), show f2 = mixI tu2 tu from funext (fun j => mix_of (h2 j).2.1), show f3 = mixI sp2 sp from funext (fun j => mix_of (h2 j).2.2)])
      · skip
        refine v_aload_n X dX2_become_23 rfl ?_
        refine v_get X (fun _ h => List.mem_cons_of_mem _ (List.mem_append_right _ h)) 0 rfl rfl 0 (by decide) rfl (List.mem_of_getElem? (i := 3) rfl) rfl dX2_become_24 ?_
        refine v_iload_n X dX2_become_27 rfl ?_
        refine v_aload_n X dX2_become_28 rfl ?_
        refine v_get X (fun _ h => List.mem_cons_of_mem _ (List.mem_append_right _ h)) 4 rfl rfl 0 (by decide) rfl (List.mem_of_getElem? (i := 3) rfl) rfl dX2_become_29 ?_
        refine v_iload_n X dX2_become_32 rfl ?_
        refine v_iald X 5 rfl (by omega) (by omega) (by omega) dX2_become_33 hso (fun za eza lza uza => ?_)
        refine v_iast X 1 rfl (by omega) (by omega) (by omega) dX2_become_34 ?_
        dsimp only [List.set, wClk, List.cons_append, List.nil_append]
        refine v_aload_n X dX2_become_35 rfl ?_
        refine v_get X (fun _ h => List.mem_cons_of_mem _ (List.mem_append_right _ h)) 0 rfl rfl 1 (by decide) rfl (List.mem_of_getElem? (i := 4) rfl) rfl dX2_become_36 ?_
        refine v_iload_n X dX2_become_39 rfl ?_
        refine v_aload_n X dX2_become_40 rfl ?_
        refine v_get X (fun _ h => List.mem_cons_of_mem _ (List.mem_append_right _ h)) 4 rfl rfl 1 (by decide) rfl (List.mem_of_getElem? (i := 4) rfl) rfl dX2_become_41 ?_
        refine v_iload_n X dX2_become_44 rfl ?_
        refine v_iald X 6 rfl (by omega) (by omega) (by omega) dX2_become_45 htu (fun zb ezb lzb uzb => ?_)
        refine v_iast X 2 rfl (by omega) (by omega) (by omega) dX2_become_46 ?_
        dsimp only [List.set, wClk, List.cons_append, List.nil_append]
        refine v_aload_n X dX2_become_47 rfl ?_
        refine v_get X (fun _ h => List.mem_cons_of_mem _ (List.mem_append_right _ h)) 0 rfl rfl 2 (by decide) rfl (List.mem_of_getElem? (i := 5) rfl) rfl dX2_become_48 ?_
        refine v_iload_n X dX2_become_51 rfl ?_
        refine v_aload_n X dX2_become_52 rfl ?_
        refine v_get X (fun _ h => List.mem_cons_of_mem _ (List.mem_append_right _ h)) 4 rfl rfl 2 (by decide) rfl (List.mem_of_getElem? (i := 5) rfl) rfl dX2_become_53 ?_
        refine v_iload_n X dX2_become_56 rfl ?_
        refine v_iald X 7 rfl (by omega) (by omega) (by omega) dX2_become_57 hsp (fun zc ezc lzc uzc => ?_)
        refine v_iast X 3 rfl (by omega) (by omega) (by omega) dX2_become_58 ?_
        dsimp only [List.set, wClk, List.cons_append, List.nil_append]
        refine v_iinc X dX2_become_59 rfl (by decide) rfl ?_
        dsimp only [List.set]
        refine v_goto (tgt := 18) X dX2_become_62 (by decide) ?_
        exact ih18 _ _ _ _ (by omega) (by
            intro j
            have q := h2 j
            rw [updI_e, updI_e, updI_e]
            by_cases e : j = i.toNat
            · rw [if_pos e, if_pos e, if_pos e, if_pos (by omega), if_pos (by omega), if_pos (by omega), e]; exact ⟨eza, ezb, ezc⟩
            · rw [if_neg e, if_neg e, if_neg e]
              by_cases e2 : (j : Int) < i
              · rw [if_pos e2, if_pos e2, if_pos e2] at q; rw [if_pos (by omega), if_pos (by omega), if_pos (by omega)]; exact q
              · rw [if_neg e2, if_neg e2, if_neg e2] at q; rw [if_neg (by omega), if_neg (by omega), if_neg (by omega)]; exact q) (by omega)
  exact L18 _ _ _ _ _ (by omega) (by intro j; rw [if_neg (by omega), if_neg (by omega), if_neg (by omega)]; exact ⟨rfl, rfl, rfl⟩) (Nat.lt_succ_self _)

theorem hdX5_laneOf : yX5_laneOf.cls = RX5 ∧ yX5_laneOf.cls ≠ "java/lang/invoke/MethodHandle" ∧ yX5_laneOf.cls ≠ "java/lang/invoke/VarHandle" ∧ (parseMethodDescriptor yX5_laneOf.desc).map (fun d => d.parameters.length) = some 1 := ⟨rfl, by decide +kernel, by decide +kernel, by decide +kernel⟩
set_option maxHeartbeats 4000000 in
set_option maxRecDepth 100000 in
theorem c_X5_laneOf {g : Gx} {a a1 a2 a3 : Nat} {it la le : Nat → Int} {r : Int} (hla : Bd (-1) 2 la) (hr : R32 r) : CtE g yX5_laneOf wsX5_laneOf 1 20 [.ref a, .int (iI r)] (wRow g a a1 a2 a3 it la le) (lanI la r) (wRow g a a1 a2 a3 it la le) := by
  refine m_go (cc := cX5_laneOf) (nL := 2) (by decide +kernel) rfl (Nat.le_of_ble_eq_true rfl) (fun x X Y hnm => ?_)
  refine v_eq (lo2 := [some (.ref a), some (.int (iI r))]) rfl rfl rfl rfl ?_
  refine v_iload_n X dX5_laneOf_0 rfl ?_
  refine res_E X (run_SN X (c_X7_isRow (g := g) (by first | assumption | omega)) gX5_laneOf_X7_isRow_n27 rfl (List.mem_of_getElem? (i := 6) rfl) (List.mem_of_getElem? (i := 3) rfl) (List.mem_of_getElem? (i := 2) rfl) hdX7_isRow.2 ⟨(Nat.le_of_ble_eq_true rfl), (Nat.le_of_ble_eq_true rfl)⟩ ⟨(Nat.le_of_ble_eq_true rfl), (Nat.le_of_ble_eq_true rfl)⟩ [] rfl rfl rfl rfl (by simp [Value.category]) dX5_laneOf_1) [] rfl rfl ?_
  refine v_ifb_eq (tgt := 16) X dX5_laneOf_4 (by decide) (fun c1 => ?_) (fun c1 => ?_)
  · skip
    refine v_iconst X dX5_laneOf_16 ?_
    exact v_iret X Y dX5_laneOf_17 (u := ()) (by unfold lanI; split <;> omega) (by rfl)
  · skip
    refine v_aload_n X dX5_laneOf_7 rfl ?_
    refine v_get X (fun _ h => List.mem_cons_of_mem _ (List.mem_append_right _ h)) 0 rfl rfl 1 (by decide) rfl (List.mem_of_getElem? (i := 1) rfl) rfl dX5_laneOf_8 ?_
    refine v_iload_n X dX5_laneOf_11 rfl ?_
    refine v_iald X 2 rfl (by omega) (by omega) (by omega) dX5_laneOf_12 hla (fun z2 ez2 lz2 uz2 => ?_)
    refine v_goto (tgt := 17) X dX5_laneOf_13 (by decide) ?_
    exact v_iret X Y dX5_laneOf_17 (u := ()) (by unfold lanI; split <;> omega) (by rfl)

theorem hdX5_isMissing : yX5_isMissing.cls = RX5 ∧ yX5_isMissing.cls ≠ "java/lang/invoke/MethodHandle" ∧ yX5_isMissing.cls ≠ "java/lang/invoke/VarHandle" ∧ (parseMethodDescriptor yX5_isMissing.desc).map (fun d => d.parameters.length) = some 1 := ⟨rfl, by decide +kernel, by decide +kernel, by decide +kernel⟩
set_option maxHeartbeats 4000000 in
set_option maxRecDepth 100000 in
theorem c_X5_isMissing {g : Gx} {a a1 a2 a3 : Nat} {it la le : Nat → Int} {r : Int} (hla : Bd (-1) 2 la) (hr : R32 r) : CtE g yX5_isMissing wsX5_isMissing 2 41 [.ref a, .int (iI r)] (wRow g a a1 a2 a3 it la le) (if lanI la r = -1 then 1 else 0) (wRow g a a1 a2 a3 it la le) := by
  refine m_go (cc := cX5_isMissing) (nL := 2) (by decide +kernel) rfl (Nat.le_of_ble_eq_true rfl) (fun x X Y hnm => ?_)
  refine v_eq (lo2 := [some (.ref a), some (.int (iI r))]) rfl rfl rfl rfl ?_
  have q1 := lanI_bd (r := r) hla
  refine v_aload_n X dX5_isMissing_0 rfl ?_
  refine v_iload_n X dX5_isMissing_1 rfl ?_
  refine res_E X (run_V X (c_X5_laneOf (g := g) (by first | assumption | omega) (by first | assumption | omega)) gX5_isMissing_X5_laneOf rfl hdX5_laneOf ⟨(Nat.le_of_ble_eq_true rfl), (Nat.le_of_ble_eq_true rfl)⟩ ⟨(Nat.le_of_ble_eq_true rfl), (Nat.le_of_ble_eq_true rfl)⟩ 0 rfl rfl rfl [0, 1, 2, 3] rfl rfl rfl rfl (by simp [Value.category]) dX5_isMissing_2) [0, 1, 2, 3] rfl rfl ?_
  refine v_iconst X dX5_isMissing_5 ?_
  refine v_icmp_ne (tgt := 13) X dX5_isMissing_6 (by decide) (by omega) (by omega) (fun c1 => ?_) (fun c1 => ?_)
  · skip
    refine v_iconst X dX5_isMissing_13 ?_
    exact v_zret X Y dX5_isMissing_14 (by first | decide | omega | (split <;> omega)) (u := ()) (by first | rfl | omega | (split <;> omega) | (simp [*]; done)) (by rfl)
  · skip
    refine v_iconst X dX5_isMissing_9 ?_
    refine v_goto (tgt := 14) X dX5_isMissing_10 (by decide) ?_
    exact v_zret X Y dX5_isMissing_14 (by first | decide | omega | (split <;> omega)) (u := ()) (by first | rfl | omega | (split <;> omega) | (simp [*]; done)) (by rfl)

theorem hdX5_length : yX5_length.cls = RX5 ∧ yX5_length.cls ≠ "java/lang/invoke/MethodHandle" ∧ yX5_length.cls ≠ "java/lang/invoke/VarHandle" ∧ (parseMethodDescriptor yX5_length.desc).map (fun d => d.parameters.length) = some 1 := ⟨rfl, by decide +kernel, by decide +kernel, by decide +kernel⟩
set_option maxHeartbeats 4000000 in
set_option maxRecDepth 100000 in
theorem c_X5_length {g : Gx} {a a1 a2 a3 : Nat} {it la le : Nat → Int} {r : Int} (hle : Bd 0 40 le) (hr : R32 r) : CtE g yX5_length wsX5_length 1 20 [.ref a, .int (iI r)] (wRow g a a1 a2 a3 it la le) (atI 8 le r) (wRow g a a1 a2 a3 it la le) := by
  refine m_go (cc := cX5_length) (nL := 2) (by decide +kernel) rfl (Nat.le_of_ble_eq_true rfl) (fun x X Y hnm => ?_)
  refine v_eq (lo2 := [some (.ref a), some (.int (iI r))]) rfl rfl rfl rfl ?_
  refine v_iload_n X dX5_length_0 rfl ?_
  refine res_E X (run_SN X (c_X7_isRow (g := g) (by first | assumption | omega)) gX5_length_X7_isRow_n27 rfl (List.mem_of_getElem? (i := 6) rfl) (List.mem_of_getElem? (i := 3) rfl) (List.mem_of_getElem? (i := 2) rfl) hdX7_isRow.2 ⟨(Nat.le_of_ble_eq_true rfl), (Nat.le_of_ble_eq_true rfl)⟩ ⟨(Nat.le_of_ble_eq_true rfl), (Nat.le_of_ble_eq_true rfl)⟩ [] rfl rfl rfl rfl (by simp [Value.category]) dX5_length_1) [] rfl rfl ?_
  refine v_ifb_eq (tgt := 16) X dX5_length_4 (by decide) (fun c1 => ?_) (fun c1 => ?_)
  · skip
    refine v_iconst X dX5_length_16 ?_
    exact v_iret X Y dX5_length_17 (u := ()) (by unfold atI; split <;> omega) (by rfl)
  · skip
    refine v_aload_n X dX5_length_7 rfl ?_
    refine v_get X (fun _ h => List.mem_cons_of_mem _ (List.mem_append_right _ h)) 0 rfl rfl 2 (by decide) rfl (List.mem_of_getElem? (i := 1) rfl) rfl dX5_length_8 ?_
    refine v_iload_n X dX5_length_11 rfl ?_
    refine v_iald X 3 rfl (by omega) (by omega) (by omega) dX5_length_12 hle (fun z2 ez2 lz2 uz2 => ?_)
    refine v_goto (tgt := 17) X dX5_length_13 (by decide) ?_
    exact v_iret X Y dX5_length_17 (u := ()) (by unfold atI; split <;> omega) (by rfl)

theorem hdX5_reaches : yX5_reaches.cls = RX5 ∧ yX5_reaches.cls ≠ "java/lang/invoke/MethodHandle" ∧ yX5_reaches.cls ≠ "java/lang/invoke/VarHandle" ∧ (parseMethodDescriptor yX5_reaches.desc).map (fun d => d.parameters.length) = some 3 := ⟨rfl, by decide +kernel, by decide +kernel, by decide +kernel⟩
set_option maxHeartbeats 4000000 in
set_option maxRecDepth 100000 in
theorem c_X5_reaches {g : Gx} {a a1 a2 a3 : Nat} {it la le : Nat → Int} {r i n : Int} (hle : Bd 0 40 le) (hr : R32 r) (hi : R32 i) (hn : R32 n) : CtE g yX5_reaches wsX5_reaches 2 41 [.ref a, .int (iI r), .int (iI i), .int (iI n)] (wRow g a a1 a2 a3 it la le) (rchI le r i n) (wRow g a a1 a2 a3 it la le) := by
  refine m_go (cc := cX5_reaches) (nL := 4) (by decide +kernel) rfl (Nat.le_of_ble_eq_true rfl) (fun x X Y hnm => ?_)
  refine v_eq (lo2 := [some (.ref a), some (.int (iI r)), some (.int (iI i)), some (.int (iI n))]) rfl rfl rfl rfl ?_
  have q1 := atI_bd (cn := 8) (h := r) hle (by omega) (by omega)
  refine v_iload_n X dX5_reaches_0 rfl ?_
  refine v_if_lt (tgt := 23) X dX5_reaches_1 (by decide) (by omega) (fun c1 => ?_) (fun c1 => ?_)
  · skip
    refine v_iconst X dX5_reaches_23 ?_
    exact v_zret X Y dX5_reaches_24 (by first | decide | omega | (split <;> omega)) (u := ()) (by unfold rchI; split <;> omega) (by rfl)
  · skip
    refine v_iload_n X dX5_reaches_4 rfl ?_
    refine v_if_lt (tgt := 23) X dX5_reaches_5 (by decide) (by omega) (fun c2 => ?_) (fun c2 => ?_)
    · skip
      refine v_iconst X dX5_reaches_23 ?_
      exact v_zret X Y dX5_reaches_24 (by first | decide | omega | (split <;> omega)) (u := ()) (by unfold rchI; split <;> omega) (by rfl)
    · skip
      refine v_iload_n X dX5_reaches_8 rfl ?_
      refine v_aload_n X dX5_reaches_9 rfl ?_
      refine v_iload_n X dX5_reaches_10 rfl ?_
      refine res_E X (run_V X (c_X5_length (g := g) (by first | assumption | omega) (by first | assumption | omega)) gX5_reaches_X5_length rfl hdX5_length ⟨(Nat.le_of_ble_eq_true rfl), (Nat.le_of_ble_eq_true rfl)⟩ ⟨(Nat.le_of_ble_eq_true rfl), (Nat.le_of_ble_eq_true rfl)⟩ 0 rfl rfl rfl [0, 1, 2, 3] rfl rfl rfl rfl (by simp [Value.category]) dX5_reaches_11) [0, 1, 2, 3] rfl rfl ?_
      refine v_iload_n X dX5_reaches_14 rfl ?_
      refine v_isub X dX5_reaches_15 ?_
      refine v_icmp_gt (tgt := 23) X dX5_reaches_16 (by decide) (by omega) (by omega) (fun c3 => ?_) (fun c3 => ?_)
      · skip
        refine v_iconst X dX5_reaches_23 ?_
        exact v_zret X Y dX5_reaches_24 (by first | decide | omega | (split <;> omega)) (u := ()) (by unfold rchI; split <;> omega) (by rfl)
      · skip
        refine v_iconst X dX5_reaches_19 ?_
        refine v_goto (tgt := 24) X dX5_reaches_20 (by decide) ?_
        exact v_zret X Y dX5_reaches_24 (by first | decide | omega | (split <;> omega)) (u := ()) (by unfold rchI; split <;> omega) (by rfl)

theorem hdX5_wrongAt : yX5_wrongAt.cls = RX5 ∧ yX5_wrongAt.cls ≠ "java/lang/invoke/MethodHandle" ∧ yX5_wrongAt.cls ≠ "java/lang/invoke/VarHandle" ∧ (parseMethodDescriptor yX5_wrongAt.desc).map (fun d => d.parameters.length) = some 3 := ⟨rfl, by decide +kernel, by decide +kernel, by decide +kernel⟩
set_option maxHeartbeats 4000000 in
set_option maxRecDepth 100000 in
theorem c_X5_wrongAt {g : Gx} {a a1 a2 a3 : Nat} {it la le : Nat → Int} {r i n : Int} (hla : Bd (-1) 2 la) (hle : Bd 0 40 le) (hr : R32 r) (hi : R32 i) (hn : R32 n) : CtE g yX5_wrongAt wsX5_wrongAt 3 64 [.ref a, .int (iI r), .int (iI i), .int (iI n)] (wRow g a a1 a2 a3 it la le) (wrgI la le r i n) (wRow g a a1 a2 a3 it la le) := by
  refine m_go (cc := cX5_wrongAt) (nL := 4) (by decide +kernel) rfl (Nat.le_of_ble_eq_true rfl) (fun x X Y hnm => ?_)
  refine v_eq (lo2 := [some (.ref a), some (.int (iI r)), some (.int (iI i)), some (.int (iI n))]) rfl rfl rfl rfl ?_
  have q1 := lanI_bd (r := r) hla
  have q2 := rchI_bd le r i n
  refine v_aload_n X dX5_wrongAt_0 rfl ?_
  refine v_iload_n X dX5_wrongAt_1 rfl ?_
  refine res_E X (run_V X (c_X5_isMissing (g := g) (by first | assumption | omega) (by first | assumption | omega)) gX5_wrongAt_X5_isMissing rfl hdX5_isMissing ⟨(Nat.le_of_ble_eq_true rfl), (Nat.le_of_ble_eq_true rfl)⟩ ⟨(Nat.le_of_ble_eq_true rfl), (Nat.le_of_ble_eq_true rfl)⟩ 0 rfl rfl rfl [0, 1, 2, 3] rfl rfl rfl rfl (by simp [Value.category]) dX5_wrongAt_2) [0, 1, 2, 3] rfl rfl ?_
  refine v_ifb_eq (tgt := 10) X dX5_wrongAt_5 (by decide) (fun c1 => ?_) (fun c1 => ?_)
  · skip
    refine v_aload_n X dX5_wrongAt_10 rfl ?_
    refine v_iload_n X dX5_wrongAt_11 rfl ?_
    refine v_iload_n X dX5_wrongAt_12 rfl ?_
    refine v_iload_n X dX5_wrongAt_13 rfl ?_
    refine res_E X (run_V X (c_X5_reaches (g := g) (by first | assumption | omega) (by first | assumption | omega) (by first | assumption | omega) (by first | assumption | omega)) gX5_wrongAt_X5_reaches rfl hdX5_reaches ⟨(Nat.le_of_ble_eq_true rfl), (Nat.le_of_ble_eq_true rfl)⟩ ⟨(Nat.le_of_ble_eq_true rfl), (Nat.le_of_ble_eq_true rfl)⟩ 0 rfl rfl rfl [0, 1, 2, 3] rfl rfl rfl rfl (by simp [Value.category]) dX5_wrongAt_14) [0, 1, 2, 3] rfl rfl ?_
    refine v_if_eq (tgt := 24) X dX5_wrongAt_17 (by decide) (by first | omega | (split <;> omega)) (fun c2 => ?_) (fun c2 => ?_)
    · skip
      refine v_iconst X dX5_wrongAt_24 ?_
      exact v_iret X Y dX5_wrongAt_25 (u := ()) (by unfold wrgI; first | rw [if_pos (by omega)] | (rw [if_neg (by omega)]; first | rw [if_pos (by omega)] | rw [if_neg (by omega)])) (by rfl)
    · skip
      refine v_iconst X dX5_wrongAt_20 ?_
      refine v_goto (tgt := 25) X dX5_wrongAt_21 (by decide) ?_
      exact v_iret X Y dX5_wrongAt_25 (u := ()) (by unfold wrgI; first | rw [if_pos (by omega)] | (rw [if_neg (by omega)]; first | rw [if_pos (by omega)] | rw [if_neg (by omega)])) (by rfl)
  · skip
    refine v_iconst X dX5_wrongAt_8 ?_
    exact v_iret X Y dX5_wrongAt_9 (u := ()) (by unfold wrgI; first | rw [if_pos (by omega)] | (rw [if_neg (by omega)]; first | rw [if_pos (by omega)] | rw [if_neg (by omega)])) (by rfl)

theorem hdX5_make : yX5_make.cls = RX5 ∧ yX5_make.cls ≠ "java/lang/invoke/MethodHandle" ∧ yX5_make.cls ≠ "java/lang/invoke/VarHandle" ∧ (parseMethodDescriptor yX5_make.desc).map (fun d => d.parameters.length) = some 3 := ⟨rfl, by decide +kernel, by decide +kernel, by decide +kernel⟩
set_option maxHeartbeats 4000000 in
set_option maxRecDepth 100000 in
theorem c_X5_make {g : Gx} {a a1 a2 a3 : Nat} {it la le : Nat → Int} {r l n : Int} (hr : 0 ≤ r ∧ r < 8) (hn : 0 ≤ n ∧ n ≤ 40) : CtV (S := Nat → Int) g yX5_make wsX5_make 1 22 [.ref a, .int (iI r), .int (iI l), .int (iI n)] (wRow g a a1 a2 a3 it la le) (fun f => ∀ j : Nat, f j = (if r * 40 ≤ (j : Int) ∧ (j : Int) < r * 40 + n then 0 else it j)) (fun f => wRow g a a1 a2 a3 f (updI la r.toNat l) (updI le r.toNat n)) := by
  refine m_go (cc := cX5_make) (nL := 5) (by decide +kernel) rfl (Nat.le_of_ble_eq_true rfl) (fun x X Y hnm => ?_)
  refine v_eq (lo2 := [some (.ref a), some (.int (iI r)), some (.int (iI l)), some (.int (iI n)), none]) rfl rfl rfl rfl ?_
  refine v_iload_n X dX5_make_0 rfl ?_
  refine res_E X (run_SN X (c_X7_isRow (g := g) (by first | assumption | omega)) gX5_make_X7_isRow_n27 rfl (List.mem_of_getElem? (i := 6) rfl) (List.mem_of_getElem? (i := 5) rfl) (List.mem_of_getElem? (i := 4) rfl) hdX7_isRow.2 ⟨(Nat.le_of_ble_eq_true rfl), (Nat.le_of_ble_eq_true rfl)⟩ ⟨(Nat.le_of_ble_eq_true rfl), (Nat.le_of_ble_eq_true rfl)⟩ [] rfl rfl rfl rfl (by simp [Value.category]) dX5_make_1) [] rfl rfl ?_
  refine v_ifb_eq (tgt := 17) X dX5_make_4 (by decide) (fun c1 => ?_) (fun c1 => ?_)
  · skip
    exfalso; omega
  · skip
    refine v_iload_n X dX5_make_7 rfl ?_
    refine v_iconst X dX5_make_8 ?_
    refine v_bipush X dX5_make_9 (by decide) ?_
    refine res_E X (run_SN X (c_X7_isWithin (g := g) (by first | assumption | omega) (by first | assumption | omega) (by first | assumption | omega)) gX5_make_X7_isWithin_n45 rfl (List.mem_of_getElem? (i := 7) rfl) (List.mem_of_getElem? (i := 5) rfl) (List.mem_of_getElem? (i := 7) rfl) hdX7_isWithin.2 ⟨(Nat.le_of_ble_eq_true rfl), (Nat.le_of_ble_eq_true rfl)⟩ ⟨(Nat.le_of_ble_eq_true rfl), (Nat.le_of_ble_eq_true rfl)⟩ [] rfl rfl rfl rfl (by simp [Value.category]) dX5_make_11) [] rfl rfl ?_
    refine v_ifb_ne (tgt := 18) X dX5_make_14 (by decide) (fun c2 => ?_) (fun c2 => ?_)
    · skip
      refine v_aload_n X dX5_make_18 rfl ?_
      refine v_get X (fun _ h => List.mem_cons_of_mem _ (List.mem_append_right _ h)) 0 rfl rfl 1 (by decide) rfl (List.mem_of_getElem? (i := 1) rfl) rfl dX5_make_19 ?_
      refine v_iload_n X dX5_make_22 rfl ?_
      refine v_iload_n X dX5_make_23 rfl ?_
      refine v_iast X 2 rfl (by first | omega | (split <;> omega)) (by first | omega | (split <;> omega)) (by first | omega | (split <;> omega)) dX5_make_24 ?_
      dsimp only [List.set, wRow]
      refine v_aload_n X dX5_make_25 rfl ?_
      refine v_get X (fun _ h => List.mem_cons_of_mem _ (List.mem_append_right _ h)) 0 rfl rfl 2 (by decide) rfl (List.mem_of_getElem? (i := 2) rfl) rfl dX5_make_26 ?_
      refine v_iload_n X dX5_make_29 rfl ?_
      refine v_iload_n X dX5_make_30 rfl ?_
      refine v_iast X 3 rfl (by first | omega | (split <;> omega)) (by first | omega | (split <;> omega)) (by first | omega | (split <;> omega)) dX5_make_31 ?_
      dsimp only [List.set, wRow]
      refine v_iconst X dX5_make_32 ?_
      refine v_istore X dX5_make_33 (by decide) rfl ?_
      dsimp only [List.set]
      have L35 : ∀ (nf : Nat) (f : Nat → Int) (i : Int) (h1 : 0 ≤ i ∧ i ≤ n) (h2 : ∀ j : Nat, f j = (if r * 40 ≤ (j : Int) ∧ (j : Int) < r * 40 + i then 0 else it j)) (_ : (n - i).toNat < nf), V g x 0 0 (wRow g a a1 a2 a3 f (updI la r.toNat l) (updI le r.toNat n)) [some (.ref a), some (.int (iI r)), some (.int (iI l)), some (.int (iI n)), some (.int (iI i))] 35 [] := by
        intro nf
        induction nf with
        | zero => intro f i h1 h2 hmu; exact absurd hmu (Nat.not_lt_zero _)
        | succ nf ih35 =>
          intro f i h1 h2 hmu
          refine v_iload X dX5_make_35 rfl ?_
          refine v_iload_n X dX5_make_37 rfl ?_
          refine v_icmp_ge (tgt := 60) X dX5_make_38 (by decide) (by first | omega | (split <;> omega)) (by first | omega | (split <;> omega)) (fun c3 => ?_) (fun c3 => ?_)
          · skip
            refine v_vret X Y dX5_make_60 (u := f) ?_ (by rfl)
            have e : i = n := by omega
            rw [← e]; exact h2
          · skip
            refine v_aload_n X dX5_make_41 rfl ?_
            refine v_get X (fun _ h => List.mem_cons_of_mem _ (List.mem_append_right _ h)) 0 rfl rfl 0 (by decide) rfl (List.mem_of_getElem? (i := 3) rfl) rfl dX5_make_42 ?_
            refine v_iload_n X dX5_make_45 rfl ?_
            refine v_bipush X dX5_make_46 (by decide) ?_
            refine v_imul X dX5_make_48 ?_
            refine v_iload X dX5_make_49 rfl ?_
            refine v_iadd X dX5_make_51 ?_
            refine v_iconst X dX5_make_52 ?_
            refine v_iast X 1 rfl (by first | omega | (split <;> omega)) (by first | omega | (split <;> omega)) (by first | omega | (split <;> omega)) dX5_make_53 ?_
            dsimp only [List.set, wRow]
            refine v_iinc X dX5_make_54 rfl (by decide) rfl ?_
            dsimp only [List.set]
            refine v_goto (tgt := 35) X dX5_make_57 (by decide) ?_
            exact ih35 _ _ (by omega) (by intro j; rw [updI_e, h2 j]; split <;> split <;> (first | rfl | (split <;> first | rfl | omega) | omega)) (by omega)
      exact L35 _ _ _ (by omega) (by intro j; rw [if_neg (by omega)]) (Nat.lt_succ_self _)
    · skip
      exfalso; omega

theorem hdX5_lose : yX5_lose.cls = RX5 ∧ yX5_lose.cls ≠ "java/lang/invoke/MethodHandle" ∧ yX5_lose.cls ≠ "java/lang/invoke/VarHandle" ∧ (parseMethodDescriptor yX5_lose.desc).map (fun d => d.parameters.length) = some 1 := ⟨rfl, by decide +kernel, by decide +kernel, by decide +kernel⟩
set_option maxHeartbeats 4000000 in
set_option maxRecDepth 100000 in
theorem c_X5_lose {g : Gx} {a a1 a2 a3 : Nat} {it la le : Nat → Int} {r : Int} (hr : 0 ≤ r ∧ r < 8) : CtW g yX5_lose wsX5_lose 1 20 [.ref a, .int (iI r)] (wRow g a a1 a2 a3 it la le) (wRow g a a1 a2 a3 it (updI la r.toNat (-1)) (updI le r.toNat 0)) := by
  refine m_go (cc := cX5_lose) (nL := 2) (by decide +kernel) rfl (Nat.le_of_ble_eq_true rfl) (fun x X Y hnm => ?_)
  refine v_eq (lo2 := [some (.ref a), some (.int (iI r))]) rfl rfl rfl rfl ?_
  refine v_iload_n X dX5_lose_0 rfl ?_
  refine res_E X (run_SN X (c_X7_isRow (g := g) (by first | assumption | omega)) gX5_lose_X7_isRow_n27 rfl (List.mem_of_getElem? (i := 6) rfl) (List.mem_of_getElem? (i := 4) rfl) (List.mem_of_getElem? (i := 3) rfl) hdX7_isRow.2 ⟨(Nat.le_of_ble_eq_true rfl), (Nat.le_of_ble_eq_true rfl)⟩ ⟨(Nat.le_of_ble_eq_true rfl), (Nat.le_of_ble_eq_true rfl)⟩ [] rfl rfl rfl rfl (by simp [Value.category]) dX5_lose_1) [] rfl rfl ?_
  refine v_ifb_eq (tgt := 21) X dX5_lose_4 (by decide) (fun c1 => ?_) (fun c1 => ?_)
  · skip
    exfalso; omega
  · skip
    refine v_aload_n X dX5_lose_7 rfl ?_
    refine v_get X (fun _ h => List.mem_cons_of_mem _ (List.mem_append_right _ h)) 0 rfl rfl 1 (by decide) rfl (List.mem_of_getElem? (i := 1) rfl) rfl dX5_lose_8 ?_
    refine v_iload_n X dX5_lose_11 rfl ?_
    refine v_iconst X dX5_lose_12 ?_
    refine v_iast X 2 rfl (by first | omega | (split <;> omega)) (by first | omega | (split <;> omega)) (by first | omega | (split <;> omega)) dX5_lose_13 ?_
    dsimp only [List.set, wRow]
    refine v_aload_n X dX5_lose_14 rfl ?_
    refine v_get X (fun _ h => List.mem_cons_of_mem _ (List.mem_append_right _ h)) 0 rfl rfl 2 (by decide) rfl (List.mem_of_getElem? (i := 2) rfl) rfl dX5_lose_15 ?_
    refine v_iload_n X dX5_lose_18 rfl ?_
    refine v_iconst X dX5_lose_19 ?_
    refine v_iast X 3 rfl (by first | omega | (split <;> omega)) (by first | omega | (split <;> omega)) (by first | omega | (split <;> omega)) dX5_lose_20 ?_
    dsimp only [List.set, wRow]
    exact v_vret X Y dX5_lose_21 (u := ()) trivial (by rfl)

theorem hdX5_item : yX5_item.cls = RX5 ∧ yX5_item.cls ≠ "java/lang/invoke/MethodHandle" ∧ yX5_item.cls ≠ "java/lang/invoke/VarHandle" ∧ (parseMethodDescriptor yX5_item.desc).map (fun d => d.parameters.length) = some 2 := ⟨rfl, by decide +kernel, by decide +kernel, by decide +kernel⟩
set_option maxHeartbeats 4000000 in
set_option maxRecDepth 100000 in
theorem c_X5_item {g : Gx} {a a1 a2 a3 : Nat} {it la le : Nat → Int} {r i : Int} (hit : Bd (-2147483648) 2147483647 it) (hle : Bd 0 40 le) (hr : R32 r) (hi : R32 i) : CtE g yX5_item wsX5_item 3 64 [.ref a, .int (iI r), .int (iI i)] (wRow g a a1 a2 a3 it la le) (itmI it le r i) (wRow g a a1 a2 a3 it la le) := by
  refine m_go (cc := cX5_item) (nL := 3) (by decide +kernel) rfl (Nat.le_of_ble_eq_true rfl) (fun x X Y hnm => ?_)
  refine v_eq (lo2 := [some (.ref a), some (.int (iI r)), some (.int (iI i))]) rfl rfl rfl rfl ?_
  have q2 := rchI_bd le r i 1
  have q3 : rchI le r i 1 = 1 → 0 ≤ i ∧ i < 40 := fun h => by
    have q1 := atI_bd (cn := 8) (h := r) hle (by omega) (by omega)
    unfold rchI at h; split at h <;> omega
  refine v_iload_n X dX5_item_0 rfl ?_
  refine res_E X (run_SN X (c_X7_isRow (g := g) (by first | assumption | omega)) gX5_item_X7_isRow_n27 rfl (List.mem_of_getElem? (i := 6) rfl) (List.mem_of_getElem? (i := 3) rfl) (List.mem_of_getElem? (i := 2) rfl) hdX7_isRow.2 ⟨(Nat.le_of_ble_eq_true rfl), (Nat.le_of_ble_eq_true rfl)⟩ ⟨(Nat.le_of_ble_eq_true rfl), (Nat.le_of_ble_eq_true rfl)⟩ [] rfl rfl rfl rfl (by simp [Value.category]) dX5_item_1) [] rfl rfl ?_
  refine v_ifb_eq (tgt := 31) X dX5_item_4 (by decide) (fun c1 => ?_) (fun c1 => ?_)
  · skip
    refine v_iconst X dX5_item_31 ?_
    exact v_iret X Y dX5_item_32 (u := ()) (by unfold itmI; first | (rw [if_pos (by omega)]; assumption) | rw [if_neg (by omega)]) (by rfl)
  · skip
    refine v_aload_n X dX5_item_7 rfl ?_
    refine v_iload_n X dX5_item_8 rfl ?_
    refine v_iload_n X dX5_item_9 rfl ?_
    refine v_iconst X dX5_item_10 ?_
    refine res_E X (run_V X (c_X5_reaches (g := g) (by first | assumption | omega) (by first | assumption | omega) (by first | assumption | omega) (by first | assumption | omega)) gX5_item_X5_reaches rfl hdX5_reaches ⟨(Nat.le_of_ble_eq_true rfl), (Nat.le_of_ble_eq_true rfl)⟩ ⟨(Nat.le_of_ble_eq_true rfl), (Nat.le_of_ble_eq_true rfl)⟩ 0 rfl rfl rfl [0, 1, 2, 3] rfl rfl rfl rfl (by simp [Value.category]) dX5_item_11) [0, 1, 2, 3] rfl rfl ?_
    refine v_if_eq (tgt := 31) X dX5_item_14 (by decide) (by first | omega | (split <;> omega) | (split at c1 <;> omega)) (fun c2 => ?_) (fun c2 => ?_)
    · skip
      refine v_iconst X dX5_item_31 ?_
      exact v_iret X Y dX5_item_32 (u := ()) (by unfold itmI; first | (rw [if_pos (by omega)]; assumption) | rw [if_neg (by omega)]) (by rfl)
    · skip
      refine v_aload_n X dX5_item_17 rfl ?_
      refine v_get X (fun _ h => List.mem_cons_of_mem _ (List.mem_append_right _ h)) 0 rfl rfl 0 (by decide) rfl (List.mem_of_getElem? (i := 1) rfl) rfl dX5_item_18 ?_
      refine v_iload_n X dX5_item_21 rfl ?_
      refine v_bipush X dX5_item_22 (by decide) ?_
      refine v_imul X dX5_item_24 ?_
      refine v_iload_n X dX5_item_25 rfl ?_
      refine v_iadd X dX5_item_26 ?_
      refine v_iald X 1 rfl (by first | omega | (split <;> omega) | (split at c1 <;> omega)) (by first | omega | (split <;> omega) | (split at c1 <;> omega)) (by first | omega | (split <;> omega) | (split at c1 <;> omega)) dX5_item_27 hit (fun z3 ez3 lz3 uz3 => ?_)
      refine v_goto (tgt := 32) X dX5_item_28 (by decide) ?_
      exact v_iret X Y dX5_item_32 (u := ()) (by unfold itmI; first | (rw [if_pos (by omega)]; assumption) | rw [if_neg (by omega)]) (by rfl)

theorem hdX5_cut : yX5_cut.cls = RX5 ∧ yX5_cut.cls ≠ "java/lang/invoke/MethodHandle" ∧ yX5_cut.cls ≠ "java/lang/invoke/VarHandle" ∧ (parseMethodDescriptor yX5_cut.desc).map (fun d => d.parameters.length) = some 2 := ⟨rfl, by decide +kernel, by decide +kernel, by decide +kernel⟩
set_option maxHeartbeats 4000000 in
set_option maxRecDepth 100000 in
theorem c_X5_cut {g : Gx} {l v : Int} (hl : -1 ≤ l ∧ l ≤ 2) (hv : R32 v) : CtE g yX5_cut wsX5_cut 0 0 [.int (iI l), .int (iI v)] ([]) (cutI l v) ([]) := by
  refine m_go (cc := cX5_cut) (nL := 2) (by decide +kernel) rfl (Nat.le_of_ble_eq_true rfl) (fun x X Y hnm => ?_)
  refine v_eq (lo2 := [some (.int (iI l)), some (.int (iI v))]) rfl rfl rfl rfl ?_
  refine v_iload_n X dX5_cut_0 rfl ?_
  refine v_if_ne (tgt := 7) X dX5_cut_1 (by decide) (by omega) (fun c1 => ?_) (fun c1 => ?_)
  · skip
    refine v_iload_n X dX5_cut_7 rfl ?_
    refine v_iconst X dX5_cut_8 ?_
    refine v_icmp_ne (tgt := 17) X dX5_cut_9 (by decide) (by omega) (by omega) (fun c2 => ?_) (fun c2 => ?_)
    · skip
      refine v_iload_n X dX5_cut_17 rfl ?_
      exact v_iret X Y dX5_cut_18 (u := ()) (by unfold cutI; split <;> first | rfl | omega | (split <;> first | rfl | omega)) (by rfl)
    · skip
      refine v_iload_n X dX5_cut_12 rfl ?_
      refine v_i2s X dX5_cut_13 ?_
      refine v_goto (tgt := 18) X dX5_cut_14 (by decide) ?_
      exact v_iret X Y dX5_cut_18 (u := ()) (by unfold cutI; split <;> first | rfl | omega | (split <;> first | rfl | omega)) (by rfl)
  · skip
    refine v_iload_n X dX5_cut_4 rfl ?_
    refine v_i2b X dX5_cut_5 ?_
    exact v_iret X Y dX5_cut_6 (u := ()) (by unfold cutI; split <;> first | rfl | omega | (split <;> first | rfl | omega)) (by rfl)

theorem hdX5_put : yX5_put.cls = RX5 ∧ yX5_put.cls ≠ "java/lang/invoke/MethodHandle" ∧ yX5_put.cls ≠ "java/lang/invoke/VarHandle" ∧ (parseMethodDescriptor yX5_put.desc).map (fun d => d.parameters.length) = some 3 := ⟨rfl, by decide +kernel, by decide +kernel, by decide +kernel⟩
set_option maxHeartbeats 4000000 in
set_option maxRecDepth 100000 in
theorem c_X5_put {g : Gx} {a a1 a2 a3 : Nat} {it la le : Nat → Int} {r i v : Int} (hla : Bd (-1) 2 la) (hle : Bd 0 40 le) (hr : 0 ≤ r ∧ r < 8) (hi : 0 ≤ i ∧ i < le r.toNat) (hv : R32 v) : CtW g yX5_put wsX5_put 3 64 [.ref a, .int (iI r), .int (iI i), .int (iI v)] (wRow g a a1 a2 a3 it la le) (wRow g a a1 a2 a3 (updI it (r * 40 + i).toNat (cutI (lanI la r) v)) la le) := by
  refine m_go (cc := cX5_put) (nL := 4) (by decide +kernel) rfl (Nat.le_of_ble_eq_true rfl) (fun x X Y hnm => ?_)
  refine v_eq (lo2 := [some (.ref a), some (.int (iI r)), some (.int (iI i)), some (.int (iI v))]) rfl rfl rfl rfl ?_
  have q0 := hle r.toNat
  have q1 : atI 8 le r = le r.toNat := if_pos hr
  have q2 : rchI le r i 1 = 1 := if_pos (by omega)
  have q3 := lanI_bd (r := r) hla
  refine v_iload_n X dX5_put_0 rfl ?_
  refine res_E X (run_SN X (c_X7_isRow (g := g) (by first | assumption | omega)) gX5_put_X7_isRow_n27 rfl (List.mem_of_getElem? (i := 6) rfl) (List.mem_of_getElem? (i := 3) rfl) (List.mem_of_getElem? (i := 2) rfl) hdX7_isRow.2 ⟨(Nat.le_of_ble_eq_true rfl), (Nat.le_of_ble_eq_true rfl)⟩ ⟨(Nat.le_of_ble_eq_true rfl), (Nat.le_of_ble_eq_true rfl)⟩ [] rfl rfl rfl rfl (by simp [Value.category]) dX5_put_1) [] rfl rfl ?_
  refine v_ifb_eq (tgt := 37) X dX5_put_4 (by decide) (fun c1 => ?_) (fun c1 => ?_)
  · skip
    exfalso; omega
  · skip
    refine v_aload_n X dX5_put_7 rfl ?_
    refine v_iload_n X dX5_put_8 rfl ?_
    refine v_iload_n X dX5_put_9 rfl ?_
    refine v_iconst X dX5_put_10 ?_
    refine res_E X (run_V X (c_X5_reaches (g := g) (by first | assumption | omega) (by first | assumption | omega) (by first | assumption | omega) (by first | assumption | omega)) gX5_put_X5_reaches rfl hdX5_reaches ⟨(Nat.le_of_ble_eq_true rfl), (Nat.le_of_ble_eq_true rfl)⟩ ⟨(Nat.le_of_ble_eq_true rfl), (Nat.le_of_ble_eq_true rfl)⟩ 0 rfl rfl rfl [0, 1, 2, 3] rfl rfl rfl rfl (by simp [Value.category]) dX5_put_11) [0, 1, 2, 3] rfl rfl ?_
    refine v_if_eq (tgt := 37) X dX5_put_14 (by decide) (by first | omega | (split <;> omega)) (fun c2 => ?_) (fun c2 => ?_)
    · skip
      exfalso; omega
    · skip
      refine v_aload_n X dX5_put_17 rfl ?_
      refine v_get X (fun _ h => List.mem_cons_of_mem _ (List.mem_append_right _ h)) 0 rfl rfl 0 (by decide) rfl (List.mem_of_getElem? (i := 1) rfl) rfl dX5_put_18 ?_
      refine v_iload_n X dX5_put_21 rfl ?_
      refine v_bipush X dX5_put_22 (by decide) ?_
      refine v_imul X dX5_put_24 ?_
      refine v_iload_n X dX5_put_25 rfl ?_
      refine v_iadd X dX5_put_26 ?_
      refine v_aload_n X dX5_put_27 rfl ?_
      refine v_iload_n X dX5_put_28 rfl ?_
      refine res_E X (run_V X (c_X5_laneOf (g := g) (by first | assumption | omega) (by first | assumption | omega)) gX5_put_X5_laneOf rfl hdX5_laneOf ⟨(Nat.le_of_ble_eq_true rfl), (Nat.le_of_ble_eq_true rfl)⟩ ⟨(Nat.le_of_ble_eq_true rfl), (Nat.le_of_ble_eq_true rfl)⟩ 0 rfl rfl rfl [0, 1, 2, 3] rfl rfl rfl rfl (by simp [Value.category]) dX5_put_29) [0, 1, 2, 3] rfl rfl ?_
      refine v_iload_n X dX5_put_32 rfl ?_
      refine res_E X (run_S X (c_X5_cut (g := g) (by first | assumption | omega) (by first | assumption | omega)) gX5_put_X5_cut rfl hdX5_cut.2 ⟨(Nat.le_of_ble_eq_true rfl), (Nat.le_of_ble_eq_true rfl)⟩ ⟨(Nat.le_of_ble_eq_true rfl), (Nat.le_of_ble_eq_true rfl)⟩ [] rfl rfl rfl rfl (by simp [Value.category]) dX5_put_33) [] rfl rfl ?_
      refine v_iast X 1 rfl (by first | omega | (split <;> omega)) (by first | omega | (split <;> omega)) (by first | omega | (split <;> omega)) dX5_put_36 ?_
      dsimp only [List.set, wRow]
      exact v_vret X Y dX5_put_37 (u := ()) trivial (by rfl)

theorem hdX5_move : yX5_move.cls = RX5 ∧ yX5_move.cls ≠ "java/lang/invoke/MethodHandle" ∧ yX5_move.cls ≠ "java/lang/invoke/VarHandle" ∧ (parseMethodDescriptor yX5_move.desc).map (fun d => d.parameters.length) = some 5 := ⟨rfl, by decide +kernel, by decide +kernel, by decide +kernel⟩
set_option maxHeartbeats 4000000 in
set_option maxRecDepth 100000 in
theorem c_X5_move {g : Gx} {a a1 a2 a3 : Nat} {it la le : Nat → Int} {r i b j n : Int} (hle : Bd 0 40 le) (hr : 0 ≤ r ∧ r < 8) (hb : 0 ≤ b ∧ b < 8) (hi : 0 ≤ i ∧ i ≤ le r.toNat - n) (hj : 0 ≤ j ∧ j ≤ le b.toNat - n) (hn : 0 ≤ n) : CtW g yX5_move wsX5_move 3 64 [.ref a, .int (iI r), .int (iI i), .int (iI b), .int (iI j), .int (iI n)] (wRow g a a1 a2 a3 it la le) (wRow g a a1 a2 a3 (cpyI it it (r * 40 + i).toNat (b * 40 + j).toNat n.toNat) la le) := by
  refine m_go (cc := cX5_move) (nL := 6) (by decide +kernel) rfl (Nat.le_of_ble_eq_true rfl) (fun x X Y hnm => ?_)
  refine v_eq (lo2 := [some (.ref a), some (.int (iI r)), some (.int (iI i)), some (.int (iI b)), some (.int (iI j)), some (.int (iI n))]) rfl rfl rfl rfl ?_
  have q0 := hle r.toNat
  have q9 := hle b.toNat
  have q1 : atI 8 le r = le r.toNat := if_pos hr
  have q2 : atI 8 le b = le b.toNat := if_pos hb
  have q3 : rchI le r i n = 1 := if_pos (by omega)
  have q4 : rchI le b j n = 1 := if_pos (by omega)
  refine v_iload_n X dX5_move_0 rfl ?_
  refine res_E X (run_SN X (c_X7_isRow (g := g) (by first | assumption | omega)) gX5_move_X7_isRow_n27 rfl (List.mem_of_getElem? (i := 6) rfl) (List.mem_of_getElem? (i := 7) rfl) (List.mem_of_getElem? (i := 6) rfl) hdX7_isRow.2 ⟨(Nat.le_of_ble_eq_true rfl), (Nat.le_of_ble_eq_true rfl)⟩ ⟨(Nat.le_of_ble_eq_true rfl), (Nat.le_of_ble_eq_true rfl)⟩ [] rfl rfl rfl rfl (by simp [Value.category]) dX5_move_1) [] rfl rfl ?_
  refine v_ifb_eq (tgt := 63) X dX5_move_4 (by decide) (fun c1 => ?_) (fun c1 => ?_)
  · skip
    exfalso; omega
  · skip
    refine v_iload_n X dX5_move_7 rfl ?_
    refine res_E X (run_SN X (c_X7_isRow (g := g) (by first | assumption | omega)) gX5_move_X7_isRow_n27 rfl (List.mem_of_getElem? (i := 6) rfl) (List.mem_of_getElem? (i := 7) rfl) (List.mem_of_getElem? (i := 6) rfl) hdX7_isRow.2 ⟨(Nat.le_of_ble_eq_true rfl), (Nat.le_of_ble_eq_true rfl)⟩ ⟨(Nat.le_of_ble_eq_true rfl), (Nat.le_of_ble_eq_true rfl)⟩ [] rfl rfl rfl rfl (by simp [Value.category]) dX5_move_8) [] rfl rfl ?_
    refine v_ifb_eq (tgt := 63) X dX5_move_11 (by decide) (fun c2 => ?_) (fun c2 => ?_)
    · skip
      exfalso; omega
    · skip
      refine v_aload_n X dX5_move_14 rfl ?_
      refine v_iload_n X dX5_move_15 rfl ?_
      refine v_iload_n X dX5_move_16 rfl ?_
      refine v_iload X dX5_move_17 rfl ?_
      refine res_E X (run_V X (c_X5_reaches (g := g) (by first | assumption | omega) (by first | assumption | omega) (by first | assumption | omega) (by first | assumption | omega)) gX5_move_X5_reaches rfl hdX5_reaches ⟨(Nat.le_of_ble_eq_true rfl), (Nat.le_of_ble_eq_true rfl)⟩ ⟨(Nat.le_of_ble_eq_true rfl), (Nat.le_of_ble_eq_true rfl)⟩ 0 rfl rfl rfl [0, 1, 2, 3] rfl rfl rfl rfl (by simp [Value.category]) dX5_move_19) [0, 1, 2, 3] rfl rfl ?_
      refine v_if_eq (tgt := 63) X dX5_move_22 (by decide) (by first | omega | (split <;> omega)) (fun c3 => ?_) (fun c3 => ?_)
      · skip
        exfalso; omega
      · skip
        refine v_aload_n X dX5_move_25 rfl ?_
        refine v_iload_n X dX5_move_26 rfl ?_
        refine v_iload X dX5_move_27 rfl ?_
        refine v_iload X dX5_move_29 rfl ?_
        refine res_E X (run_V X (c_X5_reaches (g := g) (by first | assumption | omega) (by first | assumption | omega) (by first | assumption | omega) (by first | assumption | omega)) gX5_move_X5_reaches rfl hdX5_reaches ⟨(Nat.le_of_ble_eq_true rfl), (Nat.le_of_ble_eq_true rfl)⟩ ⟨(Nat.le_of_ble_eq_true rfl), (Nat.le_of_ble_eq_true rfl)⟩ 0 rfl rfl rfl [0, 1, 2, 3] rfl rfl rfl rfl (by simp [Value.category]) dX5_move_31) [0, 1, 2, 3] rfl rfl ?_
        refine v_if_eq (tgt := 63) X dX5_move_34 (by decide) (by first | omega | (split <;> omega)) (fun c4 => ?_) (fun c4 => ?_)
        · skip
          exfalso; omega
        · skip
          refine v_aload_n X dX5_move_37 rfl ?_
          refine v_get X (fun _ h => List.mem_cons_of_mem _ (List.mem_append_right _ h)) 0 rfl rfl 0 (by decide) rfl (List.mem_of_getElem? (i := 1) rfl) rfl dX5_move_38 ?_
          refine v_iload_n X dX5_move_41 rfl ?_
          refine v_bipush X dX5_move_42 (by decide) ?_
          refine v_imul X dX5_move_44 ?_
          refine v_iload_n X dX5_move_45 rfl ?_
          refine v_iadd X dX5_move_46 ?_
          refine v_aload_n X dX5_move_47 rfl ?_
          refine v_get X (fun _ h => List.mem_cons_of_mem _ (List.mem_append_right _ h)) 0 rfl rfl 0 (by decide) rfl (List.mem_of_getElem? (i := 1) rfl) rfl dX5_move_48 ?_
          refine v_iload_n X dX5_move_51 rfl ?_
          refine v_bipush X dX5_move_52 (by decide) ?_
          refine v_imul X dX5_move_54 ?_
          refine v_iload X dX5_move_55 rfl ?_
          refine v_iadd X dX5_move_57 ?_
          refine v_iload X dX5_move_58 rfl ?_
          refine v_copy X (List.mem_of_getElem? (i := 2) rfl) (List.mem_of_getElem? (i := 3) rfl) (List.mem_of_getElem? (i := 4) rfl) (List.mem_of_getElem? (i := 5) rfl) 1 1 rfl rfl (by first | omega | (split <;> omega)) (by first | omega | (split <;> omega)) (by first | omega | (split <;> omega)) (by first | omega | (split <;> omega)) (by first | omega | (split <;> omega)) ⟨(Nat.le_of_ble_eq_true rfl), (Nat.le_of_ble_eq_true rfl)⟩ dX5_move_60 ?_
          dsimp only [List.set, wRow]
          exact v_vret X Y dX5_move_63 (u := ()) trivial (by rfl)

theorem hdX5_areBelow : yX5_areBelow.cls = RX5 ∧ yX5_areBelow.cls ≠ "java/lang/invoke/MethodHandle" ∧ yX5_areBelow.cls ≠ "java/lang/invoke/VarHandle" ∧ (parseMethodDescriptor yX5_areBelow.desc).map (fun d => d.parameters.length) = some 4 := ⟨rfl, by decide +kernel, by decide +kernel, by decide +kernel⟩
set_option maxHeartbeats 4000000 in
set_option maxRecDepth 100000 in
theorem c_X5_areBelow {g : Gx} {a a1 a2 a3 : Nat} {it la le : Nat → Int} {pa r i n : Int} (hit : Bd (-2147483648) 2147483647 it) (hle : Bd 0 40 le) (hr : R32 r) (hi : 0 ≤ i ∧ i ≤ 40) (hn : R32 n ∧ n ≤ 40) (hp : 1 ≤ pa ∧ pa ≤ 720) : CtE g yX5_areBelow wsX5_areBelow 4 86 [.ref a, .int (iI pa), .int (iI r), .int (iI i), .int (iI n)] (wRow g a a1 a2 a3 it la le) (pI (∀ k : Int, 0 ≤ k → k < n → 0 ≤ itmI it le r (i + k) ∧ itmI it le r (i + k) < pa)) (wRow g a a1 a2 a3 it la le) := by
  refine m_go (cc := cX5_areBelow) (nL := 6) (by decide +kernel) rfl (Nat.le_of_ble_eq_true rfl) (fun x X Y hnm => ?_)
  refine v_eq (lo2 := [some (.ref a), some (.int (iI pa)), some (.int (iI r)), some (.int (iI i)), some (.int (iI n)), none]) rfl rfl rfl rfl ?_
  refine v_iconst X dX5_areBelow_0 ?_
  refine v_istore X dX5_areBelow_1 (by decide) rfl ?_
  dsimp only [List.set]
  have L3 : ∀ (nf : Nat) (k : Int) (h1 : 0 ≤ k ∧ (k ≤ n ∨ k = 0)) (h2 : ∀ q : Int, 0 ≤ q → q < k → 0 ≤ itmI it le r (i + q) ∧ itmI it le r (i + q) < pa) (_ : (n - k).toNat < nf), V g x 0 0 (wRow g a a1 a2 a3 it la le) [some (.ref a), some (.int (iI pa)), some (.int (iI r)), some (.int (iI i)), some (.int (iI n)), some (.int (iI k))] 3 [] := by
    intro nf
    induction nf with
    | zero => intro k h1 h2 hmu; exact absurd hmu (Nat.not_lt_zero _)
    | succ nf ih3 =>
      intro k h1 h2 hmu
      refine v_iload X dX5_areBelow_3 rfl ?_
      refine v_iload X dX5_areBelow_5 rfl ?_
      refine v_icmp_ge (tgt := 37) X dX5_areBelow_7 (by decide) (by first | omega | (split <;> omega)) (by first | omega | (split <;> omega)) (fun c1 => ?_) (fun c1 => ?_)
      · skip
        refine v_iconst X dX5_areBelow_37 ?_
        exact v_zret X Y dX5_areBelow_38 (by first | decide | omega | (split <;> omega)) (u := ()) (by exact (pI_1 (fun q g1 g2 => h2 q g1 (by omega))).symm) (by rfl)
      · skip
        refine v_aload_n X dX5_areBelow_10 rfl ?_
        refine v_iload_n X dX5_areBelow_11 rfl ?_
        refine v_iload_n X dX5_areBelow_12 rfl ?_
        refine v_iload X dX5_areBelow_13 rfl ?_
        refine v_iadd X dX5_areBelow_15 ?_
        refine res_E X (run_V X (c_X5_item (g := g) (by first | assumption | omega) (by first | assumption | omega) (by first | assumption | omega) (by first | assumption | omega)) gX5_areBelow_X5_item rfl hdX5_item ⟨(Nat.le_of_ble_eq_true rfl), (Nat.le_of_ble_eq_true rfl)⟩ ⟨(Nat.le_of_ble_eq_true rfl), (Nat.le_of_ble_eq_true rfl)⟩ 0 rfl rfl rfl [0, 1, 2, 3] rfl rfl rfl rfl (by simp [Value.category]) dX5_areBelow_16) [0, 1, 2, 3] rfl rfl ?_
        have q1 := itmI_bd (le := le) (r := r) (i := i + k) hit
        refine v_iconst X dX5_areBelow_19 ?_
        refine v_iload_n X dX5_areBelow_20 rfl ?_
        refine v_iconst X dX5_areBelow_21 ?_
        refine v_isub X dX5_areBelow_22 ?_
        refine res_E X (run_SN X (c_X7_isWithin (g := g) (by first | assumption | omega) (by first | assumption | omega) (by first | assumption | omega)) gX5_areBelow_X7_isWithin_n45 rfl (List.mem_of_getElem? (i := 7) rfl) (List.mem_of_getElem? (i := 8) rfl) (List.mem_of_getElem? (i := 19) rfl) hdX7_isWithin.2 ⟨(Nat.le_of_ble_eq_true rfl), (Nat.le_of_ble_eq_true rfl)⟩ ⟨(Nat.le_of_ble_eq_true rfl), (Nat.le_of_ble_eq_true rfl)⟩ [] rfl rfl rfl rfl (by simp [Value.category]) dX5_areBelow_23) [] rfl rfl ?_
        refine v_ifb_ne (tgt := 31) X dX5_areBelow_26 (by decide) (fun c2 => ?_) (fun c2 => ?_)
        · skip
          refine v_iinc X dX5_areBelow_31 rfl (by decide) rfl ?_
          dsimp only [List.set]
          refine v_goto (tgt := 3) X dX5_areBelow_34 (by decide) ?_
          exact ih3 _ (by omega) (by
              intro q g1 g2; by_cases e : q = k
              · subst e; omega
              · exact h2 q g1 (by omega)) (by omega)
        · skip
          refine v_iconst X dX5_areBelow_29 ?_
          exact v_zret X Y dX5_areBelow_30 (by first | decide | omega | (split <;> omega)) (u := ()) (by exact (pI_0 (fun z => absurd (z k h1.1 (by omega)) (by omega))).symm) (by rfl)
  exact L3 _ _ (by omega) (by intro q g1 g2; exfalso; omega) (Nat.lt_succ_self _)

theorem hdX5_present : yX5_present.cls = RX5 ∧ yX5_present.cls ≠ "java/lang/invoke/MethodHandle" ∧ yX5_present.cls ≠ "java/lang/invoke/VarHandle" ∧ (parseMethodDescriptor yX5_present.desc).map (fun d => d.parameters.length) = some 0 := ⟨rfl, by decide +kernel, by decide +kernel, by decide +kernel⟩
set_option maxHeartbeats 4000000 in
set_option maxRecDepth 100000 in
theorem c_X5_present {g : Gx} {a a1 a2 a3 : Nat} {it la le : Nat → Int}  (hla : Bd (-1) 2 la) : CtE g yX5_present wsX5_present 3 62 [.ref a] (wRow g a a1 a2 a3 it la le) (cntN (fun j => decide (la j ≠ -1)) 8) (wRow g a a1 a2 a3 it la le) := by
  refine m_go (cc := cX5_present) (nL := 3) (by decide +kernel) rfl (Nat.le_of_ble_eq_true rfl) (fun x X Y hnm => ?_)
  refine v_eq (lo2 := [some (.ref a), none, none]) rfl rfl rfl rfl ?_
  refine v_iconst X dX5_present_0 ?_
  refine v_istore_n X dX5_present_1 1 rfl (by decide) rfl ?_
  dsimp only [List.set]
  refine v_iconst X dX5_present_2 ?_
  refine v_istore_n X dX5_present_3 2 rfl (by decide) rfl ?_
  dsimp only [List.set]
  have L4 : ∀ (nf : Nat) (k : Int) (i : Int) (h1 : 0 ≤ i ∧ i ≤ 8) (h2 : k = cntN (fun j => decide (la j ≠ -1)) i.toNat) (h3 : 0 ≤ k ∧ k ≤ i) (_ : (8 - i).toNat < nf), V g x 0 0 (wRow g a a1 a2 a3 it la le) [some (.ref a), some (.int (iI k)), some (.int (iI i))] 4 [] := by
    intro nf
    induction nf with
    | zero => intro k i h1 h2 h3 hmu; exact absurd hmu (Nat.not_lt_zero _)
    | succ nf ih4 =>
      intro k i h1 h2 h3 hmu
      refine v_iload_n X dX5_present_4 rfl ?_
      refine v_bipush X dX5_present_5 (by decide) ?_
      refine v_icmp_ge (tgt := 27) X dX5_present_7 (by decide) (by first | omega | (split <;> omega)) (by first | omega | (split <;> omega)) (fun c1 => ?_) (fun c1 => ?_)
      · skip
        refine v_iload_n X dX5_present_27 rfl ?_
        exact v_iret X Y dX5_present_28 (u := ()) (by
            have e : i = 8 := by omega
            rw [h2, e]; rfl) (by rfl)
      · skip
        refine v_aload_n X dX5_present_10 rfl ?_
        refine v_iload_n X dX5_present_11 rfl ?_
        refine res_E X (run_V X (c_X5_isMissing (g := g) (by first | assumption | omega) (by first | assumption | omega)) gX5_present_X5_isMissing rfl hdX5_isMissing ⟨(Nat.le_of_ble_eq_true rfl), (Nat.le_of_ble_eq_true rfl)⟩ ⟨(Nat.le_of_ble_eq_true rfl), (Nat.le_of_ble_eq_true rfl)⟩ 0 rfl rfl rfl [0, 1, 2, 3] rfl rfl rfl rfl (by simp [Value.category]) dX5_present_12) [0, 1, 2, 3] rfl rfl ?_
        refine v_ifb_ne (tgt := 21) X dX5_present_15 (by decide) (fun c2 => ?_) (fun c2 => ?_)
        · skip
          refine v_iinc X dX5_present_21 rfl (by decide) rfl ?_
          dsimp only [List.set]
          refine v_goto (tgt := 4) X dX5_present_24 (by decide) ?_
          exact ih4 _ _ (by omega) (by rw [cntN_s h1.1]; unfold lanI at c2; rw [if_pos (show 0 ≤ i ∧ i < 8 by omega)] at c2; simp only [decide_eq_true_eq]; split <;> omega) (by omega) (by omega)
        · skip
          refine v_iinc X dX5_present_18 rfl (by decide) rfl ?_
          dsimp only [List.set]
          refine v_iinc X dX5_present_21 rfl (by decide) rfl ?_
          dsimp only [List.set]
          refine v_goto (tgt := 4) X dX5_present_24 (by decide) ?_
          exact ih4 _ _ (by omega) (by rw [cntN_s h1.1]; unfold lanI at c2; rw [if_pos (show 0 ≤ i ∧ i < 8 by omega)] at c2; simp only [decide_eq_true_eq]; split <;> omega) (by omega) (by omega)
  exact L4 _ _ _ (by omega) (by rfl) (by omega) (Nat.lt_succ_self _)

