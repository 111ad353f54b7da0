theorem hdJ9_floorMod_7cf53 : yJ9_floorMod_7cf53.cls = RJ9 ∧ yJ9_floorMod_7cf53.cls ≠ "java/lang/invoke/MethodHandle" ∧ yJ9_floorMod_7cf53.cls ≠ "java/lang/invoke/VarHandle" ∧ (parseMethodDescriptor yJ9_floorMod_7cf53.desc).map (fun d => d.parameters.length) = some 2 := ⟨rfl, by decide +kernel, by decide +kernel, by decide +kernel⟩
set_option maxHeartbeats 4000000 in
set_option maxRecDepth 100000 in
theorem c_J9_floorMod_7cf53 {g : Gx} {a b : Int} (ha : R32 a) (hb : R32 b) (h0 : 0 < b) : CtE g yJ9_floorMod_7cf53 wsJ9_floorMod_7cf53 0 0 [.int (iI a), .int (iI b)] ([]) (a % b) ([]) := by
  refine m_go (cc := cJ9_floorMod_7cf53) (nL := 3) (by decide +kernel) rfl (Nat.le_of_ble_eq_true rfl) (fun x X Y hnm => ?_)
  refine v_eq (lo2 := [some (.int (iI a)), some (.int (iI b)), none]) rfl rfl rfl rfl ?_
  have q1 := tmod_emod (x := a) h0
  have q2 := tmod_neg (x := a) h0
  have q3 := iXor_neg ha hb h0
  have q4 := iXor_r a b
  have q5 := Int.tmod_lt_of_pos a h0
  have q6 := Int.lt_tmod_of_pos a h0
  refine v_iload_n X dJ9_floorMod_7cf53_0 rfl ?_
  refine v_iload_n X dJ9_floorMod_7cf53_1 rfl ?_
  refine v_irem X dJ9_floorMod_7cf53_2 (by omega) (by omega) (by omega) ?_
  refine v_istore_n X dJ9_floorMod_7cf53_3 2 rfl (by decide) rfl ?_
  dsimp only [List.set]
  refine v_iload_n X dJ9_floorMod_7cf53_4 rfl ?_
  refine v_iload_n X dJ9_floorMod_7cf53_5 rfl ?_
  refine v_ixor X dJ9_floorMod_7cf53_6 ?_
  refine v_if_ge (tgt := 18) X dJ9_floorMod_7cf53_7 (by decide) (by omega) (fun c1 => ?_) (fun c1 => ?_)
  · skip
    refine v_iload_n X dJ9_floorMod_7cf53_18 rfl ?_
    exact v_iret X Y dJ9_floorMod_7cf53_19 (u := ()) (by rw [q1]; split <;> omega) (by rfl)
  · skip
    refine v_iload_n X dJ9_floorMod_7cf53_10 rfl ?_
    refine v_if_eq (tgt := 18) X dJ9_floorMod_7cf53_11 (by decide) (by omega) (fun c2 => ?_) (fun c2 => ?_)
    · skip
      refine v_iload_n X dJ9_floorMod_7cf53_18 rfl ?_
      exact v_iret X Y dJ9_floorMod_7cf53_19 (u := ()) (by rw [q1]; split <;> omega) (by rfl)
    · skip
      refine v_iload_n X dJ9_floorMod_7cf53_14 rfl ?_
      refine v_iload_n X dJ9_floorMod_7cf53_15 rfl ?_
      refine v_iadd X dJ9_floorMod_7cf53_16 ?_
      exact v_iret X Y dJ9_floorMod_7cf53_17 (u := ()) (by rw [q1]; split <;> omega) (by rfl)

theorem hdX7_rest : yX7_rest.cls = RX7 ∧ yX7_rest.cls ≠ "java/lang/invoke/MethodHandle" ∧ yX7_rest.cls ≠ "java/lang/invoke/VarHandle" ∧ (parseMethodDescriptor yX7_rest.desc).map (fun d => d.parameters.length) = some 2 := ⟨rfl, by decide +kernel, by decide +kernel, by decide +kernel⟩
set_option maxHeartbeats 4000000 in
set_option maxRecDepth 100000 in
theorem c_X7_rest {g : Gx} {n w : Int} (hn : R32 n) (hw : R32 w) : CtE g yX7_rest wsX7_rest 1 22 [.int (iI n), .int (iI w)] ([]) (restI n w) ([]) := by
  refine m_go (cc := cX7_rest) (nL := 2) (by decide +kernel) rfl (Nat.le_of_ble_eq_true rfl) (fun x X Y hnm => ?_)
  refine v_eq (lo2 := [some (.int (iI n)), some (.int (iI w))]) rfl rfl rfl rfl ?_
  refine v_iload_n X dX7_rest_0 rfl ?_
  refine v_iconst X dX7_rest_1 ?_
  refine v_icmp_ge (tgt := 9) X dX7_rest_2 (by decide) (by omega) (by omega) (fun c1 => ?_) (fun c1 => ?_)
  · skip
    refine v_iload_n X dX7_rest_9 rfl ?_
    refine v_iload_n X dX7_rest_10 rfl ?_
    refine res_E X (run_S X (c_J9_floorMod_7cf53 (g := g) (by first | assumption | omega) (by first | assumption | omega) (by first | assumption | omega)) gX7_rest_J9_floorMod_7cf53 rfl hdJ9_floorMod_7cf53.2 ⟨(Nat.le_of_ble_eq_true rfl), (Nat.le_of_ble_eq_true rfl)⟩ ⟨(Nat.le_of_ble_eq_true rfl), (Nat.le_of_ble_eq_true rfl)⟩ [] rfl rfl rfl rfl (by simp [Value.category]) dX7_rest_11) [] rfl rfl ?_
    exact v_iret X Y dX7_rest_14 (u := ()) (by unfold restI; split <;> omega) (by rfl)
  · skip
    refine v_iconst X dX7_rest_5 ?_
    refine v_goto (tgt := 14) X dX7_rest_6 (by decide) ?_
    exact v_iret X Y dX7_rest_14 (u := ()) (by unfold restI; split <;> omega) (by rfl)

theorem hdX7_common : yX7_common.cls = RX7 ∧ yX7_common.cls ≠ "java/lang/invoke/MethodHandle" ∧ yX7_common.cls ≠ "java/lang/invoke/VarHandle" ∧ (parseMethodDescriptor yX7_common.desc).map (fun d => d.parameters.length) = some 2 := ⟨rfl, by decide +kernel, by decide +kernel, by decide +kernel⟩
set_option maxHeartbeats 4000000 in
set_option maxRecDepth 100000 in
theorem c_X7_common {g : Gx} {a b : Int} (ha : 0 ≤ a) (ha2 : a ≤ 2147483647) (hb : 0 ≤ b) (hb2 : b ≤ 2147483647) : CtE g yX7_common wsX7_common 0 0 [.int (iI a), .int (iI b)] ([]) ((Int.gcd a b : Int)) ([]) := by
  refine m_go (cc := cX7_common) (nL := 6) (by decide +kernel) rfl (Nat.le_of_ble_eq_true rfl) (fun x X Y hnm => ?_)
  refine v_eq (lo2 := [some (.int (iI a)), some (.int (iI b)), none, none, none, none]) rfl rfl rfl rfl ?_
  refine v_iload_n X dX7_common_0 rfl ?_
  refine v_istore_n X dX7_common_1 2 rfl (by decide) rfl ?_
  dsimp only [List.set]
  refine v_iload_n X dX7_common_2 rfl ?_
  refine v_istore_n X dX7_common_3 3 rfl (by decide) rfl ?_
  dsimp only [List.set]
  refine v_iconst X dX7_common_4 ?_
  refine v_istore X dX7_common_5 (by decide) rfl ?_
  dsimp only [List.set]
  have L7 : ∀ (nf : Nat) (gr : Int) (ls : Int) (s : Int) (h1 : 0 ≤ gr ∧ gr ≤ 2147483647) (h2 : 0 ≤ ls ∧ ls ≤ 2147483647) (h3 : 0 ≤ s ∧ s ≤ 64) (h4 : PG gr ls s) (h5 : (Int.gcd gr ls : Int) = Int.gcd a b) (_ : (64 - s).toNat < nf), V g x 0 0 ([]) [some (.int (iI a)), some (.int (iI b)), some (.int (iI gr)), some (.int (iI ls)), some (.int (iI s)), none] 7 [] := by
    intro nf
    induction nf with
    | zero => intro gr ls s h1 h2 h3 h4 h5 hmu; exact absurd hmu (Nat.not_lt_zero _)
    | succ nf ih7 =>
      intro gr ls s h1 h2 h3 h4 h5 hmu
      refine v_iload X dX7_common_7 rfl ?_
      refine v_bipush X dX7_common_9 (by decide) ?_
      refine v_icmp_ge (tgt := 34) X dX7_common_11 (by decide) (by omega) (by omega) (fun c1 => ?_) (fun c1 => ?_)
      · skip
        refine v_iload_n X dX7_common_34 rfl ?_
        exact v_iret X Y dX7_common_35 (u := ()) (by
            have e9 : ¬ s < 64 → s = 64 := by omega
            have e : ls = 0 := by
              first | omega | exact PG_end h2.1 ((e9 (by omega)) ▸ h4)
            rw [← h5, e, gcd_0 h1.1]) (by rfl)
      · skip
        refine v_iload_n X dX7_common_14 rfl ?_
        refine v_if_le (tgt := 34) X dX7_common_15 (by decide) (by omega) (fun c2 => ?_) (fun c2 => ?_)
        · skip
          refine v_iload_n X dX7_common_34 rfl ?_
          exact v_iret X Y dX7_common_35 (u := ()) (by
              have e9 : ¬ s < 64 → s = 64 := by omega
              have e : ls = 0 := by
                first | omega | exact PG_end h2.1 ((e9 (by omega)) ▸ h4)
              rw [← h5, e, gcd_0 h1.1]) (by rfl)
        · skip
          refine v_iload_n X dX7_common_18 rfl ?_
          refine v_iload_n X dX7_common_19 rfl ?_
          refine v_irem X dX7_common_20 (by omega) (by omega) (by omega) ?_
          have q1 := Int.tmod_lt_of_pos gr (show 0 < ls by omega)
          have q2 := Int.tmod_nonneg ls h1.1
          refine v_istore X dX7_common_21 (by decide) rfl ?_
          dsimp only [List.set]
          refine v_iload_n X dX7_common_23 rfl ?_
          refine v_istore_n X dX7_common_24 2 rfl (by decide) rfl ?_
          dsimp only [List.set]
          refine v_iload X dX7_common_25 rfl ?_
          refine v_istore_n X dX7_common_27 3 rfl (by decide) rfl ?_
          dsimp only [List.set]
          refine v_iinc X dX7_common_28 rfl (by decide) rfl ?_
          dsimp only [List.set]
          refine v_goto (tgt := 7) X dX7_common_31 (by decide) ?_
          refine v_drop 5 ?_
          dsimp only [List.set]
          exact ih7 _ _ _ (by omega) (by omega) (by omega) (by exact PG_step h1.1 h1.2 (by omega) h2.2 h3.1 h4) (by rw [gcd_step h1.1 h2.1]; exact h5) (by omega)
  exact L7 _ _ _ _ (by omega) (by omega) (by omega) (by exact PG_0 _ _) (by rfl) (Nat.lt_succ_self _)

theorem hdX7_part : yX7_part.cls = RX7 ∧ yX7_part.cls ≠ "java/lang/invoke/MethodHandle" ∧ yX7_part.cls ≠ "java/lang/invoke/VarHandle" ∧ (parseMethodDescriptor yX7_part.desc).map (fun d => d.parameters.length) = some 3 := ⟨rfl, by decide +kernel, by decide +kernel, by decide +kernel⟩
set_option maxHeartbeats 4000000 in
set_option maxRecDepth 100000 in
theorem c_X7_part {g : Gx} {a b w : Int} (ha : 0 ≤ a) (ha2 : a ≤ 2147483647) (hb : 0 ≤ b) (hb2 : b ≤ 2147483647) (hw : R32 w) : CtE g yX7_part wsX7_part 1 25 [.int (iI a), .int (iI b), .int (iI w)] ([]) (toldI a b w) ([]) := by
  refine m_go (cc := cX7_part) (nL := 4) (by decide +kernel) rfl (Nat.le_of_ble_eq_true rfl) (fun x X Y hnm => ?_)
  refine v_eq (lo2 := [some (.int (iI a)), some (.int (iI b)), some (.int (iI w)), none]) rfl rfl rfl rfl ?_
  have q1 := gcd_le ha hb (show (0:Int) ≤ 2147483647 by omega) ha2 hb2
  have q2 := tdiv_of_nn (b := (Int.gcd a b : Int)) ha
  have q3 := tdiv_of_nn (b := (Int.gcd a b : Int)) hb
  refine v_iload_n X dX7_part_0 rfl ?_
  refine v_iload_n X dX7_part_1 rfl ?_
  refine res_E X (run_S X (c_X7_common (g := g) (by first | assumption | omega) (by first | assumption | omega) (by first | assumption | omega) (by first | assumption | omega)) gX7_part_X7_common rfl hdX7_common.2 ⟨(Nat.le_of_ble_eq_true rfl), (Nat.le_of_ble_eq_true rfl)⟩ ⟨(Nat.le_of_ble_eq_true rfl), (Nat.le_of_ble_eq_true rfl)⟩ [] rfl rfl rfl rfl (by simp [Value.category]) dX7_part_2) [] rfl rfl ?_
  refine v_istore_n X dX7_part_5 3 rfl (by decide) rfl ?_
  dsimp only [List.set]
  refine v_iload_n X dX7_part_6 rfl ?_
  refine v_iconst X dX7_part_7 ?_
  refine v_icmp_ge (tgt := 13) X dX7_part_8 (by decide) (by omega) (by omega) (fun c1 => ?_) (fun c1 => ?_)
  · skip
    refine v_iload_n X dX7_part_13 rfl ?_
    refine v_if_ne (tgt := 23) X dX7_part_14 (by decide) (by omega) (fun c2 => ?_) (fun c2 => ?_)
    · skip
      refine v_iload_n X dX7_part_23 rfl ?_
      refine v_iload_n X dX7_part_24 rfl ?_
      refine v_idiv X dX7_part_25 (by omega) (by omega) (by omega) ?_
      exact v_iret X Y dX7_part_26 (u := ()) (by unfold toldI; split <;> omega) (by rfl)
    · skip
      refine v_iload_n X dX7_part_17 rfl ?_
      refine v_iload_n X dX7_part_18 rfl ?_
      refine v_idiv X dX7_part_19 (by omega) (by omega) (by omega) ?_
      refine v_goto (tgt := 26) X dX7_part_20 (by decide) ?_
      exact v_iret X Y dX7_part_26 (u := ()) (by unfold toldI; split <;> omega) (by rfl)
  · skip
    refine v_iconst X dX7_part_11 ?_
    exact v_iret X Y dX7_part_12 (u := ()) (by
        have e : ((Int.gcd a b : Nat) : Int) = 0 := by omega
        unfold toldI; rw [e]; split <;> simp) (by rfl)

theorem hdX7_isRow : yX7_isRow.cls = RX7 ∧ yX7_isRow.cls ≠ "java/lang/invoke/MethodHandle" ∧ yX7_isRow.cls ≠ "java/lang/invoke/VarHandle" ∧ (parseMethodDescriptor yX7_isRow.desc).map (fun d => d.parameters.length) = some 1 := ⟨rfl, by decide +kernel, by decide +kernel, by decide +kernel⟩
set_option maxHeartbeats 4000000 in
set_option maxRecDepth 100000 in
theorem c_X7_isRow {g : Gx} {a : Int} (ha : R32 a) : CtE g yX7_isRow wsX7_isRow 0 0 [.int (iI a)] ([]) (if 0 ≤ a ∧ a < 8 then 1 else 0) ([]) := by
  refine m_go (cc := cX7_isRow) (nL := 1) (by decide +kernel) rfl (Nat.le_of_ble_eq_true rfl) (fun x X Y hnm => ?_)
  refine v_eq (lo2 := [some (.int (iI a))]) rfl rfl rfl rfl ?_
  refine v_iload_n X dX7_isRow_0 rfl ?_
  refine v_if_lt (tgt := 14) X dX7_isRow_1 (by decide) (by omega) (fun c1 => ?_) (fun c1 => ?_)
  · skip
    refine v_iconst X dX7_isRow_14 ?_
    exact v_zret X Y dX7_isRow_15 (by first | decide | omega | (split <;> omega)) (u := ()) (by first | rfl | omega | (split <;> omega) | (simp [*]; done)) (by rfl)
  · skip
    refine v_iload_n X dX7_isRow_4 rfl ?_
    refine v_bipush X dX7_isRow_5 (by decide) ?_
    refine v_icmp_ge (tgt := 14) X dX7_isRow_7 (by decide) (by omega) (by omega) (fun c2 => ?_) (fun c2 => ?_)
    · skip
      refine v_iconst X dX7_isRow_14 ?_
      exact v_zret X Y dX7_isRow_15 (by first | decide | omega | (split <;> omega)) (u := ()) (by first | rfl | omega | (split <;> omega) | (simp [*]; done)) (by rfl)
    · skip
      refine v_iconst X dX7_isRow_10 ?_
      refine v_goto (tgt := 15) X dX7_isRow_11 (by decide) ?_
      exact v_zret X Y dX7_isRow_15 (by first | decide | omega | (split <;> omega)) (u := ()) (by first | rfl | omega | (split <;> omega) | (simp [*]; done)) (by rfl)

theorem hdX7_isWithin : yX7_isWithin.cls = RX7 ∧ yX7_isWithin.cls ≠ "java/lang/invoke/MethodHandle" ∧ yX7_isWithin.cls ≠ "java/lang/invoke/VarHandle" ∧ (parseMethodDescriptor yX7_isWithin.desc).map (fun d => d.parameters.length) = some 3 := ⟨rfl, by decide +kernel, by decide +kernel, by decide +kernel⟩
set_option maxHeartbeats 4000000 in
set_option maxRecDepth 100000 in
theorem c_X7_isWithin {g : Gx} {v l m : Int} (hv : R32 v) (hl : R32 l) (hm : R32 m) : CtE g yX7_isWithin wsX7_isWithin 0 0 [.int (iI v), .int (iI l), .int (iI m)] ([]) (if l ≤ v ∧ v ≤ m then 1 else 0) ([]) := by
  refine m_go (cc := cX7_isWithin) (nL := 3) (by decide +kernel) rfl (Nat.le_of_ble_eq_true rfl) (fun x X Y hnm => ?_)
  refine v_eq (lo2 := [some (.int (iI v)), some (.int (iI l)), some (.int (iI m))]) rfl rfl rfl rfl ?_
  refine v_iload_n X dX7_isWithin_0 rfl ?_
  refine v_iload_n X dX7_isWithin_1 rfl ?_
  refine v_icmp_gt (tgt := 14) X dX7_isWithin_2 (by decide) (by omega) (by omega) (fun c1 => ?_) (fun c1 => ?_)
  · skip
    refine v_iconst X dX7_isWithin_14 ?_
    exact v_zret X Y dX7_isWithin_15 (by first | decide | omega | (split <;> omega)) (u := ()) (by first | rfl | omega | (split <;> omega) | (simp [*]; done)) (by rfl)
  · skip
    refine v_iload_n X dX7_isWithin_5 rfl ?_
    refine v_iload_n X dX7_isWithin_6 rfl ?_
    refine v_icmp_gt (tgt := 14) X dX7_isWithin_7 (by decide) (by omega) (by omega) (fun c2 => ?_) (fun c2 => ?_)
    · skip
      refine v_iconst X dX7_isWithin_14 ?_
      exact v_zret X Y dX7_isWithin_15 (by first | decide | omega | (split <;> omega)) (u := ()) (by first | rfl | omega | (split <;> omega) | (simp [*]; done)) (by rfl)
    · skip
      refine v_iconst X dX7_isWithin_10 ?_
      refine v_goto (tgt := 15) X dX7_isWithin_11 (by decide) ?_
      exact v_zret X Y dX7_isWithin_15 (by first | decide | omega | (split <;> omega)) (u := ()) (by first | rfl | omega | (split <;> omega) | (simp [*]; done)) (by rfl)

theorem hdX7_isMoment : yX7_isMoment.cls = RX7 ∧ yX7_isMoment.cls ≠ "java/lang/invoke/MethodHandle" ∧ yX7_isMoment.cls ≠ "java/lang/invoke/VarHandle" ∧ (parseMethodDescriptor yX7_isMoment.desc).map (fun d => d.parameters.length) = some 2 := ⟨rfl, by decide +kernel, by decide +kernel, by decide +kernel⟩
set_option maxHeartbeats 4000000 in
set_option maxRecDepth 100000 in
theorem c_X7_isMoment {g : Gx} {p q : Int} (hp : R32 p) (hq : R32 q) : CtE g yX7_isMoment wsX7_isMoment 1 22 [.int (iI p), .int (iI q)] ([]) (if 1 ≤ q ∧ q ≤ 9999 ∧ 0 ≤ p ∧ p < q then 1 else 0) ([]) := by
  refine m_go (cc := cX7_isMoment) (nL := 2) (by decide +kernel) rfl (Nat.le_of_ble_eq_true rfl) (fun x X Y hnm => ?_)
  refine v_eq (lo2 := [some (.int (iI p)), some (.int (iI q))]) rfl rfl rfl rfl ?_
  refine v_iload_n X dX7_isMoment_0 rfl ?_
  refine v_iconst X dX7_isMoment_1 ?_
  refine v_sipush X dX7_isMoment_2 (by decide) ?_
  refine res_E X (run_S X (c_X7_isWithin (g := g) (by first | assumption | omega) (by first | assumption | omega) (by first | assumption | omega)) gX7_isMoment_X7_isWithin rfl hdX7_isWithin.2 ⟨(Nat.le_of_ble_eq_true rfl), (Nat.le_of_ble_eq_true rfl)⟩ ⟨(Nat.le_of_ble_eq_true rfl), (Nat.le_of_ble_eq_true rfl)⟩ [] rfl rfl rfl rfl (by simp [Value.category]) dX7_isMoment_5) [] rfl rfl ?_
  refine v_ifb_eq (tgt := 26) X dX7_isMoment_8 (by decide) (fun c1 => ?_) (fun c1 => ?_)
  · skip
    refine v_iconst X dX7_isMoment_26 ?_
    exact v_zret X Y dX7_isMoment_27 (by first | decide | omega | (split <;> omega)) (u := ()) (by first | rfl | omega | (split <;> omega) | (simp [*]; done)) (by rfl)
  · skip
    refine v_iload_n X dX7_isMoment_11 rfl ?_
    refine v_iconst X dX7_isMoment_12 ?_
    refine v_iload_n X dX7_isMoment_13 rfl ?_
    refine v_iconst X dX7_isMoment_14 ?_
    refine v_isub X dX7_isMoment_15 ?_
    refine res_E X (run_S X (c_X7_isWithin (g := g) (by first | assumption | omega) (by first | assumption | omega) (by first | assumption | omega)) gX7_isMoment_X7_isWithin rfl hdX7_isWithin.2 ⟨(Nat.le_of_ble_eq_true rfl), (Nat.le_of_ble_eq_true rfl)⟩ ⟨(Nat.le_of_ble_eq_true rfl), (Nat.le_of_ble_eq_true rfl)⟩ [] rfl rfl rfl rfl (by simp [Value.category]) dX7_isMoment_16) [] rfl rfl ?_
    refine v_ifb_eq (tgt := 26) X dX7_isMoment_19 (by decide) (fun c2 => ?_) (fun c2 => ?_)
    · skip
      refine v_iconst X dX7_isMoment_26 ?_
      exact v_zret X Y dX7_isMoment_27 (by first | decide | omega | (split <;> omega)) (u := ()) (by first | rfl | omega | (split <;> omega) | (simp [*]; done)) (by rfl)
    · skip
      refine v_iconst X dX7_isMoment_22 ?_
      refine v_goto (tgt := 27) X dX7_isMoment_23 (by decide) ?_
      exact v_zret X Y dX7_isMoment_27 (by first | decide | omega | (split <;> omega)) (u := ()) (by first | rfl | omega | (split <;> omega) | (simp [*]; done)) (by rfl)

theorem hdX2_isNone : yX2_isNone.cls = RX2 ∧ yX2_isNone.cls ≠ "java/lang/invoke/MethodHandle" ∧ yX2_isNone.cls ≠ "java/lang/invoke/VarHandle" ∧ (parseMethodDescriptor yX2_isNone.desc).map (fun d => d.parameters.length) = some 0 := ⟨rfl, by decide +kernel, by decide +kernel, by decide +kernel⟩
set_option maxHeartbeats 4000000 in
set_option maxRecDepth 100000 in
theorem c_X2_isNone {g : Gx} {a a1 a2 a3 : Nat} {mk cn : Int} {so tu sp : Nat → Int}  (hcn : 0 ≤ cn ∧ cn ≤ 4) : CtE g yX2_isNone wsX2_isNone 0 0 [.ref a] (wClk g a a1 a2 a3 mk cn so tu sp) (if cn = 0 then 1 else 0) (wClk g a a1 a2 a3 mk cn so tu sp) := by
  refine m_go (cc := cX2_isNone) (nL := 1) (by decide +kernel) rfl (Nat.le_of_ble_eq_true rfl) (fun x X Y hnm => ?_)
  refine v_eq (lo2 := [some (.ref a)]) rfl rfl rfl rfl ?_
  refine v_aload_n X dX2_isNone_0 rfl ?_
  refine v_get X (fun _ h => List.mem_cons_of_mem _ (List.mem_append_right _ h)) 0 rfl rfl 4 (by decide) rfl (List.mem_of_getElem? (i := 1) rfl) rfl dX2_isNone_1 ?_
  refine v_if_ne (tgt := 11) X dX2_isNone_4 (by decide) (by omega) (fun c1 => ?_) (fun c1 => ?_)
  · skip
    refine v_iconst X dX2_isNone_11 ?_
    exact v_zret X Y dX2_isNone_12 (by first | decide | omega | (split <;> omega)) (u := ()) (by first | rfl | omega | (split <;> omega) | (simp [*]; done)) (by rfl)
  · skip
    refine v_iconst X dX2_isNone_7 ?_
    refine v_goto (tgt := 12) X dX2_isNone_8 (by decide) ?_
    exact v_zret X Y dX2_isNone_12 (by first | decide | omega | (split <;> omega)) (u := ()) (by first | rfl | omega | (split <;> omega) | (simp [*]; done)) (by rfl)

theorem hdX2_has : yX2_has.cls = RX2 ∧ yX2_has.cls ≠ "java/lang/invoke/MethodHandle" ∧ yX2_has.cls ≠ "java/lang/invoke/VarHandle" ∧ (parseMethodDescriptor yX2_has.desc).map (fun d => d.parameters.length) = some 1 := ⟨rfl, by decide +kernel, by decide +kernel, by decide +kernel⟩
set_option maxHeartbeats 4000000 in
set_option maxRecDepth 100000 in
theorem c_X2_has {g : Gx} {a a1 a2 a3 : Nat} {mk cn : Int} {so tu sp : Nat → Int} {h : Int} (hcn : 0 ≤ cn ∧ cn ≤ 4) (hh : R32 h) : CtE g yX2_has wsX2_has 0 0 [.ref a, .int (iI h)] (wClk g a a1 a2 a3 mk cn so tu sp) (if 0 ≤ h ∧ h < cn then 1 else 0) (wClk g a a1 a2 a3 mk cn so tu sp) := by
  refine m_go (cc := cX2_has) (nL := 2) (by decide +kernel) rfl (Nat.le_of_ble_eq_true rfl) (fun x X Y hnm => ?_)
  refine v_eq (lo2 := [some (.ref a), some (.int (iI h))]) rfl rfl rfl rfl ?_
  refine v_iload_n X dX2_has_0 rfl ?_
  refine v_if_lt (tgt := 21) X dX2_has_1 (by decide) (by omega) (fun c1 => ?_) (fun c1 => ?_)
  · skip
    refine v_iconst X dX2_has_21 ?_
    exact v_zret X Y dX2_has_22 (by first | decide | omega | (split <;> omega)) (u := ()) (by first | rfl | omega | (split <;> omega) | (simp [*]; done)) (by rfl)
  · skip
    refine v_iload_n X dX2_has_4 rfl ?_
    refine v_aload_n X dX2_has_5 rfl ?_
    refine v_get X (fun _ h => List.mem_cons_of_mem _ (List.mem_append_right _ h)) 0 rfl rfl 4 (by decide) rfl (List.mem_of_getElem? (i := 1) rfl) rfl dX2_has_6 ?_
    refine v_icmp_ge (tgt := 21) X dX2_has_9 (by decide) (by omega) (by omega) (fun c2 => ?_) (fun c2 => ?_)
    · skip
      refine v_iconst X dX2_has_21 ?_
      exact v_zret X Y dX2_has_22 (by first | decide | omega | (split <;> omega)) (u := ()) (by first | rfl | omega | (split <;> omega) | (simp [*]; done)) (by rfl)
    · skip
      refine v_iload_n X dX2_has_12 rfl ?_
      refine v_iconst X dX2_has_13 ?_
      refine v_icmp_ge (tgt := 21) X dX2_has_14 (by decide) (by omega) (by omega) (fun c3 => ?_) (fun c3 => ?_)
      · skip
        refine v_iconst X dX2_has_21 ?_
        exact v_zret X Y dX2_has_22 (by first | decide | omega | (split <;> omega)) (u := ()) (by first | rfl | omega | (split <;> omega) | (simp [*]; done)) (by rfl)
      · skip
        refine v_iconst X dX2_has_17 ?_
        refine v_goto (tgt := 22) X dX2_has_18 (by decide) ?_
        exact v_zret X Y dX2_has_22 (by first | decide | omega | (split <;> omega)) (u := ()) (by first | rfl | omega | (split <;> omega) | (simp [*]; done)) (by rfl)

theorem hdX2_sortOf : yX2_sortOf.cls = RX2 ∧ yX2_sortOf.cls ≠ "java/lang/invoke/MethodHandle" ∧ yX2_sortOf.cls ≠ "java/lang/invoke/VarHandle" ∧ (parseMethodDescriptor yX2_sortOf.desc).map (fun d => d.parameters.length) = some 1 := ⟨rfl, by decide +kernel, by decide +kernel, by decide +kernel⟩
set_option maxHeartbeats 4000000 in
set_option maxRecDepth 100000 in
theorem c_X2_sortOf {g : Gx} {a a1 a2 a3 : Nat} {mk cn : Int} {so tu sp : Nat → Int} {h : Int} (hcn : 0 ≤ cn ∧ cn ≤ 4) (hso : Bd 0 5 so) (hh : R32 h) : CtE g yX2_sortOf wsX2_sortOf 1 21 [.ref a, .int (iI h)] (wClk g a a1 a2 a3 mk cn so tu sp) (atI cn so h) (wClk g a a1 a2 a3 mk cn so tu sp) := by
  refine m_go (cc := cX2_sortOf) (nL := 2) (by decide +kernel) rfl (Nat.le_of_ble_eq_true rfl) (fun x X Y hnm => ?_)
  refine v_eq (lo2 := [some (.ref a), some (.int (iI h))]) rfl rfl rfl rfl ?_
  refine v_aload_n X dX2_sortOf_0 rfl ?_
  refine v_iload_n X dX2_sortOf_1 rfl ?_
  refine res_E X (run_V X (c_X2_has (g := g) (by first | assumption | omega) (by first | assumption | omega)) gX2_sortOf_X2_has rfl hdX2_has ⟨(Nat.le_of_ble_eq_true rfl), (Nat.le_of_ble_eq_true rfl)⟩ ⟨(Nat.le_of_ble_eq_true rfl), (Nat.le_of_ble_eq_true rfl)⟩ 0 rfl rfl rfl [0, 1, 2, 3] rfl rfl rfl rfl (by simp [Value.category]) dX2_sortOf_2) [0, 1, 2, 3] rfl rfl ?_
  refine v_ifb_eq (tgt := 17) X dX2_sortOf_5 (by decide) (fun c1 => ?_) (fun c1 => ?_)
  · skip
    refine v_iconst X dX2_sortOf_17 ?_
    exact v_iret X Y dX2_sortOf_18 (u := ()) (by unfold atI; split <;> omega) (by rfl)
  · skip
    refine v_aload_n X dX2_sortOf_8 rfl ?_
    refine v_get X (fun _ h => List.mem_cons_of_mem _ (List.mem_append_right _ h)) 0 rfl rfl 0 (by decide) rfl (List.mem_of_getElem? (i := 1) rfl) rfl dX2_sortOf_9 ?_
    refine v_iload_n X dX2_sortOf_12 rfl ?_
    refine v_iald X 1 rfl (by omega) (by omega) (by omega) dX2_sortOf_13 hso (fun z2 ez2 lz2 uz2 => ?_)
    refine v_goto (tgt := 18) X dX2_sortOf_14 (by decide) ?_
    exact v_iret X Y dX2_sortOf_18 (u := ()) (by unfold atI; split <;> omega) (by rfl)

theorem hdX2_turnsOf : yX2_turnsOf.cls = RX2 ∧ yX2_turnsOf.cls ≠ "java/lang/invoke/MethodHandle" ∧ yX2_turnsOf.cls ≠ "java/lang/invoke/VarHandle" ∧ (parseMethodDescriptor yX2_turnsOf.desc).map (fun d => d.parameters.length) = some 1 := ⟨rfl, by decide +kernel, by decide +kernel, by decide +kernel⟩
set_option maxHeartbeats 4000000 in
set_option maxRecDepth 100000 in
theorem c_X2_turnsOf {g : Gx} {a a1 a2 a3 : Nat} {mk cn : Int} {so tu sp : Nat → Int} {h : Int} (hcn : 0 ≤ cn ∧ cn ≤ 4) (htu : Bd 0 12 tu) (hh : R32 h) : CtE g yX2_turnsOf wsX2_turnsOf 1 21 [.ref a, .int (iI h)] (wClk g a a1 a2 a3 mk cn so tu sp) (atI cn tu h) (wClk g a a1 a2 a3 mk cn so tu sp) := by
  refine m_go (cc := cX2_turnsOf) (nL := 2) (by decide +kernel) rfl (Nat.le_of_ble_eq_true rfl) (fun x X Y hnm => ?_)
  refine v_eq (lo2 := [some (.ref a), some (.int (iI h))]) rfl rfl rfl rfl ?_
  refine v_aload_n X dX2_turnsOf_0 rfl ?_
  refine v_iload_n X dX2_turnsOf_1 rfl ?_
  refine res_E X (run_V X (c_X2_has (g := g) (by first | assumption | omega) (by first | assumption | omega)) gX2_turnsOf_X2_has rfl hdX2_has ⟨(Nat.le_of_ble_eq_true rfl), (Nat.le_of_ble_eq_true rfl)⟩ ⟨(Nat.le_of_ble_eq_true rfl), (Nat.le_of_ble_eq_true rfl)⟩ 0 rfl rfl rfl [0, 1, 2, 3] rfl rfl rfl rfl (by simp [Value.category]) dX2_turnsOf_2) [0, 1, 2, 3] rfl rfl ?_
  refine v_ifb_eq (tgt := 17) X dX2_turnsOf_5 (by decide) (fun c1 => ?_) (fun c1 => ?_)
  · skip
    refine v_iconst X dX2_turnsOf_17 ?_
    exact v_iret X Y dX2_turnsOf_18 (u := ()) (by unfold atI; split <;> omega) (by rfl)
  · skip
    refine v_aload_n X dX2_turnsOf_8 rfl ?_
    refine v_get X (fun _ h => List.mem_cons_of_mem _ (List.mem_append_right _ h)) 0 rfl rfl 1 (by decide) rfl (List.mem_of_getElem? (i := 1) rfl) rfl dX2_turnsOf_9 ?_
    refine v_iload_n X dX2_turnsOf_12 rfl ?_
    refine v_iald X 2 rfl (by omega) (by omega) (by omega) dX2_turnsOf_13 htu (fun z2 ez2 lz2 uz2 => ?_)
    refine v_goto (tgt := 18) X dX2_turnsOf_14 (by decide) ?_
    exact v_iret X Y dX2_turnsOf_18 (u := ()) (by unfold atI; split <;> omega) (by rfl)

theorem hdX2_slipOf : yX2_slipOf.cls = RX2 ∧ yX2_slipOf.cls ≠ "java/lang/invoke/MethodHandle" ∧ yX2_slipOf.cls ≠ "java/lang/invoke/VarHandle" ∧ (parseMethodDescriptor yX2_slipOf.desc).map (fun d => d.parameters.length) = some 1 := ⟨rfl, by decide +kernel, by decide +kernel, by decide +kernel⟩
set_option maxHeartbeats 4000000 in
set_option maxRecDepth 100000 in
theorem c_X2_slipOf {g : Gx} {a a1 a2 a3 : Nat} {mk cn : Int} {so tu sp : Nat → Int} {h : Int} (hcn : 0 ≤ cn ∧ cn ≤ 4) (hsp : Bd 0 59 sp) (hh : R32 h) : CtE g yX2_slipOf wsX2_slipOf 1 21 [.ref a, .int (iI h)] (wClk g a a1 a2 a3 mk cn so tu sp) (atI cn sp h) (wClk g a a1 a2 a3 mk cn so tu sp) := by
  refine m_go (cc := cX2_slipOf) (nL := 2) (by decide +kernel) rfl (Nat.le_of_ble_eq_true rfl) (fun x X Y hnm => ?_)
  refine v_eq (lo2 := [some (.ref a), some (.int (iI h))]) rfl rfl rfl rfl ?_
  refine v_aload_n X dX2_slipOf_0 rfl ?_
  refine v_iload_n X dX2_slipOf_1 rfl ?_
  refine res_E X (run_V X (c_X2_has (g := g) (by first | assumption | omega) (by first | assumption | omega)) gX2_slipOf_X2_has rfl hdX2_has ⟨(Nat.le_of_ble_eq_true rfl), (Nat.le_of_ble_eq_true rfl)⟩ ⟨(Nat.le_of_ble_eq_true rfl), (Nat.le_of_ble_eq_true rfl)⟩ 0 rfl rfl rfl [0, 1, 2, 3] rfl rfl rfl rfl (by simp [Value.category]) dX2_slipOf_2) [0, 1, 2, 3] rfl rfl ?_
  refine v_ifb_eq (tgt := 17) X dX2_slipOf_5 (by decide) (fun c1 => ?_) (fun c1 => ?_)
  · skip
    refine v_iconst X dX2_slipOf_17 ?_
    exact v_iret X Y dX2_slipOf_18 (u := ()) (by unfold atI; split <;> omega) (by rfl)
  · skip
    refine v_aload_n X dX2_slipOf_8 rfl ?_
    refine v_get X (fun _ h => List.mem_cons_of_mem _ (List.mem_append_right _ h)) 0 rfl rfl 2 (by decide) rfl (List.mem_of_getElem? (i := 1) rfl) rfl dX2_slipOf_9 ?_
    refine v_iload_n X dX2_slipOf_12 rfl ?_
    refine v_iald X 3 rfl (by omega) (by omega) (by omega) dX2_slipOf_13 hsp (fun z2 ez2 lz2 uz2 => ?_)
    refine v_goto (tgt := 18) X dX2_slipOf_14 (by decide) ?_
    exact v_iret X Y dX2_slipOf_18 (u := ()) (by unfold atI; split <;> omega) (by rfl)

theorem hdX2_speedOf : yX2_speedOf.cls = RX2 ∧ yX2_speedOf.cls ≠ "java/lang/invoke/MethodHandle" ∧ yX2_speedOf.cls ≠ "java/lang/invoke/VarHandle" ∧ (parseMethodDescriptor yX2_speedOf.desc).map (fun d => d.parameters.length) = some 1 := ⟨rfl, by decide +kernel, by decide +kernel, by decide +kernel⟩
set_option maxHeartbeats 4000000 in
set_option maxRecDepth 100000 in
theorem c_X2_speedOf {g : Gx} {a a1 a2 a3 : Nat} {mk cn : Int} {so tu sp : Nat → Int} {h : Int} (hcn : 0 ≤ cn ∧ cn ≤ 4) (hso : Bd 0 5 so) (htu : Bd 0 12 tu) (hh : R32 h) : CtE g yX2_speedOf wsX2_speedOf 2 42 [.ref a, .int (iI h)] (wClk g a a1 a2 a3 mk cn so tu sp) (spdI cn so tu h) (wClk g a a1 a2 a3 mk cn so tu sp) := by
  refine m_go (cc := cX2_speedOf) (nL := 3) (by decide +kernel) rfl (Nat.le_of_ble_eq_true rfl) (fun x X Y hnm => ?_)
  refine v_eq (lo2 := [some (.ref a), some (.int (iI h)), none]) rfl rfl rfl rfl ?_
  have q1 := atI_bd (cn := cn) (h := h) hso (by omega) (by omega)
  have q2 := atI_bd (cn := cn) (h := h) htu (by omega) (by omega)
  refine v_aload_n X dX2_speedOf_0 rfl ?_
  refine v_iload_n X dX2_speedOf_1 rfl ?_
  refine res_E X (run_V X (c_X2_sortOf (g := g) (by first | assumption | omega) (by first | assumption | omega) (by first | assumption | omega)) gX2_speedOf_X2_sortOf rfl hdX2_sortOf ⟨(Nat.le_of_ble_eq_true rfl), (Nat.le_of_ble_eq_true rfl)⟩ ⟨(Nat.le_of_ble_eq_true rfl), (Nat.le_of_ble_eq_true rfl)⟩ 0 rfl rfl rfl [0, 1, 2, 3] rfl rfl rfl rfl (by simp [Value.category]) dX2_speedOf_2) [0, 1, 2, 3] rfl rfl ?_
  refine v_istore_n X dX2_speedOf_5 2 rfl (by decide) rfl ?_
  dsimp only [List.set]
  refine v_iload_n X dX2_speedOf_6 rfl ?_
  refine v_iconst X dX2_speedOf_7 ?_
  refine v_icmp_ne (tgt := 18) X dX2_speedOf_8 (by decide) (by omega) (by omega) (fun c1 => ?_) (fun c1 => ?_)
  · skip
    refine v_iload_n X dX2_speedOf_18 rfl ?_
    refine v_iconst X dX2_speedOf_19 ?_
    refine v_icmp_ne (tgt := 33) X dX2_speedOf_20 (by decide) (by omega) (by omega) (fun c2 => ?_) (fun c2 => ?_)
    · skip
      refine v_aload_n X dX2_speedOf_33 rfl ?_
      refine v_iload_n X dX2_speedOf_34 rfl ?_
      refine res_E X (run_V X (c_X2_turnsOf (g := g) (by first | assumption | omega) (by first | assumption | omega) (by first | assumption | omega)) gX2_speedOf_X2_turnsOf rfl hdX2_turnsOf ⟨(Nat.le_of_ble_eq_true rfl), (Nat.le_of_ble_eq_true rfl)⟩ ⟨(Nat.le_of_ble_eq_true rfl), (Nat.le_of_ble_eq_true rfl)⟩ 0 rfl rfl rfl [0, 1, 2, 3] rfl rfl rfl rfl (by simp [Value.category]) dX2_speedOf_35) [0, 1, 2, 3] rfl rfl ?_
      exact v_iret X Y dX2_speedOf_38 (u := ()) (by unfold spdI; split <;> first | omega | (split <;> omega)) (by rfl)
    · skip
      refine v_iconst X dX2_speedOf_23 ?_
      refine v_aload_n X dX2_speedOf_24 rfl ?_
      refine v_iload_n X dX2_speedOf_25 rfl ?_
      refine res_E X (run_V X (c_X2_turnsOf (g := g) (by first | assumption | omega) (by first | assumption | omega) (by first | assumption | omega)) gX2_speedOf_X2_turnsOf rfl hdX2_turnsOf ⟨(Nat.le_of_ble_eq_true rfl), (Nat.le_of_ble_eq_true rfl)⟩ ⟨(Nat.le_of_ble_eq_true rfl), (Nat.le_of_ble_eq_true rfl)⟩ 0 rfl rfl rfl [0, 1, 2, 3] rfl rfl rfl rfl (by simp [Value.category]) dX2_speedOf_26) [0, 1, 2, 3] rfl rfl ?_
      refine v_imul X dX2_speedOf_29 ?_
      refine v_goto (tgt := 38) X dX2_speedOf_30 (by decide) ?_
      exact v_iret X Y dX2_speedOf_38 (u := ()) (by unfold spdI; split <;> first | omega | (split <;> omega)) (by rfl)
  · skip
    refine v_aload_n X dX2_speedOf_11 rfl ?_
    refine v_iload_n X dX2_speedOf_12 rfl ?_
    refine res_E X (run_V X (c_X2_turnsOf (g := g) (by first | assumption | omega) (by first | assumption | omega) (by first | assumption | omega)) gX2_speedOf_X2_turnsOf rfl hdX2_turnsOf ⟨(Nat.le_of_ble_eq_true rfl), (Nat.le_of_ble_eq_true rfl)⟩ ⟨(Nat.le_of_ble_eq_true rfl), (Nat.le_of_ble_eq_true rfl)⟩ 0 rfl rfl rfl [0, 1, 2, 3] rfl rfl rfl rfl (by simp [Value.category]) dX2_speedOf_13) [0, 1, 2, 3] rfl rfl ?_
    refine v_ineg X dX2_speedOf_16 ?_
    exact v_iret X Y dX2_speedOf_17 (u := ()) (by unfold spdI; split <;> first | omega | (split <;> omega)) (by rfl)

theorem hdX2_arcBelow : yX2_arcBelow.cls = RX2 ∧ yX2_arcBelow.cls ≠ "java/lang/invoke/MethodHandle" ∧ yX2_arcBelow.cls ≠ "java/lang/invoke/VarHandle" ∧ (parseMethodDescriptor yX2_arcBelow.desc).map (fun d => d.parameters.length) = some 1 := ⟨rfl, by decide +kernel, by decide +kernel, by decide +kernel⟩
set_option maxHeartbeats 4000000 in
set_option maxRecDepth 100000 in
theorem c_X2_arcBelow {g : Gx} {a a1 a2 a3 : Nat} {mk cn : Int} {so tu sp : Nat → Int} {q : Int}  : CtE g yX2_arcBelow wsX2_arcBelow 0 0 [.ref a, .int (iI q)] (wClk g a a1 a2 a3 mk cn so tu sp) (q * mk) (wClk g a a1 a2 a3 mk cn so tu sp) := by
  refine m_go (cc := cX2_arcBelow) (nL := 2) (by decide +kernel) rfl (Nat.le_of_ble_eq_true rfl) (fun x X Y hnm => ?_)
  refine v_eq (lo2 := [some (.ref a), some (.int (iI q))]) rfl rfl rfl rfl ?_
  refine v_iload_n X dX2_arcBelow_0 rfl ?_
  refine v_aload_n X dX2_arcBelow_1 rfl ?_
  refine v_get X (fun _ h => List.mem_cons_of_mem _ (List.mem_append_right _ h)) 0 rfl rfl 3 (by decide) rfl (List.mem_of_getElem? (i := 1) rfl) rfl dX2_arcBelow_2 ?_
  refine v_imul X dX2_arcBelow_5 ?_
  exact v_iret X Y dX2_arcBelow_6 (u := ()) (by rfl) (by rfl)

theorem hdX2_arcAbove : yX2_arcAbove.cls = RX2 ∧ yX2_arcAbove.cls ≠ "java/lang/invoke/MethodHandle" ∧ yX2_arcAbove.cls ≠ "java/lang/invoke/VarHandle" ∧ (parseMethodDescriptor yX2_arcAbove.desc).map (fun d => d.parameters.length) = some 3 := ⟨rfl, by decide +kernel, by decide +kernel, by decide +kernel⟩
set_option maxHeartbeats 4000000 in
set_option maxRecDepth 100000 in
theorem c_X2_arcAbove {g : Gx} {a a1 a2 a3 : Nat} {mk cn : Int} {so tu sp : Nat → Int} {h p q : Int} (hcn : 0 ≤ cn ∧ cn ≤ 4) (hso : Bd 0 5 so) (htu : Bd 0 12 tu) (hsp : Bd 0 59 sp) (hmk : 0 ≤ mk ∧ mk ≤ 60) (hh : R32 h) (hp : 0 ≤ p ∧ p ≤ 9999) (hq : 0 ≤ q ∧ q ≤ 9999) : CtE g yX2_arcAbove wsX2_arcAbove 3 64 [.ref a, .int (iI h), .int (iI p), .int (iI q)] (wClk g a a1 a2 a3 mk cn so tu sp) (restI (spdI cn so tu h * p * mk + atI cn sp h * q) (q * mk)) (wClk g a a1 a2 a3 mk cn so tu sp) := by
  refine m_go (cc := cX2_arcAbove) (nL := 4) (by decide +kernel) rfl (Nat.le_of_ble_eq_true rfl) (fun x X Y hnm => ?_)
  refine v_eq (lo2 := [some (.ref a), some (.int (iI h)), some (.int (iI p)), some (.int (iI q))]) rfl rfl rfl rfl ?_
  have q1 := spdI_bd (cn := cn) (so := so) (h := h) htu
  have q2 := atI_bd (cn := cn) (h := h) hsp (by omega) (by omega)
  have q3 := mul_bd q1 hp
  have q4 := mul_bd q3 hmk
  have q5 := mul_bd (A := 59) ⟨by omega, q2.2⟩ hq
  have q6 := mul_nn hq hmk
  refine v_aload_n X dX2_arcAbove_0 rfl ?_
  refine v_iload_n X dX2_arcAbove_1 rfl ?_
  refine res_E X (run_V X (c_X2_speedOf (g := g) (by first | assumption | omega) (by first | assumption | omega) (by first | assumption | omega) (by first | assumption | omega)) gX2_arcAbove_X2_speedOf rfl hdX2_speedOf ⟨(Nat.le_of_ble_eq_true rfl), (Nat.le_of_ble_eq_true rfl)⟩ ⟨(Nat.le_of_ble_eq_true rfl), (Nat.le_of_ble_eq_true rfl)⟩ 0 rfl rfl rfl [0, 1, 2, 3] rfl rfl rfl rfl (by simp [Value.category]) dX2_arcAbove_2) [0, 1, 2, 3] rfl rfl ?_
  refine v_iload_n X dX2_arcAbove_5 rfl ?_
  refine v_imul X dX2_arcAbove_6 ?_
  refine v_aload_n X dX2_arcAbove_7 rfl ?_
  refine v_get X (fun _ h => List.mem_cons_of_mem _ (List.mem_append_right _ h)) 0 rfl rfl 3 (by decide) rfl (List.mem_of_getElem? (i := 1) rfl) rfl dX2_arcAbove_8 ?_
  refine v_imul X dX2_arcAbove_11 ?_
  refine v_aload_n X dX2_arcAbove_12 rfl ?_
  refine v_iload_n X dX2_arcAbove_13 rfl ?_
  refine res_E X (run_V X (c_X2_slipOf (g := g) (by first | assumption | omega) (by first | assumption | omega) (by first | assumption | omega)) gX2_arcAbove_X2_slipOf rfl hdX2_slipOf ⟨(Nat.le_of_ble_eq_true rfl), (Nat.le_of_ble_eq_true rfl)⟩ ⟨(Nat.le_of_ble_eq_true rfl), (Nat.le_of_ble_eq_true rfl)⟩ 0 rfl rfl rfl [0, 1, 2, 3] rfl rfl rfl rfl (by simp [Value.category]) dX2_arcAbove_14) [0, 1, 2, 3] rfl rfl ?_
  refine v_iload_n X dX2_arcAbove_17 rfl ?_
  refine v_imul X dX2_arcAbove_18 ?_
  refine v_iadd X dX2_arcAbove_19 ?_
  refine v_aload_n X dX2_arcAbove_20 rfl ?_
  refine v_iload_n X dX2_arcAbove_21 rfl ?_
  refine res_E X (run_V X (c_X2_arcBelow (g := g) ) gX2_arcAbove_X2_arcBelow rfl hdX2_arcBelow ⟨(Nat.le_of_ble_eq_true rfl), (Nat.le_of_ble_eq_true rfl)⟩ ⟨(Nat.le_of_ble_eq_true rfl), (Nat.le_of_ble_eq_true rfl)⟩ 0 rfl rfl rfl [0, 1, 2, 3] rfl rfl rfl rfl (by simp [Value.category]) dX2_arcAbove_22) [0, 1, 2, 3] rfl rfl ?_
  refine res_E X (run_SN X (c_X7_rest (g := g) (by first | assumption | omega) (by first | assumption | omega)) gX2_arcAbove_X7_rest_n48 rfl (List.mem_of_getElem? (i := 10) rfl) (List.mem_of_getElem? (i := 32) rfl) (List.mem_of_getElem? (i := 31) rfl) hdX7_rest.2 ⟨(Nat.le_of_ble_eq_true rfl), (Nat.le_of_ble_eq_true rfl)⟩ ⟨(Nat.le_of_ble_eq_true rfl), (Nat.le_of_ble_eq_true rfl)⟩ [] rfl rfl rfl rfl (by simp [Value.category]) dX2_arcAbove_25) [] rfl rfl ?_
  exact v_iret X Y dX2_arcAbove_28 (u := ()) (by rfl) (by rfl)

theorem hdX2_slippedHands : yX2_slippedHands.cls = RX2 ∧ yX2_slippedHands.cls ≠ "java/lang/invoke/MethodHandle" ∧ yX2_slippedHands.cls ≠ "java/lang/invoke/VarHandle" ∧ (parseMethodDescriptor yX2_slippedHands.desc).map (fun d => d.parameters.length) = some 0 := ⟨rfl, by decide +kernel, by decide +kernel, by decide +kernel⟩
set_option maxHeartbeats 4000000 in
set_option maxRecDepth 100000 in
theorem c_X2_slippedHands {g : Gx} {a a1 a2 a3 : Nat} {mk cn : Int} {so tu sp : Nat → Int}  (hcn : 0 ≤ cn ∧ cn ≤ 4) (hsp : Bd 0 59 sp) : CtE g yX2_slippedHands wsX2_slippedHands 2 42 [.ref a] (wClk g a a1 a2 a3 mk cn so tu sp) (cntN (fun j => decide (sp j ≠ 0)) cn.toNat) (wClk g a a1 a2 a3 mk cn so tu sp) := by
  refine m_go (cc := cX2_slippedHands) (nL := 3) (by decide +kernel) rfl (Nat.le_of_ble_eq_true rfl) (fun x X Y hnm => ?_)
  refine v_eq (lo2 := [some (.ref a), none, none]) rfl rfl rfl rfl ?_
  refine v_iconst X dX2_slippedHands_0 ?_
  refine v_istore_n X dX2_slippedHands_1 1 rfl (by decide) rfl ?_
  dsimp only [List.set]
  refine v_iconst X dX2_slippedHands_2 ?_
  refine v_istore_n X dX2_slippedHands_3 2 rfl (by decide) rfl ?_
  dsimp only [List.set]
  have L4 : ∀ (nf : Nat) (k : Int) (i : Int) (h1 : 0 ≤ i ∧ i ≤ cn) (h2 : k = cntN (fun j => decide (sp j ≠ 0)) i.toNat) (h3 : 0 ≤ k ∧ k ≤ i) (_ : (cn - i).toNat < nf), V g x 0 0 (wClk g a a1 a2 a3 mk cn so tu sp) [some (.ref a), some (.int (iI k)), some (.int (iI i))] 4 [] := by
    intro nf
    induction nf with
    | zero => intro k i h1 h2 h3 hmu; exact absurd hmu (Nat.not_lt_zero _)
    | succ nf ih4 =>
      intro k i h1 h2 h3 hmu
      refine v_iload_n X dX2_slippedHands_4 rfl ?_
      refine v_aload_n X dX2_slippedHands_5 rfl ?_
      refine v_get X (fun _ h => List.mem_cons_of_mem _ (List.mem_append_right _ h)) 0 rfl rfl 4 (by decide) rfl (List.mem_of_getElem? (i := 1) rfl) rfl dX2_slippedHands_6 ?_
      refine v_icmp_ge (tgt := 29) X dX2_slippedHands_9 (by decide) (by omega) (by omega) (fun c1 => ?_) (fun c1 => ?_)
      · skip
        refine v_iload_n X dX2_slippedHands_29 rfl ?_
        exact v_iret X Y dX2_slippedHands_30 (u := ()) (by
            have e : i = cn := by omega
            rw [h2, e]) (by rfl)
      · skip
        refine v_aload_n X dX2_slippedHands_12 rfl ?_
        refine v_iload_n X dX2_slippedHands_13 rfl ?_
        refine res_E X (run_V X (c_X2_slipOf (g := g) (by first | assumption | omega) (by first | assumption | omega) (by first | assumption | omega)) gX2_slippedHands_X2_slipOf rfl hdX2_slipOf ⟨(Nat.le_of_ble_eq_true rfl), (Nat.le_of_ble_eq_true rfl)⟩ ⟨(Nat.le_of_ble_eq_true rfl), (Nat.le_of_ble_eq_true rfl)⟩ 0 rfl rfl rfl [0, 1, 2, 3] rfl rfl rfl rfl (by simp [Value.category]) dX2_slippedHands_14) [0, 1, 2, 3] rfl rfl ?_
        have q1 := atI_bd (cn := cn) (h := i) hsp (by omega) (by omega)
        refine v_if_eq (tgt := 23) X dX2_slippedHands_17 (by decide) (by omega) (fun c2 => ?_) (fun c2 => ?_)
        · skip
          refine v_iinc X dX2_slippedHands_23 rfl (by decide) rfl ?_
          dsimp only [List.set]
          refine v_goto (tgt := 4) X dX2_slippedHands_26 (by decide) ?_
          exact ih4 _ _ (by omega) (by rw [cntN_s h1.1]; unfold atI at c2; rw [if_pos (by omega)] at c2; simp only [decide_eq_true_eq]; split <;> omega) (by omega) (by omega)
        · skip
          refine v_iinc X dX2_slippedHands_20 rfl (by decide) rfl ?_
          dsimp only [List.set]
          refine v_iinc X dX2_slippedHands_23 rfl (by decide) rfl ?_
          dsimp only [List.set]
          refine v_goto (tgt := 4) X dX2_slippedHands_26 (by decide) ?_
          exact ih4 _ _ (by omega) (by rw [cntN_s h1.1]; unfold atI at c2; rw [if_pos (by omega)] at c2; simp only [decide_eq_true_eq]; split <;> omega) (by omega) (by omega)
  exact L4 _ _ _ (by omega) (by rfl) (by omega) (Nat.lt_succ_self _)

theorem hdX2_setSlip : yX2_setSlip.cls = RX2 ∧ yX2_setSlip.cls ≠ "java/lang/invoke/MethodHandle" ∧ yX2_setSlip.cls ≠ "java/lang/invoke/VarHandle" ∧ (parseMethodDescriptor yX2_setSlip.desc).map (fun d => d.parameters.length) = some 2 := ⟨rfl, by decide +kernel, by decide +kernel, by decide +kernel⟩
set_option maxHeartbeats 4000000 in
set_option maxRecDepth 100000 in
theorem c_X2_setSlip {g : Gx} {a a1 a2 a3 : Nat} {mk cn : Int} {so tu sp : Nat → Int} {h v : Int} (hcn : 0 ≤ cn ∧ cn ≤ 4) (hh : 0 ≤ h ∧ h < cn) : CtW g yX2_setSlip wsX2_setSlip 1 21 [.ref a, .int (iI h), .int (iI v)] (wClk g a a1 a2 a3 mk cn so tu sp) (wClk g a a1 a2 a3 mk cn so tu (updI sp h.toNat v)) := by
  refine m_go (cc := cX2_setSlip) (nL := 3) (by decide +kernel) rfl (Nat.le_of_ble_eq_true rfl) (fun x X Y hnm => ?_)
  refine v_eq (lo2 := [some (.ref a), some (.int (iI h)), some (.int (iI v))]) rfl rfl rfl rfl ?_
  refine v_aload_n X dX2_setSlip_0 rfl ?_
  refine v_iload_n X dX2_setSlip_1 rfl ?_
  refine res_E X (run_V X (c_X2_has (g := g) (by first | assumption | omega) (by first | assumption | omega)) gX2_setSlip_X2_has rfl hdX2_has ⟨(Nat.le_of_ble_eq_true rfl), (Nat.le_of_ble_eq_true rfl)⟩ ⟨(Nat.le_of_ble_eq_true rfl), (Nat.le_of_ble_eq_true rfl)⟩ 0 rfl rfl rfl [0, 1, 2, 3] rfl rfl rfl rfl (by simp [Value.category]) dX2_setSlip_2) [0, 1, 2, 3] rfl rfl ?_
  refine v_ifb_eq (tgt := 15) X dX2_setSlip_5 (by decide) (fun c1 => ?_) (fun c1 => ?_)
  · skip
    exfalso; omega
  · skip
    refine v_aload_n X dX2_setSlip_8 rfl ?_
    refine v_get X (fun _ h => List.mem_cons_of_mem _ (List.mem_append_right _ h)) 0 rfl rfl 2 (by decide) rfl (List.mem_of_getElem? (i := 1) rfl) rfl dX2_setSlip_9 ?_
    refine v_iload_n X dX2_setSlip_12 rfl ?_
    refine v_iload_n X dX2_setSlip_13 rfl ?_
    refine v_iast X 3 rfl (by omega) (by omega) (by omega) dX2_setSlip_14 ?_
    dsimp only [List.set, wClk]
    exact v_vret X Y dX2_setSlip_15 (u := ()) trivial (by rfl)

theorem hdX2_add : yX2_add.cls = RX2 ∧ yX2_add.cls ≠ "java/lang/invoke/MethodHandle" ∧ yX2_add.cls ≠ "java/lang/invoke/VarHandle" ∧ (parseMethodDescriptor yX2_add.desc).map (fun d => d.parameters.length) = some 2 := ⟨rfl, by decide +kernel, by decide +kernel, by decide +kernel⟩
set_option maxHeartbeats 4000000 in
set_option maxRecDepth 100000 in
theorem c_X2_add {g : Gx} {a a1 a2 a3 : Nat} {mk cn : Int} {so tu sp : Nat → Int} {s t : Int} (hcn : 0 ≤ cn ∧ cn < 4) : CtW g yX2_add wsX2_add 0 0 [.ref a, .int (iI s), .int (iI t)] (wClk g a a1 a2 a3 mk cn so tu sp) (wClk g a a1 a2 a3 mk (cn + 1) (updI so cn.toNat s) (updI tu cn.toNat t) (updI sp cn.toNat 0)) := by
  refine m_go (cc := cX2_add) (nL := 3) (by decide +kernel) rfl (Nat.le_of_ble_eq_true rfl) (fun x X Y hnm => ?_)
  refine v_eq (lo2 := [some (.ref a), some (.int (iI s)), some (.int (iI t))]) rfl rfl rfl rfl ?_
  refine v_aload_n X dX2_add_0 rfl ?_
  refine v_get X (fun _ h => List.mem_cons_of_mem _ (List.mem_append_right _ h)) 0 rfl rfl 4 (by decide) rfl (List.mem_of_getElem? (i := 1) rfl) rfl dX2_add_1 ?_
  refine v_if_lt (tgt := 55) X dX2_add_4 (by decide) (by omega) (fun c1 => ?_) (fun c1 => ?_)
  · skip
    exfalso; omega
  · skip
    refine v_aload_n X dX2_add_7 rfl ?_
    refine v_get X (fun _ h => List.mem_cons_of_mem _ (List.mem_append_right _ h)) 0 rfl rfl 4 (by decide) rfl (List.mem_of_getElem? (i := 1) rfl) rfl dX2_add_8 ?_
    refine v_iconst X dX2_add_11 ?_
    refine v_icmp_ge (tgt := 55) X dX2_add_12 (by decide) (by omega) (by omega) (fun c2 => ?_) (fun c2 => ?_)
    · skip
      exfalso; omega
    · skip
      refine v_aload_n X dX2_add_15 rfl ?_
      refine v_get X (fun _ h => List.mem_cons_of_mem _ (List.mem_append_right _ h)) 0 rfl rfl 0 (by decide) rfl (List.mem_of_getElem? (i := 2) rfl) rfl dX2_add_16 ?_
      refine v_aload_n X dX2_add_19 rfl ?_
      refine v_get X (fun _ h => List.mem_cons_of_mem _ (List.mem_append_right _ h)) 0 rfl rfl 4 (by decide) rfl (List.mem_of_getElem? (i := 1) rfl) rfl dX2_add_20 ?_
      refine v_iload_n X dX2_add_23 rfl ?_
      refine v_iast X 1 rfl (by omega) (by omega) (by omega) dX2_add_24 ?_
      dsimp only [List.set, wClk]
      refine v_aload_n X dX2_add_25 rfl ?_
      refine v_get X (fun _ h => List.mem_cons_of_mem _ (List.mem_append_right _ h)) 0 rfl rfl 1 (by decide) rfl (List.mem_of_getElem? (i := 3) rfl) rfl dX2_add_26 ?_
      refine v_aload_n X dX2_add_29 rfl ?_
      refine v_get X (fun _ h => List.mem_cons_of_mem _ (List.mem_append_right _ h)) 0 rfl rfl 4 (by decide) rfl (List.mem_of_getElem? (i := 1) rfl) rfl dX2_add_30 ?_
      refine v_iload_n X dX2_add_33 rfl ?_
      refine v_iast X 2 rfl (by omega) (by omega) (by omega) dX2_add_34 ?_
      dsimp only [List.set, wClk]
      refine v_aload_n X dX2_add_35 rfl ?_
      refine v_get X (fun _ h => List.mem_cons_of_mem _ (List.mem_append_right _ h)) 0 rfl rfl 2 (by decide) rfl (List.mem_of_getElem? (i := 4) rfl) rfl dX2_add_36 ?_
      refine v_aload_n X dX2_add_39 rfl ?_
      refine v_get X (fun _ h => List.mem_cons_of_mem _ (List.mem_append_right _ h)) 0 rfl rfl 4 (by decide) rfl (List.mem_of_getElem? (i := 1) rfl) rfl dX2_add_40 ?_
      refine v_iconst X dX2_add_43 ?_
      refine v_iast X 3 rfl (by omega) (by omega) (by omega) dX2_add_44 ?_
      dsimp only [List.set, wClk]
      refine v_aload_n X dX2_add_45 rfl ?_
      refine v_dup X dX2_add_46 rfl ?_
      refine v_get X (fun _ h => List.mem_cons_of_mem _ (List.mem_append_right _ h)) 0 rfl rfl 4 (by decide) rfl (List.mem_of_getElem? (i := 1) rfl) rfl dX2_add_47 ?_
      refine v_iconst X dX2_add_50 ?_
      refine v_iadd X dX2_add_51 ?_
      refine v_put X (fun _ h => List.mem_cons_of_mem _ (List.mem_append_right _ h)) tyX2 tyX2_ok nmX2 0 rfl rfl 4 (by decide) rfl (List.mem_of_getElem? (i := 1) rfl) rfl rfl rfl (Nat.le_of_ble_eq_true rfl) dX2_add_52 ?_
      dsimp only [List.set, wClk]
      exact v_vret X Y dX2_add_55 (u := ()) trivial (by rfl)

theorem hdX2_become : yX2_become.cls = RX2 ∧ yX2_become.cls ≠ "java/lang/invoke/MethodHandle" ∧ yX2_become.cls ≠ "java/lang/invoke/VarHandle" ∧ (parseMethodDescriptor yX2_become.desc).map (fun d => d.parameters.length) = some 1 := ⟨rfl, by decide +kernel, by decide +kernel, by decide +kernel⟩
set_option maxHeartbeats 4000000 in
set_option maxRecDepth 100000 in
theorem c_X2_become {g : Gx} {a a1 a2 a3 b b1 b2 b3 : Nat} {mk cn mk2 cn2 : Int} {so tu sp so2 tu2 sp2 : Nat → Int} (hso : Bd 0 5 so2) (htu : Bd 0 12 tu2) (hsp : Bd 0 59 sp2) : CtV (S := (Nat → Int) × (Nat → Int) × (Nat → Int)) g yX2_become wsX2_become 0 0 [.ref a, .ref b] (wClk g a a1 a2 a3 mk cn so tu sp ++ wClk g b b1 b2 b3 mk2 cn2 so2 tu2 sp2) (fun u => ∀ j : Nat, u.1 j = (if j < 4 then so2 j else so j) ∧ u.2.1 j = (if j < 4 then tu2 j else tu j) ∧ u.2.2 j = (if j < 4 then sp2 j else sp j)) (fun u => wClk g a a1 a2 a3 mk2 cn2 u.1 u.2.1 u.2.2 ++ wClk g b b1 b2 b3 mk2 cn2 so2 tu2 sp2) := by
  refine m_go (cc := cX2_become) (nL := 3) (by decide +kernel) rfl (Nat.le_of_ble_eq_true rfl) (fun x X Y hnm => ?_)
  refine v_eq (lo2 := [some (.ref a), some (.ref b), none]) rfl rfl rfl rfl ?_
  refine v_aload_n X dX2_become_0 rfl ?_
  refine v_aload_n X dX2_become_1 rfl ?_
  refine v_get X (fun _ h => List.mem_cons_of_mem _ (List.mem_append_right _ h)) 4 rfl rfl 3 (by decide) rfl (List.mem_of_getElem? (i := 1) rfl) rfl dX2_become_2 ?_
  refine v_put X (fun _ h => List.mem_cons_of_mem _ (List.mem_append_right _ h)) tyX2 tyX2_ok nmX2 0 rfl rfl 3 (by decide) rfl (List.mem_of_getElem? (i := 1) rfl) rfl rfl rfl (Nat.le_of_ble_eq_true rfl) dX2_become_5 ?_
  dsimp only [List.set, wClk, List.cons_append, List.nil_append]
  refine v_aload_n X dX2_become_8 rfl ?_
  refine v_aload_n X dX2_become_9 rfl ?_
  refine v_get X (fun _ h => List.mem_cons_of_mem _ (List.mem_append_right _ h)) 4 rfl rfl 4 (by decide) rfl (List.mem_of_getElem? (i := 2) rfl) rfl dX2_become_10 ?_
  refine v_put X (fun _ h => List.mem_cons_of_mem _ (List.mem_append_right _ h)) tyX2 tyX2_ok nmX2 0 rfl rfl 4 (by decide) rfl (List.mem_of_getElem? (i := 2) rfl) rfl rfl rfl (Nat.le_of_ble_eq_true rfl) dX2_become_13 ?_
  dsimp only [List.set, wClk, List.cons_append, List.nil_append]
  refine v_iconst X dX2_become_16 ?_
  refine v_istore_n X dX2_become_17 2 rfl (by decide) rfl ?_
  dsimp only [List.set]
  have L18 : ∀ (nf : Nat) (f1 : Nat → Int) (f2 : Nat → Int) (f3 : Nat → Int) (i : Int) (h1 : 0 ≤ i ∧ i ≤ 4) (h2 : ∀ j : Nat, f1 j = (if (j : Int) < i then so2 j else so j) ∧ f2 j = (if (j : Int) < i then tu2 j else tu j) ∧ f3 j = (if (j : Int) < i then sp2 j else sp j)) (_ : (4 - i).toNat < nf), V g x 0 0 (wClk g a a1 a2 a3 mk2 cn2 f1 f2 f3 ++ wClk g b b1 b2 b3 mk2 cn2 so2 tu2 sp2) [some (.ref a), some (.ref b), some (.int (iI i))] 18 [] := by
    intro nf
    induction nf with
    | zero => intro f1 f2 f3 i h1 h2 hmu; exact absurd hmu (Nat.not_lt_zero _)
    | succ nf ih18 =>
      intro f1 f2 f3 i h1 h2 hmu
      refine v_iload_n X dX2_become_18 rfl ?_
      refine v_iconst X dX2_become_19 ?_
      refine v_icmp_ge (tgt := 65) X dX2_become_20 (by decide) (by omega) (by omega) (fun c1 => ?_) (fun c1 => ?_)
      · skip
        refine v_vret X Y dX2_become_65 (u := (f1, f2, f3)) ?_ rfl
        intro j
        have q := h2 j
        have e : i = 4 := by omega
        subst e
        by_cases e2 : j < 4
        · simp only [show (j : Int) < 4 by omega, e2, if_true] at q ⊢; exact q
        · simp only [show ¬ (j : Int) < 4 by omega, e2, if_false] at q ⊢; exact q
      · skip
        refine v_aload_n X dX2_become_23 rfl ?_
        refine v_get X (fun _ h => List.mem_cons_of_mem _ (List.mem_append_right _ h)) 0 rfl rfl 0 (by decide) rfl (List.mem_of_getElem? (i := 3) rfl) rfl dX2_become_24 ?_
        refine v_iload_n X dX2_become_27 rfl ?_
        refine v_aload_n X dX2_become_28 rfl ?_
        refine v_get X (fun _ h => List.mem_cons_of_mem _ (List.mem_append_right _ h)) 4 rfl rfl 0 (by decide) rfl (List.mem_of_getElem? (i := 3) rfl) rfl dX2_become_29 ?_
        refine v_iload_n X dX2_become_32 rfl ?_
        refine v_iald X 5 rfl (by omega) (by omega) (by omega) dX2_become_33 hso (fun za eza lza uza => ?_)
        refine v_iast X 1 rfl (by omega) (by omega) (by omega) dX2_become_34 ?_
        dsimp only [List.set, wClk, List.cons_append, List.nil_append]
        refine v_aload_n X dX2_become_35 rfl ?_
        refine v_get X (fun _ h => List.mem_cons_of_mem _ (List.mem_append_right _ h)) 0 rfl rfl 1 (by decide) rfl (List.mem_of_getElem? (i := 4) rfl) rfl dX2_become_36 ?_
        refine v_iload_n X dX2_become_39 rfl ?_
        refine v_aload_n X dX2_become_40 rfl ?_
        refine v_get X (fun _ h => List.mem_cons_of_mem _ (List.mem_append_right _ h)) 4 rfl rfl 1 (by decide) rfl (List.mem_of_getElem? (i := 4) rfl) rfl dX2_become_41 ?_
        refine v_iload_n X dX2_become_44 rfl ?_
        refine v_iald X 6 rfl (by omega) (by omega) (by omega) dX2_become_45 htu (fun zb ezb lzb uzb => ?_)
        refine v_iast X 2 rfl (by omega) (by omega) (by omega) dX2_become_46 ?_
        dsimp only [List.set, wClk, List.cons_append, List.nil_append]
        refine v_aload_n X dX2_become_47 rfl ?_
        refine v_get X (fun _ h => List.mem_cons_of_mem _ (List.mem_append_right _ h)) 0 rfl rfl 2 (by decide) rfl (List.mem_of_getElem? (i := 5) rfl) rfl dX2_become_48 ?_
        refine v_iload_n X dX2_become_51 rfl ?_
        refine v_aload_n X dX2_become_52 rfl ?_
        refine v_get X (fun _ h => List.mem_cons_of_mem _ (List.mem_append_right _ h)) 4 rfl rfl 2 (by decide) rfl (List.mem_of_getElem? (i := 5) rfl) rfl dX2_become_53 ?_
        refine v_iload_n X dX2_become_56 rfl ?_
        refine v_iald X 7 rfl (by omega) (by omega) (by omega) dX2_become_57 hsp (fun zc ezc lzc uzc => ?_)
        refine v_iast X 3 rfl (by omega) (by omega) (by omega) dX2_become_58 ?_
        dsimp only [List.set, wClk, List.cons_append, List.nil_append]
        refine v_iinc X dX2_become_59 rfl (by decide) rfl ?_
        dsimp only [List.set]
        refine v_goto (tgt := 18) X dX2_become_62 (by decide) ?_
        exact ih18 _ _ _ _ (by omega) (by
            intro j
            have q := h2 j
            rw [updI_e, updI_e, updI_e]
            by_cases e : j = i.toNat
            · rw [if_pos e, if_pos e, if_pos e, if_pos (by omega), if_pos (by omega), if_pos (by omega), e]; exact ⟨eza, ezb, ezc⟩
            · rw [if_neg e, if_neg e, if_neg e]
              by_cases e2 : (j : Int) < i
              · rw [if_pos e2, if_pos e2, if_pos e2] at q; rw [if_pos (by omega), if_pos (by omega), if_pos (by omega)]; exact q
              · rw [if_neg e2, if_neg e2, if_neg e2] at q; rw [if_neg (by omega), if_neg (by omega), if_neg (by omega)]; exact q) (by omega)
  exact L18 _ _ _ _ _ (by omega) (by intro j; rw [if_neg (by omega), if_neg (by omega), if_neg (by omega)]; exact ⟨rfl, rfl, rfl⟩) (Nat.lt_succ_self _)

theorem hdX5_laneOf : yX5_laneOf.cls = RX5 ∧ yX5_laneOf.cls ≠ "java/lang/invoke/MethodHandle" ∧ yX5_laneOf.cls ≠ "java/lang/invoke/VarHandle" ∧ (parseMethodDescriptor yX5_laneOf.desc).map (fun d => d.parameters.length) = some 1 := ⟨rfl, by decide +kernel, by decide +kernel, by decide +kernel⟩
set_option maxHeartbeats 4000000 in
set_option maxRecDepth 100000 in
theorem c_X5_laneOf {g : Gx} {a a1 a2 a3 : Nat} {it la le : Nat → Int} {r : Int} (hla : Bd (-1) 2 la) (hr : R32 r) : CtE g yX5_laneOf wsX5_laneOf 1 20 [.ref a, .int (iI r)] (wRow g a a1 a2 a3 it la le) (lanI la r) (wRow g a a1 a2 a3 it la le) := by
  refine m_go (cc := cX5_laneOf) (nL := 2) (by decide +kernel) rfl (Nat.le_of_ble_eq_true rfl) (fun x X Y hnm => ?_)
  refine v_eq (lo2 := [some (.ref a), some (.int (iI r))]) rfl rfl rfl rfl ?_
  refine v_iload_n X dX5_laneOf_0 rfl ?_
  refine res_E X (run_SN X (c_X7_isRow (g := g) (by first | assumption | omega)) gX5_laneOf_X7_isRow_n27 rfl (List.mem_of_getElem? (i := 6) rfl) (List.mem_of_getElem? (i := 3) rfl) (List.mem_of_getElem? (i := 2) rfl) hdX7_isRow.2 ⟨(Nat.le_of_ble_eq_true rfl), (Nat.le_of_ble_eq_true rfl)⟩ ⟨(Nat.le_of_ble_eq_true rfl), (Nat.le_of_ble_eq_true rfl)⟩ [] rfl rfl rfl rfl (by simp [Value.category]) dX5_laneOf_1) [] rfl rfl ?_
  refine v_ifb_eq (tgt := 16) X dX5_laneOf_4 (by decide) (fun c1 => ?_) (fun c1 => ?_)
  · skip
    refine v_iconst X dX5_laneOf_16 ?_
    exact v_iret X Y dX5_laneOf_17 (u := ()) (by unfold lanI; split <;> omega) (by rfl)
  · skip
    refine v_aload_n X dX5_laneOf_7 rfl ?_
    refine v_get X (fun _ h => List.mem_cons_of_mem _ (List.mem_append_right _ h)) 0 rfl rfl 1 (by decide) rfl (List.mem_of_getElem? (i := 1) rfl) rfl dX5_laneOf_8 ?_
    refine v_iload_n X dX5_laneOf_11 rfl ?_
    refine v_iald X 2 rfl (by omega) (by omega) (by omega) dX5_laneOf_12 hla (fun z2 ez2 lz2 uz2 => ?_)
    refine v_goto (tgt := 17) X dX5_laneOf_13 (by decide) ?_
    exact v_iret X Y dX5_laneOf_17 (u := ()) (by unfold lanI; split <;> omega) (by rfl)

theorem hdX5_isMissing : yX5_isMissing.cls = RX5 ∧ yX5_isMissing.cls ≠ "java/lang/invoke/MethodHandle" ∧ yX5_isMissing.cls ≠ "java/lang/invoke/VarHandle" ∧ (parseMethodDescriptor yX5_isMissing.desc).map (fun d => d.parameters.length) = some 1 := ⟨rfl, by decide +kernel, by decide +kernel, by decide +kernel⟩
set_option maxHeartbeats 4000000 in
set_option maxRecDepth 100000 in
theorem c_X5_isMissing {g : Gx} {a a1 a2 a3 : Nat} {it la le : Nat → Int} {r : Int} (hla : Bd (-1) 2 la) (hr : R32 r) : CtE g yX5_isMissing wsX5_isMissing 2 41 [.ref a, .int (iI r)] (wRow g a a1 a2 a3 it la le) (if lanI la r = -1 then 1 else 0) (wRow g a a1 a2 a3 it la le) := by
  refine m_go (cc := cX5_isMissing) (nL := 2) (by decide +kernel) rfl (Nat.le_of_ble_eq_true rfl) (fun x X Y hnm => ?_)
  refine v_eq (lo2 := [some (.ref a), some (.int (iI r))]) rfl rfl rfl rfl ?_
  have q1 := lanI_bd (r := r) hla
  refine v_aload_n X dX5_isMissing_0 rfl ?_
  refine v_iload_n X dX5_isMissing_1 rfl ?_
  refine res_E X (run_V X (c_X5_laneOf (g := g) (by first | assumption | omega) (by first | assumption | omega)) gX5_isMissing_X5_laneOf rfl hdX5_laneOf ⟨(Nat.le_of_ble_eq_true rfl), (Nat.le_of_ble_eq_true rfl)⟩ ⟨(Nat.le_of_ble_eq_true rfl), (Nat.le_of_ble_eq_true rfl)⟩ 0 rfl rfl rfl [0, 1, 2, 3] rfl rfl rfl rfl (by simp [Value.category]) dX5_isMissing_2) [0, 1, 2, 3] rfl rfl ?_
  refine v_iconst X dX5_isMissing_5 ?_
  refine v_icmp_ne (tgt := 13) X dX5_isMissing_6 (by decide) (by omega) (by omega) (fun c1 => ?_) (fun c1 => ?_)
  · skip
    refine v_iconst X dX5_isMissing_13 ?_
    exact v_zret X Y dX5_isMissing_14 (by first | decide | omega | (split <;> omega)) (u := ()) (by first | rfl | omega | (split <;> omega) | (simp [*]; done)) (by rfl)
  · skip
    refine v_iconst X dX5_isMissing_9 ?_
    refine v_goto (tgt := 14) X dX5_isMissing_10 (by decide) ?_
    exact v_zret X Y dX5_isMissing_14 (by first | decide | omega | (split <;> omega)) (u := ()) (by first | rfl | omega | (split <;> omega) | (simp [*]; done)) (by rfl)

theorem hdX5_length : yX5_length.cls = RX5 ∧ yX5_length.cls ≠ "java/lang/invoke/MethodHandle" ∧ yX5_length.cls ≠ "java/lang/invoke/VarHandle" ∧ (parseMethodDescriptor yX5_length.desc).map (fun d => d.parameters.length) = some 1 := ⟨rfl, by decide +kernel, by decide +kernel, by decide +kernel⟩
set_option maxHeartbeats 4000000 in
set_option maxRecDepth 100000 in
theorem c_X5_length {g : Gx} {a a1 a2 a3 : Nat} {it la le : Nat → Int} {r : Int} (hle : Bd 0 40 le) (hr : R32 r) : CtE g yX5_length wsX5_length 1 20 [.ref a, .int (iI r)] (wRow g a a1 a2 a3 it la le) (atI 8 le r) (wRow g a a1 a2 a3 it la le) := by
  refine m_go (cc := cX5_length) (nL := 2) (by decide +kernel) rfl (Nat.le_of_ble_eq_true rfl) (fun x X Y hnm => ?_)
  refine v_eq (lo2 := [some (.ref a), some (.int (iI r))]) rfl rfl rfl rfl ?_
  refine v_iload_n X dX5_length_0 rfl ?_
  refine res_E X (run_SN X (c_X7_isRow (g := g) (by first | assumption | omega)) gX5_length_X7_isRow_n27 rfl (List.mem_of_getElem? (i := 6) rfl) (List.mem_of_getElem? (i := 3) rfl) (List.mem_of_getElem? (i := 2) rfl) hdX7_isRow.2 ⟨(Nat.le_of_ble_eq_true rfl), (Nat.le_of_ble_eq_true rfl)⟩ ⟨(Nat.le_of_ble_eq_true rfl), (Nat.le_of_ble_eq_true rfl)⟩ [] rfl rfl rfl rfl (by simp [Value.category]) dX5_length_1) [] rfl rfl ?_
  refine v_ifb_eq (tgt := 16) X dX5_length_4 (by decide) (fun c1 => ?_) (fun c1 => ?_)
  · skip
    refine v_iconst X dX5_length_16 ?_
    exact v_iret X Y dX5_length_17 (u := ()) (by unfold atI; split <;> omega) (by rfl)
  · skip
    refine v_aload_n X dX5_length_7 rfl ?_
    refine v_get X (fun _ h => List.mem_cons_of_mem _ (List.mem_append_right _ h)) 0 rfl rfl 2 (by decide) rfl (List.mem_of_getElem? (i := 1) rfl) rfl dX5_length_8 ?_
    refine v_iload_n X dX5_length_11 rfl ?_
    refine v_iald X 3 rfl (by omega) (by omega) (by omega) dX5_length_12 hle (fun z2 ez2 lz2 uz2 => ?_)
    refine v_goto (tgt := 17) X dX5_length_13 (by decide) ?_
    exact v_iret X Y dX5_length_17 (u := ()) (by unfold atI; split <;> omega) (by rfl)

theorem hdX5_reaches : yX5_reaches.cls = RX5 ∧ yX5_reaches.cls ≠ "java/lang/invoke/MethodHandle" ∧ yX5_reaches.cls ≠ "java/lang/invoke/VarHandle" ∧ (parseMethodDescriptor yX5_reaches.desc).map (fun d => d.parameters.length) = some 3 := ⟨rfl, by decide +kernel, by decide +kernel, by decide +kernel⟩
set_option maxHeartbeats 4000000 in
set_option maxRecDepth 100000 in
theorem c_X5_reaches {g : Gx} {a a1 a2 a3 : Nat} {it la le : Nat → Int} {r i n : Int} (hle : Bd 0 40 le) (hr : R32 r) (hi : R32 i) (hn : R32 n) : CtE g yX5_reaches wsX5_reaches 2 41 [.ref a, .int (iI r), .int (iI i), .int (iI n)] (wRow g a a1 a2 a3 it la le) (rchI le r i n) (wRow g a a1 a2 a3 it la le) := by
  refine m_go (cc := cX5_reaches) (nL := 4) (by decide +kernel) rfl (Nat.le_of_ble_eq_true rfl) (fun x X Y hnm => ?_)
  refine v_eq (lo2 := [some (.ref a), some (.int (iI r)), some (.int (iI i)), some (.int (iI n))]) rfl rfl rfl rfl ?_
  have q1 := atI_bd (cn := 8) (h := r) hle (by omega) (by omega)
  refine v_iload_n X dX5_reaches_0 rfl ?_
  refine v_if_lt (tgt := 23) X dX5_reaches_1 (by decide) (by omega) (fun c1 => ?_) (fun c1 => ?_)
  · skip
    refine v_iconst X dX5_reaches_23 ?_
    exact v_zret X Y dX5_reaches_24 (by first | decide | omega | (split <;> omega)) (u := ()) (by unfold rchI; split <;> omega) (by rfl)
  · skip
    refine v_iload_n X dX5_reaches_4 rfl ?_
    refine v_if_lt (tgt := 23) X dX5_reaches_5 (by decide) (by omega) (fun c2 => ?_) (fun c2 => ?_)
    · skip
      refine v_iconst X dX5_reaches_23 ?_
      exact v_zret X Y dX5_reaches_24 (by first | decide | omega | (split <;> omega)) (u := ()) (by unfold rchI; split <;> omega) (by rfl)
    · skip
      refine v_iload_n X dX5_reaches_8 rfl ?_
      refine v_aload_n X dX5_reaches_9 rfl ?_
      refine v_iload_n X dX5_reaches_10 rfl ?_
      refine res_E X (run_V X (c_X5_length (g := g) (by first | assumption | omega) (by first | assumption | omega)) gX5_reaches_X5_length rfl hdX5_length ⟨(Nat.le_of_ble_eq_true rfl), (Nat.le_of_ble_eq_true rfl)⟩ ⟨(Nat.le_of_ble_eq_true rfl), (Nat.le_of_ble_eq_true rfl)⟩ 0 rfl rfl rfl [0, 1, 2, 3] rfl rfl rfl rfl (by simp [Value.category]) dX5_reaches_11) [0, 1, 2, 3] rfl rfl ?_
      refine v_iload_n X dX5_reaches_14 rfl ?_
      refine v_isub X dX5_reaches_15 ?_
      refine v_icmp_gt (tgt := 23) X dX5_reaches_16 (by decide) (by omega) (by omega) (fun c3 => ?_) (fun c3 => ?_)
      · skip
        refine v_iconst X dX5_reaches_23 ?_
        exact v_zret X Y dX5_reaches_24 (by first | decide | omega | (split <;> omega)) (u := ()) (by unfold rchI; split <;> omega) (by rfl)
      · skip
        refine v_iconst X dX5_reaches_19 ?_
        refine v_goto (tgt := 24) X dX5_reaches_20 (by decide) ?_
        exact v_zret X Y dX5_reaches_24 (by first | decide | omega | (split <;> omega)) (u := ()) (by unfold rchI; split <;> omega) (by rfl)

theorem hdX5_wrongAt : yX5_wrongAt.cls = RX5 ∧ yX5_wrongAt.cls ≠ "java/lang/invoke/MethodHandle" ∧ yX5_wrongAt.cls ≠ "java/lang/invoke/VarHandle" ∧ (parseMethodDescriptor yX5_wrongAt.desc).map (fun d => d.parameters.length) = some 3 := ⟨rfl, by decide +kernel, by decide +kernel, by decide +kernel⟩
set_option maxHeartbeats 4000000 in
set_option maxRecDepth 100000 in
theorem c_X5_wrongAt {g : Gx} {a a1 a2 a3 : Nat} {it la le : Nat → Int} {r i n : Int} (hla : Bd (-1) 2 la) (hle : Bd 0 40 le) (hr : R32 r) (hi : R32 i) (hn : R32 n) : CtE g yX5_wrongAt wsX5_wrongAt 3 64 [.ref a, .int (iI r), .int (iI i), .int (iI n)] (wRow g a a1 a2 a3 it la le) (wrgI la le r i n) (wRow g a a1 a2 a3 it la le) := by
  refine m_go (cc := cX5_wrongAt) (nL := 4) (by decide +kernel) rfl (Nat.le_of_ble_eq_true rfl) (fun x X Y hnm => ?_)
  refine v_eq (lo2 := [some (.ref a), some (.int (iI r)), some (.int (iI i)), some (.int (iI n))]) rfl rfl rfl rfl ?_
  have q1 := lanI_bd (r := r) hla
  have q2 := rchI_bd le r i n
  refine v_aload_n X dX5_wrongAt_0 rfl ?_
  refine v_iload_n X dX5_wrongAt_1 rfl ?_
  refine res_E X (run_V X (c_X5_isMissing (g := g) (by first | assumption | omega) (by first | assumption | omega)) gX5_wrongAt_X5_isMissing rfl hdX5_isMissing ⟨(Nat.le_of_ble_eq_true rfl), (Nat.le_of_ble_eq_true rfl)⟩ ⟨(Nat.le_of_ble_eq_true rfl), (Nat.le_of_ble_eq_true rfl)⟩ 0 rfl rfl rfl [0, 1, 2, 3] rfl rfl rfl rfl (by simp [Value.category]) dX5_wrongAt_2) [0, 1, 2, 3] rfl rfl ?_
  refine v_ifb_eq (tgt := 10) X dX5_wrongAt_5 (by decide) (fun c1 => ?_) (fun c1 => ?_)
  · skip
    refine v_aload_n X dX5_wrongAt_10 rfl ?_
    refine v_iload_n X dX5_wrongAt_11 rfl ?_
    refine v_iload_n X dX5_wrongAt_12 rfl ?_
    refine v_iload_n X dX5_wrongAt_13 rfl ?_
    refine res_E X (run_V X (c_X5_reaches (g := g) (by first | assumption | omega) (by first | assumption | omega) (by first | assumption | omega) (by first | assumption | omega)) gX5_wrongAt_X5_reaches rfl hdX5_reaches ⟨(Nat.le_of_ble_eq_true rfl), (Nat.le_of_ble_eq_true rfl)⟩ ⟨(Nat.le_of_ble_eq_true rfl), (Nat.le_of_ble_eq_true rfl)⟩ 0 rfl rfl rfl [0, 1, 2, 3] rfl rfl rfl rfl (by simp [Value.category]) dX5_wrongAt_14) [0, 1, 2, 3] rfl rfl ?_
    refine v_if_eq (tgt := 24) X dX5_wrongAt_17 (by decide) (by first | omega | (split <;> omega)) (fun c2 => ?_) (fun c2 => ?_)
    · skip
      refine v_iconst X dX5_wrongAt_24 ?_
      exact v_iret X Y dX5_wrongAt_25 (u := ()) (by unfold wrgI; first | rw [if_pos (by omega)] | (rw [if_neg (by omega)]; first | rw [if_pos (by omega)] | rw [if_neg (by omega)])) (by rfl)
    · skip
      refine v_iconst X dX5_wrongAt_20 ?_
      refine v_goto (tgt := 25) X dX5_wrongAt_21 (by decide) ?_
      exact v_iret X Y dX5_wrongAt_25 (u := ()) (by unfold wrgI; first | rw [if_pos (by omega)] | (rw [if_neg (by omega)]; first | rw [if_pos (by omega)] | rw [if_neg (by omega)])) (by rfl)
  · skip
    refine v_iconst X dX5_wrongAt_8 ?_
    exact v_iret X Y dX5_wrongAt_9 (u := ()) (by unfold wrgI; first | rw [if_pos (by omega)] | (rw [if_neg (by omega)]; first | rw [if_pos (by omega)] | rw [if_neg (by omega)])) (by rfl)

theorem hdX5_make : yX5_make.cls = RX5 ∧ yX5_make.cls ≠ "java/lang/invoke/MethodHandle" ∧ yX5_make.cls ≠ "java/lang/invoke/VarHandle" ∧ (parseMethodDescriptor yX5_make.desc).map (fun d => d.parameters.length) = some 3 := ⟨rfl, by decide +kernel, by decide +kernel, by decide +kernel⟩
set_option maxHeartbeats 4000000 in
set_option maxRecDepth 100000 in
theorem c_X5_make {g : Gx} {a a1 a2 a3 : Nat} {it la le : Nat → Int} {r l n : Int} (hr : 0 ≤ r ∧ r < 8) (hn : 0 ≤ n ∧ n ≤ 40) : CtV (S := Nat → Int) g yX5_make wsX5_make 1 22 [.ref a, .int (iI r), .int (iI l), .int (iI n)] (wRow g a a1 a2 a3 it la le) (fun f => ∀ j : Nat, f j = (if r * 40 ≤ (j : Int) ∧ (j : Int) < r * 40 + n then 0 else it j)) (fun f => wRow g a a1 a2 a3 f (updI la r.toNat l) (updI le r.toNat n)) := by
  refine m_go (cc := cX5_make) (nL := 5) (by decide +kernel) rfl (Nat.le_of_ble_eq_true rfl) (fun x X Y hnm => ?_)
  refine v_eq (lo2 := [some (.ref a), some (.int (iI r)), some (.int (iI l)), some (.int (iI n)), none]) rfl rfl rfl rfl ?_
  refine v_iload_n X dX5_make_0 rfl ?_
  refine res_E X (run_SN X (c_X7_isRow (g := g) (by first | assumption | omega)) gX5_make_X7_isRow_n27 rfl (List.mem_of_getElem? (i := 6) rfl) (List.mem_of_getElem? (i := 5) rfl) (List.mem_of_getElem? (i := 4) rfl) hdX7_isRow.2 ⟨(Nat.le_of_ble_eq_true rfl), (Nat.le_of_ble_eq_true rfl)⟩ ⟨(Nat.le_of_ble_eq_true rfl), (Nat.le_of_ble_eq_true rfl)⟩ [] rfl rfl rfl rfl (by simp [Value.category]) dX5_make_1) [] rfl rfl ?_
  refine v_ifb_eq (tgt := 17) X dX5_make_4 (by decide) (fun c1 => ?_) (fun c1 => ?_)
  · skip
    exfalso; omega
  · skip
    refine v_iload_n X dX5_make_7 rfl ?_
    refine v_iconst X dX5_make_8 ?_
    refine v_bipush X dX5_make_9 (by decide) ?_
    refine res_E X (run_SN X (c_X7_isWithin (g := g) (by first | assumption | omega) (by first | assumption | omega) (by first | assumption | omega)) gX5_make_X7_isWithin_n45 rfl (List.mem_of_getElem? (i := 7) rfl) (List.mem_of_getElem? (i := 5) rfl) (List.mem_of_getElem? (i := 7) rfl) hdX7_isWithin.2 ⟨(Nat.le_of_ble_eq_true rfl), (Nat.le_of_ble_eq_true rfl)⟩ ⟨(Nat.le_of_ble_eq_true rfl), (Nat.le_of_ble_eq_true rfl)⟩ [] rfl rfl rfl rfl (by simp [Value.category]) dX5_make_11) [] rfl rfl ?_
    refine v_ifb_ne (tgt := 18) X dX5_make_14 (by decide) (fun c2 => ?_) (fun c2 => ?_)
    · skip
      refine v_aload_n X dX5_make_18 rfl ?_
      refine v_get X (fun _ h => List.mem_cons_of_mem _ (List.mem_append_right _ h)) 0 rfl rfl 1 (by decide) rfl (List.mem_of_getElem? (i := 1) rfl) rfl dX5_make_19 ?_
      refine v_iload_n X dX5_make_22 rfl ?_
      refine v_iload_n X dX5_make_23 rfl ?_
      refine v_iast X 2 rfl (by first | omega | (split <;> omega)) (by first | omega | (split <;> omega)) (by first | omega | (split <;> omega)) dX5_make_24 ?_
      dsimp only [List.set, wRow]
      refine v_aload_n X dX5_make_25 rfl ?_
      refine v_get X (fun _ h => List.mem_cons_of_mem _ (List.mem_append_right _ h)) 0 rfl rfl 2 (by decide) rfl (List.mem_of_getElem? (i := 2) rfl) rfl dX5_make_26 ?_
      refine v_iload_n X dX5_make_29 rfl ?_
      refine v_iload_n X dX5_make_30 rfl ?_
      refine v_iast X 3 rfl (by first | omega | (split <;> omega)) (by first | omega | (split <;> omega)) (by first | omega | (split <;> omega)) dX5_make_31 ?_
      dsimp only [List.set, wRow]
      refine v_iconst X dX5_make_32 ?_
      refine v_istore X dX5_make_33 (by decide) rfl ?_
      dsimp only [List.set]
      have L35 : ∀ (nf : Nat) (f : Nat → Int) (i : Int) (h1 : 0 ≤ i ∧ i ≤ n) (h2 : ∀ j : Nat, f j = (if r * 40 ≤ (j : Int) ∧ (j : Int) < r * 40 + i then 0 else it j)) (_ : (n - i).toNat < nf), V g x 0 0 (wRow g a a1 a2 a3 f (updI la r.toNat l) (updI le r.toNat n)) [some (.ref a), some (.int (iI r)), some (.int (iI l)), some (.int (iI n)), some (.int (iI i))] 35 [] := by
        intro nf
        induction nf with
        | zero => intro f i h1 h2 hmu; exact absurd hmu (Nat.not_lt_zero _)
        | succ nf ih35 =>
          intro f i h1 h2 hmu
          refine v_iload X dX5_make_35 rfl ?_
          refine v_iload_n X dX5_make_37 rfl ?_
          refine v_icmp_ge (tgt := 60) X dX5_make_38 (by decide) (by first | omega | (split <;> omega)) (by first | omega | (split <;> omega)) (fun c3 => ?_) (fun c3 => ?_)
          · skip
            refine v_vret X Y dX5_make_60 (u := f) ?_ rfl
            have e : i = n := by omega
            rw [← e]; exact h2
          · skip
            refine v_aload_n X dX5_make_41 rfl ?_
            refine v_get X (fun _ h => List.mem_cons_of_mem _ (List.mem_append_right _ h)) 0 rfl rfl 0 (by decide) rfl (List.mem_of_getElem? (i := 3) rfl) rfl dX5_make_42 ?_
            refine v_iload_n X dX5_make_45 rfl ?_
            refine v_bipush X dX5_make_46 (by decide) ?_
            refine v_imul X dX5_make_48 ?_
            refine v_iload X dX5_make_49 rfl ?_
            refine v_iadd X dX5_make_51 ?_
            refine v_iconst X dX5_make_52 ?_
            refine v_iast X 1 rfl (by first | omega | (split <;> omega)) (by first | omega | (split <;> omega)) (by first | omega | (split <;> omega)) dX5_make_53 ?_
            dsimp only [List.set, wRow]
            refine v_iinc X dX5_make_54 rfl (by decide) rfl ?_
            dsimp only [List.set]
            refine v_goto (tgt := 35) X dX5_make_57 (by decide) ?_
            exact ih35 _ _ (by omega) (by intro j; rw [updI_e, h2 j]; split <;> split <;> (first | rfl | (split <;> first | rfl | omega) | omega)) (by omega)
      exact L35 _ _ _ (by omega) (by intro j; rw [if_neg (by omega)]) (Nat.lt_succ_self _)
    · skip
      exfalso; omega

theorem hdX5_lose : yX5_lose.cls = RX5 ∧ yX5_lose.cls ≠ "java/lang/invoke/MethodHandle" ∧ yX5_lose.cls ≠ "java/lang/invoke/VarHandle" ∧ (parseMethodDescriptor yX5_lose.desc).map (fun d => d.parameters.length) = some 1 := ⟨rfl, by decide +kernel, by decide +kernel, by decide +kernel⟩
set_option maxHeartbeats 4000000 in
set_option maxRecDepth 100000 in
theorem c_X5_lose {g : Gx} {a a1 a2 a3 : Nat} {it la le : Nat → Int} {r : Int} (hr : 0 ≤ r ∧ r < 8) : CtW g yX5_lose wsX5_lose 1 20 [.ref a, .int (iI r)] (wRow g a a1 a2 a3 it la le) (wRow g a a1 a2 a3 it (updI la r.toNat (-1)) (updI le r.toNat 0)) := by
  refine m_go (cc := cX5_lose) (nL := 2) (by decide +kernel) rfl (Nat.le_of_ble_eq_true rfl) (fun x X Y hnm => ?_)
  refine v_eq (lo2 := [some (.ref a), some (.int (iI r))]) rfl rfl rfl rfl ?_
  refine v_iload_n X dX5_lose_0 rfl ?_
  refine res_E X (run_SN X (c_X7_isRow (g := g) (by first | assumption | omega)) gX5_lose_X7_isRow_n27 rfl (List.mem_of_getElem? (i := 6) rfl) (List.mem_of_getElem? (i := 4) rfl) (List.mem_of_getElem? (i := 3) rfl) hdX7_isRow.2 ⟨(Nat.le_of_ble_eq_true rfl), (Nat.le_of_ble_eq_true rfl)⟩ ⟨(Nat.le_of_ble_eq_true rfl), (Nat.le_of_ble_eq_true rfl)⟩ [] rfl rfl rfl rfl (by simp [Value.category]) dX5_lose_1) [] rfl rfl ?_
  refine v_ifb_eq (tgt := 21) X dX5_lose_4 (by decide) (fun c1 => ?_) (fun c1 => ?_)
  · skip
    exfalso; omega
  · skip
    refine v_aload_n X dX5_lose_7 rfl ?_
    refine v_get X (fun _ h => List.mem_cons_of_mem _ (List.mem_append_right _ h)) 0 rfl rfl 1 (by decide) rfl (List.mem_of_getElem? (i := 1) rfl) rfl dX5_lose_8 ?_
    refine v_iload_n X dX5_lose_11 rfl ?_
    refine v_iconst X dX5_lose_12 ?_
    refine v_iast X 2 rfl (by first | omega | (split <;> omega)) (by first | omega | (split <;> omega)) (by first | omega | (split <;> omega)) dX5_lose_13 ?_
    dsimp only [List.set, wRow]
    refine v_aload_n X dX5_lose_14 rfl ?_
    refine v_get X (fun _ h => List.mem_cons_of_mem _ (List.mem_append_right _ h)) 0 rfl rfl 2 (by decide) rfl (List.mem_of_getElem? (i := 2) rfl) rfl dX5_lose_15 ?_
    refine v_iload_n X dX5_lose_18 rfl ?_
    refine v_iconst X dX5_lose_19 ?_
    refine v_iast X 3 rfl (by first | omega | (split <;> omega)) (by first | omega | (split <;> omega)) (by first | omega | (split <;> omega)) dX5_lose_20 ?_
    dsimp only [List.set, wRow]
    exact v_vret X Y dX5_lose_21 (u := ()) trivial (by rfl)

theorem hdX5_item : yX5_item.cls = RX5 ∧ yX5_item.cls ≠ "java/lang/invoke/MethodHandle" ∧ yX5_item.cls ≠ "java/lang/invoke/VarHandle" ∧ (parseMethodDescriptor yX5_item.desc).map (fun d => d.parameters.length) = some 2 := ⟨rfl, by decide +kernel, by decide +kernel, by decide +kernel⟩
set_option maxHeartbeats 4000000 in
set_option maxRecDepth 100000 in
theorem c_X5_item {g : Gx} {a a1 a2 a3 : Nat} {it la le : Nat → Int} {r i : Int} (hit : Bd (-2147483648) 2147483647 it) (hle : Bd 0 40 le) (hr : R32 r) (hi : R32 i) : CtE g yX5_item wsX5_item 3 64 [.ref a, .int (iI r), .int (iI i)] (wRow g a a1 a2 a3 it la le) (itmI it le r i) (wRow g a a1 a2 a3 it la le) := by
  refine m_go (cc := cX5_item) (nL := 3) (by decide +kernel) rfl (Nat.le_of_ble_eq_true rfl) (fun x X Y hnm => ?_)
  refine v_eq (lo2 := [some (.ref a), some (.int (iI r)), some (.int (iI i))]) rfl rfl rfl rfl ?_
  have q2 := rchI_bd le r i 1
  have q3 : rchI le r i 1 = 1 → 0 ≤ i ∧ i < 40 := fun h => by
    have q1 := atI_bd (cn := 8) (h := r) hle (by omega) (by omega)
    unfold rchI at h; split at h <;> omega
  refine v_iload_n X dX5_item_0 rfl ?_
  refine res_E X (run_SN X (c_X7_isRow (g := g) (by first | assumption | omega)) gX5_item_X7_isRow_n27 rfl (List.mem_of_getElem? (i := 6) rfl) (List.mem_of_getElem? (i := 3) rfl) (List.mem_of_getElem? (i := 2) rfl) hdX7_isRow.2 ⟨(Nat.le_of_ble_eq_true rfl), (Nat.le_of_ble_eq_true rfl)⟩ ⟨(Nat.le_of_ble_eq_true rfl), (Nat.le_of_ble_eq_true rfl)⟩ [] rfl rfl rfl rfl (by simp [Value.category]) dX5_item_1) [] rfl rfl ?_
  refine v_ifb_eq (tgt := 31) X dX5_item_4 (by decide) (fun c1 => ?_) (fun c1 => ?_)
  · skip
    refine v_iconst X dX5_item_31 ?_
    exact v_iret X Y dX5_item_32 (u := ()) (by unfold itmI; first | (rw [if_pos (by omega)]; assumption) | rw [if_neg (by omega)]) (by rfl)
  · skip
    refine v_aload_n X dX5_item_7 rfl ?_
    refine v_iload_n X dX5_item_8 rfl ?_
    refine v_iload_n X dX5_item_9 rfl ?_
    refine v_iconst X dX5_item_10 ?_
    refine res_E X (run_V X (c_X5_reaches (g := g) (by first | assumption | omega) (by first | assumption | omega) (by first | assumption | omega) (by first | assumption | omega)) gX5_item_X5_reaches rfl hdX5_reaches ⟨(Nat.le_of_ble_eq_true rfl), (Nat.le_of_ble_eq_true rfl)⟩ ⟨(Nat.le_of_ble_eq_true rfl), (Nat.le_of_ble_eq_true rfl)⟩ 0 rfl rfl rfl [0, 1, 2, 3] rfl rfl rfl rfl (by simp [Value.category]) dX5_item_11) [0, 1, 2, 3] rfl rfl ?_
    refine v_if_eq (tgt := 31) X dX5_item_14 (by decide) (by first | omega | (split <;> omega) | (split at c1 <;> omega)) (fun c2 => ?_) (fun c2 => ?_)
    · skip
      refine v_iconst X dX5_item_31 ?_
      exact v_iret X Y dX5_item_32 (u := ()) (by unfold itmI; first | (rw [if_pos (by omega)]; assumption) | rw [if_neg (by omega)]) (by rfl)
    · skip
      refine v_aload_n X dX5_item_17 rfl ?_
      refine v_get X (fun _ h => List.mem_cons_of_mem _ (List.mem_append_right _ h)) 0 rfl rfl 0 (by decide) rfl (List.mem_of_getElem? (i := 1) rfl) rfl dX5_item_18 ?_
      refine v_iload_n X dX5_item_21 rfl ?_
      refine v_bipush X dX5_item_22 (by decide) ?_
      refine v_imul X dX5_item_24 ?_
      refine v_iload_n X dX5_item_25 rfl ?_
      refine v_iadd X dX5_item_26 ?_
      refine v_iald X 1 rfl (by first | omega | (split <;> omega) | (split at c1 <;> omega)) (by first | omega | (split <;> omega) | (split at c1 <;> omega)) (by first | omega | (split <;> omega) | (split at c1 <;> omega)) dX5_item_27 hit (fun z3 ez3 lz3 uz3 => ?_)
      refine v_goto (tgt := 32) X dX5_item_28 (by decide) ?_
      exact v_iret X Y dX5_item_32 (u := ()) (by unfold itmI; first | (rw [if_pos (by omega)]; assumption) | rw [if_neg (by omega)]) (by rfl)

theorem hdX5_cut : yX5_cut.cls = RX5 ∧ yX5_cut.cls ≠ "java/lang/invoke/MethodHandle" ∧ yX5_cut.cls ≠ "java/lang/invoke/VarHandle" ∧ (parseMethodDescriptor yX5_cut.desc).map (fun d => d.parameters.length) = some 2 := ⟨rfl, by decide +kernel, by decide +kernel, by decide +kernel⟩
set_option maxHeartbeats 4000000 in
set_option maxRecDepth 100000 in
theorem c_X5_cut {g : Gx} {l v : Int} (hl : -1 ≤ l ∧ l ≤ 2) (hv : R32 v) : CtE g yX5_cut wsX5_cut 0 0 [.int (iI l), .int (iI v)] ([]) (cutI l v) ([]) := by
  refine m_go (cc := cX5_cut) (nL := 2) (by decide +kernel) rfl (Nat.le_of_ble_eq_true rfl) (fun x X Y hnm => ?_)
  refine v_eq (lo2 := [some (.int (iI l)), some (.int (iI v))]) rfl rfl rfl rfl ?_
  refine v_iload_n X dX5_cut_0 rfl ?_
  refine v_if_ne (tgt := 7) X dX5_cut_1 (by decide) (by omega) (fun c1 => ?_) (fun c1 => ?_)
  · skip
    refine v_iload_n X dX5_cut_7 rfl ?_
    refine v_iconst X dX5_cut_8 ?_
    refine v_icmp_ne (tgt := 17) X dX5_cut_9 (by decide) (by omega) (by omega) (fun c2 => ?_) (fun c2 => ?_)
    · skip
      refine v_iload_n X dX5_cut_17 rfl ?_
      exact v_iret X Y dX5_cut_18 (u := ()) (by unfold cutI; split <;> first | rfl | omega | (split <;> first | rfl | omega)) (by rfl)
    · skip
      refine v_iload_n X dX5_cut_12 rfl ?_
      refine v_i2s X dX5_cut_13 ?_
      refine v_goto (tgt := 18) X dX5_cut_14 (by decide) ?_
      exact v_iret X Y dX5_cut_18 (u := ()) (by unfold cutI; split <;> first | rfl | omega | (split <;> first | rfl | omega)) (by rfl)
  · skip
    refine v_iload_n X dX5_cut_4 rfl ?_
    refine v_i2b X dX5_cut_5 ?_
    exact v_iret X Y dX5_cut_6 (u := ()) (by unfold cutI; split <;> first | rfl | omega | (split <;> first | rfl | omega)) (by rfl)

theorem hdX5_put : yX5_put.cls = RX5 ∧ yX5_put.cls ≠ "java/lang/invoke/MethodHandle" ∧ yX5_put.cls ≠ "java/lang/invoke/VarHandle" ∧ (parseMethodDescriptor yX5_put.desc).map (fun d => d.parameters.length) = some 3 := ⟨rfl, by decide +kernel, by decide +kernel, by decide +kernel⟩
set_option maxHeartbeats 4000000 in
set_option maxRecDepth 100000 in
theorem c_X5_put {g : Gx} {a a1 a2 a3 : Nat} {it la le : Nat → Int} {r i v : Int} (hla : Bd (-1) 2 la) (hle : Bd 0 40 le) (hr : 0 ≤ r ∧ r < 8) (hi : 0 ≤ i ∧ i < le r.toNat) (hv : R32 v) : CtW g yX5_put wsX5_put 3 64 [.ref a, .int (iI r), .int (iI i), .int (iI v)] (wRow g a a1 a2 a3 it la le) (wRow g a a1 a2 a3 (updI it (r * 40 + i).toNat (cutI (lanI la r) v)) la le) := by
  refine m_go (cc := cX5_put) (nL := 4) (by decide +kernel) rfl (Nat.le_of_ble_eq_true rfl) (fun x X Y hnm => ?_)
  refine v_eq (lo2 := [some (.ref a), some (.int (iI r)), some (.int (iI i)), some (.int (iI v))]) rfl rfl rfl rfl ?_
  have q0 := hle r.toNat
  have q1 : atI 8 le r = le r.toNat := if_pos hr
  have q2 : rchI le r i 1 = 1 := if_pos (by omega)
  have q3 := lanI_bd (r := r) hla
  refine v_iload_n X dX5_put_0 rfl ?_
  refine res_E X (run_SN X (c_X7_isRow (g := g) (by first | assumption | omega)) gX5_put_X7_isRow_n27 rfl (List.mem_of_getElem? (i := 6) rfl) (List.mem_of_getElem? (i := 3) rfl) (List.mem_of_getElem? (i := 2) rfl) hdX7_isRow.2 ⟨(Nat.le_of_ble_eq_true rfl), (Nat.le_of_ble_eq_true rfl)⟩ ⟨(Nat.le_of_ble_eq_true rfl), (Nat.le_of_ble_eq_true rfl)⟩ [] rfl rfl rfl rfl (by simp [Value.category]) dX5_put_1) [] rfl rfl ?_
  refine v_ifb_eq (tgt := 37) X dX5_put_4 (by decide) (fun c1 => ?_) (fun c1 => ?_)
  · skip
    exfalso; omega
  · skip
    refine v_aload_n X dX5_put_7 rfl ?_
    refine v_iload_n X dX5_put_8 rfl ?_
    refine v_iload_n X dX5_put_9 rfl ?_
    refine v_iconst X dX5_put_10 ?_
    refine res_E X (run_V X (c_X5_reaches (g := g) (by first | assumption | omega) (by first | assumption | omega) (by first | assumption | omega) (by first | assumption | omega)) gX5_put_X5_reaches rfl hdX5_reaches ⟨(Nat.le_of_ble_eq_true rfl), (Nat.le_of_ble_eq_true rfl)⟩ ⟨(Nat.le_of_ble_eq_true rfl), (Nat.le_of_ble_eq_true rfl)⟩ 0 rfl rfl rfl [0, 1, 2, 3] rfl rfl rfl rfl (by simp [Value.category]) dX5_put_11) [0, 1, 2, 3] rfl rfl ?_
    refine v_if_eq (tgt := 37) X dX5_put_14 (by decide) (by first | omega | (split <;> omega)) (fun c2 => ?_) (fun c2 => ?_)
    · skip
      exfalso; omega
    · skip
      refine v_aload_n X dX5_put_17 rfl ?_
      refine v_get X (fun _ h => List.mem_cons_of_mem _ (List.mem_append_right _ h)) 0 rfl rfl 0 (by decide) rfl (List.mem_of_getElem? (i := 1) rfl) rfl dX5_put_18 ?_
      refine v_iload_n X dX5_put_21 rfl ?_
      refine v_bipush X dX5_put_22 (by decide) ?_
      refine v_imul X dX5_put_24 ?_
      refine v_iload_n X dX5_put_25 rfl ?_
      refine v_iadd X dX5_put_26 ?_
      refine v_aload_n X dX5_put_27 rfl ?_
      refine v_iload_n X dX5_put_28 rfl ?_
      refine res_E X (run_V X (c_X5_laneOf (g := g) (by first | assumption | omega) (by first | assumption | omega)) gX5_put_X5_laneOf rfl hdX5_laneOf ⟨(Nat.le_of_ble_eq_true rfl), (Nat.le_of_ble_eq_true rfl)⟩ ⟨(Nat.le_of_ble_eq_true rfl), (Nat.le_of_ble_eq_true rfl)⟩ 0 rfl rfl rfl [0, 1, 2, 3] rfl rfl rfl rfl (by simp [Value.category]) dX5_put_29) [0, 1, 2, 3] rfl rfl ?_
      refine v_iload_n X dX5_put_32 rfl ?_
      refine res_E X (run_S X (c_X5_cut (g := g) (by first | assumption | omega) (by first | assumption | omega)) gX5_put_X5_cut rfl hdX5_cut.2 ⟨(Nat.le_of_ble_eq_true rfl), (Nat.le_of_ble_eq_true rfl)⟩ ⟨(Nat.le_of_ble_eq_true rfl), (Nat.le_of_ble_eq_true rfl)⟩ [] rfl rfl rfl rfl (by simp [Value.category]) dX5_put_33) [] rfl rfl ?_
      refine v_iast X 1 rfl (by first | omega | (split <;> omega)) (by first | omega | (split <;> omega)) (by first | omega | (split <;> omega)) dX5_put_36 ?_
      dsimp only [List.set, wRow]
      exact v_vret X Y dX5_put_37 (u := ()) trivial (by rfl)

theorem hdX5_move : yX5_move.cls = RX5 ∧ yX5_move.cls ≠ "java/lang/invoke/MethodHandle" ∧ yX5_move.cls ≠ "java/lang/invoke/VarHandle" ∧ (parseMethodDescriptor yX5_move.desc).map (fun d => d.parameters.length) = some 5 := ⟨rfl, by decide +kernel, by decide +kernel, by decide +kernel⟩
set_option maxHeartbeats 4000000 in
set_option maxRecDepth 100000 in
theorem c_X5_move {g : Gx} {a a1 a2 a3 : Nat} {it la le : Nat → Int} {r i b j n : Int} (hle : Bd 0 40 le) (hr : 0 ≤ r ∧ r < 8) (hb : 0 ≤ b ∧ b < 8) (hi : 0 ≤ i ∧ i ≤ le r.toNat - n) (hj : 0 ≤ j ∧ j ≤ le b.toNat - n) (hn : 0 ≤ n) : CtW g yX5_move wsX5_move 3 64 [.ref a, .int (iI r), .int (iI i), .int (iI b), .int (iI j), .int (iI n)] (wRow g a a1 a2 a3 it la le) (wRow g a a1 a2 a3 (cpyI it it (r * 40 + i).toNat (b * 40 + j).toNat n.toNat) la le) := by
  refine m_go (cc := cX5_move) (nL := 6) (by decide +kernel) rfl (Nat.le_of_ble_eq_true rfl) (fun x X Y hnm => ?_)
  refine v_eq (lo2 := [some (.ref a), some (.int (iI r)), some (.int (iI i)), some (.int (iI b)), some (.int (iI j)), some (.int (iI n))]) rfl rfl rfl rfl ?_
  have q0 := hle r.toNat
  have q9 := hle b.toNat
  have q1 : atI 8 le r = le r.toNat := if_pos hr
  have q2 : atI 8 le b = le b.toNat := if_pos hb
  have q3 : rchI le r i n = 1 := if_pos (by omega)
  have q4 : rchI le b j n = 1 := if_pos (by omega)
  refine v_iload_n X dX5_move_0 rfl ?_
  refine res_E X (run_SN X (c_X7_isRow (g := g) (by first | assumption | omega)) gX5_move_X7_isRow_n27 rfl (List.mem_of_getElem? (i := 6) rfl) (List.mem_of_getElem? (i := 7) rfl) (List.mem_of_getElem? (i := 6) rfl) hdX7_isRow.2 ⟨(Nat.le_of_ble_eq_true rfl), (Nat.le_of_ble_eq_true rfl)⟩ ⟨(Nat.le_of_ble_eq_true rfl), (Nat.le_of_ble_eq_true rfl)⟩ [] rfl rfl rfl rfl (by simp [Value.category]) dX5_move_1) [] rfl rfl ?_
  refine v_ifb_eq (tgt := 63) X dX5_move_4 (by decide) (fun c1 => ?_) (fun c1 => ?_)
  · skip
    exfalso; omega
  · skip
    refine v_iload_n X dX5_move_7 rfl ?_
    refine res_E X (run_SN X (c_X7_isRow (g := g) (by first | assumption | omega)) gX5_move_X7_isRow_n27 rfl (List.mem_of_getElem? (i := 6) rfl) (List.mem_of_getElem? (i := 7) rfl) (List.mem_of_getElem? (i := 6) rfl) hdX7_isRow.2 ⟨(Nat.le_of_ble_eq_true rfl), (Nat.le_of_ble_eq_true rfl)⟩ ⟨(Nat.le_of_ble_eq_true rfl), (Nat.le_of_ble_eq_true rfl)⟩ [] rfl rfl rfl rfl (by simp [Value.category]) dX5_move_8) [] rfl rfl ?_
    refine v_ifb_eq (tgt := 63) X dX5_move_11 (by decide) (fun c2 => ?_) (fun c2 => ?_)
    · skip
      exfalso; omega
    · skip
      refine v_aload_n X dX5_move_14 rfl ?_
      refine v_iload_n X dX5_move_15 rfl ?_
      refine v_iload_n X dX5_move_16 rfl ?_
      refine v_iload X dX5_move_17 rfl ?_
      refine res_E X (run_V X (c_X5_reaches (g := g) (by first | assumption | omega) (by first | assumption | omega) (by first | assumption | omega) (by first | assumption | omega)) gX5_move_X5_reaches rfl hdX5_reaches ⟨(Nat.le_of_ble_eq_true rfl), (Nat.le_of_ble_eq_true rfl)⟩ ⟨(Nat.le_of_ble_eq_true rfl), (Nat.le_of_ble_eq_true rfl)⟩ 0 rfl rfl rfl [0, 1, 2, 3] rfl rfl rfl rfl (by simp [Value.category]) dX5_move_19) [0, 1, 2, 3] rfl rfl ?_
      refine v_if_eq (tgt := 63) X dX5_move_22 (by decide) (by first | omega | (split <;> omega)) (fun c3 => ?_) (fun c3 => ?_)
      · skip
        exfalso; omega
      · skip
        refine v_aload_n X dX5_move_25 rfl ?_
        refine v_iload_n X dX5_move_26 rfl ?_
        refine v_iload X dX5_move_27 rfl ?_
        refine v_iload X dX5_move_29 rfl ?_
        refine res_E X (run_V X (c_X5_reaches (g := g) (by first | assumption | omega) (by first | assumption | omega) (by first | assumption | omega) (by first | assumption | omega)) gX5_move_X5_reaches rfl hdX5_reaches ⟨(Nat.le_of_ble_eq_true rfl), (Nat.le_of_ble_eq_true rfl)⟩ ⟨(Nat.le_of_ble_eq_true rfl), (Nat.le_of_ble_eq_true rfl)⟩ 0 rfl rfl rfl [0, 1, 2, 3] rfl rfl rfl rfl (by simp [Value.category]) dX5_move_31) [0, 1, 2, 3] rfl rfl ?_
        refine v_if_eq (tgt := 63) X dX5_move_34 (by decide) (by first | omega | (split <;> omega)) (fun c4 => ?_) (fun c4 => ?_)
        · skip
          exfalso; omega
        · skip
          refine v_aload_n X dX5_move_37 rfl ?_
          refine v_get X (fun _ h => List.mem_cons_of_mem _ (List.mem_append_right _ h)) 0 rfl rfl 0 (by decide) rfl (List.mem_of_getElem? (i := 1) rfl) rfl dX5_move_38 ?_
          refine v_iload_n X dX5_move_41 rfl ?_
          refine v_bipush X dX5_move_42 (by decide) ?_
          refine v_imul X dX5_move_44 ?_
          refine v_iload_n X dX5_move_45 rfl ?_
          refine v_iadd X dX5_move_46 ?_
          refine v_aload_n X dX5_move_47 rfl ?_
          refine v_get X (fun _ h => List.mem_cons_of_mem _ (List.mem_append_right _ h)) 0 rfl rfl 0 (by decide) rfl (List.mem_of_getElem? (i := 1) rfl) rfl dX5_move_48 ?_
          refine v_iload_n X dX5_move_51 rfl ?_
          refine v_bipush X dX5_move_52 (by decide) ?_
          refine v_imul X dX5_move_54 ?_
          refine v_iload X dX5_move_55 rfl ?_
          refine v_iadd X dX5_move_57 ?_
          refine v_iload X dX5_move_58 rfl ?_
          refine v_copy X (List.mem_of_getElem? (i := 2) rfl) (List.mem_of_getElem? (i := 3) rfl) (List.mem_of_getElem? (i := 4) rfl) (List.mem_of_getElem? (i := 5) rfl) 1 1 rfl rfl (by first | omega | (split <;> omega)) (by first | omega | (split <;> omega)) (by first | omega | (split <;> omega)) (by first | omega | (split <;> omega)) (by first | omega | (split <;> omega)) ⟨(Nat.le_of_ble_eq_true rfl), (Nat.le_of_ble_eq_true rfl)⟩ dX5_move_60 ?_
          dsimp only [List.set, wRow]
          exact v_vret X Y dX5_move_63 (u := ()) trivial (by rfl)

theorem hdX5_areBelow : yX5_areBelow.cls = RX5 ∧ yX5_areBelow.cls ≠ "java/lang/invoke/MethodHandle" ∧ yX5_areBelow.cls ≠ "java/lang/invoke/VarHandle" ∧ (parseMethodDescriptor yX5_areBelow.desc).map (fun d => d.parameters.length) = some 4 := ⟨rfl, by decide +kernel, by decide +kernel, by decide +kernel⟩
set_option maxHeartbeats 4000000 in
set_option maxRecDepth 100000 in
theorem c_X5_areBelow {g : Gx} {a a1 a2 a3 : Nat} {it la le : Nat → Int} {pa r i n : Int} (hit : Bd (-2147483648) 2147483647 it) (hle : Bd 0 40 le) (hr : R32 r) (hi : 0 ≤ i ∧ i ≤ 40) (hn : R32 n ∧ n ≤ 40) (hp : 1 ≤ pa ∧ pa ≤ 720) : CtI (S := Unit) g yX5_areBelow wsX5_areBelow 4 86 [.ref a, .int (iI pa), .int (iI r), .int (iI i), .int (iI n)] (wRow g a a1 a2 a3 it la le) (fun v _ => (v = 1 ∧ ∀ k : Int, 0 ≤ k → k < n → 0 ≤ itmI it le r (i + k) ∧ itmI it le r (i + k) < pa) ∨ (v = 0 ∧ ∃ k : Int, 0 ≤ k ∧ k < n ∧ ¬ (0 ≤ itmI it le r (i + k) ∧ itmI it le r (i + k) < pa))) (fun _ => wRow g a a1 a2 a3 it la le) := by
  refine m_go (cc := cX5_areBelow) (nL := 6) (by decide +kernel) rfl (Nat.le_of_ble_eq_true rfl) (fun x X Y hnm => ?_)
  refine v_eq (lo2 := [some (.ref a), some (.int (iI pa)), some (.int (iI r)), some (.int (iI i)), some (.int (iI n)), none]) rfl rfl rfl rfl ?_
  refine v_iconst X dX5_areBelow_0 ?_
  refine v_istore X dX5_areBelow_1 (by decide) rfl ?_
  dsimp only [List.set]
  have L3 : ∀ (nf : Nat) (k : Int) (h1 : 0 ≤ k ∧ (k ≤ n ∨ k = 0)) (h2 : ∀ q : Int, 0 ≤ q → q < k → 0 ≤ itmI it le r (i + q) ∧ itmI it le r (i + q) < pa) (_ : (n - k).toNat < nf), V g x 0 0 (wRow g a a1 a2 a3 it la le) [some (.ref a), some (.int (iI pa)), some (.int (iI r)), some (.int (iI i)), some (.int (iI n)), some (.int (iI k))] 3 [] := by
    intro nf
    induction nf with
    | zero => intro k h1 h2 hmu; exact absurd hmu (Nat.not_lt_zero _)
    | succ nf ih3 =>
      intro k h1 h2 hmu
      refine v_iload X dX5_areBelow_3 rfl ?_
      refine v_iload X dX5_areBelow_5 rfl ?_
      refine v_icmp_ge (tgt := 37) X dX5_areBelow_7 (by decide) (by first | omega | (split <;> omega)) (by first | omega | (split <;> omega)) (fun c1 => ?_) (fun c1 => ?_)
      · skip
        refine v_iconst X dX5_areBelow_37 ?_
        refine v_zret X Y dX5_areBelow_38 (by first | decide | omega | (split <;> omega)) (u := ()) ?_ rfl
        exact Or.inl ⟨rfl, fun q g1 g2 => h2 q g1 (by omega)⟩
      · skip
        refine v_aload_n X dX5_areBelow_10 rfl ?_
        refine v_iload_n X dX5_areBelow_11 rfl ?_
        refine v_iload_n X dX5_areBelow_12 rfl ?_
        refine v_iload X dX5_areBelow_13 rfl ?_
        refine v_iadd X dX5_areBelow_15 ?_
        refine res_E X (run_V X (c_X5_item (g := g) (by first | assumption | omega) (by first | assumption | omega) (by first | assumption | omega) (by first | assumption | omega)) gX5_areBelow_X5_item rfl hdX5_item ⟨(Nat.le_of_ble_eq_true rfl), (Nat.le_of_ble_eq_true rfl)⟩ ⟨(Nat.le_of_ble_eq_true rfl), (Nat.le_of_ble_eq_true rfl)⟩ 0 rfl rfl rfl [0, 1, 2, 3] rfl rfl rfl rfl (by simp [Value.category]) dX5_areBelow_16) [0, 1, 2, 3] rfl rfl ?_
        have q1 := itmI_bd (le := le) (r := r) (i := i + k) hit
        refine v_iconst X dX5_areBelow_19 ?_
        refine v_iload_n X dX5_areBelow_20 rfl ?_
        refine v_iconst X dX5_areBelow_21 ?_
        refine v_isub X dX5_areBelow_22 ?_
        refine res_E X (run_SN X (c_X7_isWithin (g := g) (by first | assumption | omega) (by first | assumption | omega) (by first | assumption | omega)) gX5_areBelow_X7_isWithin_n45 rfl (List.mem_of_getElem? (i := 7) rfl) (List.mem_of_getElem? (i := 8) rfl) (List.mem_of_getElem? (i := 19) rfl) hdX7_isWithin.2 ⟨(Nat.le_of_ble_eq_true rfl), (Nat.le_of_ble_eq_true rfl)⟩ ⟨(Nat.le_of_ble_eq_true rfl), (Nat.le_of_ble_eq_true rfl)⟩ [] rfl rfl rfl rfl (by simp [Value.category]) dX5_areBelow_23) [] rfl rfl ?_
        refine v_ifb_ne (tgt := 31) X dX5_areBelow_26 (by decide) (fun c2 => ?_) (fun c2 => ?_)
        · skip
          refine v_iinc X dX5_areBelow_31 rfl (by decide) rfl ?_
          dsimp only [List.set]
          refine v_goto (tgt := 3) X dX5_areBelow_34 (by decide) ?_
          exact ih3 _ (by omega) (by
              intro q g1 g2; by_cases e : q = k
              · subst e; omega
              · exact h2 q g1 (by omega)) (by omega)
        · skip
          refine v_iconst X dX5_areBelow_29 ?_
          refine v_zret X Y dX5_areBelow_30 (by first | decide | omega | (split <;> omega)) (u := ()) ?_ rfl
          exact Or.inr ⟨rfl, k, h1.1, by omega, by omega⟩
  exact L3 _ _ (by omega) (by intro q g1 g2; exfalso; omega) (Nat.lt_succ_self _)

theorem hdX5_present : yX5_present.cls = RX5 ∧ yX5_present.cls ≠ "java/lang/invoke/MethodHandle" ∧ yX5_present.cls ≠ "java/lang/invoke/VarHandle" ∧ (parseMethodDescriptor yX5_present.desc).map (fun d => d.parameters.length) = some 0 := ⟨rfl, by decide +kernel, by decide +kernel, by decide +kernel⟩
set_option maxHeartbeats 4000000 in
set_option maxRecDepth 100000 in
theorem c_X5_present {g : Gx} {a a1 a2 a3 : Nat} {it la le : Nat → Int}  (hla : Bd (-1) 2 la) : CtE g yX5_present wsX5_present 3 62 [.ref a] (wRow g a a1 a2 a3 it la le) (cntN (fun j => decide (la j ≠ -1)) 8) (wRow g a a1 a2 a3 it la le) := by
  refine m_go (cc := cX5_present) (nL := 3) (by decide +kernel) rfl (Nat.le_of_ble_eq_true rfl) (fun x X Y hnm => ?_)
  refine v_eq (lo2 := [some (.ref a), none, none]) rfl rfl rfl rfl ?_
  refine v_iconst X dX5_present_0 ?_
  refine v_istore_n X dX5_present_1 1 rfl (by decide) rfl ?_
  dsimp only [List.set]
  refine v_iconst X dX5_present_2 ?_
  refine v_istore_n X dX5_present_3 2 rfl (by decide) rfl ?_
  dsimp only [List.set]
  have L4 : ∀ (nf : Nat) (k : Int) (i : Int) (h1 : 0 ≤ i ∧ i ≤ 8) (h2 : k = cntN (fun j => decide (la j ≠ -1)) i.toNat) (h3 : 0 ≤ k ∧ k ≤ i) (_ : (8 - i).toNat < nf), V g x 0 0 (wRow g a a1 a2 a3 it la le) [some (.ref a), some (.int (iI k)), some (.int (iI i))] 4 [] := by
    intro nf
    induction nf with
    | zero => intro k i h1 h2 h3 hmu; exact absurd hmu (Nat.not_lt_zero _)
    | succ nf ih4 =>
      intro k i h1 h2 h3 hmu
      refine v_iload_n X dX5_present_4 rfl ?_
      refine v_bipush X dX5_present_5 (by decide) ?_
      refine v_icmp_ge (tgt := 27) X dX5_present_7 (by decide) (by first | omega | (split <;> omega)) (by first | omega | (split <;> omega)) (fun c1 => ?_) (fun c1 => ?_)
      · skip
        refine v_iload_n X dX5_present_27 rfl ?_
        exact v_iret X Y dX5_present_28 (u := ()) (by
            have e : i = 8 := by omega
            rw [h2, e]; rfl) (by rfl)
      · skip
        refine v_aload_n X dX5_present_10 rfl ?_
        refine v_iload_n X dX5_present_11 rfl ?_
        refine res_E X (run_V X (c_X5_isMissing (g := g) (by first | assumption | omega) (by first | assumption | omega)) gX5_present_X5_isMissing rfl hdX5_isMissing ⟨(Nat.le_of_ble_eq_true rfl), (Nat.le_of_ble_eq_true rfl)⟩ ⟨(Nat.le_of_ble_eq_true rfl), (Nat.le_of_ble_eq_true rfl)⟩ 0 rfl rfl rfl [0, 1, 2, 3] rfl rfl rfl rfl (by simp [Value.category]) dX5_present_12) [0, 1, 2, 3] rfl rfl ?_
        refine v_ifb_ne (tgt := 21) X dX5_present_15 (by decide) (fun c2 => ?_) (fun c2 => ?_)
        · skip
          refine v_iinc X dX5_present_21 rfl (by decide) rfl ?_
          dsimp only [List.set]
          refine v_goto (tgt := 4) X dX5_present_24 (by decide) ?_
          exact ih4 _ _ (by omega) (by rw [cntN_s h1.1]; unfold lanI at c2; rw [if_pos (show 0 ≤ i ∧ i < 8 by omega)] at c2; simp only [decide_eq_true_eq]; split <;> omega) (by omega) (by omega)
        · skip
          refine v_iinc X dX5_present_18 rfl (by decide) rfl ?_
          dsimp only [List.set]
          refine v_iinc X dX5_present_21 rfl (by decide) rfl ?_
          dsimp only [List.set]
          refine v_goto (tgt := 4) X dX5_present_24 (by decide) ?_
          exact ih4 _ _ (by omega) (by rw [cntN_s h1.1]; unfold lanI at c2; rw [if_pos (show 0 ≤ i ∧ i < 8 by omega)] at c2; simp only [decide_eq_true_eq]; split <;> omega) (by omega) (by omega)
  exact L4 _ _ _ (by omega) (by rfl) (by omega) (Nat.lt_succ_self _)

theorem hdX0_forgetOldest : yX0_forgetOldest.cls = RX0 ∧ yX0_forgetOldest.cls ≠ "java/lang/invoke/MethodHandle" ∧ yX0_forgetOldest.cls ≠ "java/lang/invoke/VarHandle" ∧ (parseMethodDescriptor yX0_forgetOldest.desc).map (fun d => d.parameters.length) = some 0 := ⟨rfl, by decide +kernel, by decide +kernel, by decide +kernel⟩
set_option maxHeartbeats 4000000 in
set_option maxRecDepth 100000 in
theorem c_X0_forgetOldest {g : Gx} {a a1 a2 : Nat} {hs ss : Nat → Int} {ln : Int}   : CtW g yX0_forgetOldest wsX0_forgetOldest 1 60 [.ref a] (wAct g a a1 a2 hs ss ln) (wAct g a a1 a2 (cpyI hs hs 1 0 23) (cpyI ss ss 1 0 23) 23) := by
  refine m_go (cc := cX0_forgetOldest) (nL := 1) (by decide +kernel) rfl (Nat.le_of_ble_eq_true rfl) (fun x X Y hnm => ?_)
  refine v_eq (lo2 := [some (.ref a)]) rfl rfl rfl rfl ?_
  refine v_aload_n X dX0_forgetOldest_0 rfl ?_
  refine v_get X (fun _ h => List.mem_cons_of_mem _ (List.mem_append_right _ h)) 0 rfl rfl 0 (by decide) rfl (List.mem_of_getElem? (i := 1) rfl) rfl dX0_forgetOldest_1 ?_
  refine v_iconst X dX0_forgetOldest_4 ?_
  refine v_aload_n X dX0_forgetOldest_5 rfl ?_
  refine v_get X (fun _ h => List.mem_cons_of_mem _ (List.mem_append_right _ h)) 0 rfl rfl 0 (by decide) rfl (List.mem_of_getElem? (i := 1) rfl) rfl dX0_forgetOldest_6 ?_
  refine v_iconst X dX0_forgetOldest_9 ?_
  refine v_bipush X dX0_forgetOldest_10 (by decide) ?_
  refine v_copy X (List.mem_of_getElem? (i := 2) rfl) (List.mem_of_getElem? (i := 3) rfl) (List.mem_of_getElem? (i := 4) rfl) (List.mem_of_getElem? (i := 5) rfl) 1 1 rfl rfl (by omega) (by omega) (by omega) (by omega) (by omega) ⟨(Nat.le_of_ble_eq_true rfl), (Nat.le_of_ble_eq_true rfl)⟩ dX0_forgetOldest_12 ?_
  dsimp only [List.set, wAct]
  refine v_aload_n X dX0_forgetOldest_15 rfl ?_
  refine v_get X (fun _ h => List.mem_cons_of_mem _ (List.mem_append_right _ h)) 0 rfl rfl 1 (by decide) rfl (List.mem_of_getElem? (i := 6) rfl) rfl dX0_forgetOldest_16 ?_
  refine v_iconst X dX0_forgetOldest_19 ?_
  refine v_aload_n X dX0_forgetOldest_20 rfl ?_
  refine v_get X (fun _ h => List.mem_cons_of_mem _ (List.mem_append_right _ h)) 0 rfl rfl 1 (by decide) rfl (List.mem_of_getElem? (i := 6) rfl) rfl dX0_forgetOldest_21 ?_
  refine v_iconst X dX0_forgetOldest_24 ?_
  refine v_bipush X dX0_forgetOldest_25 (by decide) ?_
  refine v_copy X (List.mem_of_getElem? (i := 2) rfl) (List.mem_of_getElem? (i := 3) rfl) (List.mem_of_getElem? (i := 4) rfl) (List.mem_of_getElem? (i := 5) rfl) 2 2 rfl rfl (by omega) (by omega) (by omega) (by omega) (by omega) ⟨(Nat.le_of_ble_eq_true rfl), (Nat.le_of_ble_eq_true rfl)⟩ dX0_forgetOldest_27 ?_
  dsimp only [List.set, wAct]
  refine v_aload_n X dX0_forgetOldest_30 rfl ?_
  refine v_bipush X dX0_forgetOldest_31 (by decide) ?_
  refine v_put X (fun _ h => List.mem_cons_of_mem _ (List.mem_append_right _ h)) tyX0 tyX0_ok nmX0 0 rfl rfl 2 (by decide) rfl (List.mem_of_getElem? (i := 7) rfl) rfl rfl rfl (Nat.le_of_ble_eq_true rfl) dX0_forgetOldest_33 ?_
  dsimp only [List.set, wAct]
  exact v_vret X Y dX0_forgetOldest_36 (u := ()) trivial (by rfl)

theorem hdX0_keep : yX0_keep.cls = RX0 ∧ yX0_keep.cls ≠ "java/lang/invoke/MethodHandle" ∧ yX0_keep.cls ≠ "java/lang/invoke/VarHandle" ∧ (parseMethodDescriptor yX0_keep.desc).map (fun d => d.parameters.length) = some 2 := ⟨rfl, by decide +kernel, by decide +kernel, by decide +kernel⟩
set_option maxHeartbeats 4000000 in
set_option maxRecDepth 100000 in
theorem c_X0_keep {g : Gx} {a a1 a2 : Nat} {hs ss : Nat → Int} {ln : Int} {h v : Int} (hln : 0 ≤ ln ∧ ln ≤ 24) : CtW g yX0_keep wsX0_keep 2 80 [.ref a, .int (iI h), .int (iI v)] (wAct g a a1 a2 hs ss ln) (wAct g a a1 a2 (updI (if ln < 24 then hs else cpyI hs hs 1 0 23) (if ln < 24 then ln else 23).toNat h) (updI (if ln < 24 then ss else cpyI ss ss 1 0 23) (if ln < 24 then ln else 23).toNat v) ((if ln < 24 then ln else 23) + 1)) := by
  refine m_go (cc := cX0_keep) (nL := 3) (by decide +kernel) rfl (Nat.le_of_ble_eq_true rfl) (fun x X Y hnm => ?_)
  refine v_eq (lo2 := [some (.ref a), some (.int (iI h)), some (.int (iI v))]) rfl rfl rfl rfl ?_
  refine v_aload_n X dX0_keep_0 rfl ?_
  refine v_get X (fun _ h => List.mem_cons_of_mem _ (List.mem_append_right _ h)) 0 rfl rfl 2 (by decide) rfl (List.mem_of_getElem? (i := 1) rfl) rfl dX0_keep_1 ?_
  refine v_bipush X dX0_keep_4 (by decide) ?_
  refine v_icmp_lt (tgt := 13) X dX0_keep_6 (by decide) (by omega) (by omega) (fun c1 => ?_) (fun c1 => ?_)
  · skip
    refine v_aload_n X dX0_keep_13 rfl ?_
    refine v_get X (fun _ h => List.mem_cons_of_mem _ (List.mem_append_right _ h)) 0 rfl rfl 2 (by decide) rfl (List.mem_of_getElem? (i := 1) rfl) rfl dX0_keep_14 ?_
    refine v_if_lt (tgt := 59) X dX0_keep_17 (by decide) (by omega) (fun c2 => ?_) (fun c2 => ?_)
    · skip
      exfalso; omega
    · skip
      refine v_aload_n X dX0_keep_20 rfl ?_
      refine v_get X (fun _ h => List.mem_cons_of_mem _ (List.mem_append_right _ h)) 0 rfl rfl 2 (by decide) rfl (List.mem_of_getElem? (i := 1) rfl) rfl dX0_keep_21 ?_
      refine v_bipush X dX0_keep_24 (by decide) ?_
      refine v_icmp_ge (tgt := 59) X dX0_keep_26 (by decide) (by omega) (by omega) (fun c3 => ?_) (fun c3 => ?_)
      · skip
        exfalso; omega
      · skip
        refine v_aload_n X dX0_keep_29 rfl ?_
        refine v_get X (fun _ h => List.mem_cons_of_mem _ (List.mem_append_right _ h)) 0 rfl rfl 0 (by decide) rfl (List.mem_of_getElem? (i := 2) rfl) rfl dX0_keep_30 ?_
        refine v_aload_n X dX0_keep_33 rfl ?_
        refine v_get X (fun _ h => List.mem_cons_of_mem _ (List.mem_append_right _ h)) 0 rfl rfl 2 (by decide) rfl (List.mem_of_getElem? (i := 1) rfl) rfl dX0_keep_34 ?_
        refine v_iload_n X dX0_keep_37 rfl ?_
        refine v_iast X 1 rfl (by omega) (by omega) (by omega) dX0_keep_38 ?_
        dsimp only [List.set, wAct]
        refine v_aload_n X dX0_keep_39 rfl ?_
        refine v_get X (fun _ h => List.mem_cons_of_mem _ (List.mem_append_right _ h)) 0 rfl rfl 1 (by decide) rfl (List.mem_of_getElem? (i := 3) rfl) rfl dX0_keep_40 ?_
        refine v_aload_n X dX0_keep_43 rfl ?_
        refine v_get X (fun _ h => List.mem_cons_of_mem _ (List.mem_append_right _ h)) 0 rfl rfl 2 (by decide) rfl (List.mem_of_getElem? (i := 1) rfl) rfl dX0_keep_44 ?_
        refine v_iload_n X dX0_keep_47 rfl ?_
        refine v_iast X 2 rfl (by omega) (by omega) (by omega) dX0_keep_48 ?_
        dsimp only [List.set, wAct]
        refine v_aload_n X dX0_keep_49 rfl ?_
        refine v_dup X dX0_keep_50 rfl ?_
        refine v_get X (fun _ h => List.mem_cons_of_mem _ (List.mem_append_right _ h)) 0 rfl rfl 2 (by decide) rfl (List.mem_of_getElem? (i := 1) rfl) rfl dX0_keep_51 ?_
        refine v_iconst X dX0_keep_54 ?_
        refine v_iadd X dX0_keep_55 ?_
        refine v_put X (fun _ h => List.mem_cons_of_mem _ (List.mem_append_right _ h)) tyX0 tyX0_ok nmX0 0 rfl rfl 2 (by decide) rfl (List.mem_of_getElem? (i := 1) rfl) rfl rfl rfl (Nat.le_of_ble_eq_true rfl) dX0_keep_56 ?_
        dsimp only [List.set, wAct]
        exact v_vret X Y dX0_keep_59 (u := ()) trivial (by by_cases e : ln < 24 <;> simp only [e, if_true, if_false] <;> first | rfl | (exfalso; omega))
  · skip
    refine v_aload_n X dX0_keep_9 rfl ?_
    refine res_W X (run_V X (c_X0_forgetOldest (g := g) ) gX0_keep_X0_forgetOldest rfl hdX0_forgetOldest ⟨(Nat.le_of_ble_eq_true rfl), (Nat.le_of_ble_eq_true rfl)⟩ ⟨(Nat.le_of_ble_eq_true rfl), (Nat.le_of_ble_eq_true rfl)⟩ 0 rfl rfl rfl [0, 1, 2] rfl rfl rfl rfl (by simp [Value.category]) dX0_keep_10) [0, 1, 2] rfl rfl rfl ?_
    dsimp only [patch, List.set, wAct]
    refine v_aload_n X dX0_keep_13 rfl ?_
    refine v_get X (fun _ h => List.mem_cons_of_mem _ (List.mem_append_right _ h)) 0 rfl rfl 2 (by decide) rfl (List.mem_of_getElem? (i := 1) rfl) rfl dX0_keep_14 ?_
    refine v_if_lt (tgt := 59) X dX0_keep_17 (by decide) (by omega) (fun c4 => ?_) (fun c4 => ?_)
    · skip
      exfalso; omega
    · skip
      refine v_aload_n X dX0_keep_20 rfl ?_
      refine v_get X (fun _ h => List.mem_cons_of_mem _ (List.mem_append_right _ h)) 0 rfl rfl 2 (by decide) rfl (List.mem_of_getElem? (i := 1) rfl) rfl dX0_keep_21 ?_
      refine v_bipush X dX0_keep_24 (by decide) ?_
      refine v_icmp_ge (tgt := 59) X dX0_keep_26 (by decide) (by omega) (by omega) (fun c5 => ?_) (fun c5 => ?_)
      · skip
        exfalso; omega
      · skip
        refine v_aload_n X dX0_keep_29 rfl ?_
        refine v_get X (fun _ h => List.mem_cons_of_mem _ (List.mem_append_right _ h)) 0 rfl rfl 0 (by decide) rfl (List.mem_of_getElem? (i := 2) rfl) rfl dX0_keep_30 ?_
        refine v_aload_n X dX0_keep_33 rfl ?_
        refine v_get X (fun _ h => List.mem_cons_of_mem _ (List.mem_append_right _ h)) 0 rfl rfl 2 (by decide) rfl (List.mem_of_getElem? (i := 1) rfl) rfl dX0_keep_34 ?_
        refine v_iload_n X dX0_keep_37 rfl ?_
        refine v_iast X 1 rfl (by omega) (by omega) (by omega) dX0_keep_38 ?_
        dsimp only [List.set, wAct]
        refine v_aload_n X dX0_keep_39 rfl ?_
        refine v_get X (fun _ h => List.mem_cons_of_mem _ (List.mem_append_right _ h)) 0 rfl rfl 1 (by decide) rfl (List.mem_of_getElem? (i := 3) rfl) rfl dX0_keep_40 ?_
        refine v_aload_n X dX0_keep_43 rfl ?_
        refine v_get X (fun _ h => List.mem_cons_of_mem _ (List.mem_append_right _ h)) 0 rfl rfl 2 (by decide) rfl (List.mem_of_getElem? (i := 1) rfl) rfl dX0_keep_44 ?_
        refine v_iload_n X dX0_keep_47 rfl ?_
        refine v_iast X 2 rfl (by omega) (by omega) (by omega) dX0_keep_48 ?_
        dsimp only [List.set, wAct]
        refine v_aload_n X dX0_keep_49 rfl ?_
        refine v_dup X dX0_keep_50 rfl ?_
        refine v_get X (fun _ h => List.mem_cons_of_mem _ (List.mem_append_right _ h)) 0 rfl rfl 2 (by decide) rfl (List.mem_of_getElem? (i := 1) rfl) rfl dX0_keep_51 ?_
        refine v_iconst X dX0_keep_54 ?_
        refine v_iadd X dX0_keep_55 ?_
        refine v_put X (fun _ h => List.mem_cons_of_mem _ (List.mem_append_right _ h)) tyX0 tyX0_ok nmX0 0 rfl rfl 2 (by decide) rfl (List.mem_of_getElem? (i := 1) rfl) rfl rfl rfl (Nat.le_of_ble_eq_true rfl) dX0_keep_56 ?_
        dsimp only [List.set, wAct]
        exact v_vret X Y dX0_keep_59 (u := ()) trivial (by by_cases e : ln < 24 <;> simp only [e, if_true, if_false] <;> first | rfl | (exfalso; omega))

theorem hdX0_lastHand : yX0_lastHand.cls = RX0 ∧ yX0_lastHand.cls ≠ "java/lang/invoke/MethodHandle" ∧ yX0_lastHand.cls ≠ "java/lang/invoke/VarHandle" ∧ (parseMethodDescriptor yX0_lastHand.desc).map (fun d => d.parameters.length) = some 0 := ⟨rfl, by decide +kernel, by decide +kernel, by decide +kernel⟩
set_option maxHeartbeats 4000000 in
set_option maxRecDepth 100000 in
theorem c_X0_lastHand {g : Gx} {a a1 a2 : Nat} {hs ss : Nat → Int} {ln : Int}  (hln : 0 ≤ ln ∧ ln ≤ 24) (hh : Bd 0 59 hs) : CtE g yX0_lastHand wsX0_lastHand 1 22 [.ref a] (wAct g a a1 a2 hs ss ln) (if 1 ≤ ln then hs (ln - 1).toNat else 0) (wAct g a a1 a2 hs ss ln) := by
  refine m_go (cc := cX0_lastHand) (nL := 1) (by decide +kernel) rfl (Nat.le_of_ble_eq_true rfl) (fun x X Y hnm => ?_)
  refine v_eq (lo2 := [some (.ref a)]) rfl rfl rfl rfl ?_
  refine v_aload_n X dX0_lastHand_0 rfl ?_
  refine v_get X (fun _ h => List.mem_cons_of_mem _ (List.mem_append_right _ h)) 0 rfl rfl 2 (by decide) rfl (List.mem_of_getElem? (i := 1) rfl) rfl dX0_lastHand_1 ?_
  refine v_iconst X dX0_lastHand_4 ?_
  refine v_bipush X dX0_lastHand_5 (by decide) ?_
  refine res_E X (run_SN X (c_X7_isWithin (g := g) (by first | assumption | omega) (by first | assumption | omega) (by first | assumption | omega)) gX0_lastHand_X7_isWithin_n29 rfl (List.mem_of_getElem? (i := 9) rfl) (List.mem_of_getElem? (i := 4) rfl) (List.mem_of_getElem? (i := 3) rfl) hdX7_isWithin.2 ⟨(Nat.le_of_ble_eq_true rfl), (Nat.le_of_ble_eq_true rfl)⟩ ⟨(Nat.le_of_ble_eq_true rfl), (Nat.le_of_ble_eq_true rfl)⟩ [] rfl rfl rfl rfl (by simp [Value.category]) dX0_lastHand_7) [] rfl rfl ?_
  refine v_ifb_eq (tgt := 27) X dX0_lastHand_10 (by decide) (fun c1 => ?_) (fun c1 => ?_)
  · skip
    refine v_iconst X dX0_lastHand_27 ?_
    exact v_iret X Y dX0_lastHand_28 (u := ()) (by split <;> omega) (by rfl)
  · skip
    refine v_aload_n X dX0_lastHand_13 rfl ?_
    refine v_get X (fun _ h => List.mem_cons_of_mem _ (List.mem_append_right _ h)) 0 rfl rfl 0 (by decide) rfl (List.mem_of_getElem? (i := 2) rfl) rfl dX0_lastHand_14 ?_
    refine v_aload_n X dX0_lastHand_17 rfl ?_
    refine v_get X (fun _ h => List.mem_cons_of_mem _ (List.mem_append_right _ h)) 0 rfl rfl 2 (by decide) rfl (List.mem_of_getElem? (i := 1) rfl) rfl dX0_lastHand_18 ?_
    refine v_iconst X dX0_lastHand_21 ?_
    refine v_isub X dX0_lastHand_22 ?_
    refine v_iald X 1 rfl (by first | omega | (split <;> omega)) (by first | omega | (split <;> omega)) (by first | omega | (split <;> omega)) dX0_lastHand_23 hh (fun z2 ez2 lz2 uz2 => ?_)
    refine v_goto (tgt := 28) X dX0_lastHand_24 (by decide) ?_
    exact v_iret X Y dX0_lastHand_28 (u := ()) (by split <;> omega) (by rfl)

theorem hdX0_lastSlip : yX0_lastSlip.cls = RX0 ∧ yX0_lastSlip.cls ≠ "java/lang/invoke/MethodHandle" ∧ yX0_lastSlip.cls ≠ "java/lang/invoke/VarHandle" ∧ (parseMethodDescriptor yX0_lastSlip.desc).map (fun d => d.parameters.length) = some 0 := ⟨rfl, by decide +kernel, by decide +kernel, by decide +kernel⟩
set_option maxHeartbeats 4000000 in
set_option maxRecDepth 100000 in
theorem c_X0_lastSlip {g : Gx} {a a1 a2 : Nat} {hs ss : Nat → Int} {ln : Int}  (hln : 0 ≤ ln ∧ ln ≤ 24) (hss : Bd 0 59 ss) : CtE g yX0_lastSlip wsX0_lastSlip 1 22 [.ref a] (wAct g a a1 a2 hs ss ln) (if 1 ≤ ln then ss (ln - 1).toNat else 0) (wAct g a a1 a2 hs ss ln) := by
  refine m_go (cc := cX0_lastSlip) (nL := 1) (by decide +kernel) rfl (Nat.le_of_ble_eq_true rfl) (fun x X Y hnm => ?_)
  refine v_eq (lo2 := [some (.ref a)]) rfl rfl rfl rfl ?_
  refine v_aload_n X dX0_lastSlip_0 rfl ?_
  refine v_get X (fun _ h => List.mem_cons_of_mem _ (List.mem_append_right _ h)) 0 rfl rfl 2 (by decide) rfl (List.mem_of_getElem? (i := 1) rfl) rfl dX0_lastSlip_1 ?_
  refine v_iconst X dX0_lastSlip_4 ?_
  refine v_bipush X dX0_lastSlip_5 (by decide) ?_
  refine res_E X (run_SN X (c_X7_isWithin (g := g) (by first | assumption | omega) (by first | assumption | omega) (by first | assumption | omega)) gX0_lastSlip_X7_isWithin_n29 rfl (List.mem_of_getElem? (i := 9) rfl) (List.mem_of_getElem? (i := 4) rfl) (List.mem_of_getElem? (i := 3) rfl) hdX7_isWithin.2 ⟨(Nat.le_of_ble_eq_true rfl), (Nat.le_of_ble_eq_true rfl)⟩ ⟨(Nat.le_of_ble_eq_true rfl), (Nat.le_of_ble_eq_true rfl)⟩ [] rfl rfl rfl rfl (by simp [Value.category]) dX0_lastSlip_7) [] rfl rfl ?_
  refine v_ifb_eq (tgt := 27) X dX0_lastSlip_10 (by decide) (fun c1 => ?_) (fun c1 => ?_)
  · skip
    refine v_iconst X dX0_lastSlip_27 ?_
    exact v_iret X Y dX0_lastSlip_28 (u := ()) (by split <;> omega) (by rfl)
  · skip
    refine v_aload_n X dX0_lastSlip_13 rfl ?_
    refine v_get X (fun _ h => List.mem_cons_of_mem _ (List.mem_append_right _ h)) 0 rfl rfl 1 (by decide) rfl (List.mem_of_getElem? (i := 2) rfl) rfl dX0_lastSlip_14 ?_
    refine v_aload_n X dX0_lastSlip_17 rfl ?_
    refine v_get X (fun _ h => List.mem_cons_of_mem _ (List.mem_append_right _ h)) 0 rfl rfl 2 (by decide) rfl (List.mem_of_getElem? (i := 1) rfl) rfl dX0_lastSlip_18 ?_
    refine v_iconst X dX0_lastSlip_21 ?_
    refine v_isub X dX0_lastSlip_22 ?_
    refine v_iald X 2 rfl (by first | omega | (split <;> omega)) (by first | omega | (split <;> omega)) (by first | omega | (split <;> omega)) dX0_lastSlip_23 hss (fun z2 ez2 lz2 uz2 => ?_)
    refine v_goto (tgt := 28) X dX0_lastSlip_24 (by decide) ?_
    exact v_iret X Y dX0_lastSlip_28 (u := ()) (by split <;> omega) (by rfl)

theorem hdX1_leave : yX1_leave.cls = RX1 ∧ yX1_leave.cls ≠ "java/lang/invoke/MethodHandle" ∧ yX1_leave.cls ≠ "java/lang/invoke/VarHandle" ∧ (parseMethodDescriptor yX1_leave.desc).map (fun d => d.parameters.length) = some 1 := ⟨rfl, by decide +kernel, by decide +kernel, by decide +kernel⟩
set_option maxHeartbeats 4000000 in
set_option maxRecDepth 100000 in
theorem c_X1_leave {g : Gx} {a a1 : Nat} {t : TS} {b : Int} (ht : 0 ≤ t.2 ∧ t.2 ≤ 16) : CtW g yX1_leave wsX1_leave 0 0 [.ref a, .int (iI b)] (wAsk g a a1 t.1 t.2) (wAsk g a a1 (lvT t b).1 (lvT t b).2) := by
  refine m_go (cc := cX1_leave) (nL := 2) (by decide +kernel) rfl (Nat.le_of_ble_eq_true rfl) (fun x X Y hnm => ?_)
  refine v_eq (lo2 := [some (.ref a), some (.int (iI b))]) rfl rfl rfl rfl ?_
  refine v_aload_n X dX1_leave_0 rfl ?_
  refine v_get X (fun _ h => List.mem_cons_of_mem _ (List.mem_append_right _ h)) 0 rfl rfl 1 (by decide) rfl (List.mem_of_getElem? (i := 1) rfl) rfl dX1_leave_1 ?_
  refine v_if_lt (tgt := 36) X dX1_leave_4 (by decide) (by omega) (fun c1 => ?_) (fun c1 => ?_)
  · skip
    exfalso; omega
  · skip
    refine v_aload_n X dX1_leave_7 rfl ?_
    refine v_get X (fun _ h => List.mem_cons_of_mem _ (List.mem_append_right _ h)) 0 rfl rfl 1 (by decide) rfl (List.mem_of_getElem? (i := 1) rfl) rfl dX1_leave_8 ?_
    refine v_bipush X dX1_leave_11 (by decide) ?_
    refine v_icmp_ge (tgt := 36) X dX1_leave_13 (by decide) (by omega) (by omega) (fun c2 => ?_) (fun c2 => ?_)
    · skip
      exact v_vret X Y dX1_leave_36 (u := ()) trivial (by unfold lvT; (first | rw [if_pos (by omega)] | rw [if_neg (by omega)]) <;> rfl)
    · skip
      refine v_aload_n X dX1_leave_16 rfl ?_
      refine v_get X (fun _ h => List.mem_cons_of_mem _ (List.mem_append_right _ h)) 0 rfl rfl 0 (by decide) rfl (List.mem_of_getElem? (i := 2) rfl) rfl dX1_leave_17 ?_
      refine v_aload_n X dX1_leave_20 rfl ?_
      refine v_get X (fun _ h => List.mem_cons_of_mem _ (List.mem_append_right _ h)) 0 rfl rfl 1 (by decide) rfl (List.mem_of_getElem? (i := 1) rfl) rfl dX1_leave_21 ?_
      refine v_iload_n X dX1_leave_24 rfl ?_
      refine v_iast X 1 rfl (by omega) (by omega) (by omega) dX1_leave_25 ?_
      dsimp only [List.set, wAsk]
      refine v_aload_n X dX1_leave_26 rfl ?_
      refine v_dup X dX1_leave_27 rfl ?_
      refine v_get X (fun _ h => List.mem_cons_of_mem _ (List.mem_append_right _ h)) 0 rfl rfl 1 (by decide) rfl (List.mem_of_getElem? (i := 1) rfl) rfl dX1_leave_28 ?_
      refine v_iconst X dX1_leave_31 ?_
      refine v_iadd X dX1_leave_32 ?_
      refine v_put X (fun _ h => List.mem_cons_of_mem _ (List.mem_append_right _ h)) tyX1 tyX1_ok nmX1 0 rfl rfl 1 (by decide) rfl (List.mem_of_getElem? (i := 1) rfl) rfl rfl rfl (Nat.le_of_ble_eq_true rfl) dX1_leave_33 ?_
      dsimp only [List.set, wAsk]
      exact v_vret X Y dX1_leave_36 (u := ()) trivial (by unfold lvT; (first | rw [if_pos (by omega)] | rw [if_neg (by omega)]) <;> rfl)

theorem hdX1_numberAt : yX1_numberAt.cls = RX1 ∧ yX1_numberAt.cls ≠ "java/lang/invoke/MethodHandle" ∧ yX1_numberAt.cls ≠ "java/lang/invoke/VarHandle" ∧ (parseMethodDescriptor yX1_numberAt.desc).map (fun d => d.parameters.length) = some 1 := ⟨rfl, by decide +kernel, by decide +kernel, by decide +kernel⟩
set_option maxHeartbeats 4000000 in
set_option maxRecDepth 100000 in
theorem c_X1_numberAt {g : Gx} {a a1 : Nat} {t : TS} {i : Int} (ht : 0 ≤ t.2 ∧ t.2 ≤ 16) (hbo : Bd 0 24 t.1) (hi : R32 i) : CtE g yX1_numberAt wsX1_numberAt 0 0 [.ref a, .int (iI i)] (wAsk g a a1 t.1 t.2) (if 0 ≤ i ∧ i < t.2 then t.1 i.toNat else -1000000) (wAsk g a a1 t.1 t.2) := by
  refine m_go (cc := cX1_numberAt) (nL := 2) (by decide +kernel) rfl (Nat.le_of_ble_eq_true rfl) (fun x X Y hnm => ?_)
  refine v_eq (lo2 := [some (.ref a), some (.int (iI i))]) rfl rfl rfl rfl ?_
  refine v_iload_n X dX1_numberAt_0 rfl ?_
  refine v_if_lt (tgt := 27) X dX1_numberAt_1 (by decide) (by omega) (fun c1 => ?_) (fun c1 => ?_)
  · skip
    refine v_ldc X (List.mem_of_getElem? (i := 3) rfl) dX1_numberAt_27 (n := -1000000) (by decide) ?_
    exact v_iret X Y dX1_numberAt_29 (u := ()) (by first | rfl | omega | (split <;> omega) | (simp [*]; done)) (by rfl)
  · skip
    refine v_iload_n X dX1_numberAt_4 rfl ?_
    refine v_aload_n X dX1_numberAt_5 rfl ?_
    refine v_get X (fun _ h => List.mem_cons_of_mem _ (List.mem_append_right _ h)) 0 rfl rfl 1 (by decide) rfl (List.mem_of_getElem? (i := 1) rfl) rfl dX1_numberAt_6 ?_
    refine v_icmp_ge (tgt := 27) X dX1_numberAt_9 (by decide) (by omega) (by omega) (fun c2 => ?_) (fun c2 => ?_)
    · skip
      refine v_ldc X (List.mem_of_getElem? (i := 3) rfl) dX1_numberAt_27 (n := -1000000) (by decide) ?_
      exact v_iret X Y dX1_numberAt_29 (u := ()) (by first | rfl | omega | (split <;> omega) | (simp [*]; done)) (by rfl)
    · skip
      refine v_iload_n X dX1_numberAt_12 rfl ?_
      refine v_bipush X dX1_numberAt_13 (by decide) ?_
      refine v_icmp_ge (tgt := 27) X dX1_numberAt_15 (by decide) (by omega) (by omega) (fun c3 => ?_) (fun c3 => ?_)
      · skip
        refine v_ldc X (List.mem_of_getElem? (i := 3) rfl) dX1_numberAt_27 (n := -1000000) (by decide) ?_
        exact v_iret X Y dX1_numberAt_29 (u := ()) (by first | rfl | omega | (split <;> omega) | (simp [*]; done)) (by rfl)
      · skip
        refine v_aload_n X dX1_numberAt_18 rfl ?_
        refine v_get X (fun _ h => List.mem_cons_of_mem _ (List.mem_append_right _ h)) 0 rfl rfl 0 (by decide) rfl (List.mem_of_getElem? (i := 2) rfl) rfl dX1_numberAt_19 ?_
        refine v_iload_n X dX1_numberAt_22 rfl ?_
        refine v_iald X 1 rfl (by omega) (by omega) (by omega) dX1_numberAt_23 hbo (fun z4 ez4 lz4 uz4 => ?_)
        refine v_goto (tgt := 29) X dX1_numberAt_24 (by decide) ?_
        exact v_iret X Y dX1_numberAt_29 (u := ()) (by first | rfl | omega | (split <;> omega) | (simp [*]; done)) (by rfl)

theorem hdX1_lentSize : yX1_lentSize.cls = RX1 ∧ yX1_lentSize.cls ≠ "java/lang/invoke/MethodHandle" ∧ yX1_lentSize.cls ≠ "java/lang/invoke/VarHandle" ∧ (parseMethodDescriptor yX1_lentSize.desc).map (fun d => d.parameters.length) = some 2 := ⟨rfl, by decide +kernel, by decide +kernel, by decide +kernel⟩
set_option maxHeartbeats 4000000 in
set_option maxRecDepth 100000 in
theorem c_X1_lentSize {g : Gx} {a a1 : Nat} {t : TS} {b b1 b2 b3 : Nat} {mk cn : Int} {so tu sp : Nat → Int} {h : Int} (ht : 0 ≤ t.2 ∧ t.2 ≤ 16) (hcn : 0 ≤ cn ∧ cn ≤ 4) (htu : Bd 0 12 tu) (hh : R32 h) : CtE g yX1_lentSize wsX1_lentSize 2 42 [.ref a, .ref b, .int (iI h)] (wAsk g a a1 t.1 t.2 ++ wClk g b b1 b2 b3 mk cn so tu sp) (atI cn tu h) (wAsk g a a1 (lvT t 10).1 (lvT t 10).2 ++ wClk g b b1 b2 b3 mk cn so tu sp) := by
  refine m_go (cc := cX1_lentSize) (nL := 3) (by decide +kernel) rfl (Nat.le_of_ble_eq_true rfl) (fun x X Y hnm => ?_)
  refine v_eq (lo2 := [some (.ref a), some (.ref b), some (.int (iI h))]) rfl rfl rfl rfl ?_
  refine v_aload_n X dX1_lentSize_0 rfl ?_
  refine v_bipush X dX1_lentSize_1 (by decide) ?_
  refine res_W X (run_V X (c_X1_leave (g := g) (by first | assumption | (apply lvT_bd; assumption) | (apply lvT_bd; apply lvT_bd; assumption) | (apply lvT_bd; apply lvT_bd; apply lvT_bd; assumption))) gX1_lentSize_X1_leave rfl hdX1_leave ⟨(Nat.le_of_ble_eq_true rfl), (Nat.le_of_ble_eq_true rfl)⟩ ⟨(Nat.le_of_ble_eq_true rfl), (Nat.le_of_ble_eq_true rfl)⟩ 0 rfl rfl rfl [0, 1] rfl rfl rfl rfl (by simp [Value.category]) dX1_lentSize_3) [0, 1] rfl rfl rfl ?_
  dsimp only [patch, List.set, List.cons_append, List.nil_append, wAsk, wClk]
  refine v_aload_n X dX1_lentSize_6 rfl ?_
  refine v_iload_n X dX1_lentSize_7 rfl ?_
  refine res_E X (run_V X (c_X2_turnsOf (g := g) (by first | assumption | omega) (by first | assumption | omega) (by first | assumption | omega)) gX1_lentSize_X2_turnsOf rfl hdX2_turnsOf ⟨(Nat.le_of_ble_eq_true rfl), (Nat.le_of_ble_eq_true rfl)⟩ ⟨(Nat.le_of_ble_eq_true rfl), (Nat.le_of_ble_eq_true rfl)⟩ 2 rfl rfl rfl [2, 3, 4, 5] rfl rfl rfl rfl (by simp [Value.category]) dX1_lentSize_8) [2, 3, 4, 5] rfl rfl ?_
  exact v_iret X Y dX1_lentSize_11 (u := ()) (by first | rfl | omega | (split <;> omega) | (simp [*]; done)) (by rfl)

theorem hdX1_lentMark : yX1_lentMark.cls = RX1 ∧ yX1_lentMark.cls ≠ "java/lang/invoke/MethodHandle" ∧ yX1_lentMark.cls ≠ "java/lang/invoke/VarHandle" ∧ (parseMethodDescriptor yX1_lentMark.desc).map (fun d => d.parameters.length) = some 1 := ⟨rfl, by decide +kernel, by decide +kernel, by decide +kernel⟩
set_option maxHeartbeats 4000000 in
set_option maxRecDepth 100000 in
theorem c_X1_lentMark {g : Gx} {a a1 : Nat} {t : TS} {h : Int} (ht : 0 ≤ t.2 ∧ t.2 ≤ 16) : CtE g yX1_lentMark wsX1_lentMark 1 21 [.ref a, .int (iI h)] (wAsk g a a1 t.1 t.2) (h) (wAsk g a a1 (lvT t 20).1 (lvT t 20).2) := by
  refine m_go (cc := cX1_lentMark) (nL := 2) (by decide +kernel) rfl (Nat.le_of_ble_eq_true rfl) (fun x X Y hnm => ?_)
  refine v_eq (lo2 := [some (.ref a), some (.int (iI h))]) rfl rfl rfl rfl ?_
  refine v_aload_n X dX1_lentMark_0 rfl ?_
  refine v_bipush X dX1_lentMark_1 (by decide) ?_
  refine res_W X (run_V X (c_X1_leave (g := g) (by first | assumption | (apply lvT_bd; assumption) | (apply lvT_bd; apply lvT_bd; assumption) | (apply lvT_bd; apply lvT_bd; apply lvT_bd; assumption))) gX1_lentMark_X1_leave rfl hdX1_leave ⟨(Nat.le_of_ble_eq_true rfl), (Nat.le_of_ble_eq_true rfl)⟩ ⟨(Nat.le_of_ble_eq_true rfl), (Nat.le_of_ble_eq_true rfl)⟩ 0 rfl rfl rfl [0, 1] rfl rfl rfl rfl (by simp [Value.category]) dX1_lentMark_3) [0, 1] rfl rfl rfl ?_
  dsimp only [patch, List.set, wAsk]
  refine v_iload_n X dX1_lentMark_6 rfl ?_
  exact v_iret X Y dX1_lentMark_7 (u := ()) (by first | rfl | omega | (split <;> omega) | (simp [*]; done)) (by rfl)

theorem hdX1_hourMark : yX1_hourMark.cls = RX1 ∧ yX1_hourMark.cls ≠ "java/lang/invoke/MethodHandle" ∧ yX1_hourMark.cls ≠ "java/lang/invoke/VarHandle" ∧ (parseMethodDescriptor yX1_hourMark.desc).map (fun d => d.parameters.length) = some 2 := ⟨rfl, by decide +kernel, by decide +kernel, by decide +kernel⟩
set_option maxHeartbeats 4000000 in
set_option maxRecDepth 100000 in
theorem c_X1_hourMark {g : Gx} {a a1 : Nat} {t : TS} {b b1 b2 b3 : Nat} {mk cn : Int} {so tu sp : Nat → Int} {h : Int} (ht : 0 ≤ t.2 ∧ t.2 ≤ 16) (hcn : 0 ≤ cn ∧ cn ≤ 4) (hsp : Bd 0 59 sp) (hh : R32 h) : CtE g yX1_hourMark wsX1_hourMark 2 42 [.ref a, .ref b, .int (iI h)] (wAsk g a a1 t.1 t.2 ++ wClk g b b1 b2 b3 mk cn so tu sp) (h + atI cn sp h) (wAsk g a a1 (lvT (lvT t 21) 20).1 (lvT (lvT t 21) 20).2 ++ wClk g b b1 b2 b3 mk cn so tu sp) := by
  refine m_go (cc := cX1_hourMark) (nL := 3) (by decide +kernel) rfl (Nat.le_of_ble_eq_true rfl) (fun x X Y hnm => ?_)
  refine v_eq (lo2 := [some (.ref a), some (.ref b), some (.int (iI h))]) rfl rfl rfl rfl ?_
  refine v_aload_n X dX1_hourMark_0 rfl ?_
  refine v_bipush X dX1_hourMark_1 (by decide) ?_
  refine res_W X (run_V X (c_X1_leave (g := g) (by first | assumption | (apply lvT_bd; assumption) | (apply lvT_bd; apply lvT_bd; assumption) | (apply lvT_bd; apply lvT_bd; apply lvT_bd; assumption))) gX1_hourMark_X1_leave rfl hdX1_leave ⟨(Nat.le_of_ble_eq_true rfl), (Nat.le_of_ble_eq_true rfl)⟩ ⟨(Nat.le_of_ble_eq_true rfl), (Nat.le_of_ble_eq_true rfl)⟩ 0 rfl rfl rfl [0, 1] rfl rfl rfl rfl (by simp [Value.category]) dX1_hourMark_3) [0, 1] rfl rfl rfl ?_
  dsimp only [patch, List.set, List.cons_append, List.nil_append, wAsk, wClk]
  refine v_aload_n X dX1_hourMark_6 rfl ?_
  refine v_iload_n X dX1_hourMark_7 rfl ?_
  refine res_F X (run_V X (c_X1_lentMark (g := g) (by first | assumption | (apply lvT_bd; assumption) | (apply lvT_bd; apply lvT_bd; assumption) | (apply lvT_bd; apply lvT_bd; apply lvT_bd; assumption))) gX1_hourMark_X1_lentMark rfl hdX1_lentMark ⟨(Nat.le_of_ble_eq_true rfl), (Nat.le_of_ble_eq_true rfl)⟩ ⟨(Nat.le_of_ble_eq_true rfl), (Nat.le_of_ble_eq_true rfl)⟩ 0 rfl rfl rfl [0, 1] rfl rfl rfl rfl (by simp [Value.category]) dX1_hourMark_8) [0, 1] rfl rfl rfl ?_
  dsimp only [patch, List.set, List.cons_append, List.nil_append, wAsk, wClk]
  refine v_aload_n X dX1_hourMark_11 rfl ?_
  refine v_iload_n X dX1_hourMark_12 rfl ?_
  refine res_E X (run_V X (c_X2_slipOf (g := g) (by first | assumption | omega) (by first | assumption | omega) (by first | assumption | omega)) gX1_hourMark_X2_slipOf rfl hdX2_slipOf ⟨(Nat.le_of_ble_eq_true rfl), (Nat.le_of_ble_eq_true rfl)⟩ ⟨(Nat.le_of_ble_eq_true rfl), (Nat.le_of_ble_eq_true rfl)⟩ 2 rfl rfl rfl [2, 3, 4, 5] rfl rfl rfl rfl (by simp [Value.category]) dX1_hourMark_13) [2, 3, 4, 5] rfl rfl ?_
  refine v_iadd X dX1_hourMark_16 ?_
  exact v_iret X Y dX1_hourMark_17 (u := ()) (by first | rfl | omega | (split <;> omega) | (simp [*]; done)) (by rfl)

theorem hdX1_markOfHours : yX1_markOfHours.cls = RX1 ∧ yX1_markOfHours.cls ≠ "java/lang/invoke/MethodHandle" ∧ yX1_markOfHours.cls ≠ "java/lang/invoke/VarHandle" ∧ (parseMethodDescriptor yX1_markOfHours.desc).map (fun d => d.parameters.length) = some 2 := ⟨rfl, by decide +kernel, by decide +kernel, by decide +kernel⟩
set_option maxHeartbeats 4000000 in
set_option maxRecDepth 100000 in
theorem c_X1_markOfHours {g : Gx} {a a1 : Nat} {t : TS} {b b1 b2 b3 : Nat} {mk cn : Int} {so tu sp : Nat → Int} {h : Int} (ht : 0 ≤ t.2 ∧ t.2 ≤ 16) (hcn : 0 ≤ cn ∧ cn ≤ 4) (hso : Bd 0 5 so) (hsp : Bd 0 59 sp) (hh : R32 h) : CtE g yX1_markOfHours wsX1_markOfHours 3 64 [.ref a, .ref b, .int (iI h)] (wAsk g a a1 t.1 t.2 ++ wClk g b b1 b2 b3 mk cn so tu sp) (hMk cn so sp h) (wAsk g a a1 (hMkT cn so h t).1 (hMkT cn so h t).2 ++ wClk g b b1 b2 b3 mk cn so tu sp) := by
  refine m_go (cc := cX1_markOfHours) (nL := 4) (by decide +kernel) rfl (Nat.le_of_ble_eq_true rfl) (fun x X Y hnm => ?_)
  refine v_eq (lo2 := [some (.ref a), some (.ref b), some (.int (iI h)), none]) rfl rfl rfl rfl ?_
  have q1 := atI_bd (cn := cn) (h := h) hso (by omega) (by omega)
  refine v_aload_n X dX1_markOfHours_0 rfl ?_
  refine v_iload_n X dX1_markOfHours_1 rfl ?_
  refine res_E X (run_V X (c_X2_sortOf (g := g) (by first | assumption | omega) (by first | assumption | omega) (by first | assumption | omega)) gX1_markOfHours_X2_sortOf rfl hdX2_sortOf ⟨(Nat.le_of_ble_eq_true rfl), (Nat.le_of_ble_eq_true rfl)⟩ ⟨(Nat.le_of_ble_eq_true rfl), (Nat.le_of_ble_eq_true rfl)⟩ 2 rfl rfl rfl [2, 3, 4, 5] rfl rfl rfl rfl (by simp [Value.category]) dX1_markOfHours_2) [2, 3, 4, 5] rfl rfl ?_
  refine v_istore_n X dX1_markOfHours_5 3 rfl (by decide) rfl ?_
  dsimp only [List.set]
  refine v_iload_n X dX1_markOfHours_6 rfl ?_
  refine v_iconst X dX1_markOfHours_7 ?_
  refine v_icmp_ne (tgt := 28) X dX1_markOfHours_8 (by decide) (by omega) (by omega) (fun c1 => ?_) (fun c1 => ?_)
  · skip
    refine v_iload_n X dX1_markOfHours_28 rfl ?_
    refine v_iconst X dX1_markOfHours_29 ?_
    refine v_icmp_ne (tgt := 48) X dX1_markOfHours_30 (by decide) (by omega) (by omega) (fun c2 => ?_) (fun c2 => ?_)
    · skip
      refine v_aload_n X dX1_markOfHours_48 rfl ?_
      refine v_aload_n X dX1_markOfHours_49 rfl ?_
      refine v_iload_n X dX1_markOfHours_50 rfl ?_
      refine res_F X (run_V X (c_X1_hourMark (g := g) (by first | assumption | (apply lvT_bd; assumption) | (apply lvT_bd; apply lvT_bd; assumption) | (apply lvT_bd; apply lvT_bd; apply lvT_bd; assumption)) (by first | assumption | omega) (by first | assumption | omega) (by first | assumption | omega)) gX1_markOfHours_X1_hourMark rfl hdX1_hourMark ⟨(Nat.le_of_ble_eq_true rfl), (Nat.le_of_ble_eq_true rfl)⟩ ⟨(Nat.le_of_ble_eq_true rfl), (Nat.le_of_ble_eq_true rfl)⟩ 0 rfl rfl rfl [0, 1, 2, 3, 4, 5] rfl rfl rfl rfl (by simp [Value.category]) dX1_markOfHours_51) [0, 1, 2, 3, 4, 5] rfl rfl rfl ?_
      dsimp only [patch, List.set, List.cons_append, List.nil_append, wAsk, wClk]
      exact v_iret X Y dX1_markOfHours_54 (u := ()) (by unfold hMk; first | rfl | (rw [if_pos (by omega)]) | (rw [if_neg (by omega), if_pos (by omega)]) | (rw [if_neg (by omega), if_neg (by omega)]) | (rw [if_neg (by omega)])) (by (unfold hMkT; first | rfl | (rw [if_pos (by omega)]) | (rw [if_neg (by omega), if_pos (by omega)]) | (rw [if_neg (by omega), if_neg (by omega)]) | (rw [if_neg (by omega)])) <;> rfl)
    · skip
      refine v_aload_n X dX1_markOfHours_33 rfl ?_
      refine v_bipush X dX1_markOfHours_34 (by decide) ?_
      refine res_W X (run_V X (c_X1_leave (g := g) (by first | assumption | (apply lvT_bd; assumption) | (apply lvT_bd; apply lvT_bd; assumption) | (apply lvT_bd; apply lvT_bd; apply lvT_bd; assumption))) gX1_markOfHours_X1_leave rfl hdX1_leave ⟨(Nat.le_of_ble_eq_true rfl), (Nat.le_of_ble_eq_true rfl)⟩ ⟨(Nat.le_of_ble_eq_true rfl), (Nat.le_of_ble_eq_true rfl)⟩ 0 rfl rfl rfl [0, 1] rfl rfl rfl rfl (by simp [Value.category]) dX1_markOfHours_36) [0, 1] rfl rfl rfl ?_
      dsimp only [patch, List.set, List.cons_append, List.nil_append, wAsk, wClk]
      refine v_iconst X dX1_markOfHours_39 ?_
      refine v_aload_n X dX1_markOfHours_40 rfl ?_
      refine v_aload_n X dX1_markOfHours_41 rfl ?_
      refine v_iload_n X dX1_markOfHours_42 rfl ?_
      refine res_F X (run_V X (c_X1_hourMark (g := g) (by first | assumption | (apply lvT_bd; assumption) | (apply lvT_bd; apply lvT_bd; assumption) | (apply lvT_bd; apply lvT_bd; apply lvT_bd; assumption)) (by first | assumption | omega) (by first | assumption | omega) (by first | assumption | omega)) gX1_markOfHours_X1_hourMark rfl hdX1_hourMark ⟨(Nat.le_of_ble_eq_true rfl), (Nat.le_of_ble_eq_true rfl)⟩ ⟨(Nat.le_of_ble_eq_true rfl), (Nat.le_of_ble_eq_true rfl)⟩ 0 rfl rfl rfl [0, 1, 2, 3, 4, 5] rfl rfl rfl rfl (by simp [Value.category]) dX1_markOfHours_43) [0, 1, 2, 3, 4, 5] rfl rfl rfl ?_
      dsimp only [patch, List.set, List.cons_append, List.nil_append, wAsk, wClk]
      refine v_imul X dX1_markOfHours_46 ?_
      exact v_iret X Y dX1_markOfHours_47 (u := ()) (by unfold hMk; first | rfl | (rw [if_pos (by omega)]) | (rw [if_neg (by omega), if_pos (by omega)]) | (rw [if_neg (by omega), if_neg (by omega)]) | (rw [if_neg (by omega)])) (by (unfold hMkT; first | rfl | (rw [if_pos (by omega)]) | (rw [if_neg (by omega), if_pos (by omega)]) | (rw [if_neg (by omega), if_neg (by omega)]) | (rw [if_neg (by omega)])) <;> rfl)
  · skip
    refine v_aload_n X dX1_markOfHours_11 rfl ?_
    refine v_bipush X dX1_markOfHours_12 (by decide) ?_
    refine res_W X (run_V X (c_X1_leave (g := g) (by first | assumption | (apply lvT_bd; assumption) | (apply lvT_bd; apply lvT_bd; assumption) | (apply lvT_bd; apply lvT_bd; apply lvT_bd; assumption))) gX1_markOfHours_X1_leave rfl hdX1_leave ⟨(Nat.le_of_ble_eq_true rfl), (Nat.le_of_ble_eq_true rfl)⟩ ⟨(Nat.le_of_ble_eq_true rfl), (Nat.le_of_ble_eq_true rfl)⟩ 0 rfl rfl rfl [0, 1] rfl rfl rfl rfl (by simp [Value.category]) dX1_markOfHours_14) [0, 1] rfl rfl rfl ?_
    dsimp only [patch, List.set, List.cons_append, List.nil_append, wAsk, wClk]
    refine v_aload_n X dX1_markOfHours_17 rfl ?_
    refine v_aload_n X dX1_markOfHours_18 rfl ?_
    refine v_iload_n X dX1_markOfHours_19 rfl ?_
    refine res_F X (run_V X (c_X1_hourMark (g := g) (by first | assumption | (apply lvT_bd; assumption) | (apply lvT_bd; apply lvT_bd; assumption) | (apply lvT_bd; apply lvT_bd; apply lvT_bd; assumption)) (by first | assumption | omega) (by first | assumption | omega) (by first | assumption | omega)) gX1_markOfHours_X1_hourMark rfl hdX1_hourMark ⟨(Nat.le_of_ble_eq_true rfl), (Nat.le_of_ble_eq_true rfl)⟩ ⟨(Nat.le_of_ble_eq_true rfl), (Nat.le_of_ble_eq_true rfl)⟩ 0 rfl rfl rfl [0, 1, 2, 3, 4, 5] rfl rfl rfl rfl (by simp [Value.category]) dX1_markOfHours_20) [0, 1, 2, 3, 4, 5] rfl rfl rfl ?_
    dsimp only [patch, List.set, List.cons_append, List.nil_append, wAsk, wClk]
    refine v_sipush X dX1_markOfHours_23 (by decide) ?_
    refine v_isub X dX1_markOfHours_26 ?_
    exact v_iret X Y dX1_markOfHours_27 (u := ()) (by unfold hMk; first | rfl | (rw [if_pos (by omega)]) | (rw [if_neg (by omega), if_pos (by omega)]) | (rw [if_neg (by omega), if_neg (by omega)]) | (rw [if_neg (by omega)])) (by (unfold hMkT; first | rfl | (rw [if_pos (by omega)]) | (rw [if_neg (by omega), if_pos (by omega)]) | (rw [if_neg (by omega), if_neg (by omega)]) | (rw [if_neg (by omega)])) <;> rfl)

theorem hdX1_hourSize : yX1_hourSize.cls = RX1 ∧ yX1_hourSize.cls ≠ "java/lang/invoke/MethodHandle" ∧ yX1_hourSize.cls ≠ "java/lang/invoke/VarHandle" ∧ (parseMethodDescriptor yX1_hourSize.desc).map (fun d => d.parameters.length) = some 2 := ⟨rfl, by decide +kernel, by decide +kernel, by decide +kernel⟩
set_option maxHeartbeats 4000000 in
set_option maxRecDepth 100000 in
theorem c_X1_hourSize {g : Gx} {a a1 : Nat} {t : TS} {b b1 b2 b3 : Nat} {mk cn : Int} {so tu sp : Nat → Int} {h : Int} (ht : 0 ≤ t.2 ∧ t.2 ≤ 16) (hcn : 0 ≤ cn ∧ cn ≤ 4) (hso : Bd 0 5 so) (htu : Bd 0 12 tu) (hsp : Bd 0 59 sp) (hh : R32 h) : CtE g yX1_hourSize wsX1_hourSize 4 87 [.ref a, .ref b, .int (iI h)] (wAsk g a a1 t.1 t.2 ++ wClk g b b1 b2 b3 mk cn so tu sp) (atI cn tu h + hMk cn so sp h) (wAsk g a a1 (hMkT cn so h (lvT (lvT t 11) 10)).1 (hMkT cn so h (lvT (lvT t 11) 10)).2 ++ wClk g b b1 b2 b3 mk cn so tu sp) := by
  refine m_go (cc := cX1_hourSize) (nL := 4) (by decide +kernel) rfl (Nat.le_of_ble_eq_true rfl) (fun x X Y hnm => ?_)
  refine v_eq (lo2 := [some (.ref a), some (.ref b), some (.int (iI h)), none]) rfl rfl rfl rfl ?_
  refine v_aload_n X dX1_hourSize_0 rfl ?_
  refine v_bipush X dX1_hourSize_1 (by decide) ?_
  refine res_W X (run_V X (c_X1_leave (g := g) (by first | assumption | (apply lvT_bd; assumption) | (apply lvT_bd; apply lvT_bd; assumption) | (apply lvT_bd; apply lvT_bd; apply lvT_bd; assumption))) gX1_hourSize_X1_leave rfl hdX1_leave ⟨(Nat.le_of_ble_eq_true rfl), (Nat.le_of_ble_eq_true rfl)⟩ ⟨(Nat.le_of_ble_eq_true rfl), (Nat.le_of_ble_eq_true rfl)⟩ 0 rfl rfl rfl [0, 1] rfl rfl rfl rfl (by simp [Value.category]) dX1_hourSize_3) [0, 1] rfl rfl rfl ?_
  dsimp only [patch, List.set, List.cons_append, List.nil_append, wAsk, wClk]
  refine v_aload_n X dX1_hourSize_6 rfl ?_
  refine v_aload_n X dX1_hourSize_7 rfl ?_
  refine v_iload_n X dX1_hourSize_8 rfl ?_
  refine res_F X (run_V X (c_X1_lentSize (g := g) (by first | assumption | (apply lvT_bd; assumption) | (apply lvT_bd; apply lvT_bd; assumption) | (apply lvT_bd; apply lvT_bd; apply lvT_bd; assumption)) (by first | assumption | omega) (by first | assumption | omega) (by first | assumption | omega)) gX1_hourSize_X1_lentSize rfl hdX1_lentSize ⟨(Nat.le_of_ble_eq_true rfl), (Nat.le_of_ble_eq_true rfl)⟩ ⟨(Nat.le_of_ble_eq_true rfl), (Nat.le_of_ble_eq_true rfl)⟩ 0 rfl rfl rfl [0, 1, 2, 3, 4, 5] rfl rfl rfl rfl (by simp [Value.category]) dX1_hourSize_9) [0, 1, 2, 3, 4, 5] rfl rfl rfl ?_
  dsimp only [patch, List.set, List.cons_append, List.nil_append, wAsk, wClk]
  refine v_istore_n X dX1_hourSize_12 3 rfl (by decide) rfl ?_
  dsimp only [List.set]
  refine v_iload_n X dX1_hourSize_13 rfl ?_
  refine v_aload_n X dX1_hourSize_14 rfl ?_
  refine v_aload_n X dX1_hourSize_15 rfl ?_
  refine v_iload_n X dX1_hourSize_16 rfl ?_
  refine res_F X (run_V X (c_X1_markOfHours (g := g) (by first | assumption | (apply lvT_bd; assumption) | (apply lvT_bd; apply lvT_bd; assumption) | (apply lvT_bd; apply lvT_bd; apply lvT_bd; assumption)) (by first | assumption | omega) (by first | assumption | omega) (by first | assumption | omega) (by first | assumption | omega)) gX1_hourSize_X1_markOfHours rfl hdX1_markOfHours ⟨(Nat.le_of_ble_eq_true rfl), (Nat.le_of_ble_eq_true rfl)⟩ ⟨(Nat.le_of_ble_eq_true rfl), (Nat.le_of_ble_eq_true rfl)⟩ 0 rfl rfl rfl [0, 1, 2, 3, 4, 5] rfl rfl rfl rfl (by simp [Value.category]) dX1_hourSize_17) [0, 1, 2, 3, 4, 5] rfl rfl rfl ?_
  dsimp only [patch, List.set, List.cons_append, List.nil_append, wAsk, wClk]
  refine v_iadd X dX1_hourSize_20 ?_
  exact v_iret X Y dX1_hourSize_21 (u := ()) (by first | rfl | omega | (split <;> omega) | (simp [*]; done)) (by rfl)

theorem hdX1_backSize : yX1_backSize.cls = RX1 ∧ yX1_backSize.cls ≠ "java/lang/invoke/MethodHandle" ∧ yX1_backSize.cls ≠ "java/lang/invoke/VarHandle" ∧ (parseMethodDescriptor yX1_backSize.desc).map (fun d => d.parameters.length) = some 2 := ⟨rfl, by decide +kernel, by decide +kernel, by decide +kernel⟩
set_option maxHeartbeats 4000000 in
set_option maxRecDepth 100000 in
theorem c_X1_backSize {g : Gx} {a a1 : Nat} {t : TS} {b b1 b2 b3 : Nat} {mk cn : Int} {so tu sp : Nat → Int} {h : Int} (ht : 0 ≤ t.2 ∧ t.2 ≤ 16) (hcn : 0 ≤ cn ∧ cn ≤ 4) (htu : Bd 0 12 tu) (hh : R32 h) : CtE g yX1_backSize wsX1_backSize 3 64 [.ref a, .ref b, .int (iI h)] (wAsk g a a1 t.1 t.2 ++ wClk g b b1 b2 b3 mk cn so tu sp) (atI cn tu h - 100) (wAsk g a a1 (lvT (lvT t 13) 10).1 (lvT (lvT t 13) 10).2 ++ wClk g b b1 b2 b3 mk cn so tu sp) := by
  refine m_go (cc := cX1_backSize) (nL := 3) (by decide +kernel) rfl (Nat.le_of_ble_eq_true rfl) (fun x X Y hnm => ?_)
  refine v_eq (lo2 := [some (.ref a), some (.ref b), some (.int (iI h))]) rfl rfl rfl rfl ?_
  refine v_aload_n X dX1_backSize_0 rfl ?_
  refine v_bipush X dX1_backSize_1 (by decide) ?_
  refine res_W X (run_V X (c_X1_leave (g := g) (by first | assumption | (apply lvT_bd; assumption) | (apply lvT_bd; apply lvT_bd; assumption) | (apply lvT_bd; apply lvT_bd; apply lvT_bd; assumption))) gX1_backSize_X1_leave rfl hdX1_leave ⟨(Nat.le_of_ble_eq_true rfl), (Nat.le_of_ble_eq_true rfl)⟩ ⟨(Nat.le_of_ble_eq_true rfl), (Nat.le_of_ble_eq_true rfl)⟩ 0 rfl rfl rfl [0, 1] rfl rfl rfl rfl (by simp [Value.category]) dX1_backSize_3) [0, 1] rfl rfl rfl ?_
  dsimp only [patch, List.set, List.cons_append, List.nil_append, wAsk, wClk]
  refine v_aload_n X dX1_backSize_6 rfl ?_
  refine v_aload_n X dX1_backSize_7 rfl ?_
  refine v_iload_n X dX1_backSize_8 rfl ?_
  refine res_F X (run_V X (c_X1_lentSize (g := g) (by first | assumption | (apply lvT_bd; assumption) | (apply lvT_bd; apply lvT_bd; assumption) | (apply lvT_bd; apply lvT_bd; apply lvT_bd; assumption)) (by first | assumption | omega) (by first | assumption | omega) (by first | assumption | omega)) gX1_backSize_X1_lentSize rfl hdX1_lentSize ⟨(Nat.le_of_ble_eq_true rfl), (Nat.le_of_ble_eq_true rfl)⟩ ⟨(Nat.le_of_ble_eq_true rfl), (Nat.le_of_ble_eq_true rfl)⟩ 0 rfl rfl rfl [0, 1, 2, 3, 4, 5] rfl rfl rfl rfl (by simp [Value.category]) dX1_backSize_9) [0, 1, 2, 3, 4, 5] rfl rfl rfl ?_
  dsimp only [patch, List.set, List.cons_append, List.nil_append, wAsk, wClk]
  refine v_bipush X dX1_backSize_12 (by decide) ?_
  refine v_isub X dX1_backSize_14 ?_
  exact v_iret X Y dX1_backSize_15 (u := ()) (by first | rfl | omega | (split <;> omega) | (simp [*]; done)) (by rfl)

theorem hdX1_sizeOfHours : yX1_sizeOfHours.cls = RX1 ∧ yX1_sizeOfHours.cls ≠ "java/lang/invoke/MethodHandle" ∧ yX1_sizeOfHours.cls ≠ "java/lang/invoke/VarHandle" ∧ (parseMethodDescriptor yX1_sizeOfHours.desc).map (fun d => d.parameters.length) = some 2 := ⟨rfl, by decide +kernel, by decide +kernel, by decide +kernel⟩
set_option maxHeartbeats 4000000 in
set_option maxRecDepth 100000 in
theorem c_X1_sizeOfHours {g : Gx} {a a1 : Nat} {t : TS} {b b1 b2 b3 : Nat} {mk cn : Int} {so tu sp : Nat → Int} {h : Int} (ht : 0 ≤ t.2 ∧ t.2 ≤ 16) (hcn : 0 ≤ cn ∧ cn ≤ 4) (hso : Bd 0 5 so) (htu : Bd 0 12 tu) (hsp : Bd 0 59 sp) (hh : R32 h) : CtE g yX1_sizeOfHours wsX1_sizeOfHours 5 110 [.ref a, .ref b, .int (iI h)] (wAsk g a a1 t.1 t.2 ++ wClk g b b1 b2 b3 mk cn so tu sp) (hSz cn so tu sp h) (wAsk g a a1 (hSzT cn so h t).1 (hSzT cn so h t).2 ++ wClk g b b1 b2 b3 mk cn so tu sp) := by
  refine m_go (cc := cX1_sizeOfHours) (nL := 3) (by decide +kernel) rfl (Nat.le_of_ble_eq_true rfl) (fun x X Y hnm => ?_)
  refine v_eq (lo2 := [some (.ref a), some (.ref b), some (.int (iI h))]) rfl rfl rfl rfl ?_
  have q1 := atI_bd (cn := cn) (h := h) hso (by omega) (by omega)
  refine v_aload_n X dX1_sizeOfHours_0 rfl ?_
  refine v_iload_n X dX1_sizeOfHours_1 rfl ?_
  refine res_E X (run_V X (c_X2_sortOf (g := g) (by first | assumption | omega) (by first | assumption | omega) (by first | assumption | omega)) gX1_sizeOfHours_X2_sortOf rfl hdX2_sortOf ⟨(Nat.le_of_ble_eq_true rfl), (Nat.le_of_ble_eq_true rfl)⟩ ⟨(Nat.le_of_ble_eq_true rfl), (Nat.le_of_ble_eq_true rfl)⟩ 2 rfl rfl rfl [2, 3, 4, 5] rfl rfl rfl rfl (by simp [Value.category]) dX1_sizeOfHours_2) [2, 3, 4, 5] rfl rfl ?_
  refine v_iconst X dX1_sizeOfHours_5 ?_
  refine v_icmp_ne (tgt := 23) X dX1_sizeOfHours_6 (by decide) (by omega) (by omega) (fun c1 => ?_) (fun c1 => ?_)
  · skip
    refine v_aload_n X dX1_sizeOfHours_23 rfl ?_
    refine v_aload_n X dX1_sizeOfHours_24 rfl ?_
    refine v_iload_n X dX1_sizeOfHours_25 rfl ?_
    refine res_F X (run_V X (c_X1_hourSize (g := g) (by first | assumption | (apply lvT_bd; assumption) | (apply lvT_bd; apply lvT_bd; assumption) | (apply lvT_bd; apply lvT_bd; apply lvT_bd; assumption)) (by first | assumption | omega) (by first | assumption | omega) (by first | assumption | omega) (by first | assumption | omega) (by first | assumption | omega)) gX1_sizeOfHours_X1_hourSize rfl hdX1_hourSize ⟨(Nat.le_of_ble_eq_true rfl), (Nat.le_of_ble_eq_true rfl)⟩ ⟨(Nat.le_of_ble_eq_true rfl), (Nat.le_of_ble_eq_true rfl)⟩ 0 rfl rfl rfl [0, 1, 2, 3, 4, 5] rfl rfl rfl rfl (by simp [Value.category]) dX1_sizeOfHours_26) [0, 1, 2, 3, 4, 5] rfl rfl rfl ?_
    dsimp only [patch, List.set, List.cons_append, List.nil_append, wAsk, wClk]
    exact v_iret X Y dX1_sizeOfHours_29 (u := ()) (by unfold hSz; first | rfl | (rw [if_pos (by omega)]) | (rw [if_neg (by omega), if_pos (by omega)]) | (rw [if_neg (by omega), if_neg (by omega)]) | (rw [if_neg (by omega)])) (by (unfold hSzT; first | rfl | (rw [if_pos (by omega)]) | (rw [if_neg (by omega), if_pos (by omega)]) | (rw [if_neg (by omega), if_neg (by omega)]) | (rw [if_neg (by omega)])) <;> rfl)
  · skip
    refine v_aload_n X dX1_sizeOfHours_9 rfl ?_
    refine v_bipush X dX1_sizeOfHours_10 (by decide) ?_
    refine res_W X (run_V X (c_X1_leave (g := g) (by first | assumption | (apply lvT_bd; assumption) | (apply lvT_bd; apply lvT_bd; assumption) | (apply lvT_bd; apply lvT_bd; apply lvT_bd; assumption))) gX1_sizeOfHours_X1_leave rfl hdX1_leave ⟨(Nat.le_of_ble_eq_true rfl), (Nat.le_of_ble_eq_true rfl)⟩ ⟨(Nat.le_of_ble_eq_true rfl), (Nat.le_of_ble_eq_true rfl)⟩ 0 rfl rfl rfl [0, 1] rfl rfl rfl rfl (by simp [Value.category]) dX1_sizeOfHours_12) [0, 1] rfl rfl rfl ?_
    dsimp only [patch, List.set, List.cons_append, List.nil_append, wAsk, wClk]
    refine v_aload_n X dX1_sizeOfHours_15 rfl ?_
    refine v_aload_n X dX1_sizeOfHours_16 rfl ?_
    refine v_iload_n X dX1_sizeOfHours_17 rfl ?_
    refine res_F X (run_V X (c_X1_hourSize (g := g) (by first | assumption | (apply lvT_bd; assumption) | (apply lvT_bd; apply lvT_bd; assumption) | (apply lvT_bd; apply lvT_bd; apply lvT_bd; assumption)) (by first | assumption | omega) (by first | assumption | omega) (by first | assumption | omega) (by first | assumption | omega) (by first | assumption | omega)) gX1_sizeOfHours_X1_hourSize rfl hdX1_hourSize ⟨(Nat.le_of_ble_eq_true rfl), (Nat.le_of_ble_eq_true rfl)⟩ ⟨(Nat.le_of_ble_eq_true rfl), (Nat.le_of_ble_eq_true rfl)⟩ 0 rfl rfl rfl [0, 1, 2, 3, 4, 5] rfl rfl rfl rfl (by simp [Value.category]) dX1_sizeOfHours_18) [0, 1, 2, 3, 4, 5] rfl rfl rfl ?_
    dsimp only [patch, List.set, List.cons_append, List.nil_append, wAsk, wClk]
    refine v_ineg X dX1_sizeOfHours_21 ?_
    exact v_iret X Y dX1_sizeOfHours_22 (u := ()) (by unfold hSz; first | rfl | (rw [if_pos (by omega)]) | (rw [if_neg (by omega), if_pos (by omega)]) | (rw [if_neg (by omega), if_neg (by omega)]) | (rw [if_neg (by omega)])) (by (unfold hSzT; first | rfl | (rw [if_pos (by omega)]) | (rw [if_neg (by omega), if_pos (by omega)]) | (rw [if_neg (by omega), if_neg (by omega)]) | (rw [if_neg (by omega)])) <;> rfl)

theorem hdX1_sizeOfBacks : yX1_sizeOfBacks.cls = RX1 ∧ yX1_sizeOfBacks.cls ≠ "java/lang/invoke/MethodHandle" ∧ yX1_sizeOfBacks.cls ≠ "java/lang/invoke/VarHandle" ∧ (parseMethodDescriptor yX1_sizeOfBacks.desc).map (fun d => d.parameters.length) = some 2 := ⟨rfl, by decide +kernel, by decide +kernel, by decide +kernel⟩
set_option maxHeartbeats 4000000 in
set_option maxRecDepth 100000 in
theorem c_X1_sizeOfBacks {g : Gx} {a a1 : Nat} {t : TS} {b b1 b2 b3 : Nat} {mk cn : Int} {so tu sp : Nat → Int} {h : Int} (ht : 0 ≤ t.2 ∧ t.2 ≤ 16) (hcn : 0 ≤ cn ∧ cn ≤ 4) (hso : Bd 0 5 so) (htu : Bd 0 12 tu) (hh : R32 h) : CtE g yX1_sizeOfBacks wsX1_sizeOfBacks 4 86 [.ref a, .ref b, .int (iI h)] (wAsk g a a1 t.1 t.2 ++ wClk g b b1 b2 b3 mk cn so tu sp) (bSz cn so tu h) (wAsk g a a1 (bSzT cn so h t).1 (bSzT cn so h t).2 ++ wClk g b b1 b2 b3 mk cn so tu sp) := by
  refine m_go (cc := cX1_sizeOfBacks) (nL := 3) (by decide +kernel) rfl (Nat.le_of_ble_eq_true rfl) (fun x X Y hnm => ?_)
  refine v_eq (lo2 := [some (.ref a), some (.ref b), some (.int (iI h))]) rfl rfl rfl rfl ?_
  have q1 := atI_bd (cn := cn) (h := h) hso (by omega) (by omega)
  refine v_aload_n X dX1_sizeOfBacks_0 rfl ?_
  refine v_iload_n X dX1_sizeOfBacks_1 rfl ?_
  refine res_E X (run_V X (c_X2_sortOf (g := g) (by first | assumption | omega) (by first | assumption | omega) (by first | assumption | omega)) gX1_sizeOfBacks_X2_sortOf rfl hdX2_sortOf ⟨(Nat.le_of_ble_eq_true rfl), (Nat.le_of_ble_eq_true rfl)⟩ ⟨(Nat.le_of_ble_eq_true rfl), (Nat.le_of_ble_eq_true rfl)⟩ 2 rfl rfl rfl [2, 3, 4, 5] rfl rfl rfl rfl (by simp [Value.category]) dX1_sizeOfBacks_2) [2, 3, 4, 5] rfl rfl ?_
  refine v_iconst X dX1_sizeOfBacks_5 ?_
  refine v_icmp_ne (tgt := 24) X dX1_sizeOfBacks_6 (by decide) (by omega) (by omega) (fun c1 => ?_) (fun c1 => ?_)
  · skip
    refine v_aload_n X dX1_sizeOfBacks_24 rfl ?_
    refine v_aload_n X dX1_sizeOfBacks_25 rfl ?_
    refine v_iload_n X dX1_sizeOfBacks_26 rfl ?_
    refine res_F X (run_V X (c_X1_backSize (g := g) (by first | assumption | (apply lvT_bd; assumption) | (apply lvT_bd; apply lvT_bd; assumption) | (apply lvT_bd; apply lvT_bd; apply lvT_bd; assumption)) (by first | assumption | omega) (by first | assumption | omega) (by first | assumption | omega)) gX1_sizeOfBacks_X1_backSize rfl hdX1_backSize ⟨(Nat.le_of_ble_eq_true rfl), (Nat.le_of_ble_eq_true rfl)⟩ ⟨(Nat.le_of_ble_eq_true rfl), (Nat.le_of_ble_eq_true rfl)⟩ 0 rfl rfl rfl [0, 1, 2, 3, 4, 5] rfl rfl rfl rfl (by simp [Value.category]) dX1_sizeOfBacks_27) [0, 1, 2, 3, 4, 5] rfl rfl rfl ?_
    dsimp only [patch, List.set, List.cons_append, List.nil_append, wAsk, wClk]
    exact v_iret X Y dX1_sizeOfBacks_30 (u := ()) (by unfold bSz; first | rfl | (rw [if_pos (by omega)]) | (rw [if_neg (by omega), if_pos (by omega)]) | (rw [if_neg (by omega), if_neg (by omega)]) | (rw [if_neg (by omega)])) (by (unfold bSzT; first | rfl | (rw [if_pos (by omega)]) | (rw [if_neg (by omega), if_pos (by omega)]) | (rw [if_neg (by omega), if_neg (by omega)]) | (rw [if_neg (by omega)])) <;> rfl)
  · skip
    refine v_aload_n X dX1_sizeOfBacks_9 rfl ?_
    refine v_bipush X dX1_sizeOfBacks_10 (by decide) ?_
    refine res_W X (run_V X (c_X1_leave (g := g) (by first | assumption | (apply lvT_bd; assumption) | (apply lvT_bd; apply lvT_bd; assumption) | (apply lvT_bd; apply lvT_bd; apply lvT_bd; assumption))) gX1_sizeOfBacks_X1_leave rfl hdX1_leave ⟨(Nat.le_of_ble_eq_true rfl), (Nat.le_of_ble_eq_true rfl)⟩ ⟨(Nat.le_of_ble_eq_true rfl), (Nat.le_of_ble_eq_true rfl)⟩ 0 rfl rfl rfl [0, 1] rfl rfl rfl rfl (by simp [Value.category]) dX1_sizeOfBacks_12) [0, 1] rfl rfl rfl ?_
    dsimp only [patch, List.set, List.cons_append, List.nil_append, wAsk, wClk]
    refine v_iconst X dX1_sizeOfBacks_15 ?_
    refine v_aload_n X dX1_sizeOfBacks_16 rfl ?_
    refine v_aload_n X dX1_sizeOfBacks_17 rfl ?_
    refine v_iload_n X dX1_sizeOfBacks_18 rfl ?_
    refine res_F X (run_V X (c_X1_backSize (g := g) (by first | assumption | (apply lvT_bd; assumption) | (apply lvT_bd; apply lvT_bd; assumption) | (apply lvT_bd; apply lvT_bd; apply lvT_bd; assumption)) (by first | assumption | omega) (by first | assumption | omega) (by first | assumption | omega)) gX1_sizeOfBacks_X1_backSize rfl hdX1_backSize ⟨(Nat.le_of_ble_eq_true rfl), (Nat.le_of_ble_eq_true rfl)⟩ ⟨(Nat.le_of_ble_eq_true rfl), (Nat.le_of_ble_eq_true rfl)⟩ 0 rfl rfl rfl [0, 1, 2, 3, 4, 5] rfl rfl rfl rfl (by simp [Value.category]) dX1_sizeOfBacks_19) [0, 1, 2, 3, 4, 5] rfl rfl rfl ?_
    dsimp only [patch, List.set, List.cons_append, List.nil_append, wAsk, wClk]
    refine v_imul X dX1_sizeOfBacks_22 ?_
    exact v_iret X Y dX1_sizeOfBacks_23 (u := ()) (by unfold bSz; first | rfl | (rw [if_pos (by omega)]) | (rw [if_neg (by omega), if_pos (by omega)]) | (rw [if_neg (by omega), if_neg (by omega)]) | (rw [if_neg (by omega)])) (by (unfold bSzT; first | rfl | (rw [if_pos (by omega)]) | (rw [if_neg (by omega), if_pos (by omega)]) | (rw [if_neg (by omega), if_neg (by omega)]) | (rw [if_neg (by omega)])) <;> rfl)

theorem hdX1_markOfBacks : yX1_markOfBacks.cls = RX1 ∧ yX1_markOfBacks.cls ≠ "java/lang/invoke/MethodHandle" ∧ yX1_markOfBacks.cls ≠ "java/lang/invoke/VarHandle" ∧ (parseMethodDescriptor yX1_markOfBacks.desc).map (fun d => d.parameters.length) = some 2 := ⟨rfl, by decide +kernel, by decide +kernel, by decide +kernel⟩
set_option maxHeartbeats 4000000 in
set_option maxRecDepth 100000 in
theorem c_X1_markOfBacks {g : Gx} {a a1 : Nat} {t : TS} {b b1 b2 b3 : Nat} {mk cn : Int} {so tu sp : Nat → Int} {h : Int} (ht : 0 ≤ t.2 ∧ t.2 ≤ 16) (hcn : 0 ≤ cn ∧ cn ≤ 4) (hso : Bd 0 5 so) (htu : Bd 0 12 tu) (hh : R32 h) : CtE g yX1_markOfBacks wsX1_markOfBacks 5 108 [.ref a, .ref b, .int (iI h)] (wAsk g a a1 t.1 t.2 ++ wClk g b b1 b2 b3 mk cn so tu sp) (h - bSz cn so tu h) (wAsk g a a1 (bSzT cn so h (lvT (lvT t 23) 20)).1 (bSzT cn so h (lvT (lvT t 23) 20)).2 ++ wClk g b b1 b2 b3 mk cn so tu sp) := by
  refine m_go (cc := cX1_markOfBacks) (nL := 4) (by decide +kernel) rfl (Nat.le_of_ble_eq_true rfl) (fun x X Y hnm => ?_)
  refine v_eq (lo2 := [some (.ref a), some (.ref b), some (.int (iI h)), none]) rfl rfl rfl rfl ?_
  refine v_aload_n X dX1_markOfBacks_0 rfl ?_
  refine v_bipush X dX1_markOfBacks_1 (by decide) ?_
  refine res_W X (run_V X (c_X1_leave (g := g) (by first | assumption | (apply lvT_bd; assumption) | (apply lvT_bd; apply lvT_bd; assumption) | (apply lvT_bd; apply lvT_bd; apply lvT_bd; assumption))) gX1_markOfBacks_X1_leave rfl hdX1_leave ⟨(Nat.le_of_ble_eq_true rfl), (Nat.le_of_ble_eq_true rfl)⟩ ⟨(Nat.le_of_ble_eq_true rfl), (Nat.le_of_ble_eq_true rfl)⟩ 0 rfl rfl rfl [0, 1] rfl rfl rfl rfl (by simp [Value.category]) dX1_markOfBacks_3) [0, 1] rfl rfl rfl ?_
  dsimp only [patch, List.set, List.cons_append, List.nil_append, wAsk, wClk]
  refine v_aload_n X dX1_markOfBacks_6 rfl ?_
  refine v_iload_n X dX1_markOfBacks_7 rfl ?_
  refine res_F X (run_V X (c_X1_lentMark (g := g) (by first | assumption | (apply lvT_bd; assumption) | (apply lvT_bd; apply lvT_bd; assumption) | (apply lvT_bd; apply lvT_bd; apply lvT_bd; assumption))) gX1_markOfBacks_X1_lentMark rfl hdX1_lentMark ⟨(Nat.le_of_ble_eq_true rfl), (Nat.le_of_ble_eq_true rfl)⟩ ⟨(Nat.le_of_ble_eq_true rfl), (Nat.le_of_ble_eq_true rfl)⟩ 0 rfl rfl rfl [0, 1] rfl rfl rfl rfl (by simp [Value.category]) dX1_markOfBacks_8) [0, 1] rfl rfl rfl ?_
  dsimp only [patch, List.set, List.cons_append, List.nil_append, wAsk, wClk]
  refine v_istore_n X dX1_markOfBacks_11 3 rfl (by decide) rfl ?_
  dsimp only [List.set]
  refine v_iload_n X dX1_markOfBacks_12 rfl ?_
  refine v_aload_n X dX1_markOfBacks_13 rfl ?_
  refine v_aload_n X dX1_markOfBacks_14 rfl ?_
  refine v_iload_n X dX1_markOfBacks_15 rfl ?_
  refine res_F X (run_V X (c_X1_sizeOfBacks (g := g) (by first | assumption | (apply lvT_bd; assumption) | (apply lvT_bd; apply lvT_bd; assumption) | (apply lvT_bd; apply lvT_bd; apply lvT_bd; assumption)) (by first | assumption | omega) (by first | assumption | omega) (by first | assumption | omega) (by first | assumption | omega)) gX1_markOfBacks_X1_sizeOfBacks rfl hdX1_sizeOfBacks ⟨(Nat.le_of_ble_eq_true rfl), (Nat.le_of_ble_eq_true rfl)⟩ ⟨(Nat.le_of_ble_eq_true rfl), (Nat.le_of_ble_eq_true rfl)⟩ 0 rfl rfl rfl [0, 1, 2, 3, 4, 5] rfl rfl rfl rfl (by simp [Value.category]) dX1_markOfBacks_16) [0, 1, 2, 3, 4, 5] rfl rfl rfl ?_
  dsimp only [patch, List.set, List.cons_append, List.nil_append, wAsk, wClk]
  refine v_isub X dX1_markOfBacks_19 ?_
  exact v_iret X Y dX1_markOfBacks_20 (u := ()) (by first | rfl | omega | (split <;> omega) | (simp [*]; done)) (by rfl)

theorem hdX3_isNone : yX3_isNone.cls = RX3 ∧ yX3_isNone.cls ≠ "java/lang/invoke/MethodHandle" ∧ yX3_isNone.cls ≠ "java/lang/invoke/VarHandle" ∧ (parseMethodDescriptor yX3_isNone.desc).map (fun d => d.parameters.length) = some 0 := ⟨rfl, by decide +kernel, by decide +kernel, by decide +kernel⟩
set_option maxHeartbeats 4000000 in
set_option maxRecDepth 100000 in
theorem c_X3_isNone {g : Gx} {a : Nat} {wh sh mo fo : Int}  (hmo : 0 ≤ mo ∧ mo ≤ 576) : CtE g yX3_isNone wsX3_isNone 0 0 [.ref a] (wDou g a wh sh mo fo) (if mo = 0 then 1 else 0) (wDou g a wh sh mo fo) := by
  refine m_go (cc := cX3_isNone) (nL := 1) (by decide +kernel) rfl (Nat.le_of_ble_eq_true rfl) (fun x X Y hnm => ?_)
  refine v_eq (lo2 := [some (.ref a)]) rfl rfl rfl rfl ?_
  refine v_aload_n X dX3_isNone_0 rfl ?_
  refine v_get X (fun _ h => List.mem_cons_of_mem _ (List.mem_append_right _ h)) 0 rfl rfl 2 (by decide) rfl (List.mem_of_getElem? (i := 1) rfl) rfl dX3_isNone_1 ?_
  refine v_if_ne (tgt := 11) X dX3_isNone_4 (by decide) (by omega) (fun c1 => ?_) (fun c1 => ?_)
  · skip
    refine v_iconst X dX3_isNone_11 ?_
    exact v_zret X Y dX3_isNone_12 (by first | decide | omega | (split <;> omega)) (u := ()) (by first | rfl | omega | (split <;> omega) | (simp [*]; done)) (by rfl)
  · skip
    refine v_iconst X dX3_isNone_7 ?_
    refine v_goto (tgt := 12) X dX3_isNone_8 (by decide) ?_
    exact v_zret X Y dX3_isNone_12 (by first | decide | omega | (split <;> omega)) (u := ()) (by first | rfl | omega | (split <;> omega) | (simp [*]; done)) (by rfl)

theorem hdX3_leastOther : yX3_leastOther.cls = RX3 ∧ yX3_leastOther.cls ≠ "java/lang/invoke/MethodHandle" ∧ yX3_leastOther.cls ≠ "java/lang/invoke/VarHandle" ∧ (parseMethodDescriptor yX3_leastOther.desc).map (fun d => d.parameters.length) = some 2 := ⟨rfl, by decide +kernel, by decide +kernel, by decide +kernel⟩
set_option maxHeartbeats 4000000 in
set_option maxRecDepth 100000 in
theorem c_X3_leastOther {g : Gx} {a : Nat} {wh sh mo fo : Int} {p q : Int} (hwh : 0 ≤ wh ∧ wh ≤ 576) (hsh : 0 ≤ sh ∧ sh ≤ 24) (hmo : 0 ≤ mo ∧ mo ≤ 576) (hp : -24 ≤ p ∧ p ≤ 24) (hq : -24 ≤ q ∧ q ≤ 24) : CtI (S := Unit) g yX3_leastOther wsX3_leastOther 2 43 [.ref a, .int (iI p), .int (iI q)] (wDou g a wh sh mo fo) (fun r _ => LsO wh sh mo p q r) (fun _ => wDou g a wh sh mo fo) := by
  refine m_go (cc := cX3_leastOther) (nL := 4) (by decide +kernel) rfl (Nat.le_of_ble_eq_true rfl) (fun x X Y hnm => ?_)
  refine v_eq (lo2 := [some (.ref a), some (.int (iI p)), some (.int (iI q)), none]) rfl rfl rfl rfl ?_
  have m1 := mul_bd hp hsh
  have m2 := mul_bd hq hsh
  refine v_iconst X dX3_leastOther_0 ?_
  refine v_istore_n X dX3_leastOther_1 3 rfl (by decide) rfl ?_
  dsimp only [List.set]
  have L2 : ∀ (nf : Nat) (j : Int) (h1 : 0 ≤ j ∧ j ≤ mo) (h2 : ∀ i : Int, 0 ≤ i → i < j → ¬ lsQ wh sh p q i) (_ : (mo - j).toNat < nf), V g x 0 0 (wDou g a wh sh mo fo) [some (.ref a), some (.int (iI p)), some (.int (iI q)), some (.int (iI j))] 2 [] := by
    intro nf
    induction nf with
    | zero => intro j h1 h2 hmu; exact absurd hmu (Nat.not_lt_zero _)
    | succ nf ih2 =>
      intro j h1 h2 hmu
      refine v_iload_n X dX3_leastOther_2 rfl ?_
      refine v_aload_n X dX3_leastOther_3 rfl ?_
      refine v_get X (fun _ h => List.mem_cons_of_mem _ (List.mem_append_right _ h)) 0 rfl rfl 2 (by decide) rfl (List.mem_of_getElem? (i := 1) rfl) rfl dX3_leastOther_4 ?_
      refine v_icmp_ge (tgt := 58) X dX3_leastOther_7 (by decide) (by omega) (by omega) (fun c1 => ?_) (fun c1 => ?_)
      · skip
        refine v_iconst X dX3_leastOther_58 ?_
        refine v_iret X Y dX3_leastOther_59 (u := ()) ?_ rfl
        exact Or.inr ⟨rfl, fun i g1 g2 => h2 i g1 (by omega)⟩
      · skip
        refine v_iload_n X dX3_leastOther_10 rfl ?_
        refine v_iload_n X dX3_leastOther_11 rfl ?_
        have m3 := mul_bd hq (show 0 ≤ j ∧ j ≤ 576 by omega)
        have m4 := mul_bd hp (show 0 ≤ j ∧ j ≤ 576 by omega)
        refine v_imul X dX3_leastOther_12 ?_
        refine v_iload_n X dX3_leastOther_13 rfl ?_
        refine v_aload_n X dX3_leastOther_14 rfl ?_
        refine v_get X (fun _ h => List.mem_cons_of_mem _ (List.mem_append_right _ h)) 0 rfl rfl 1 (by decide) rfl (List.mem_of_getElem? (i := 2) rfl) rfl dX3_leastOther_15 ?_
        refine v_imul X dX3_leastOther_18 ?_
        refine v_isub X dX3_leastOther_19 ?_
        refine v_aload_n X dX3_leastOther_20 rfl ?_
        refine v_get X (fun _ h => List.mem_cons_of_mem _ (List.mem_append_right _ h)) 0 rfl rfl 0 (by decide) rfl (List.mem_of_getElem? (i := 3) rfl) rfl dX3_leastOther_21 ?_
        refine res_E X (run_SN X (c_X7_rest (g := g) (by first | assumption | omega) (by first | assumption | omega)) gX3_leastOther_X7_rest_n37 rfl (List.mem_of_getElem? (i := 12) rfl) (List.mem_of_getElem? (i := 5) rfl) (List.mem_of_getElem? (i := 4) rfl) hdX7_rest.2 ⟨(Nat.le_of_ble_eq_true rfl), (Nat.le_of_ble_eq_true rfl)⟩ ⟨(Nat.le_of_ble_eq_true rfl), (Nat.le_of_ble_eq_true rfl)⟩ [] rfl rfl rfl rfl (by simp [Value.category]) dX3_leastOther_24) [] rfl rfl ?_
        refine v_if_ne (tgt := 52) X dX3_leastOther_27 (by decide) (by exact restI_r (by omega)) (fun c2 => ?_) (fun c2 => ?_)
        · skip
          refine v_iinc X dX3_leastOther_52 rfl (by decide) rfl ?_
          dsimp only [List.set]
          refine v_goto (tgt := 2) X dX3_leastOther_55 (by decide) ?_
          exact ih2 _ (by omega) (by
              intro i g1 g2; by_cases e : i = j
              · subst e; intro z; first | exact c2 z.1 | exact c3 z.2
              · exact h2 i g1 (by omega)) (by omega)
        · skip
          refine v_iload_n X dX3_leastOther_30 rfl ?_
          refine v_iload_n X dX3_leastOther_31 rfl ?_
          refine v_imul X dX3_leastOther_32 ?_
          refine v_iload_n X dX3_leastOther_33 rfl ?_
          refine v_aload_n X dX3_leastOther_34 rfl ?_
          refine v_get X (fun _ h => List.mem_cons_of_mem _ (List.mem_append_right _ h)) 0 rfl rfl 1 (by decide) rfl (List.mem_of_getElem? (i := 2) rfl) rfl dX3_leastOther_35 ?_
          refine v_imul X dX3_leastOther_38 ?_
          refine v_isub X dX3_leastOther_39 ?_
          refine v_aload_n X dX3_leastOther_40 rfl ?_
          refine v_get X (fun _ h => List.mem_cons_of_mem _ (List.mem_append_right _ h)) 0 rfl rfl 0 (by decide) rfl (List.mem_of_getElem? (i := 3) rfl) rfl dX3_leastOther_41 ?_
          refine res_E X (run_SN X (c_X7_rest (g := g) (by first | assumption | omega) (by first | assumption | omega)) gX3_leastOther_X7_rest_n37 rfl (List.mem_of_getElem? (i := 12) rfl) (List.mem_of_getElem? (i := 5) rfl) (List.mem_of_getElem? (i := 4) rfl) hdX7_rest.2 ⟨(Nat.le_of_ble_eq_true rfl), (Nat.le_of_ble_eq_true rfl)⟩ ⟨(Nat.le_of_ble_eq_true rfl), (Nat.le_of_ble_eq_true rfl)⟩ [] rfl rfl rfl rfl (by simp [Value.category]) dX3_leastOther_44) [] rfl rfl ?_
          refine v_if_ne (tgt := 52) X dX3_leastOther_47 (by decide) (by exact restI_r (by omega)) (fun c3 => ?_) (fun c3 => ?_)
          · skip
            refine v_iinc X dX3_leastOther_52 rfl (by decide) rfl ?_
            dsimp only [List.set]
            refine v_goto (tgt := 2) X dX3_leastOther_55 (by decide) ?_
            exact ih2 _ (by omega) (by
                intro i g1 g2; by_cases e : i = j
                · subst e; intro z; first | exact c2 z.1 | exact c3 z.2
                · exact h2 i g1 (by omega)) (by omega)
          · skip
            refine v_iload_n X dX3_leastOther_50 rfl ?_
            refine v_iret X Y dX3_leastOther_51 (u := ()) ?_ rfl
            exact Or.inl ⟨h1.1, by omega, ⟨c2, c3⟩, h2⟩
  exact L2 _ _ (by omega) (by intro i g1 g2; exfalso; omega) (Nat.lt_succ_self _)

theorem hdX3_of : yX3_of.cls = RX3 ∧ yX3_of.cls ≠ "java/lang/invoke/MethodHandle" ∧ yX3_of.cls ≠ "java/lang/invoke/VarHandle" ∧ (parseMethodDescriptor yX3_of.desc).map (fun d => d.parameters.length) = some 2 := ⟨rfl, by decide +kernel, by decide +kernel, by decide +kernel⟩
set_option maxHeartbeats 4000000 in
set_option maxRecDepth 100000 in
theorem c_X3_of {g : Gx} {a : Nat} {wh sh mo fo : Int} {p q : Int} (hp : -24 ≤ p ∧ p ≤ 24) (hq : -24 ≤ q ∧ q ≤ 24) : CtV (S := Int) g yX3_of wsX3_of 3 66 [.ref a, .int (iI p), .int (iI q)] (wDou g a wh sh mo fo) (fun r => LsO (whoI p q) (shaI p q) (momI p q) p q r) (fun r => wDou g a (whoI p q) (shaI p q) (momI p q) r) := by
  refine m_go (cc := cX3_of) (nL := 3) (by decide +kernel) rfl (Nat.le_of_ble_eq_true rfl) (fun x X Y hnm => ?_)
  refine v_eq (lo2 := [some (.ref a), some (.int (iI p)), some (.int (iI q))]) rfl rfl rfl rfl ?_
  have m1 := sq_bd hp
  have m2 := sq_bd hq
  have m3 := absI_bd hp
  have m4 := absI_bd hq
  have m5 : 0 ≤ whoI p q ∧ whoI p q ≤ 576 := absI_bd (M := 576) (by omega)
  have m6 : 0 ≤ shaI p q ∧ shaI p q ≤ 24 := ⟨by unfold shaI; omega, gcd_le m3.1 m4.1 (by omega) m3.2 m4.2⟩
  have m7 := momI_bd m5 m6
  have f1 : (if 0 ≤ p * p - q * q then p * p - q * q else -(p * p - q * q)) = whoI p q := rfl
  have f2 : (if 0 ≤ p then p else -p) = absI p := rfl
  have f3 : (if 0 ≤ q then q else -q) = absI q := rfl
  have f4 : ((Int.gcd (absI p) (absI q) : Nat) : Int) = shaI p q := rfl
  have f5 : shaI p q < 1 → (0 : Int) = momI p q := fun h => by unfold momI; rw [show shaI p q = 0 by omega]; simp
  have f6 : (whoI p q).tdiv (shaI p q) = momI p q := tdiv_of_nn m5.1
  refine v_aload_n X dX3_of_0 rfl ?_
  refine v_iload_n X dX3_of_1 rfl ?_
  refine v_iload_n X dX3_of_2 rfl ?_
  refine v_imul X dX3_of_3 ?_
  refine v_iload_n X dX3_of_4 rfl ?_
  refine v_iload_n X dX3_of_5 rfl ?_
  refine v_imul X dX3_of_6 ?_
  refine v_isub X dX3_of_7 ?_
  refine v_abs X (List.mem_of_getElem? (i := 1) rfl) (List.mem_of_getElem? (i := 2) rfl) (List.mem_of_getElem? (i := 3) rfl) (List.mem_of_getElem? (i := 4) rfl) ⟨(Nat.le_of_ble_eq_true rfl), (Nat.le_of_ble_eq_true rfl), (Nat.le_of_ble_eq_true rfl), (Nat.le_of_ble_eq_true rfl)⟩ (by omega) dX3_of_8 ?_
  rw [f1]
  refine v_put X (fun _ h => List.mem_cons_of_mem _ (List.mem_append_right _ h)) tyX3 tyX3_ok nmX3 0 rfl rfl 0 (by decide) rfl (List.mem_of_getElem? (i := 5) rfl) rfl rfl rfl (Nat.le_of_ble_eq_true rfl) dX3_of_11 ?_
  dsimp only [List.set, wDou]
  refine v_aload_n X dX3_of_14 rfl ?_
  refine v_iload_n X dX3_of_15 rfl ?_
  refine v_abs X (List.mem_of_getElem? (i := 1) rfl) (List.mem_of_getElem? (i := 2) rfl) (List.mem_of_getElem? (i := 3) rfl) (List.mem_of_getElem? (i := 4) rfl) ⟨(Nat.le_of_ble_eq_true rfl), (Nat.le_of_ble_eq_true rfl), (Nat.le_of_ble_eq_true rfl), (Nat.le_of_ble_eq_true rfl)⟩ (by omega) dX3_of_16 ?_
  rw [f2]
  refine v_iload_n X dX3_of_19 rfl ?_
  refine v_abs X (List.mem_of_getElem? (i := 1) rfl) (List.mem_of_getElem? (i := 2) rfl) (List.mem_of_getElem? (i := 3) rfl) (List.mem_of_getElem? (i := 4) rfl) ⟨(Nat.le_of_ble_eq_true rfl), (Nat.le_of_ble_eq_true rfl), (Nat.le_of_ble_eq_true rfl), (Nat.le_of_ble_eq_true rfl)⟩ (by omega) dX3_of_20 ?_
  rw [f3]
  refine res_E X (run_SN X (c_X7_common (g := g) (by first | assumption | omega) (by first | assumption | omega) (by first | assumption | omega) (by first | assumption | omega)) gX3_of_X7_common_n19 rfl (List.mem_of_getElem? (i := 11) rfl) (List.mem_of_getElem? (i := 10) rfl) (List.mem_of_getElem? (i := 9) rfl) hdX7_common.2 ⟨(Nat.le_of_ble_eq_true rfl), (Nat.le_of_ble_eq_true rfl)⟩ ⟨(Nat.le_of_ble_eq_true rfl), (Nat.le_of_ble_eq_true rfl)⟩ [] rfl rfl rfl rfl (by simp [Value.category]) dX3_of_23) [] rfl rfl ?_
  rw [f4]
  refine v_put X (fun _ h => List.mem_cons_of_mem _ (List.mem_append_right _ h)) tyX3 tyX3_ok nmX3 0 rfl rfl 1 (by decide) rfl (List.mem_of_getElem? (i := 6) rfl) rfl rfl rfl (Nat.le_of_ble_eq_true rfl) dX3_of_26 ?_
  dsimp only [List.set, wDou]
  refine v_aload_n X dX3_of_29 rfl ?_
  refine v_aload_n X dX3_of_30 rfl ?_
  refine v_get X (fun _ h => List.mem_cons_of_mem _ (List.mem_append_right _ h)) 0 rfl rfl 1 (by decide) rfl (List.mem_of_getElem? (i := 6) rfl) rfl dX3_of_31 ?_
  refine v_iconst X dX3_of_34 ?_
  refine v_icmp_ge (tgt := 42) X dX3_of_35 (by decide) (by omega) (by omega) (fun c1 => ?_) (fun c1 => ?_)
  · skip
    refine v_aload_n X dX3_of_42 rfl ?_
    refine v_get X (fun _ h => List.mem_cons_of_mem _ (List.mem_append_right _ h)) 0 rfl rfl 0 (by decide) rfl (List.mem_of_getElem? (i := 5) rfl) rfl dX3_of_43 ?_
    refine v_aload_n X dX3_of_46 rfl ?_
    refine v_get X (fun _ h => List.mem_cons_of_mem _ (List.mem_append_right _ h)) 0 rfl rfl 1 (by decide) rfl (List.mem_of_getElem? (i := 6) rfl) rfl dX3_of_47 ?_
    refine v_idiv X dX3_of_50 (by omega) (by omega) (by omega) ?_
    rw [f6]
    refine v_put X (fun _ h => List.mem_cons_of_mem _ (List.mem_append_right _ h)) tyX3 tyX3_ok nmX3 0 rfl rfl 2 (by decide) rfl (List.mem_of_getElem? (i := 7) rfl) rfl rfl rfl (Nat.le_of_ble_eq_true rfl) dX3_of_51 ?_
    dsimp only [List.set, wDou]
    refine v_aload_n X dX3_of_54 rfl ?_
    refine v_aload_n X dX3_of_55 rfl ?_
    refine v_iload_n X dX3_of_56 rfl ?_
    refine v_iload_n X dX3_of_57 rfl ?_
    refine res_I X (run_V X (c_X3_leastOther (g := g) (by first | assumption | omega) (by first | assumption | omega) (by first | assumption | omega) (by first | assumption | omega) (by first | assumption | omega)) gX3_of_X3_leastOther rfl hdX3_leastOther ⟨(Nat.le_of_ble_eq_true rfl), (Nat.le_of_ble_eq_true rfl)⟩ ⟨(Nat.le_of_ble_eq_true rfl), (Nat.le_of_ble_eq_true rfl)⟩ 0 rfl rfl rfl [0] rfl rfl rfl rfl (by simp [Value.category]) dX3_of_58) [0] rfl rfl (fun _ => rfl) (fun r1 u3 hr1 => ?_)
    dsimp only [patch, List.set, wDou]
    refine v_put X (fun _ h => List.mem_cons_of_mem _ (List.mem_append_right _ h)) tyX3 tyX3_ok nmX3 0 rfl rfl 3 (by decide) rfl (List.mem_of_getElem? (i := 8) rfl) rfl rfl rfl (Nat.le_of_ble_eq_true rfl) dX3_of_61 ?_
    dsimp only [List.set, wDou]
    refine v_vret X Y dX3_of_64 (u := r1) ?_ rfl
    assumption
  · skip
    refine v_iconst X dX3_of_38 ?_
    rw [f5 (by omega)]
    refine v_goto (tgt := 51) X dX3_of_39 (by decide) ?_
    refine v_put X (fun _ h => List.mem_cons_of_mem _ (List.mem_append_right _ h)) tyX3 tyX3_ok nmX3 0 rfl rfl 2 (by decide) rfl (List.mem_of_getElem? (i := 7) rfl) rfl rfl rfl (Nat.le_of_ble_eq_true rfl) dX3_of_51 ?_
    dsimp only [List.set, wDou]
    refine v_aload_n X dX3_of_54 rfl ?_
    refine v_aload_n X dX3_of_55 rfl ?_
    refine v_iload_n X dX3_of_56 rfl ?_
    refine v_iload_n X dX3_of_57 rfl ?_
    refine res_I X (run_V X (c_X3_leastOther (g := g) (by first | assumption | omega) (by first | assumption | omega) (by first | assumption | omega) (by first | assumption | omega) (by first | assumption | omega)) gX3_of_X3_leastOther rfl hdX3_leastOther ⟨(Nat.le_of_ble_eq_true rfl), (Nat.le_of_ble_eq_true rfl)⟩ ⟨(Nat.le_of_ble_eq_true rfl), (Nat.le_of_ble_eq_true rfl)⟩ 0 rfl rfl rfl [0] rfl rfl rfl rfl (by simp [Value.category]) dX3_of_58) [0] rfl rfl (fun _ => rfl) (fun r1 u5 hr1 => ?_)
    dsimp only [patch, List.set, wDou]
    refine v_put X (fun _ h => List.mem_cons_of_mem _ (List.mem_append_right _ h)) tyX3 tyX3_ok nmX3 0 rfl rfl 3 (by decide) rfl (List.mem_of_getElem? (i := 8) rfl) rfl rfl rfl (Nat.le_of_ble_eq_true rfl) dX3_of_61 ?_
    dsimp only [List.set, wDou]
    refine v_vret X Y dX3_of_64 (u := r1) ?_ rfl
    assumption

theorem hdX3_otherOf : yX3_otherOf.cls = RX3 ∧ yX3_otherOf.cls ≠ "java/lang/invoke/MethodHandle" ∧ yX3_otherOf.cls ≠ "java/lang/invoke/VarHandle" ∧ (parseMethodDescriptor yX3_otherOf.desc).map (fun d => d.parameters.length) = some 1 := ⟨rfl, by decide +kernel, by decide +kernel, by decide +kernel⟩
set_option maxHeartbeats 4000000 in
set_option maxRecDepth 100000 in
theorem c_X3_otherOf {g : Gx} {a : Nat} {wh sh mo fo : Int} {k : Int} (hsh : 0 ≤ sh ∧ sh ≤ 24) (hmo : 0 ≤ mo ∧ mo ≤ 576) (hfo : 0 ≤ fo ∧ fo ≤ 576) (hk : 0 ≤ k ∧ k ≤ 576) : CtE g yX3_otherOf wsX3_otherOf 2 43 [.ref a, .int (iI k)] (wDou g a wh sh mo fo) (othI mo sh fo k) (wDou g a wh sh mo fo) := by
  refine m_go (cc := cX3_otherOf) (nL := 3) (by decide +kernel) rfl (Nat.le_of_ble_eq_true rfl) (fun x X Y hnm => ?_)
  refine v_eq (lo2 := [some (.ref a), some (.int (iI k)), none]) rfl rfl rfl rfl ?_
  have m1 := mul_nn hk hfo
  have m2 := mul_nn hk hsh
  have m3 := restI_bd (n := k * fo) (w := mo)
  have m4 : R32 (restI (k * fo) mo) := restI_r (by omega)
  have m5 : restI (k * fo) mo ≤ 576 := restI_le (by omega) (by omega)
  refine v_iload_n X dX3_otherOf_0 rfl ?_
  refine v_aload_n X dX3_otherOf_1 rfl ?_
  refine v_get X (fun _ h => List.mem_cons_of_mem _ (List.mem_append_right _ h)) 0 rfl rfl 3 (by decide) rfl (List.mem_of_getElem? (i := 1) rfl) rfl dX3_otherOf_2 ?_
  refine v_imul X dX3_otherOf_5 ?_
  refine v_aload_n X dX3_otherOf_6 rfl ?_
  refine v_get X (fun _ h => List.mem_cons_of_mem _ (List.mem_append_right _ h)) 0 rfl rfl 2 (by decide) rfl (List.mem_of_getElem? (i := 2) rfl) rfl dX3_otherOf_7 ?_
  refine res_E X (run_SN X (c_X7_rest (g := g) (by first | assumption | omega) (by first | assumption | omega)) gX3_otherOf_X7_rest_n37 rfl (List.mem_of_getElem? (i := 12) rfl) (List.mem_of_getElem? (i := 5) rfl) (List.mem_of_getElem? (i := 4) rfl) hdX7_rest.2 ⟨(Nat.le_of_ble_eq_true rfl), (Nat.le_of_ble_eq_true rfl)⟩ ⟨(Nat.le_of_ble_eq_true rfl), (Nat.le_of_ble_eq_true rfl)⟩ [] rfl rfl rfl rfl (by simp [Value.category]) dX3_otherOf_10) [] rfl rfl ?_
  refine v_istore_n X dX3_otherOf_13 2 rfl (by decide) rfl ?_
  dsimp only [List.set]
  refine v_iload_n X dX3_otherOf_14 rfl ?_
  refine v_iload_n X dX3_otherOf_15 rfl ?_
  refine v_aload_n X dX3_otherOf_16 rfl ?_
  refine v_get X (fun _ h => List.mem_cons_of_mem _ (List.mem_append_right _ h)) 0 rfl rfl 1 (by decide) rfl (List.mem_of_getElem? (i := 3) rfl) rfl dX3_otherOf_17 ?_
  refine v_imul X dX3_otherOf_20 ?_
  refine v_icmp_eq (tgt := 26) X dX3_otherOf_21 (by decide) (by omega) (by omega) (fun c1 => ?_) (fun c1 => ?_)
  · skip
    refine v_aload_n X dX3_otherOf_26 rfl ?_
    refine v_get X (fun _ h => List.mem_cons_of_mem _ (List.mem_append_right _ h)) 0 rfl rfl 1 (by decide) rfl (List.mem_of_getElem? (i := 3) rfl) rfl dX3_otherOf_27 ?_
    refine v_iconst X dX3_otherOf_30 ?_
    refine v_icmp_le (tgt := 43) X dX3_otherOf_31 (by decide) (by omega) (by omega) (fun c2 => ?_) (fun c2 => ?_)
    · skip
      refine v_iconst X dX3_otherOf_43 ?_
      exact v_iret X Y dX3_otherOf_44 (u := ()) (by unfold othI; first | rw [if_pos (by omega)] | (rw [if_neg (by omega)]; first | rw [if_pos (by omega)] | rw [if_neg (by omega)])) (by rfl)
    · skip
      refine v_iload_n X dX3_otherOf_34 rfl ?_
      refine v_aload_n X dX3_otherOf_35 rfl ?_
      refine v_get X (fun _ h => List.mem_cons_of_mem _ (List.mem_append_right _ h)) 0 rfl rfl 2 (by decide) rfl (List.mem_of_getElem? (i := 2) rfl) rfl dX3_otherOf_36 ?_
      refine v_iadd X dX3_otherOf_39 ?_
      refine v_goto (tgt := 44) X dX3_otherOf_40 (by decide) ?_
      exact v_iret X Y dX3_otherOf_44 (u := ()) (by unfold othI; first | rw [if_pos (by omega)] | (rw [if_neg (by omega)]; first | rw [if_pos (by omega)] | rw [if_neg (by omega)])) (by rfl)
  · skip
    refine v_iload_n X dX3_otherOf_24 rfl ?_
    exact v_iret X Y dX3_otherOf_25 (u := ()) (by unfold othI; first | rw [if_pos (by omega)] | (rw [if_neg (by omega)]; first | rw [if_pos (by omega)] | rw [if_neg (by omega)])) (by rfl)

theorem hdX3_howMany : yX3_howMany.cls = RX3 ∧ yX3_howMany.cls ≠ "java/lang/invoke/MethodHandle" ∧ yX3_howMany.cls ≠ "java/lang/invoke/VarHandle" ∧ (parseMethodDescriptor yX3_howMany.desc).map (fun d => d.parameters.length) = some 0 := ⟨rfl, by decide +kernel, by decide +kernel, by decide +kernel⟩
set_option maxHeartbeats 4000000 in
set_option maxRecDepth 100000 in
theorem c_X3_howMany {g : Gx} {a : Nat} {wh sh mo fo : Int}  (hsh : 0 ≤ sh ∧ sh ≤ 24) (hmo : 0 ≤ mo ∧ mo ≤ 576) (hfo : 0 ≤ fo ∧ fo ≤ 576) : CtE g yX3_howMany wsX3_howMany 3 65 [.ref a] (wDou g a wh sh mo fo) (cntN (fun k => decide (0 ≤ othI mo sh fo k)) mo.toNat) (wDou g a wh sh mo fo) := by
  refine m_go (cc := cX3_howMany) (nL := 3) (by decide +kernel) rfl (Nat.le_of_ble_eq_true rfl) (fun x X Y hnm => ?_)
  refine v_eq (lo2 := [some (.ref a), none, none]) rfl rfl rfl rfl ?_
  refine v_iconst X dX3_howMany_0 ?_
  refine v_istore_n X dX3_howMany_1 1 rfl (by decide) rfl ?_
  dsimp only [List.set]
  refine v_iconst X dX3_howMany_2 ?_
  refine v_istore_n X dX3_howMany_3 2 rfl (by decide) rfl ?_
  dsimp only [List.set]
  have L4 : ∀ (nf : Nat) (k : Int) (i : Int) (h1 : 0 ≤ i ∧ i ≤ mo) (h2 : k = cntN (fun k => decide (0 ≤ othI mo sh fo k)) i.toNat) (h3 : 0 ≤ k ∧ k ≤ i) (_ : (mo - i).toNat < nf), V g x 0 0 (wDou g a wh sh mo fo) [some (.ref a), some (.int (iI k)), some (.int (iI i))] 4 [] := by
    intro nf
    induction nf with
    | zero => intro k i h1 h2 h3 hmu; exact absurd hmu (Nat.not_lt_zero _)
    | succ nf ih4 =>
      intro k i h1 h2 h3 hmu
      refine v_iload_n X dX3_howMany_4 rfl ?_
      refine v_aload_n X dX3_howMany_5 rfl ?_
      refine v_get X (fun _ h => List.mem_cons_of_mem _ (List.mem_append_right _ h)) 0 rfl rfl 2 (by decide) rfl (List.mem_of_getElem? (i := 1) rfl) rfl dX3_howMany_6 ?_
      refine v_icmp_ge (tgt := 29) X dX3_howMany_9 (by decide) (by omega) (by omega) (fun c1 => ?_) (fun c1 => ?_)
      · skip
        refine v_iload_n X dX3_howMany_29 rfl ?_
        exact v_iret X Y dX3_howMany_30 (u := ()) (by
            have e : i = mo := by omega
            rw [h2, e]) (by rfl)
      · skip
        refine v_aload_n X dX3_howMany_12 rfl ?_
        refine v_iload_n X dX3_howMany_13 rfl ?_
        refine res_E X (run_V X (c_X3_otherOf (g := g) (by first | assumption | omega) (by first | assumption | omega) (by first | assumption | omega) (by first | assumption | omega)) gX3_howMany_X3_otherOf rfl hdX3_otherOf ⟨(Nat.le_of_ble_eq_true rfl), (Nat.le_of_ble_eq_true rfl)⟩ ⟨(Nat.le_of_ble_eq_true rfl), (Nat.le_of_ble_eq_true rfl)⟩ 0 rfl rfl rfl [0] rfl rfl rfl rfl (by simp [Value.category]) dX3_howMany_14) [0] rfl rfl ?_
        have m1 := othI_bd (sh := sh) (fo := fo) (k := i) hmo
        refine v_if_lt (tgt := 23) X dX3_howMany_17 (by decide) (by omega) (fun c2 => ?_) (fun c2 => ?_)
        · skip
          refine v_iinc X dX3_howMany_23 rfl (by decide) rfl ?_
          dsimp only [List.set]
          refine v_goto (tgt := 4) X dX3_howMany_26 (by decide) ?_
          exact ih4 _ _ (by omega) (by rw [cntN_s h1.1]; simp only [decide_eq_true_eq]; rw [show ((i.toNat : Nat) : Int) = i by omega]; split <;> omega) (by omega) (by omega)
        · skip
          refine v_iinc X dX3_howMany_20 rfl (by decide) rfl ?_
          dsimp only [List.set]
          refine v_iinc X dX3_howMany_23 rfl (by decide) rfl ?_
          dsimp only [List.set]
          refine v_goto (tgt := 4) X dX3_howMany_26 (by decide) ?_
          exact ih4 _ _ (by omega) (by rw [cntN_s h1.1]; simp only [decide_eq_true_eq]; rw [show ((i.toNat : Nat) : Int) = i by omega]; split <;> omega) (by omega) (by omega)
  exact L4 _ _ _ (by omega) (by rfl) (by omega) (Nat.lt_succ_self _)

theorem hdX3_number : yX3_number.cls = RX3 ∧ yX3_number.cls ≠ "java/lang/invoke/MethodHandle" ∧ yX3_number.cls ≠ "java/lang/invoke/VarHandle" ∧ (parseMethodDescriptor yX3_number.desc).map (fun d => d.parameters.length) = some 1 := ⟨rfl, by decide +kernel, by decide +kernel, by decide +kernel⟩
set_option maxHeartbeats 4000000 in
set_option maxRecDepth 100000 in
theorem c_X3_number {g : Gx} {a : Nat} {wh sh mo fo : Int} {n : Int} (hsh : 0 ≤ sh ∧ sh ≤ 24) (hmo : 0 ≤ mo ∧ mo ≤ 576) (hfo : 0 ≤ fo ∧ fo ≤ 576) (hn : 0 ≤ n ∧ R32 n) : CtI (S := Unit) g yX3_number wsX3_number 3 65 [.ref a, .int (iI n)] (wDou g a wh sh mo fo) (fun r _ => (0 ≤ r ∧ r < mo ∧ 0 ≤ othI mo sh fo r ∧ cntN (fun k => decide (0 ≤ othI mo sh fo k)) r.toNat = n) ∨ (r = -1 ∧ cntN (fun k => decide (0 ≤ othI mo sh fo k)) mo.toNat ≤ n)) (fun _ => wDou g a wh sh mo fo) := by
  refine m_go (cc := cX3_number) (nL := 4) (by decide +kernel) rfl (Nat.le_of_ble_eq_true rfl) (fun x X Y hnm => ?_)
  refine v_eq (lo2 := [some (.ref a), some (.int (iI n)), none, none]) rfl rfl rfl rfl ?_
  refine v_iconst X dX3_number_0 ?_
  refine v_istore_n X dX3_number_1 2 rfl (by decide) rfl ?_
  dsimp only [List.set]
  refine v_iconst X dX3_number_2 ?_
  refine v_istore_n X dX3_number_3 3 rfl (by decide) rfl ?_
  dsimp only [List.set]
  have L4 : ∀ (nf : Nat) (k : Int) (i : Int) (h1 : 0 ≤ i ∧ i ≤ mo) (h2 : k = cntN (fun k => decide (0 ≤ othI mo sh fo k)) i.toNat) (h3 : 0 ≤ k ∧ k ≤ i ∧ k ≤ n) (_ : (mo - i).toNat < nf), V g x 0 0 (wDou g a wh sh mo fo) [some (.ref a), some (.int (iI n)), some (.int (iI k)), some (.int (iI i))] 4 [] := by
    intro nf
    induction nf with
    | zero => intro k i h1 h2 h3 hmu; exact absurd hmu (Nat.not_lt_zero _)
    | succ nf ih4 =>
      intro k i h1 h2 h3 hmu
      refine v_iload_n X dX3_number_4 rfl ?_
      refine v_aload_n X dX3_number_5 rfl ?_
      refine v_get X (fun _ h => List.mem_cons_of_mem _ (List.mem_append_right _ h)) 0 rfl rfl 2 (by decide) rfl (List.mem_of_getElem? (i := 1) rfl) rfl dX3_number_6 ?_
      refine v_icmp_ge (tgt := 36) X dX3_number_9 (by decide) (by omega) (by omega) (fun c1 => ?_) (fun c1 => ?_)
      · skip
        refine v_iconst X dX3_number_36 ?_
        refine v_iret X Y dX3_number_37 (u := ()) ?_ rfl
        have e : i = mo := by omega
        subst e; exact Or.inr ⟨rfl, by omega⟩
      · skip
        refine v_aload_n X dX3_number_12 rfl ?_
        refine v_iload_n X dX3_number_13 rfl ?_
        refine res_E X (run_V X (c_X3_otherOf (g := g) (by first | assumption | omega) (by first | assumption | omega) (by first | assumption | omega) (by first | assumption | omega)) gX3_number_X3_otherOf rfl hdX3_otherOf ⟨(Nat.le_of_ble_eq_true rfl), (Nat.le_of_ble_eq_true rfl)⟩ ⟨(Nat.le_of_ble_eq_true rfl), (Nat.le_of_ble_eq_true rfl)⟩ 0 rfl rfl rfl [0] rfl rfl rfl rfl (by simp [Value.category]) dX3_number_14) [0] rfl rfl ?_
        have m1 := othI_bd (sh := sh) (fo := fo) (k := i) hmo
        refine v_if_lt (tgt := 30) X dX3_number_17 (by decide) (by omega) (fun c2 => ?_) (fun c2 => ?_)
        · skip
          refine v_iinc X dX3_number_30 rfl (by decide) rfl ?_
          dsimp only [List.set]
          refine v_goto (tgt := 4) X dX3_number_33 (by decide) ?_
          exact ih4 _ _ (by omega) (by rw [cntN_s h1.1]; simp only [decide_eq_true_eq]; rw [show ((i.toNat : Nat) : Int) = i by omega]; split <;> omega) (by omega) (by omega)
        · skip
          refine v_iload_n X dX3_number_20 rfl ?_
          refine v_iload_n X dX3_number_21 rfl ?_
          refine v_icmp_ne (tgt := 27) X dX3_number_22 (by decide) (by omega) (by omega) (fun c3 => ?_) (fun c3 => ?_)
          · skip
            refine v_iinc X dX3_number_27 rfl (by decide) rfl ?_
            dsimp only [List.set]
            refine v_iinc X dX3_number_30 rfl (by decide) rfl ?_
            dsimp only [List.set]
            refine v_goto (tgt := 4) X dX3_number_33 (by decide) ?_
            exact ih4 _ _ (by omega) (by rw [cntN_s h1.1]; simp only [decide_eq_true_eq]; rw [show ((i.toNat : Nat) : Int) = i by omega]; split <;> omega) (by omega) (by omega)
          · skip
            refine v_iload_n X dX3_number_25 rfl ?_
            refine v_iret X Y dX3_number_26 (u := ()) ?_ rfl
            exact Or.inl ⟨h1.1, by omega, by omega, by omega⟩
  exact L4 _ _ _ (by omega) (by rfl) (by omega) (Nat.lt_succ_self _)

theorem hdX3_isAt : yX3_isAt.cls = RX3 ∧ yX3_isAt.cls ≠ "java/lang/invoke/MethodHandle" ∧ yX3_isAt.cls ≠ "java/lang/invoke/VarHandle" ∧ (parseMethodDescriptor yX3_isAt.desc).map (fun d => d.parameters.length) = some 2 := ⟨rfl, by decide +kernel, by decide +kernel, by decide +kernel⟩
set_option maxHeartbeats 4000000 in
set_option maxRecDepth 100000 in
theorem c_X3_isAt {g : Gx} {a : Nat} {wh sh mo fo : Int} {p q : Int} (hsh : 0 ≤ sh ∧ sh ≤ 24) (hmo : 0 ≤ mo ∧ mo ≤ 576) (hfo : 0 ≤ fo ∧ fo ≤ 576) (hp : 0 ≤ p ∧ p < q) (hq : 1 ≤ q ∧ q ≤ 9999) : CtE g yX3_isAt wsX3_isAt 3 65 [.ref a, .int (iI p), .int (iI q)] (wDou g a wh sh mo fo) (if (mo * p) % q = 0 ∧ 0 ≤ othI mo sh fo (mo * p / q) then 1 else 0) (wDou g a wh sh mo fo) := by
  refine m_go (cc := cX3_isAt) (nL := 3) (by decide +kernel) rfl (Nat.le_of_ble_eq_true rfl) (fun x X Y hnm => ?_)
  refine v_eq (lo2 := [some (.ref a), some (.int (iI p)), some (.int (iI q))]) rfl rfl rfl rfl ?_
  have m1 := mul_nn hmo (show 0 ≤ p ∧ p ≤ 9998 by omega)
  have m2 : (mo * p).tmod q = (mo * p) % q := Int.tmod_eq_emod_of_nonneg m1.1
  have m3 : (mo * p).tdiv q = mo * p / q := tdiv_of_nn m1.1
  have m4 : 0 ≤ mo * p / q := Int.ediv_nonneg m1.1 (by omega)
  have m5 : mo * p / q ≤ mo := Int.ediv_le_of_le_mul (by omega) (Int.mul_le_mul_of_nonneg_left (by omega) hmo.1)
  have m6 := Int.emod_nonneg (mo * p) (show q ≠ 0 by omega)
  have m7 := Int.emod_lt_of_pos (mo * p) (show 0 < q by omega)
  have m8 := othI_bd (sh := sh) (fo := fo) (k := mo * p / q) hmo
  refine v_iload_n X dX3_isAt_0 rfl ?_
  refine v_if_le (tgt := 34) X dX3_isAt_1 (by decide) (by omega) (fun c1 => ?_) (fun c1 => ?_)
  · skip
    exfalso; omega
  · skip
    refine v_aload_n X dX3_isAt_4 rfl ?_
    refine v_get X (fun _ h => List.mem_cons_of_mem _ (List.mem_append_right _ h)) 0 rfl rfl 2 (by decide) rfl (List.mem_of_getElem? (i := 1) rfl) rfl dX3_isAt_5 ?_
    refine v_iload_n X dX3_isAt_8 rfl ?_
    refine v_imul X dX3_isAt_9 ?_
    refine v_iload_n X dX3_isAt_10 rfl ?_
    refine v_irem X dX3_isAt_11 (by omega) (by omega) (by omega) ?_
    rw [m2]
    refine v_if_ne (tgt := 34) X dX3_isAt_12 (by decide) (by omega) (fun c2 => ?_) (fun c2 => ?_)
    · skip
      refine v_iconst X dX3_isAt_34 ?_
      exact v_zret X Y dX3_isAt_35 (by first | decide | omega | (split <;> omega)) (u := ()) (by first | rfl | omega | (split <;> omega) | (simp [*]; done)) (by rfl)
    · skip
      refine v_aload_n X dX3_isAt_15 rfl ?_
      refine v_aload_n X dX3_isAt_16 rfl ?_
      refine v_get X (fun _ h => List.mem_cons_of_mem _ (List.mem_append_right _ h)) 0 rfl rfl 2 (by decide) rfl (List.mem_of_getElem? (i := 1) rfl) rfl dX3_isAt_17 ?_
      refine v_iload_n X dX3_isAt_20 rfl ?_
      refine v_imul X dX3_isAt_21 ?_
      refine v_iload_n X dX3_isAt_22 rfl ?_
      refine v_idiv X dX3_isAt_23 (by omega) (by omega) (by omega) ?_
      rw [m3]
      refine res_E X (run_V X (c_X3_otherOf (g := g) (by first | assumption | omega) (by first | assumption | omega) (by first | assumption | omega) (by first | assumption | omega)) gX3_isAt_X3_otherOf rfl hdX3_otherOf ⟨(Nat.le_of_ble_eq_true rfl), (Nat.le_of_ble_eq_true rfl)⟩ ⟨(Nat.le_of_ble_eq_true rfl), (Nat.le_of_ble_eq_true rfl)⟩ 0 rfl rfl rfl [0] rfl rfl rfl rfl (by simp [Value.category]) dX3_isAt_24) [0] rfl rfl ?_
      refine v_if_lt (tgt := 34) X dX3_isAt_27 (by decide) (by omega) (fun c3 => ?_) (fun c3 => ?_)
      · skip
        refine v_iconst X dX3_isAt_34 ?_
        exact v_zret X Y dX3_isAt_35 (by first | decide | omega | (split <;> omega)) (u := ()) (by first | rfl | omega | (split <;> omega) | (simp [*]; done)) (by rfl)
      · skip
        refine v_iconst X dX3_isAt_30 ?_
        refine v_goto (tgt := 35) X dX3_isAt_31 (by decide) ?_
        exact v_zret X Y dX3_isAt_35 (by first | decide | omega | (split <;> omega)) (u := ()) (by first | rfl | omega | (split <;> omega) | (simp [*]; done)) (by rfl)

theorem hdX4_arcOf : yX4_arcOf.cls = RX4 ∧ yX4_arcOf.cls ≠ "java/lang/invoke/MethodHandle" ∧ yX4_arcOf.cls ≠ "java/lang/invoke/VarHandle" ∧ (parseMethodDescriptor yX4_arcOf.desc).map (fun d => d.parameters.length) = some 1 := ⟨rfl, by decide +kernel, by decide +kernel, by decide +kernel⟩
set_option maxHeartbeats 4000000 in
set_option maxRecDepth 100000 in
theorem c_X4_arcOf {g : Gx} {a a1 a2 : Nat} {ar sp : Nat → Int} {cn pa : Int} {h : Int} (har : Bd 0 719 ar) (hh : R32 h) : CtE g yX4_arcOf wsX4_arcOf 0 0 [.ref a, .int (iI h)] (wRea g a a1 a2 ar sp cn pa) (atI 4 ar h) (wRea g a a1 a2 ar sp cn pa) := by
  refine m_go (cc := cX4_arcOf) (nL := 2) (by decide +kernel) rfl (Nat.le_of_ble_eq_true rfl) (fun x X Y hnm => ?_)
  refine v_eq (lo2 := [some (.ref a), some (.int (iI h))]) rfl rfl rfl rfl ?_
  refine v_iload_n X dX4_arcOf_0 rfl ?_
  refine v_if_lt (tgt := 18) X dX4_arcOf_1 (by decide) (by omega) (fun c1 => ?_) (fun c1 => ?_)
  · skip
    refine v_iconst X dX4_arcOf_18 ?_
    exact v_iret X Y dX4_arcOf_19 (u := ()) (by unfold atI; split <;> omega) (by rfl)
  · skip
    refine v_iload_n X dX4_arcOf_4 rfl ?_
    refine v_iconst X dX4_arcOf_5 ?_
    refine v_icmp_ge (tgt := 18) X dX4_arcOf_6 (by decide) (by omega) (by omega) (fun c2 => ?_) (fun c2 => ?_)
    · skip
      refine v_iconst X dX4_arcOf_18 ?_
      exact v_iret X Y dX4_arcOf_19 (u := ()) (by unfold atI; split <;> omega) (by rfl)
    · skip
      refine v_aload_n X dX4_arcOf_9 rfl ?_
      refine v_get X (fun _ h => List.mem_cons_of_mem _ (List.mem_append_right _ h)) 0 rfl rfl 0 (by decide) rfl (List.mem_of_getElem? (i := 1) rfl) rfl dX4_arcOf_10 ?_
      refine v_iload_n X dX4_arcOf_13 rfl ?_
      refine v_iald X 1 rfl (by omega) (by omega) (by omega) dX4_arcOf_14 har (fun z3 ez3 lz3 uz3 => ?_)
      refine v_goto (tgt := 19) X dX4_arcOf_15 (by decide) ?_
      exact v_iret X Y dX4_arcOf_19 (u := ()) (by unfold atI; split <;> omega) (by rfl)

theorem hdX4_speedOf : yX4_speedOf.cls = RX4 ∧ yX4_speedOf.cls ≠ "java/lang/invoke/MethodHandle" ∧ yX4_speedOf.cls ≠ "java/lang/invoke/VarHandle" ∧ (parseMethodDescriptor yX4_speedOf.desc).map (fun d => d.parameters.length) = some 1 := ⟨rfl, by decide +kernel, by decide +kernel, by decide +kernel⟩
set_option maxHeartbeats 4000000 in
set_option maxRecDepth 100000 in
theorem c_X4_speedOf {g : Gx} {a a1 a2 : Nat} {ar sp : Nat → Int} {cn pa : Int} {h : Int} (hsp : Bd (-24) 24 sp) (hh : R32 h) : CtE g yX4_speedOf wsX4_speedOf 0 0 [.ref a, .int (iI h)] (wRea g a a1 a2 ar sp cn pa) (atI 4 sp h) (wRea g a a1 a2 ar sp cn pa) := by
  refine m_go (cc := cX4_speedOf) (nL := 2) (by decide +kernel) rfl (Nat.le_of_ble_eq_true rfl) (fun x X Y hnm => ?_)
  refine v_eq (lo2 := [some (.ref a), some (.int (iI h))]) rfl rfl rfl rfl ?_
  refine v_iload_n X dX4_speedOf_0 rfl ?_
  refine v_if_lt (tgt := 18) X dX4_speedOf_1 (by decide) (by omega) (fun c1 => ?_) (fun c1 => ?_)
  · skip
    refine v_iconst X dX4_speedOf_18 ?_
    exact v_iret X Y dX4_speedOf_19 (u := ()) (by unfold atI; split <;> omega) (by rfl)
  · skip
    refine v_iload_n X dX4_speedOf_4 rfl ?_
    refine v_iconst X dX4_speedOf_5 ?_
    refine v_icmp_ge (tgt := 18) X dX4_speedOf_6 (by decide) (by omega) (by omega) (fun c2 => ?_) (fun c2 => ?_)
    · skip
      refine v_iconst X dX4_speedOf_18 ?_
      exact v_iret X Y dX4_speedOf_19 (u := ()) (by unfold atI; split <;> omega) (by rfl)
    · skip
      refine v_aload_n X dX4_speedOf_9 rfl ?_
      refine v_get X (fun _ h => List.mem_cons_of_mem _ (List.mem_append_right _ h)) 0 rfl rfl 1 (by decide) rfl (List.mem_of_getElem? (i := 1) rfl) rfl dX4_speedOf_10 ?_
      refine v_iload_n X dX4_speedOf_13 rfl ?_
      refine v_iald X 2 rfl (by omega) (by omega) (by omega) dX4_speedOf_14 hsp (fun z3 ez3 lz3 uz3 => ?_)
      refine v_goto (tgt := 19) X dX4_speedOf_15 (by decide) ?_
      exact v_iret X Y dX4_speedOf_19 (u := ()) (by unfold atI; split <;> omega) (by rfl)

theorem hdX4_whole : yX4_whole.cls = RX4 ∧ yX4_whole.cls ≠ "java/lang/invoke/MethodHandle" ∧ yX4_whole.cls ≠ "java/lang/invoke/VarHandle" ∧ (parseMethodDescriptor yX4_whole.desc).map (fun d => d.parameters.length) = some 0 := ⟨rfl, by decide +kernel, by decide +kernel, by decide +kernel⟩
set_option maxHeartbeats 4000000 in
set_option maxRecDepth 100000 in
theorem c_X4_whole {g : Gx} {a a1 a2 : Nat} {ar sp : Nat → Int} {cn pa : Int}  (hsp : Bd (-24) 24 sp) (hpa : 1 ≤ pa ∧ pa ≤ 720) : CtE g yX4_whole wsX4_whole 1 21 [.ref a] (wRea g a a1 a2 ar sp cn pa) (if 1 < absI (atI 4 sp 0) * pa then absI (atI 4 sp 0) * pa else 1) (wRea g a a1 a2 ar sp cn pa) := by
  refine m_go (cc := cX4_whole) (nL := 1) (by decide +kernel) rfl (Nat.le_of_ble_eq_true rfl) (fun x X Y hnm => ?_)
  refine v_eq (lo2 := [some (.ref a)]) rfl rfl rfl rfl ?_
  have m1 := atI_bd (cn := 4) (h := 0) hsp (by omega) (by omega)
  have m2 := absI_bd m1
  have m3 := mul_nn m2 (show 0 ≤ pa ∧ pa ≤ 720 by omega)
  have f1 : (if 0 ≤ atI 4 sp 0 then atI 4 sp 0 else -(atI 4 sp 0)) = absI (atI 4 sp 0) := rfl
  refine v_iconst X dX4_whole_0 ?_
  refine v_aload_n X dX4_whole_1 rfl ?_
  refine v_iconst X dX4_whole_2 ?_
  refine res_E X (run_V X (c_X4_speedOf (g := g) (by first | assumption | omega) (by first | assumption | omega)) gX4_whole_X4_speedOf rfl hdX4_speedOf ⟨(Nat.le_of_ble_eq_true rfl), (Nat.le_of_ble_eq_true rfl)⟩ ⟨(Nat.le_of_ble_eq_true rfl), (Nat.le_of_ble_eq_true rfl)⟩ 0 rfl rfl rfl [0, 1, 2] rfl rfl rfl rfl (by simp [Value.category]) dX4_whole_3) [0, 1, 2] rfl rfl ?_
  refine v_abs X (List.mem_of_getElem? (i := 1) rfl) (List.mem_of_getElem? (i := 2) rfl) (List.mem_of_getElem? (i := 3) rfl) (List.mem_of_getElem? (i := 4) rfl) ⟨(Nat.le_of_ble_eq_true rfl), (Nat.le_of_ble_eq_true rfl), (Nat.le_of_ble_eq_true rfl), (Nat.le_of_ble_eq_true rfl)⟩ (by omega) dX4_whole_6 ?_
  rw [f1]
  refine v_aload_n X dX4_whole_9 rfl ?_
  refine v_get X (fun _ h => List.mem_cons_of_mem _ (List.mem_append_right _ h)) 0 rfl rfl 3 (by decide) rfl (List.mem_of_getElem? (i := 5) rfl) rfl dX4_whole_10 ?_
  refine v_imul X dX4_whole_13 ?_
  refine v_max X (List.mem_of_getElem? (i := 6) rfl) (List.mem_of_getElem? (i := 7) rfl) (List.mem_of_getElem? (i := 3) rfl) (List.mem_of_getElem? (i := 8) rfl) ⟨(Nat.le_of_ble_eq_true rfl), (Nat.le_of_ble_eq_true rfl), (Nat.le_of_ble_eq_true rfl), (Nat.le_of_ble_eq_true rfl)⟩ (by omega) (by omega) dX4_whole_14 ?_
  exact v_iret X Y dX4_whole_17 (u := ()) (by first | rfl | omega | (split <;> omega) | (simp [*]; done)) (by rfl)

theorem hdX4_gap : yX4_gap.cls = RX4 ∧ yX4_gap.cls ≠ "java/lang/invoke/MethodHandle" ∧ yX4_gap.cls ≠ "java/lang/invoke/VarHandle" ∧ (parseMethodDescriptor yX4_gap.desc).map (fun d => d.parameters.length) = some 3 := ⟨rfl, by decide +kernel, by decide +kernel, by decide +kernel⟩
set_option maxHeartbeats 4000000 in
set_option maxRecDepth 100000 in
theorem c_X4_gap {g : Gx} {a a1 a2 : Nat} {ar sp : Nat → Int} {cn pa : Int} {b t h : Int} (har : Bd 0 719 ar) (hsp : Bd (-24) 24 sp) (hpa : 1 ≤ pa ∧ pa ≤ 720) (hb : R32 b) (ht : 0 ≤ t ∧ t ≤ 24) (hh : R32 h) : CtE g yX4_gap wsX4_gap 2 43 [.ref a, .int (iI b), .int (iI t), .int (iI h)] (wRea g a a1 a2 ar sp cn pa) (gapI ar sp pa b t h) (wRea g a a1 a2 ar sp cn pa) := by
  refine m_go (cc := cX4_gap) (nL := 8) (by decide +kernel) rfl (Nat.le_of_ble_eq_true rfl) (fun x X Y hnm => ?_)
  refine v_eq (lo2 := [some (.ref a), some (.int (iI b)), some (.int (iI t)), some (.int (iI h)), none, none, none, none]) rfl rfl rfl rfl ?_
  have m1 := atI_bd (cn := 4) (h := b) hsp (by omega) (by omega)
  have m2 := absI_bd m1
  have m3 := mul_nn m2 (show 0 ≤ pa ∧ pa ≤ 720 by omega)
  have f1 : (if 0 ≤ atI 4 sp b then atI 4 sp b else -(atI 4 sp b)) = absI (atI 4 sp b) := rfl
  have m4 := atI_bd (cn := 4) (h := b) har (by omega) (by omega)
  have m5 := atI_bd (cn := 4) (h := h) har (by omega) (by omega)
  have m6 := atI_bd (cn := 4) (h := h) hsp (by omega) (by omega)
  have m7 := mul_nn ht (show 0 ≤ pa ∧ pa ≤ 720 by omega)
  have m8 := mul_bd m6 (show 0 ≤ atI 4 ar b + t * pa ∧ atI 4 ar b + t * pa ≤ 17999 by omega)
  have m9 := mul_bd m1 m5
  have f9 : atI 4 ar h * atI 4 sp b = atI 4 sp b * atI 4 ar h := Int.mul_comm _ _
  have m10 : 0 ≤ restI (atI 4 sp h * (atI 4 ar b + t * pa) - atI 4 ar h * atI 4 sp b) (absI (atI 4 sp b) * pa) ∧ restI (atI 4 sp h * (atI 4 ar b + t * pa) - atI 4 ar h * atI 4 sp b) (absI (atI 4 sp b) * pa) ≤ 17280 := ⟨restI_bd.1, restI_le (by omega) (by omega)⟩
  refine v_aload_n X dX4_gap_0 rfl ?_
  refine v_iload_n X dX4_gap_1 rfl ?_
  refine res_E X (run_V X (c_X4_speedOf (g := g) (by first | assumption | omega) (by first | assumption | omega)) gX4_gap_X4_speedOf rfl hdX4_speedOf ⟨(Nat.le_of_ble_eq_true rfl), (Nat.le_of_ble_eq_true rfl)⟩ ⟨(Nat.le_of_ble_eq_true rfl), (Nat.le_of_ble_eq_true rfl)⟩ 0 rfl rfl rfl [0, 1, 2] rfl rfl rfl rfl (by simp [Value.category]) dX4_gap_2) [0, 1, 2] rfl rfl ?_
  refine v_istore X dX4_gap_5 (by decide) rfl ?_
  dsimp only [List.set]
  refine v_iload X dX4_gap_7 rfl ?_
  refine v_abs X (List.mem_of_getElem? (i := 1) rfl) (List.mem_of_getElem? (i := 2) rfl) (List.mem_of_getElem? (i := 3) rfl) (List.mem_of_getElem? (i := 4) rfl) ⟨(Nat.le_of_ble_eq_true rfl), (Nat.le_of_ble_eq_true rfl), (Nat.le_of_ble_eq_true rfl), (Nat.le_of_ble_eq_true rfl)⟩ (by omega) dX4_gap_9 ?_
  rw [f1]
  refine v_aload_n X dX4_gap_12 rfl ?_
  refine v_get X (fun _ h => List.mem_cons_of_mem _ (List.mem_append_right _ h)) 0 rfl rfl 3 (by decide) rfl (List.mem_of_getElem? (i := 5) rfl) rfl dX4_gap_13 ?_
  refine v_imul X dX4_gap_16 ?_
  refine v_istore X dX4_gap_17 (by decide) rfl ?_
  dsimp only [List.set]
  refine v_aload_n X dX4_gap_19 rfl ?_
  refine v_iload_n X dX4_gap_20 rfl ?_
  refine res_E X (run_V X (c_X4_speedOf (g := g) (by first | assumption | omega) (by first | assumption | omega)) gX4_gap_X4_speedOf rfl hdX4_speedOf ⟨(Nat.le_of_ble_eq_true rfl), (Nat.le_of_ble_eq_true rfl)⟩ ⟨(Nat.le_of_ble_eq_true rfl), (Nat.le_of_ble_eq_true rfl)⟩ 0 rfl rfl rfl [0, 1, 2] rfl rfl rfl rfl (by simp [Value.category]) dX4_gap_21) [0, 1, 2] rfl rfl ?_
  refine v_aload_n X dX4_gap_24 rfl ?_
  refine v_iload_n X dX4_gap_25 rfl ?_
  refine res_E X (run_V X (c_X4_arcOf (g := g) (by first | assumption | omega) (by first | assumption | omega)) gX4_gap_X4_arcOf rfl hdX4_arcOf ⟨(Nat.le_of_ble_eq_true rfl), (Nat.le_of_ble_eq_true rfl)⟩ ⟨(Nat.le_of_ble_eq_true rfl), (Nat.le_of_ble_eq_true rfl)⟩ 0 rfl rfl rfl [0, 1, 2] rfl rfl rfl rfl (by simp [Value.category]) dX4_gap_26) [0, 1, 2] rfl rfl ?_
  refine v_iload_n X dX4_gap_29 rfl ?_
  refine v_aload_n X dX4_gap_30 rfl ?_
  refine v_get X (fun _ h => List.mem_cons_of_mem _ (List.mem_append_right _ h)) 0 rfl rfl 3 (by decide) rfl (List.mem_of_getElem? (i := 5) rfl) rfl dX4_gap_31 ?_
  refine v_imul X dX4_gap_34 ?_
  refine v_iadd X dX4_gap_35 ?_
  refine v_imul X dX4_gap_36 ?_
  refine v_istore X dX4_gap_37 (by decide) rfl ?_
  dsimp only [List.set]
  refine v_iload X dX4_gap_39 rfl ?_
  refine v_aload_n X dX4_gap_41 rfl ?_
  refine v_iload_n X dX4_gap_42 rfl ?_
  refine res_E X (run_V X (c_X4_arcOf (g := g) (by first | assumption | omega) (by first | assumption | omega)) gX4_gap_X4_arcOf rfl hdX4_arcOf ⟨(Nat.le_of_ble_eq_true rfl), (Nat.le_of_ble_eq_true rfl)⟩ ⟨(Nat.le_of_ble_eq_true rfl), (Nat.le_of_ble_eq_true rfl)⟩ 0 rfl rfl rfl [0, 1, 2] rfl rfl rfl rfl (by simp [Value.category]) dX4_gap_43) [0, 1, 2] rfl rfl ?_
  refine v_iload X dX4_gap_46 rfl ?_
  refine v_imul X dX4_gap_48 ?_
  refine v_isub X dX4_gap_49 ?_
  refine v_iload X dX4_gap_50 rfl ?_
  refine res_E X (run_SN X (c_X7_rest (g := g) (by first | assumption | omega) (by first | assumption | omega)) gX4_gap_X7_rest_n53 rfl (List.mem_of_getElem? (i := 13) rfl) (List.mem_of_getElem? (i := 21) rfl) (List.mem_of_getElem? (i := 20) rfl) hdX7_rest.2 ⟨(Nat.le_of_ble_eq_true rfl), (Nat.le_of_ble_eq_true rfl)⟩ ⟨(Nat.le_of_ble_eq_true rfl), (Nat.le_of_ble_eq_true rfl)⟩ [] rfl rfl rfl rfl (by simp [Value.category]) dX4_gap_52) [] rfl rfl ?_
  refine v_istore X dX4_gap_55 (by decide) rfl ?_
  dsimp only [List.set]
  refine v_iload X dX4_gap_57 rfl ?_
  refine v_iload X dX4_gap_59 rfl ?_
  refine v_iload X dX4_gap_61 rfl ?_
  refine v_isub X dX4_gap_63 ?_
  refine v_min X (List.mem_of_getElem? (i := 6) rfl) (List.mem_of_getElem? (i := 7) rfl) (List.mem_of_getElem? (i := 3) rfl) (List.mem_of_getElem? (i := 8) rfl) ⟨(Nat.le_of_ble_eq_true rfl), (Nat.le_of_ble_eq_true rfl), (Nat.le_of_ble_eq_true rfl), (Nat.le_of_ble_eq_true rfl)⟩ (by omega) (by omega) dX4_gap_64 ?_
  exact v_iret X Y dX4_gap_67 (u := ()) (by rfl) (by rfl)

theorem hdX4_fitsAt : yX4_fitsAt.cls = RX4 ∧ yX4_fitsAt.cls ≠ "java/lang/invoke/MethodHandle" ∧ yX4_fitsAt.cls ≠ "java/lang/invoke/VarHandle" ∧ (parseMethodDescriptor yX4_fitsAt.desc).map (fun d => d.parameters.length) = some 3 := ⟨rfl, by decide +kernel, by decide +kernel, by decide +kernel⟩
set_option maxHeartbeats 4000000 in
set_option maxRecDepth 100000 in
theorem c_X4_fitsAt {g : Gx} {a a1 a2 : Nat} {ar sp : Nat → Int} {cn pa : Int} {b t wo : Int} (har : Bd 0 719 ar) (hsp : Bd (-24) 24 sp) (hpa : 1 ≤ pa ∧ pa ≤ 720) (hcn : 0 ≤ cn ∧ cn ≤ 4) (hb : R32 b) (ht : 0 ≤ t ∧ t ≤ 24) (hw : R32 wo) : CtE g yX4_fitsAt wsX4_fitsAt 3 70 [.ref a, .int (iI b), .int (iI t), .int (iI wo)] (wRea g a a1 a2 ar sp cn pa) (pI (FitA ar sp cn pa b t wo)) (wRea g a a1 a2 ar sp cn pa) := by
  refine m_go (cc := cX4_fitsAt) (nL := 5) (by decide +kernel) rfl (Nat.le_of_ble_eq_true rfl) (fun x X Y hnm => ?_)
  refine v_eq (lo2 := [some (.ref a), some (.int (iI b)), some (.int (iI t)), some (.int (iI wo)), none]) rfl rfl rfl rfl ?_
  refine v_iconst X dX4_fitsAt_0 ?_
  refine v_istore X dX4_fitsAt_1 (by decide) rfl ?_
  dsimp only [List.set]
  have L3 : ∀ (nf : Nat) (h : Int) (h1 : 0 ≤ h ∧ h ≤ cn) (h2 : ∀ i : Int, 0 ≤ i → i < h → i ≠ wo → gapI ar sp pa b t i = 0) (_ : (cn - h).toNat < nf), V g x 0 0 (wRea g a a1 a2 ar sp cn pa) [some (.ref a), some (.int (iI b)), some (.int (iI t)), some (.int (iI wo)), some (.int (iI h))] 3 [] := by
    intro nf
    induction nf with
    | zero => intro h h1 h2 hmu; exact absurd hmu (Nat.not_lt_zero _)
    | succ nf ih3 =>
      intro h h1 h2 hmu
      refine v_iload X dX4_fitsAt_3 rfl ?_
      refine v_aload_n X dX4_fitsAt_5 rfl ?_
      refine v_get X (fun _ h => List.mem_cons_of_mem _ (List.mem_append_right _ h)) 0 rfl rfl 2 (by decide) rfl (List.mem_of_getElem? (i := 1) rfl) rfl dX4_fitsAt_6 ?_
      refine v_icmp_ge (tgt := 37) X dX4_fitsAt_9 (by decide) (by omega) (by omega) (fun c1 => ?_) (fun c1 => ?_)
      · skip
        refine v_iconst X dX4_fitsAt_37 ?_
        exact v_zret X Y dX4_fitsAt_38 (by first | decide | omega | (split <;> omega)) (u := ()) (by exact (pI_1 (fun i g1 g2 g3 => h2 i g1 (by omega) g3)).symm) (by rfl)
      · skip
        refine v_iload X dX4_fitsAt_12 rfl ?_
        refine v_iload_n X dX4_fitsAt_14 rfl ?_
        refine v_icmp_eq (tgt := 31) X dX4_fitsAt_15 (by decide) (by omega) (by omega) (fun c2 => ?_) (fun c2 => ?_)
        · skip
          refine v_iinc X dX4_fitsAt_31 rfl (by decide) rfl ?_
          dsimp only [List.set]
          refine v_goto (tgt := 3) X dX4_fitsAt_34 (by decide) ?_
          exact ih3 _ (by omega) (by
              intro i g1 g2 g3; by_cases e : i = h
              · subst e; first | exact absurd c2 g3 | exact c3
              · exact h2 i g1 (by omega) g3) (by omega)
        · skip
          refine v_aload_n X dX4_fitsAt_18 rfl ?_
          refine v_iload_n X dX4_fitsAt_19 rfl ?_
          refine v_iload_n X dX4_fitsAt_20 rfl ?_
          refine v_iload X dX4_fitsAt_21 rfl ?_
          refine res_E X (run_V X (c_X4_gap (g := g) (by first | assumption | omega) (by first | assumption | omega) (by first | assumption | omega) (by first | assumption | omega) (by first | assumption | omega) (by first | assumption | omega)) gX4_fitsAt_X4_gap rfl hdX4_gap ⟨(Nat.le_of_ble_eq_true rfl), (Nat.le_of_ble_eq_true rfl)⟩ ⟨(Nat.le_of_ble_eq_true rfl), (Nat.le_of_ble_eq_true rfl)⟩ 0 rfl rfl rfl [0, 1, 2] rfl rfl rfl rfl (by simp [Value.category]) dX4_fitsAt_23) [0, 1, 2] rfl rfl ?_
          refine v_if_eq (tgt := 31) X dX4_fitsAt_26 (by decide) (by exact gapI_r hsp har hpa) (fun c3 => ?_) (fun c3 => ?_)
          · skip
            refine v_iinc X dX4_fitsAt_31 rfl (by decide) rfl ?_
            dsimp only [List.set]
            refine v_goto (tgt := 3) X dX4_fitsAt_34 (by decide) ?_
            exact ih3 _ (by omega) (by
                intro i g1 g2 g3; by_cases e : i = h
                · subst e; first | exact absurd c2 g3 | exact c3
                · exact h2 i g1 (by omega) g3) (by omega)
          · skip
            refine v_iconst X dX4_fitsAt_29 ?_
            exact v_zret X Y dX4_fitsAt_30 (by first | decide | omega | (split <;> omega)) (u := ()) (by exact (pI_0 (fun z => c3 (z h h1.1 (by omega) c2))).symm) (by rfl)
  exact L3 _ _ (by omega) (by intro i g1 g2 g3; exfalso; omega) (Nat.lt_succ_self _)

theorem hdX4_fitsWithout : yX4_fitsWithout.cls = RX4 ∧ yX4_fitsWithout.cls ≠ "java/lang/invoke/MethodHandle" ∧ yX4_fitsWithout.cls ≠ "java/lang/invoke/VarHandle" ∧ (parseMethodDescriptor yX4_fitsWithout.desc).map (fun d => d.parameters.length) = some 1 := ⟨rfl, by decide +kernel, by decide +kernel, by decide +kernel⟩
set_option maxHeartbeats 4000000 in
set_option maxRecDepth 100000 in
theorem c_X4_fitsWithout {g : Gx} {a a1 a2 : Nat} {ar sp : Nat → Int} {cn pa : Int} {wo : Int} (har : Bd 0 719 ar) (hsp : Bd (-24) 24 sp) (hpa : 1 ≤ pa ∧ pa ≤ 720) (hcn : 0 ≤ cn ∧ cn ≤ 4) (hw : R32 wo) : CtE g yX4_fitsWithout wsX4_fitsWithout 4 94 [.ref a, .int (iI wo)] (wRea g a a1 a2 ar sp cn pa) (pI (FitW ar sp cn pa wo)) (wRea g a a1 a2 ar sp cn pa) := by
  refine m_go (cc := cX4_fitsWithout) (nL := 5) (by decide +kernel) rfl (Nat.le_of_ble_eq_true rfl) (fun x X Y hnm => ?_)
  refine v_eq (lo2 := [some (.ref a), some (.int (iI wo)), none, none, none]) rfl rfl rfl rfl ?_
  have m0 : basI wo = 0 ∨ basI wo = 1 := by unfold basI; split <;> omega
  have m1 := atI_bd (cn := 4) (h := basI wo) hsp (by omega) (by omega)
  have m2 := absI_bd m1
  have f1 : (if 0 ≤ atI 4 sp (basI wo) then atI 4 sp (basI wo) else -(atI 4 sp (basI wo))) = absI (atI 4 sp (basI wo)) := rfl
  have J10 : V g x 0 0 (wRea g a a1 a2 ar sp cn pa) [some (.ref a), some (.int (iI wo)), some (.int (iI (basI wo))), none, none] 10 [] := by
    refine v_iload_n X dX4_fitsWithout_10 rfl ?_
    refine v_aload_n X dX4_fitsWithout_11 rfl ?_
    refine v_get X (fun _ h => List.mem_cons_of_mem _ (List.mem_append_right _ h)) 0 rfl rfl 2 (by decide) rfl (List.mem_of_getElem? (i := 1) rfl) rfl dX4_fitsWithout_12 ?_
    refine v_icmp_lt (tgt := 20) X dX4_fitsWithout_15 (by decide) (by omega) (by omega) (fun c1 => ?_) (fun c1 => ?_)
    · skip
      refine v_aload_n X dX4_fitsWithout_20 rfl ?_
      refine v_iload_n X dX4_fitsWithout_21 rfl ?_
      refine res_E X (run_V X (c_X4_speedOf (g := g) (by first | assumption | omega) (by first | assumption | omega)) gX4_fitsWithout_X4_speedOf rfl hdX4_speedOf ⟨(Nat.le_of_ble_eq_true rfl), (Nat.le_of_ble_eq_true rfl)⟩ ⟨(Nat.le_of_ble_eq_true rfl), (Nat.le_of_ble_eq_true rfl)⟩ 0 rfl rfl rfl [0, 1, 2] rfl rfl rfl rfl (by simp [Value.category]) dX4_fitsWithout_22) [0, 1, 2] rfl rfl ?_
      refine v_abs X (List.mem_of_getElem? (i := 2) rfl) (List.mem_of_getElem? (i := 3) rfl) (List.mem_of_getElem? (i := 4) rfl) (List.mem_of_getElem? (i := 5) rfl) ⟨(Nat.le_of_ble_eq_true rfl), (Nat.le_of_ble_eq_true rfl), (Nat.le_of_ble_eq_true rfl), (Nat.le_of_ble_eq_true rfl)⟩ (by omega) dX4_fitsWithout_25 ?_
      rw [f1]
      refine v_istore_n X dX4_fitsWithout_28 3 rfl (by decide) rfl ?_
      dsimp only [List.set]
      refine v_iconst X dX4_fitsWithout_29 ?_
      refine v_istore X dX4_fitsWithout_30 (by decide) rfl ?_
      dsimp only [List.set]
      have L32 : ∀ (nf : Nat) (t : Int) (h1 : 0 ≤ t ∧ t ≤ absI (atI 4 sp (basI wo))) (h2 : ∀ i : Int, 0 ≤ i → i < t → ¬ FitA ar sp cn pa (basI wo) i wo) (_ : (absI (atI 4 sp (basI wo)) - t).toNat < nf), V g x 0 0 (wRea g a a1 a2 ar sp cn pa) [some (.ref a), some (.int (iI wo)), some (.int (iI (basI wo))), some (.int (iI (absI (atI 4 sp (basI wo))))), some (.int (iI t))] 32 [] := by
        intro nf
        induction nf with
        | zero => intro t h1 h2 hmu; exact absurd hmu (Nat.not_lt_zero _)
        | succ nf ih32 =>
          intro t h1 h2 hmu
          refine v_iload X dX4_fitsWithout_32 rfl ?_
          refine v_iload_n X dX4_fitsWithout_34 rfl ?_
          refine v_icmp_ge (tgt := 57) X dX4_fitsWithout_35 (by decide) (by omega) (by omega) (fun c2 => ?_) (fun c2 => ?_)
          · skip
            refine v_iconst X dX4_fitsWithout_57 ?_
            exact v_zret X Y dX4_fitsWithout_58 (by first | decide | omega | (split <;> omega)) (u := ()) (by refine (pI_0 ?_).symm; rintro (q | ⟨i, g1, g2, g3⟩); omega; exact h2 i g1 (by omega) g3) (by rfl)
          · skip
            refine v_aload_n X dX4_fitsWithout_38 rfl ?_
            refine v_iload_n X dX4_fitsWithout_39 rfl ?_
            refine v_iload X dX4_fitsWithout_40 rfl ?_
            refine v_iload_n X dX4_fitsWithout_42 rfl ?_
            refine res_E X (run_V X (c_X4_fitsAt (g := g) (by first | assumption | omega) (by first | assumption | omega) (by first | assumption | omega) (by first | assumption | omega) (by first | assumption | omega) (by first | assumption | omega) (by first | assumption | omega)) gX4_fitsWithout_X4_fitsAt rfl hdX4_fitsAt ⟨(Nat.le_of_ble_eq_true rfl), (Nat.le_of_ble_eq_true rfl)⟩ ⟨(Nat.le_of_ble_eq_true rfl), (Nat.le_of_ble_eq_true rfl)⟩ 0 rfl rfl rfl [0, 1, 2] rfl rfl rfl rfl (by simp [Value.category]) dX4_fitsWithout_43) [0, 1, 2] rfl rfl ?_
            refine v_ifp_eq (tgt := 51) X dX4_fitsWithout_46 (by decide) (fun c3 => ?_) (fun c3 => ?_)
            · skip
              refine v_iinc X dX4_fitsWithout_51 rfl (by decide) rfl ?_
              dsimp only [List.set]
              refine v_goto (tgt := 32) X dX4_fitsWithout_54 (by decide) ?_
              exact ih32 _ (by omega) (by
                  intro i g1 g2; by_cases e : i = t
                  · subst e; assumption
                  · exact h2 i g1 (by omega)) (by omega)
            · skip
              refine v_iconst X dX4_fitsWithout_49 ?_
              exact v_zret X Y dX4_fitsWithout_50 (by first | decide | omega | (split <;> omega)) (u := ()) (by exact (pI_1 (Or.inr ⟨t, h1.1, by omega, by assumption⟩)).symm) (by rfl)
      exact L32 _ _ (by omega) (by intro i g1 g2; exfalso; omega) (Nat.lt_succ_self _)
    · skip
      refine v_iconst X dX4_fitsWithout_18 ?_
      exact v_zret X Y dX4_fitsWithout_19 (by first | decide | omega | (split <;> omega)) (u := ()) (by exact (pI_1 (Or.inl (by omega))).symm) (by rfl)
  refine v_iload_n X dX4_fitsWithout_0 rfl ?_
  refine v_if_ne (tgt := 8) X dX4_fitsWithout_1 (by decide) (by omega) (fun c4 => ?_) (fun c4 => ?_)
  · skip
    have e0 : (0 : Int) = basI wo := (if_neg (by assumption)).symm
    refine v_iconst X dX4_fitsWithout_8 ?_
    rw [e0]
    refine v_istore_n X dX4_fitsWithout_9 2 rfl (by decide) rfl ?_
    dsimp only [List.set]
    exact J10
  · skip
    have e0 : (1 : Int) = basI wo := (if_pos (by assumption)).symm
    refine v_iconst X dX4_fitsWithout_4 ?_
    refine v_goto (tgt := 9) X dX4_fitsWithout_5 (by decide) ?_
    rw [e0]
    refine v_istore_n X dX4_fitsWithout_9 2 rfl (by decide) rfl ?_
    dsimp only [List.set]
    exact J10

theorem hdX4_moved : yX4_moved.cls = RX4 ∧ yX4_moved.cls ≠ "java/lang/invoke/MethodHandle" ∧ yX4_moved.cls ≠ "java/lang/invoke/VarHandle" ∧ (parseMethodDescriptor yX4_moved.desc).map (fun d => d.parameters.length) = some 0 := ⟨rfl, by decide +kernel, by decide +kernel, by decide +kernel⟩
set_option maxHeartbeats 4000000 in
set_option maxRecDepth 100000 in
theorem c_X4_moved {g : Gx} {a a1 a2 : Nat} {ar sp : Nat → Int} {cn pa : Int}  (har : Bd 0 719 ar) (hsp : Bd (-24) 24 sp) (hpa : 1 ≤ pa ∧ pa ≤ 720) (hcn : 0 ≤ cn ∧ cn ≤ 4) : CtE g yX4_moved wsX4_moved 5 118 [.ref a] (wRea g a a1 a2 ar sp cn pa) (bitsN (fun h => pB (FitW ar sp cn pa h)) cn.toNat) (wRea g a a1 a2 ar sp cn pa) := by
  refine m_go (cc := cX4_moved) (nL := 3) (by decide +kernel) rfl (Nat.le_of_ble_eq_true rfl) (fun x X Y hnm => ?_)
  refine v_eq (lo2 := [some (.ref a), none, none]) rfl rfl rfl rfl ?_
  refine v_iconst X dX4_moved_0 ?_
  refine v_istore_n X dX4_moved_1 1 rfl (by decide) rfl ?_
  dsimp only [List.set]
  refine v_iconst X dX4_moved_2 ?_
  refine v_istore_n X dX4_moved_3 2 rfl (by decide) rfl ?_
  dsimp only [List.set]
  have L4 : ∀ (nf : Nat) (b : Int) (h : Int) (h1 : 0 ≤ h ∧ h ≤ cn) (h2 : b = bitsN (fun h => pB (FitW ar sp cn pa h)) h.toNat) (_ : (cn - h).toNat < nf), V g x 0 0 (wRea g a a1 a2 ar sp cn pa) [some (.ref a), some (.int (iI b)), some (.int (iI h))] 4 [] := by
    intro nf
    induction nf with
    | zero => intro b h h1 h2 hmu; exact absurd hmu (Nat.not_lt_zero _)
    | succ nf ih4 =>
      intro b h h1 h2 hmu
      refine v_iload_n X dX4_moved_4 rfl ?_
      refine v_aload_n X dX4_moved_5 rfl ?_
      refine v_get X (fun _ h => List.mem_cons_of_mem _ (List.mem_append_right _ h)) 0 rfl rfl 2 (by decide) rfl (List.mem_of_getElem? (i := 1) rfl) rfl dX4_moved_6 ?_
      refine v_icmp_ge (tgt := 32) X dX4_moved_9 (by decide) (by omega) (by omega) (fun c1 => ?_) (fun c1 => ?_)
      · skip
        refine v_iload_n X dX4_moved_32 rfl ?_
        exact v_iret X Y dX4_moved_33 (u := ()) (by
            have e : h = cn := by omega
            rw [h2, e]) (by rfl)
      · skip
        refine v_aload_n X dX4_moved_12 rfl ?_
        refine v_iload_n X dX4_moved_13 rfl ?_
        refine res_E X (run_V X (c_X4_fitsWithout (g := g) (by first | assumption | omega) (by first | assumption | omega) (by first | assumption | omega) (by first | assumption | omega) (by first | assumption | omega)) gX4_moved_X4_fitsWithout rfl hdX4_fitsWithout ⟨(Nat.le_of_ble_eq_true rfl), (Nat.le_of_ble_eq_true rfl)⟩ ⟨(Nat.le_of_ble_eq_true rfl), (Nat.le_of_ble_eq_true rfl)⟩ 0 rfl rfl rfl [0, 1, 2] rfl rfl rfl rfl (by simp [Value.category]) dX4_moved_14) [0, 1, 2] rfl rfl ?_
        have q9 := pI_or (FitW ar sp cn pa h)
        refine v_ifp_eq (tgt := 26) X dX4_moved_17 (by decide) (fun c2 => ?_) (fun c2 => ?_)
        · skip
          refine v_iinc X dX4_moved_26 rfl (by decide) rfl ?_
          dsimp only [List.set]
          refine v_goto (tgt := 4) X dX4_moved_29 (by decide) ?_
          exact ih4 _ _ (by omega) (by rw [bitsN_s h1.1, ← h2]; simp only [show ((h.toNat : Nat) : Int) = h by omega]; first | rw [if_pos (pB_iff.mpr (by assumption))] | rw [if_neg (fun z => absurd (pB_iff.mp z) (by assumption))]) (by omega)
        · skip
          refine v_iload_n X dX4_moved_20 rfl ?_
          refine v_iconst X dX4_moved_21 ?_
          refine v_iload_n X dX4_moved_22 rfl ?_
          refine v_ishl X dX4_moved_23 ?_
          refine v_ior X dX4_moved_24 ?_
          refine v_istore_n X dX4_moved_25 1 rfl (by decide) rfl ?_
          dsimp only [List.set]
          refine v_iinc X dX4_moved_26 rfl (by decide) rfl ?_
          dsimp only [List.set]
          refine v_goto (tgt := 4) X dX4_moved_29 (by decide) ?_
          exact ih4 _ _ (by omega) (by rw [bitsN_s h1.1, ← h2]; simp only [show ((h.toNat : Nat) : Int) = h by omega]; first | rw [if_pos (pB_iff.mpr (by assumption))] | rw [if_neg (fun z => absurd (pB_iff.mp z) (by assumption))]) (by omega)
  exact L4 _ _ _ (by omega) (by rfl) (Nat.lt_succ_self _)

theorem hdX4_leastMove : yX4_leastMove.cls = RX4 ∧ yX4_leastMove.cls ≠ "java/lang/invoke/MethodHandle" ∧ yX4_leastMove.cls ≠ "java/lang/invoke/VarHandle" ∧ (parseMethodDescriptor yX4_leastMove.desc).map (fun d => d.parameters.length) = some 0 := ⟨rfl, by decide +kernel, by decide +kernel, by decide +kernel⟩
set_option maxHeartbeats 4000000 in
set_option maxRecDepth 100000 in
theorem c_X4_leastMove {g : Gx} {a a1 a2 : Nat} {ar sp : Nat → Int} {cn pa : Int}  (har : Bd 0 719 ar) (hsp : Bd (-24) 24 sp) (hpa : 1 ≤ pa ∧ pa ≤ 720) (hcn : 0 ≤ cn ∧ cn ≤ 4) : CtE g yX4_leastMove wsX4_leastMove 4 94 [.ref a] (wRea g a a1 a2 ar sp cn pa) (lmI ar sp cn pa) (wRea g a a1 a2 ar sp cn pa) := by
  refine m_go (cc := cX4_leastMove) (nL := 6) (by decide +kernel) rfl (Nat.le_of_ble_eq_true rfl) (fun x X Y hnm => ?_)
  refine v_eq (lo2 := [some (.ref a), none, none, none, none, none]) rfl rfl rfl rfl ?_
  have m1 := atI_bd (cn := 4) (h := 0) hsp (by omega) (by omega)
  have m2 := absI_bd m1
  have f1 : (if 0 ≤ atI 4 sp 0 then atI 4 sp 0 else -(atI 4 sp 0)) = absI (atI 4 sp 0) := rfl
  refine v_aload_n X dX4_leastMove_0 rfl ?_
  refine v_get X (fun _ h => List.mem_cons_of_mem _ (List.mem_append_right _ h)) 0 rfl rfl 2 (by decide) rfl (List.mem_of_getElem? (i := 1) rfl) rfl dX4_leastMove_1 ?_
  refine v_iconst X dX4_leastMove_4 ?_
  refine v_isub X dX4_leastMove_5 ?_
  refine v_istore_n X dX4_leastMove_6 1 rfl (by decide) rfl ?_
  dsimp only [List.set]
  refine v_iload_n X dX4_leastMove_7 rfl ?_
  refine v_iconst X dX4_leastMove_8 ?_
  refine v_icmp_ge (tgt := 14) X dX4_leastMove_9 (by decide) (by omega) (by omega) (fun c1 => ?_) (fun c1 => ?_)
  · skip
    refine v_iconst X dX4_leastMove_14 ?_
    refine v_istore_n X dX4_leastMove_15 2 rfl (by decide) rfl ?_
    dsimp only [List.set]
    refine v_aload_n X dX4_leastMove_16 rfl ?_
    refine v_iconst X dX4_leastMove_17 ?_
    refine res_E X (run_V X (c_X4_speedOf (g := g) (by first | assumption | omega) (by first | assumption | omega)) gX4_leastMove_X4_speedOf rfl hdX4_speedOf ⟨(Nat.le_of_ble_eq_true rfl), (Nat.le_of_ble_eq_true rfl)⟩ ⟨(Nat.le_of_ble_eq_true rfl), (Nat.le_of_ble_eq_true rfl)⟩ 0 rfl rfl rfl [0, 1, 2] rfl rfl rfl rfl (by simp [Value.category]) dX4_leastMove_18) [0, 1, 2] rfl rfl ?_
    refine v_abs X (List.mem_of_getElem? (i := 2) rfl) (List.mem_of_getElem? (i := 3) rfl) (List.mem_of_getElem? (i := 4) rfl) (List.mem_of_getElem? (i := 5) rfl) ⟨(Nat.le_of_ble_eq_true rfl), (Nat.le_of_ble_eq_true rfl), (Nat.le_of_ble_eq_true rfl), (Nat.le_of_ble_eq_true rfl)⟩ (by omega) dX4_leastMove_21 ?_
    rw [f1]
    refine v_istore_n X dX4_leastMove_24 3 rfl (by decide) rfl ?_
    dsimp only [List.set]
    refine v_iconst X dX4_leastMove_25 ?_
    refine v_istore X dX4_leastMove_26 (by decide) rfl ?_
    dsimp only [List.set]
    have L28 : ∀ (nf : Nat) (ls : Int) (t : Int) (h1 : 0 ≤ t ∧ t ≤ absI (atI 4 sp 0)) (h2 : ls = lmN (fun t => pB (FitA ar sp cn pa 0 t (cn - 1))) (fun t => gapI ar sp pa 0 t (cn - 1)) t.toNat) (h3 : R32 ls) (_ : (absI (atI 4 sp 0) - t).toNat < nf), V g x 0 0 (wRea g a a1 a2 ar sp cn pa) [some (.ref a), some (.int (iI (cn - 1))), some (.int (iI ls)), some (.int (iI (absI (atI 4 sp 0)))), some (.int (iI t)), none] 28 [] := by
      intro nf
      induction nf with
      | zero => intro ls t h1 h2 h3 hmu; exact absurd hmu (Nat.not_lt_zero _)
      | succ nf ih28 =>
        intro ls t h1 h2 h3 hmu
        refine v_iload X dX4_leastMove_28 rfl ?_
        refine v_iload_n X dX4_leastMove_30 rfl ?_
        refine v_icmp_ge (tgt := 77) X dX4_leastMove_31 (by decide) (by omega) (by omega) (fun c2 => ?_) (fun c2 => ?_)
        · skip
          refine v_iload_n X dX4_leastMove_77 rfl ?_
          exact v_iret X Y dX4_leastMove_78 (u := ()) (by
              have e : t = absI (atI 4 sp 0) := by omega
              unfold lmI; rw [if_neg (by omega), h2, e]) (by rfl)
        · skip
          refine v_aload_n X dX4_leastMove_34 rfl ?_
          refine v_iconst X dX4_leastMove_35 ?_
          refine v_iload X dX4_leastMove_36 rfl ?_
          refine v_iload_n X dX4_leastMove_38 rfl ?_
          refine res_E X (run_V X (c_X4_fitsAt (g := g) (by first | assumption | omega) (by first | assumption | omega) (by first | assumption | omega) (by first | assumption | omega) (by first | assumption | omega) (by first | assumption | omega) (by first | assumption | omega)) gX4_leastMove_X4_fitsAt rfl hdX4_fitsAt ⟨(Nat.le_of_ble_eq_true rfl), (Nat.le_of_ble_eq_true rfl)⟩ ⟨(Nat.le_of_ble_eq_true rfl), (Nat.le_of_ble_eq_true rfl)⟩ 0 rfl rfl rfl [0, 1, 2] rfl rfl rfl rfl (by simp [Value.category]) dX4_leastMove_39) [0, 1, 2] rfl rfl ?_
          have q9 := pI_or (FitA ar sp cn pa 0 t (cn - 1))
          refine v_ifp_eq (tgt := 71) X dX4_leastMove_42 (by decide) (fun c3 => ?_) (fun c3 => ?_)
          · skip
            refine v_iinc X dX4_leastMove_71 rfl (by decide) rfl ?_
            dsimp only [List.set]
            refine v_goto (tgt := 28) X dX4_leastMove_74 (by decide) ?_
            exact ih28 _ _ (by omega) (by rw [lmN_s h1.1, ← h2]; simp only [show ((t.toNat : Nat) : Int) = t by omega]; first | (rw [if_pos (pB_iff.mpr (by assumption))]; first | rw [if_pos (show ls < 0 by omega)] | rw [if_neg (show ¬ ls < 0 by omega)]) | rw [if_neg (fun z => absurd (pB_iff.mp z) (by assumption))]) (by first | omega | (split <;> omega)) (by omega)
          · skip
            refine v_aload_n X dX4_leastMove_45 rfl ?_
            refine v_iconst X dX4_leastMove_46 ?_
            refine v_iload X dX4_leastMove_47 rfl ?_
            refine v_iload_n X dX4_leastMove_49 rfl ?_
            refine res_E X (run_V X (c_X4_gap (g := g) (by first | assumption | omega) (by first | assumption | omega) (by first | assumption | omega) (by first | assumption | omega) (by first | assumption | omega) (by first | assumption | omega)) gX4_leastMove_X4_gap rfl hdX4_gap ⟨(Nat.le_of_ble_eq_true rfl), (Nat.le_of_ble_eq_true rfl)⟩ ⟨(Nat.le_of_ble_eq_true rfl), (Nat.le_of_ble_eq_true rfl)⟩ 0 rfl rfl rfl [0, 1, 2] rfl rfl rfl rfl (by simp [Value.category]) dX4_leastMove_50) [0, 1, 2] rfl rfl ?_
            have q8 := gapI_r (b := 0) (t := t) (h := cn - 1) hsp har hpa
            have q7 := gapI_nn (b := 0) (t := t) (h := cn - 1) hsp har hpa
            refine v_istore X dX4_leastMove_53 (by decide) rfl ?_
            dsimp only [List.set]
            refine v_iload_n X dX4_leastMove_55 rfl ?_
            refine v_if_ge (tgt := 64) X dX4_leastMove_56 (by decide) (by omega) (fun c4 => ?_) (fun c4 => ?_)
            · skip
              refine v_iload_n X dX4_leastMove_64 rfl ?_
              refine v_iload X dX4_leastMove_65 rfl ?_
              refine v_min X (List.mem_of_getElem? (i := 6) rfl) (List.mem_of_getElem? (i := 7) rfl) (List.mem_of_getElem? (i := 4) rfl) (List.mem_of_getElem? (i := 8) rfl) ⟨(Nat.le_of_ble_eq_true rfl), (Nat.le_of_ble_eq_true rfl), (Nat.le_of_ble_eq_true rfl), (Nat.le_of_ble_eq_true rfl)⟩ (by omega) (by omega) dX4_leastMove_67 ?_
              refine v_istore_n X dX4_leastMove_70 2 rfl (by decide) rfl ?_
              dsimp only [List.set]
              refine v_iinc X dX4_leastMove_71 rfl (by decide) rfl ?_
              dsimp only [List.set]
              refine v_goto (tgt := 28) X dX4_leastMove_74 (by decide) ?_
              refine v_drop 5 ?_
              dsimp only [List.set]
              exact ih28 _ _ (by omega) (by rw [lmN_s h1.1, ← h2]; simp only [show ((t.toNat : Nat) : Int) = t by omega]; first | (rw [if_pos (pB_iff.mpr (by assumption))]; first | rw [if_pos (show ls < 0 by omega)] | rw [if_neg (show ¬ ls < 0 by omega)]) | rw [if_neg (fun z => absurd (pB_iff.mp z) (by assumption))]) (by first | omega | (split <;> omega)) (by omega)
            · skip
              refine v_iload X dX4_leastMove_59 rfl ?_
              refine v_goto (tgt := 70) X dX4_leastMove_61 (by decide) ?_
              refine v_istore_n X dX4_leastMove_70 2 rfl (by decide) rfl ?_
              dsimp only [List.set]
              refine v_iinc X dX4_leastMove_71 rfl (by decide) rfl ?_
              dsimp only [List.set]
              refine v_goto (tgt := 28) X dX4_leastMove_74 (by decide) ?_
              refine v_drop 5 ?_
              dsimp only [List.set]
              exact ih28 _ _ (by omega) (by rw [lmN_s h1.1, ← h2]; simp only [show ((t.toNat : Nat) : Int) = t by omega]; first | (rw [if_pos (pB_iff.mpr (by assumption))]; first | rw [if_pos (show ls < 0 by omega)] | rw [if_neg (show ¬ ls < 0 by omega)]) | rw [if_neg (fun z => absurd (pB_iff.mp z) (by assumption))]) (by first | omega | (split <;> omega)) (by omega)
    exact L28 _ _ _ (by omega) (by rfl) (by first | omega | (split <;> omega)) (Nat.lt_succ_self _)
  · skip
    refine v_iconst X dX4_leastMove_12 ?_
    exact v_iret X Y dX4_leastMove_13 (u := ()) (by exact (if_pos (by omega)).symm) (by rfl)

theorem hdX4_take : yX4_take.cls = RX4 ∧ yX4_take.cls ≠ "java/lang/invoke/MethodHandle" ∧ yX4_take.cls ≠ "java/lang/invoke/VarHandle" ∧ (parseMethodDescriptor yX4_take.desc).map (fun d => d.parameters.length) = some 5 := ⟨rfl, by decide +kernel, by decide +kernel, by decide +kernel⟩
set_option maxHeartbeats 4000000 in
set_option maxRecDepth 100000 in
theorem c_X4_take {g : Gx} {a a1 a2 b b1 b2 b3 d d1 d2 d3 : Nat} {ar sp : Nat → Int} {cn pa mk cc : Int} {so tu sl : Nat → Int} {it la le : Nat → Int} {r i q : Int} (hcn : 0 ≤ cc ∧ cc ≤ 4) (hso : Bd 0 5 so) (htu : Bd 0 12 tu) (hit : Bd (-2147483648) 2147483647 it) (hle : Bd 0 40 le) (hr : 0 ≤ r ∧ r < 8) (hi : 0 ≤ i ∧ i ≤ 40) (hq : R32 q) : CtV (S := (Nat → Int) × (Nat → Int)) g yX4_take wsX4_take 4 86 [.ref a, .ref b, .ref d, .int (iI r), .int (iI i), .int (iI q)] (wRea g a a1 a2 ar sp cn pa ++ (wClk g b b1 b2 b3 mk cc so tu sl ++ wRow g d d1 d2 d3 it la le)) (fun u => ∀ j : Nat, (j : Int) < cc → u.1 j = itmI it le r (i + j) ∧ u.2 j = spdI cc so tu j) (fun u => wRea g a a1 a2 u.1 u.2 cc q ++ (wClk g b b1 b2 b3 mk cc so tu sl ++ wRow g d d1 d2 d3 it la le)) := by
  refine m_go (cc := cX4_take) (nL := 7) (by decide +kernel) rfl (Nat.le_of_ble_eq_true rfl) (fun x X Y hnm => ?_)
  refine v_eq (lo2 := [some (.ref a), some (.ref b), some (.ref d), some (.int (iI r)), some (.int (iI i)), some (.int (iI q)), none]) rfl rfl rfl rfl ?_
  have f0 : (if (4 : Int) < cc then 4 else cc) = cc := if_neg (by omega)
  refine v_aload_n X dX4_take_0 rfl ?_
  refine v_aload_n X dX4_take_1 rfl ?_
  refine v_get X (fun _ h => List.mem_cons_of_mem _ (List.mem_append_left _ (List.mem_append_left _ (List.mem_append_right _ h)))) 3 rfl rfl 4 (by decide) rfl (List.mem_of_getElem? (i := 1) rfl) rfl dX4_take_2 ?_
  refine v_iconst X dX4_take_5 ?_
  refine v_min X (List.mem_of_getElem? (i := 2) rfl) (List.mem_of_getElem? (i := 3) rfl) (List.mem_of_getElem? (i := 4) rfl) (List.mem_of_getElem? (i := 5) rfl) ⟨(Nat.le_of_ble_eq_true rfl), (Nat.le_of_ble_eq_true rfl), (Nat.le_of_ble_eq_true rfl), (Nat.le_of_ble_eq_true rfl)⟩ (by omega) (by omega) dX4_take_6 ?_
  rw [f0]
  refine v_put X (fun _ h => List.mem_cons_of_mem _ (List.mem_append_left _ (List.mem_append_right _ h))) tyX4 tyX4_ok nmX4 0 rfl rfl 2 (by decide) rfl (List.mem_of_getElem? (i := 6) rfl) rfl rfl rfl (Nat.le_of_ble_eq_true rfl) dX4_take_9 ?_
  dsimp only [List.set, wRea, wClk, wRow, List.cons_append, List.nil_append]
  refine v_aload_n X dX4_take_12 rfl ?_
  refine v_iload X dX4_take_13 rfl ?_
  refine v_put X (fun _ h => List.mem_cons_of_mem _ (List.mem_append_left _ (List.mem_append_right _ h))) tyX4 tyX4_ok nmX4 0 rfl rfl 3 (by decide) rfl (List.mem_of_getElem? (i := 7) rfl) rfl rfl rfl (Nat.le_of_ble_eq_true rfl) dX4_take_15 ?_
  dsimp only [List.set, wRea, wClk, wRow, List.cons_append, List.nil_append]
  refine v_iconst X dX4_take_18 ?_
  refine v_istore X dX4_take_19 (by decide) rfl ?_
  dsimp only [List.set]
  have L21 : ∀ (nf : Nat) (f1 : Nat → Int) (f2 : Nat → Int) (h : Int) (h1 : 0 ≤ h ∧ h ≤ cc) (h2 : ∀ j : Nat, (j : Int) < h → f1 j = itmI it le r (i + j) ∧ f2 j = spdI cc so tu j) (_ : (cc - h).toNat < nf), V g x 0 0 (wRea g a a1 a2 f1 f2 cc q ++ (wClk g b b1 b2 b3 mk cc so tu sl ++ wRow g d d1 d2 d3 it la le)) [some (.ref a), some (.ref b), some (.ref d), some (.int (iI r)), some (.int (iI i)), some (.int (iI q)), some (.int (iI h))] 21 [] := by
    intro nf
    induction nf with
    | zero => intro f1 f2 h h1 h2 hmu; exact absurd hmu (Nat.not_lt_zero _)
    | succ nf ih21 =>
      intro f1 f2 h h1 h2 hmu
      refine v_iload X dX4_take_21 rfl ?_
      refine v_aload_n X dX4_take_23 rfl ?_
      refine v_get X (fun _ h => List.mem_cons_of_mem _ (List.mem_append_left _ (List.mem_append_right _ h))) 0 rfl rfl 2 (by decide) rfl (List.mem_of_getElem? (i := 6) rfl) rfl dX4_take_24 ?_
      refine v_icmp_ge (tgt := 66) X dX4_take_27 (by decide) (by omega) (by omega) (fun c1 => ?_) (fun c1 => ?_)
      · skip
        refine v_vret X Y dX4_take_66 (u := (f1, f2)) ?_ rfl
        intro j hj
        exact h2 j (by omega)
      · skip
        refine v_aload_n X dX4_take_30 rfl ?_
        refine v_get X (fun _ h => List.mem_cons_of_mem _ (List.mem_append_left _ (List.mem_append_right _ h))) 0 rfl rfl 0 (by decide) rfl (List.mem_of_getElem? (i := 8) rfl) rfl dX4_take_31 ?_
        refine v_iload X dX4_take_34 rfl ?_
        refine v_aload_n X dX4_take_36 rfl ?_
        refine v_iload_n X dX4_take_37 rfl ?_
        refine v_iload X dX4_take_38 rfl ?_
        refine v_iload X dX4_take_40 rfl ?_
        refine v_iadd X dX4_take_42 ?_
        refine res_E X (run_V X (c_X5_item (g := g) (by first | assumption | omega) (by first | assumption | omega) (by first | assumption | omega) (by first | assumption | omega)) gX4_take_X5_item rfl hdX5_item ⟨(Nat.le_of_ble_eq_true rfl), (Nat.le_of_ble_eq_true rfl)⟩ ⟨(Nat.le_of_ble_eq_true rfl), (Nat.le_of_ble_eq_true rfl)⟩ 7 rfl rfl rfl [7, 8, 9, 10] rfl rfl rfl rfl (by simp [Value.category]) dX4_take_43) [7, 8, 9, 10] rfl rfl ?_
        refine v_iast X 1 rfl (by omega) (by omega) (by omega) dX4_take_46 ?_
        dsimp only [List.set, wRea, wClk, wRow, List.cons_append, List.nil_append]
        refine v_aload_n X dX4_take_47 rfl ?_
        refine v_get X (fun _ h => List.mem_cons_of_mem _ (List.mem_append_left _ (List.mem_append_right _ h))) 0 rfl rfl 1 (by decide) rfl (List.mem_of_getElem? (i := 9) rfl) rfl dX4_take_48 ?_
        refine v_iload X dX4_take_51 rfl ?_
        refine v_aload_n X dX4_take_53 rfl ?_
        refine v_iload X dX4_take_54 rfl ?_
        refine res_E X (run_V X (c_X2_speedOf (g := g) (by first | assumption | omega) (by first | assumption | omega) (by first | assumption | omega) (by first | assumption | omega)) gX4_take_X2_speedOf rfl hdX2_speedOf ⟨(Nat.le_of_ble_eq_true rfl), (Nat.le_of_ble_eq_true rfl)⟩ ⟨(Nat.le_of_ble_eq_true rfl), (Nat.le_of_ble_eq_true rfl)⟩ 3 rfl rfl rfl [3, 4, 5, 6] rfl rfl rfl rfl (by simp [Value.category]) dX4_take_56) [3, 4, 5, 6] rfl rfl ?_
        refine v_iast X 2 rfl (by omega) (by omega) (by omega) dX4_take_59 ?_
        dsimp only [List.set, wRea, wClk, wRow, List.cons_append, List.nil_append]
        refine v_iinc X dX4_take_60 rfl (by decide) rfl ?_
        dsimp only [List.set]
        refine v_goto (tgt := 21) X dX4_take_63 (by decide) ?_
        exact ih21 _ _ _ (by omega) (by
            intro j hj; rw [updI_e, updI_e]; by_cases e : j = h.toNat
            · rw [if_pos e, if_pos e, show ((j : Nat) : Int) = h by omega]; exact ⟨rfl, rfl⟩
            · rw [if_neg e, if_neg e]; exact h2 j (by omega)) (by omega)
  exact L21 _ _ _ _ (by omega) (by intro j hj; exfalso; omega) (Nat.lt_succ_self _)

theorem hdX8_in : yX8_in.cls = RX8 ∧ yX8_in.cls ≠ "java/lang/invoke/MethodHandle" ∧ yX8_in.cls ≠ "java/lang/invoke/VarHandle" ∧ (parseMethodDescriptor yX8_in.desc).map (fun d => d.parameters.length) = some 3 := ⟨rfl, by decide +kernel, by decide +kernel, by decide +kernel⟩
set_option maxHeartbeats 4000000 in
set_option maxRecDepth 100000 in
theorem c_X8_in {g : Gx} {v l h : Int} (hv : R64 v) (hl : R64 l) (hh : R64 h) : CtE g yX8_in wsX8_in 0 0 [.long (lI v), .long (lI l), .long (lI h)] ([]) (if l ≤ v ∧ v ≤ h then 1 else 0) ([]) := by
  refine m_go (cc := cX8_in) (nL := 6) (by decide +kernel) rfl (Nat.le_of_ble_eq_true rfl) (fun x X Y hnm => ?_)
  refine v_eq (lo2 := [some (.long (lI v)), none, some (.long (lI l)), none, some (.long (lI h)), none]) rfl rfl rfl rfl ?_
  refine v_lload_n X dX8_in_0 rfl ?_
  refine v_lload_n X dX8_in_1 rfl ?_
  refine v_lcmp X dX8_in_2 (by omega) (by omega) (fun c1 => ?_) (fun c1 => ?_) (fun c1 => ?_)
  · skip
    refine v_if_lt (tgt := 17) X dX8_in_3 (by decide) (by decide) (fun hh => ?_) (fun hh => ?_)
    · skip
      exfalso; omega
    · skip
      refine v_lload_n X dX8_in_6 rfl ?_
      refine v_lload X dX8_in_7 rfl ?_
      refine v_lcmp X dX8_in_9 (by omega) (by omega) (fun c2 => ?_) (fun c2 => ?_) (fun c2 => ?_)
      · skip
        refine v_if_gt (tgt := 17) X dX8_in_10 (by decide) (by decide) (fun hh => ?_) (fun hh => ?_)
        · skip
          refine v_iconst X dX8_in_17 ?_
          exact v_zret X Y dX8_in_18 (by first | decide | omega | (split <;> omega)) (u := ()) (by first | rfl | omega | (split <;> omega) | (simp [*]; done)) (by rfl)
        · skip
          exfalso; omega
      · skip
        refine v_if_gt (tgt := 17) X dX8_in_10 (by decide) (by decide) (fun hh => ?_) (fun hh => ?_)
        · skip
          exfalso; omega
        · skip
          refine v_iconst X dX8_in_13 ?_
          refine v_goto (tgt := 18) X dX8_in_14 (by decide) ?_
          exact v_zret X Y dX8_in_18 (by first | decide | omega | (split <;> omega)) (u := ()) (by first | rfl | omega | (split <;> omega) | (simp [*]; done)) (by rfl)
      · skip
        refine v_if_gt (tgt := 17) X dX8_in_10 (by decide) (by decide) (fun hh => ?_) (fun hh => ?_)
        · skip
          exfalso; omega
        · skip
          refine v_iconst X dX8_in_13 ?_
          refine v_goto (tgt := 18) X dX8_in_14 (by decide) ?_
          exact v_zret X Y dX8_in_18 (by first | decide | omega | (split <;> omega)) (u := ()) (by first | rfl | omega | (split <;> omega) | (simp [*]; done)) (by rfl)
  · skip
    refine v_if_lt (tgt := 17) X dX8_in_3 (by decide) (by decide) (fun hh => ?_) (fun hh => ?_)
    · skip
      exfalso; omega
    · skip
      refine v_lload_n X dX8_in_6 rfl ?_
      refine v_lload X dX8_in_7 rfl ?_
      refine v_lcmp X dX8_in_9 (by omega) (by omega) (fun c3 => ?_) (fun c3 => ?_) (fun c3 => ?_)
      · skip
        refine v_if_gt (tgt := 17) X dX8_in_10 (by decide) (by decide) (fun hh => ?_) (fun hh => ?_)
        · skip
          refine v_iconst X dX8_in_17 ?_
          exact v_zret X Y dX8_in_18 (by first | decide | omega | (split <;> omega)) (u := ()) (by first | rfl | omega | (split <;> omega) | (simp [*]; done)) (by rfl)
        · skip
          exfalso; omega
      · skip
        refine v_if_gt (tgt := 17) X dX8_in_10 (by decide) (by decide) (fun hh => ?_) (fun hh => ?_)
        · skip
          exfalso; omega
        · skip
          refine v_iconst X dX8_in_13 ?_
          refine v_goto (tgt := 18) X dX8_in_14 (by decide) ?_
          exact v_zret X Y dX8_in_18 (by first | decide | omega | (split <;> omega)) (u := ()) (by first | rfl | omega | (split <;> omega) | (simp [*]; done)) (by rfl)
      · skip
        refine v_if_gt (tgt := 17) X dX8_in_10 (by decide) (by decide) (fun hh => ?_) (fun hh => ?_)
        · skip
          exfalso; omega
        · skip
          refine v_iconst X dX8_in_13 ?_
          refine v_goto (tgt := 18) X dX8_in_14 (by decide) ?_
          exact v_zret X Y dX8_in_18 (by first | decide | omega | (split <;> omega)) (u := ()) (by first | rfl | omega | (split <;> omega) | (simp [*]; done)) (by rfl)
  · skip
    refine v_if_lt (tgt := 17) X dX8_in_3 (by decide) (by decide) (fun hh => ?_) (fun hh => ?_)
    · skip
      refine v_iconst X dX8_in_17 ?_
      exact v_zret X Y dX8_in_18 (by first | decide | omega | (split <;> omega)) (u := ()) (by first | rfl | omega | (split <;> omega) | (simp [*]; done)) (by rfl)
    · skip
      exfalso; omega

theorem hdX8_isRow : yX8_isRow.cls = RX8 ∧ yX8_isRow.cls ≠ "java/lang/invoke/MethodHandle" ∧ yX8_isRow.cls ≠ "java/lang/invoke/VarHandle" ∧ (parseMethodDescriptor yX8_isRow.desc).map (fun d => d.parameters.length) = some 1 := ⟨rfl, by decide +kernel, by decide +kernel, by decide +kernel⟩
set_option maxHeartbeats 4000000 in
set_option maxRecDepth 100000 in
theorem c_X8_isRow {g : Gx} {a : Int} (ha : R32 a) : CtE g yX8_isRow wsX8_isRow 1 25 [.int (iI a)] ([]) (if 0 ≤ a ∧ a < 8 then 1 else 0) ([]) := by
  refine m_go (cc := cX8_isRow) (nL := 1) (by decide +kernel) rfl (Nat.le_of_ble_eq_true rfl) (fun x X Y hnm => ?_)
  refine v_eq (lo2 := [some (.int (iI a))]) rfl rfl rfl rfl ?_
  refine v_iload_n X dX8_isRow_0 rfl ?_
  refine v_i2l X dX8_isRow_1 (by first | omega | (split <;> omega)) ?_
  refine v_lconst0 X dX8_isRow_2 ?_
  refine v_ldc2 X (List.mem_of_getElem? (i := 1) rfl) dX8_isRow_3 (n := 7) (by decide) ?_
  refine res_E X (run_S X (c_X8_in (g := g) (by first | assumption | omega) (by first | assumption | omega) (by first | assumption | omega)) gX8_isRow_X8_in rfl hdX8_in.2 ⟨(Nat.le_of_ble_eq_true rfl), (Nat.le_of_ble_eq_true rfl)⟩ ⟨(Nat.le_of_ble_eq_true rfl), (Nat.le_of_ble_eq_true rfl)⟩ [] rfl rfl rfl rfl (by simp [Value.category]) dX8_isRow_6) [] rfl rfl ?_
  exact v_zret X Y dX8_isRow_9 (by first | decide | omega | (split <;> omega)) (u := ()) (by split <;> split <;> omega) (by rfl)

theorem hdX8_isLetter : yX8_isLetter.cls = RX8 ∧ yX8_isLetter.cls ≠ "java/lang/invoke/MethodHandle" ∧ yX8_isLetter.cls ≠ "java/lang/invoke/VarHandle" ∧ (parseMethodDescriptor yX8_isLetter.desc).map (fun d => d.parameters.length) = some 1 := ⟨rfl, by decide +kernel, by decide +kernel, by decide +kernel⟩
set_option maxHeartbeats 4000000 in
set_option maxRecDepth 100000 in
theorem c_X8_isLetter {g : Gx} {a : Int} (ha : R32 a) : CtE g yX8_isLetter wsX8_isLetter 0 0 [.int (iI a)] ([]) (if 97 ≤ a ∧ a ≤ 122 then 1 else 0) ([]) := by
  refine m_go (cc := cX8_isLetter) (nL := 1) (by decide +kernel) rfl (Nat.le_of_ble_eq_true rfl) (fun x X Y hnm => ?_)
  refine v_eq (lo2 := [some (.int (iI a))]) rfl rfl rfl rfl ?_
  refine v_iload_n X dX8_isLetter_0 rfl ?_
  refine v_bipush X dX8_isLetter_1 (by decide) ?_
  refine v_icmp_lt (tgt := 16) X dX8_isLetter_3 (by decide) (by omega) (by omega) (fun c1 => ?_) (fun c1 => ?_)
  · skip
    refine v_iconst X dX8_isLetter_16 ?_
    exact v_zret X Y dX8_isLetter_17 (by first | decide | omega | (split <;> omega)) (u := ()) (by first | rfl | omega | (split <;> omega) | (simp [*]; done)) (by rfl)
  · skip
    refine v_iload_n X dX8_isLetter_6 rfl ?_
    refine v_bipush X dX8_isLetter_7 (by decide) ?_
    refine v_icmp_gt (tgt := 16) X dX8_isLetter_9 (by decide) (by omega) (by omega) (fun c2 => ?_) (fun c2 => ?_)
    · skip
      refine v_iconst X dX8_isLetter_16 ?_
      exact v_zret X Y dX8_isLetter_17 (by first | decide | omega | (split <;> omega)) (u := ()) (by first | rfl | omega | (split <;> omega) | (simp [*]; done)) (by rfl)
    · skip
      refine v_iconst X dX8_isLetter_12 ?_
      refine v_goto (tgt := 17) X dX8_isLetter_13 (by decide) ?_
      exact v_zret X Y dX8_isLetter_17 (by first | decide | omega | (split <;> omega)) (u := ()) (by first | rfl | omega | (split <;> omega) | (simp [*]; done)) (by rfl)

theorem hdX8_isFigure : yX8_isFigure.cls = RX8 ∧ yX8_isFigure.cls ≠ "java/lang/invoke/MethodHandle" ∧ yX8_isFigure.cls ≠ "java/lang/invoke/VarHandle" ∧ (parseMethodDescriptor yX8_isFigure.desc).map (fun d => d.parameters.length) = some 1 := ⟨rfl, by decide +kernel, by decide +kernel, by decide +kernel⟩
set_option maxHeartbeats 4000000 in
set_option maxRecDepth 100000 in
theorem c_X8_isFigure {g : Gx} {a : Int} (ha : R32 a) : CtE g yX8_isFigure wsX8_isFigure 0 0 [.int (iI a)] ([]) (if 48 ≤ a ∧ a ≤ 57 then 1 else 0) ([]) := by
  refine m_go (cc := cX8_isFigure) (nL := 1) (by decide +kernel) rfl (Nat.le_of_ble_eq_true rfl) (fun x X Y hnm => ?_)
  refine v_eq (lo2 := [some (.int (iI a))]) rfl rfl rfl rfl ?_
  refine v_iload_n X dX8_isFigure_0 rfl ?_
  refine v_bipush X dX8_isFigure_1 (by decide) ?_
  refine v_icmp_lt (tgt := 16) X dX8_isFigure_3 (by decide) (by omega) (by omega) (fun c1 => ?_) (fun c1 => ?_)
  · skip
    refine v_iconst X dX8_isFigure_16 ?_
    exact v_zret X Y dX8_isFigure_17 (by first | decide | omega | (split <;> omega)) (u := ()) (by first | rfl | omega | (split <;> omega) | (simp [*]; done)) (by rfl)
  · skip
    refine v_iload_n X dX8_isFigure_6 rfl ?_
    refine v_bipush X dX8_isFigure_7 (by decide) ?_
    refine v_icmp_gt (tgt := 16) X dX8_isFigure_9 (by decide) (by omega) (by omega) (fun c2 => ?_) (fun c2 => ?_)
    · skip
      refine v_iconst X dX8_isFigure_16 ?_
      exact v_zret X Y dX8_isFigure_17 (by first | decide | omega | (split <;> omega)) (u := ()) (by first | rfl | omega | (split <;> omega) | (simp [*]; done)) (by rfl)
    · skip
      refine v_iconst X dX8_isFigure_12 ?_
      refine v_goto (tgt := 17) X dX8_isFigure_13 (by decide) ?_
      exact v_zret X Y dX8_isFigure_17 (by first | decide | omega | (split <;> omega)) (u := ()) (by first | rfl | omega | (split <;> omega) | (simp [*]; done)) (by rfl)

theorem hdX8_isMoment : yX8_isMoment.cls = RX8 ∧ yX8_isMoment.cls ≠ "java/lang/invoke/MethodHandle" ∧ yX8_isMoment.cls ≠ "java/lang/invoke/VarHandle" ∧ (parseMethodDescriptor yX8_isMoment.desc).map (fun d => d.parameters.length) = some 2 := ⟨rfl, by decide +kernel, by decide +kernel, by decide +kernel⟩
set_option maxHeartbeats 4000000 in
set_option maxRecDepth 100000 in
theorem c_X8_isMoment {g : Gx} {p q : Int} (hp : R32 p) (hq : R32 q) : CtE g yX8_isMoment wsX8_isMoment 1 25 [.int (iI p), .int (iI q)] ([]) (if 1 ≤ q ∧ q ≤ 9999 ∧ 0 ≤ p ∧ p < q then 1 else 0) ([]) := by
  refine m_go (cc := cX8_isMoment) (nL := 2) (by decide +kernel) rfl (Nat.le_of_ble_eq_true rfl) (fun x X Y hnm => ?_)
  refine v_eq (lo2 := [some (.int (iI p)), some (.int (iI q))]) rfl rfl rfl rfl ?_
  refine v_iload_n X dX8_isMoment_0 rfl ?_
  refine v_i2l X dX8_isMoment_1 (by first | omega | (split <;> omega)) ?_
  refine v_lconst1 X dX8_isMoment_2 ?_
  refine v_ldc2 X (List.mem_of_getElem? (i := 1) rfl) dX8_isMoment_3 (n := 9999) (by decide) ?_
  refine res_E X (run_S X (c_X8_in (g := g) (by first | assumption | omega) (by first | assumption | omega) (by first | assumption | omega)) gX8_isMoment_X8_in rfl hdX8_in.2 ⟨(Nat.le_of_ble_eq_true rfl), (Nat.le_of_ble_eq_true rfl)⟩ ⟨(Nat.le_of_ble_eq_true rfl), (Nat.le_of_ble_eq_true rfl)⟩ [] rfl rfl rfl rfl (by simp [Value.category]) dX8_isMoment_6) [] rfl rfl ?_
  refine v_ifb_eq (tgt := 29) X dX8_isMoment_9 (by decide) (fun c1 => ?_) (fun c1 => ?_)
  · skip
    refine v_iconst X dX8_isMoment_29 ?_
    exact v_zret X Y dX8_isMoment_30 (by first | decide | omega | (split <;> omega)) (u := ()) (by first | rfl | omega | (split <;> omega) | (split <;> split <;> omega)) (by rfl)
  · skip
    refine v_iload_n X dX8_isMoment_12 rfl ?_
    refine v_i2l X dX8_isMoment_13 (by first | omega | (split <;> omega)) ?_
    refine v_lconst0 X dX8_isMoment_14 ?_
    refine v_iload_n X dX8_isMoment_15 rfl ?_
    refine v_iconst X dX8_isMoment_16 ?_
    refine v_isub X dX8_isMoment_17 ?_
    refine v_i2l X dX8_isMoment_18 (by first | omega | (split <;> omega)) ?_
    refine res_E X (run_S X (c_X8_in (g := g) (by first | assumption | omega) (by first | assumption | omega) (by first | assumption | omega)) gX8_isMoment_X8_in rfl hdX8_in.2 ⟨(Nat.le_of_ble_eq_true rfl), (Nat.le_of_ble_eq_true rfl)⟩ ⟨(Nat.le_of_ble_eq_true rfl), (Nat.le_of_ble_eq_true rfl)⟩ [] rfl rfl rfl rfl (by simp [Value.category]) dX8_isMoment_19) [] rfl rfl ?_
    refine v_ifb_eq (tgt := 29) X dX8_isMoment_22 (by decide) (fun c2 => ?_) (fun c2 => ?_)
    · skip
      refine v_iconst X dX8_isMoment_29 ?_
      exact v_zret X Y dX8_isMoment_30 (by first | decide | omega | (split <;> omega)) (u := ()) (by first | rfl | omega | (split <;> omega) | (split <;> split <;> omega)) (by rfl)
    · skip
      refine v_iconst X dX8_isMoment_25 ?_
      refine v_goto (tgt := 30) X dX8_isMoment_26 (by decide) ?_
      exact v_zret X Y dX8_isMoment_30 (by first | decide | omega | (split <;> omega)) (u := ()) (by first | rfl | omega | (split <;> omega) | (split <;> split <;> omega)) (by rfl)

theorem hdX8_size : yX8_size.cls = RX8 ∧ yX8_size.cls ≠ "java/lang/invoke/MethodHandle" ∧ yX8_size.cls ≠ "java/lang/invoke/VarHandle" ∧ (parseMethodDescriptor yX8_size.desc).map (fun d => d.parameters.length) = some 1 := ⟨rfl, by decide +kernel, by decide +kernel, by decide +kernel⟩
set_option maxHeartbeats 4000000 in
set_option maxRecDepth 100000 in
theorem c_X8_size {g : Gx} {v : Int} (hv : -2147483647 ≤ v ∧ v ≤ 2147483647) : CtE g yX8_size wsX8_size 0 0 [.int (iI v)] ([]) (absI v) ([]) := by
  refine m_go (cc := cX8_size) (nL := 1) (by decide +kernel) rfl (Nat.le_of_ble_eq_true rfl) (fun x X Y hnm => ?_)
  refine v_eq (lo2 := [some (.int (iI v))]) rfl rfl rfl rfl ?_
  refine v_iload_n X dX8_size_0 rfl ?_
  refine v_if_ge (tgt := 9) X dX8_size_1 (by decide) (by omega) (fun c1 => ?_) (fun c1 => ?_)
  · skip
    refine v_iload_n X dX8_size_9 rfl ?_
    exact v_iret X Y dX8_size_10 (u := ()) (by unfold absI; split <;> omega) (by rfl)
  · skip
    refine v_iload_n X dX8_size_4 rfl ?_
    refine v_ineg X dX8_size_5 ?_
    refine v_goto (tgt := 10) X dX8_size_6 (by decide) ?_
    exact v_iret X Y dX8_size_10 (u := ()) (by unfold absI; split <;> omega) (by rfl)

theorem hdX8_rest : yX8_rest.cls = RX8 ∧ yX8_rest.cls ≠ "java/lang/invoke/MethodHandle" ∧ yX8_rest.cls ≠ "java/lang/invoke/VarHandle" ∧ (parseMethodDescriptor yX8_rest.desc).map (fun d => d.parameters.length) = some 2 := ⟨rfl, by decide +kernel, by decide +kernel, by decide +kernel⟩
set_option maxHeartbeats 4000000 in
set_option maxRecDepth 100000 in
theorem c_X8_rest {g : Gx} {n w : Int} (hn : R32 n) (hw : R32 w) (h0 : 0 < w) : CtE g yX8_rest wsX8_rest 0 0 [.int (iI n), .int (iI w)] ([]) (restI n w) ([]) := by
  refine m_go (cc := cX8_rest) (nL := 3) (by decide +kernel) rfl (Nat.le_of_ble_eq_true rfl) (fun x X Y hnm => ?_)
  refine v_eq (lo2 := [some (.int (iI n)), some (.int (iI w)), none]) rfl rfl rfl rfl ?_
  have q1 := tmod_emod (x := n) h0
  have q5 := Int.tmod_lt_of_pos n h0
  have q6 := Int.lt_tmod_of_pos n h0
  have q7 : restI n w = n % w := if_neg (by omega)
  refine v_iload_n X dX8_rest_0 rfl ?_
  refine v_iload_n X dX8_rest_1 rfl ?_
  refine v_irem X dX8_rest_2 (by omega) (by omega) (by omega) ?_
  refine v_istore_n X dX8_rest_3 2 rfl (by decide) rfl ?_
  dsimp only [List.set]
  refine v_iload_n X dX8_rest_4 rfl ?_
  refine v_if_ge (tgt := 14) X dX8_rest_5 (by decide) (by omega) (fun c1 => ?_) (fun c1 => ?_)
  · skip
    refine v_iload_n X dX8_rest_14 rfl ?_
    exact v_iret X Y dX8_rest_15 (u := ()) (by rw [q7, q1]; split <;> omega) (by rfl)
  · skip
    refine v_iload_n X dX8_rest_8 rfl ?_
    refine v_iload_n X dX8_rest_9 rfl ?_
    refine v_iadd X dX8_rest_10 ?_
    refine v_goto (tgt := 15) X dX8_rest_11 (by decide) ?_
    exact v_iret X Y dX8_rest_15 (u := ()) (by rw [q7, q1]; split <;> omega) (by rfl)

theorem hdX8_divisor : yX8_divisor.cls = RX8 ∧ yX8_divisor.cls ≠ "java/lang/invoke/MethodHandle" ∧ yX8_divisor.cls ≠ "java/lang/invoke/VarHandle" ∧ (parseMethodDescriptor yX8_divisor.desc).map (fun d => d.parameters.length) = some 2 := ⟨rfl, by decide +kernel, by decide +kernel, by decide +kernel⟩
set_option maxHeartbeats 4000000 in
set_option maxRecDepth 100000 in
theorem c_X8_divisor {g : Gx} {a b : Int} (ha : 0 ≤ a) (ha2 : a ≤ 2147483647) (hb : 0 ≤ b) (hb2 : b ≤ 2147483647) : CtE g yX8_divisor wsX8_divisor 0 0 [.int (iI a), .int (iI b)] ([]) ((Int.gcd a b : Int)) ([]) := by
  refine m_go (cc := cX8_divisor) (nL := 5) (by decide +kernel) rfl (Nat.le_of_ble_eq_true rfl) (fun x X Y hnm => ?_)
  refine v_eq (lo2 := [some (.int (iI a)), some (.int (iI b)), none, none, none]) rfl rfl rfl rfl ?_
  refine v_iload_n X dX8_divisor_0 rfl ?_
  refine v_istore_n X dX8_divisor_1 2 rfl (by decide) rfl ?_
  dsimp only [List.set]
  refine v_iload_n X dX8_divisor_2 rfl ?_
  refine v_istore_n X dX8_divisor_3 3 rfl (by decide) rfl ?_
  dsimp only [List.set]
  have L4 : ∀ (nf : Nat) (gr : Int) (ls : Int) (h1 : 0 ≤ gr ∧ gr ≤ 2147483647) (h2 : 0 ≤ ls ∧ ls ≤ 2147483647) (h5 : (Int.gcd gr ls : Int) = Int.gcd a b) (_ : ls.toNat < nf), V g x 0 0 ([]) [some (.int (iI a)), some (.int (iI b)), some (.int (iI gr)), some (.int (iI ls)), none] 4 [] := by
    intro nf
    induction nf with
    | zero => intro gr ls h1 h2 h5 hmu; exact absurd hmu (Nat.not_lt_zero _)
    | succ nf ih4 =>
      intro gr ls h1 h2 h5 hmu
      refine v_iload_n X dX8_divisor_4 rfl ?_
      refine v_if_eq (tgt := 21) X dX8_divisor_5 (by decide) (by omega) (fun c1 => ?_) (fun c1 => ?_)
      · skip
        refine v_iload_n X dX8_divisor_21 rfl ?_
        exact v_iret X Y dX8_divisor_22 (u := ()) (by
            have e : ls = 0 := by omega
            rw [← h5, e, gcd_0 h1.1]) (by rfl)
      · skip
        refine v_iload_n X dX8_divisor_8 rfl ?_
        refine v_iload_n X dX8_divisor_9 rfl ?_
        refine v_irem X dX8_divisor_10 (by omega) (by omega) (by omega) ?_
        have q1 := Int.tmod_lt_of_pos gr (show 0 < ls by omega)
        have q2 := Int.tmod_nonneg ls h1.1
        refine v_istore X dX8_divisor_11 (by decide) rfl ?_
        dsimp only [List.set]
        refine v_iload_n X dX8_divisor_13 rfl ?_
        refine v_istore_n X dX8_divisor_14 2 rfl (by decide) rfl ?_
        dsimp only [List.set]
        refine v_iload X dX8_divisor_15 rfl ?_
        refine v_istore_n X dX8_divisor_17 3 rfl (by decide) rfl ?_
        dsimp only [List.set]
        refine v_goto (tgt := 4) X dX8_divisor_18 (by decide) ?_
        refine v_drop 4 ?_
        dsimp only [List.set]
        exact ih4 _ _ (by omega) (by omega) (by rw [gcd_step h1.1 h2.1]; exact h5) (by omega)
  exact L4 _ _ _ (by omega) (by omega) (by rfl) (Nat.lt_succ_self _)

theorem hdX8_told : yX8_told.cls = RX8 ∧ yX8_told.cls ≠ "java/lang/invoke/MethodHandle" ∧ yX8_told.cls ≠ "java/lang/invoke/VarHandle" ∧ (parseMethodDescriptor yX8_told.desc).map (fun d => d.parameters.length) = some 3 := ⟨rfl, by decide +kernel, by decide +kernel, by decide +kernel⟩
set_option maxHeartbeats 4000000 in
set_option maxRecDepth 100000 in
theorem c_X8_told {g : Gx} {a b w : Int} (ha : 0 ≤ a) (ha2 : a ≤ 2147483647) (hb : 0 < b) (hb2 : b ≤ 2147483647) (hw : R32 w) : CtE g yX8_told wsX8_told 1 24 [.int (iI a), .int (iI b), .int (iI w)] ([]) (toldI a b w) ([]) := by
  refine m_go (cc := cX8_told) (nL := 3) (by decide +kernel) rfl (Nat.le_of_ble_eq_true rfl) (fun x X Y hnm => ?_)
  refine v_eq (lo2 := [some (.int (iI a)), some (.int (iI b)), some (.int (iI w))]) rfl rfl rfl rfl ?_
  have q1 := gcd_le ha (show 0 ≤ b by omega) (show (0:Int) ≤ 2147483647 by omega) ha2 hb2
  have q2 := tdiv_of_nn (b := (Int.gcd a b : Int)) ha
  have q3 := tdiv_of_nn (a := b) (b := (Int.gcd a b : Int)) (by omega)
  have q4 := gcd_pos (a := a) hb
  refine v_iload_n X dX8_told_0 rfl ?_
  refine v_if_ne (tgt := 8) X dX8_told_1 (by decide) (by omega) (fun c1 => ?_) (fun c1 => ?_)
  · skip
    refine v_iload_n X dX8_told_8 rfl ?_
    refine v_iload_n X dX8_told_9 rfl ?_
    refine v_iload_n X dX8_told_10 rfl ?_
    refine res_E X (run_S X (c_X8_divisor (g := g) (by first | assumption | omega) (by first | assumption | omega) (by first | assumption | omega) (by first | assumption | omega)) gX8_told_X8_divisor rfl hdX8_divisor.2 ⟨(Nat.le_of_ble_eq_true rfl), (Nat.le_of_ble_eq_true rfl)⟩ ⟨(Nat.le_of_ble_eq_true rfl), (Nat.le_of_ble_eq_true rfl)⟩ [] rfl rfl rfl rfl (by simp [Value.category]) dX8_told_11) [] rfl rfl ?_
    refine v_idiv X dX8_told_14 (by omega) (by omega) (by omega) ?_
    exact v_iret X Y dX8_told_15 (u := ()) (by unfold toldI; split <;> omega) (by rfl)
  · skip
    refine v_iload_n X dX8_told_4 rfl ?_
    refine v_goto (tgt := 9) X dX8_told_5 (by decide) ?_
    refine v_iload_n X dX8_told_9 rfl ?_
    refine v_iload_n X dX8_told_10 rfl ?_
    refine res_E X (run_S X (c_X8_divisor (g := g) (by first | assumption | omega) (by first | assumption | omega) (by first | assumption | omega) (by first | assumption | omega)) gX8_told_X8_divisor rfl hdX8_divisor.2 ⟨(Nat.le_of_ble_eq_true rfl), (Nat.le_of_ble_eq_true rfl)⟩ ⟨(Nat.le_of_ble_eq_true rfl), (Nat.le_of_ble_eq_true rfl)⟩ [] rfl rfl rfl rfl (by simp [Value.category]) dX8_told_11) [] rfl rfl ?_
    refine v_idiv X dX8_told_14 (by omega) (by omega) (by omega) ?_
    exact v_iret X Y dX8_told_15 (u := ()) (by unfold toldI; split <;> omega) (by rfl)

theorem hdX8_isOf : yX8_isOf.cls = RX8 ∧ yX8_isOf.cls ≠ "java/lang/invoke/MethodHandle" ∧ yX8_isOf.cls ≠ "java/lang/invoke/VarHandle" ∧ (parseMethodDescriptor yX8_isOf.desc).map (fun d => d.parameters.length) = some 2 := ⟨rfl, by decide +kernel, by decide +kernel, by decide +kernel⟩
set_option maxHeartbeats 4000000 in
set_option maxRecDepth 100000 in
theorem c_X8_isOf {g : Gx} {s t : Int} (hs : R32 s) (ht : R32 t) : CtE g yX8_isOf wsX8_isOf 0 0 [.int (iI s), .int (iI t)] ([]) (if t = 0 ∨ s = t ∨ (t = 1 ∧ s < 4) ∨ (t = 4 ∧ s = 5) then 1 else 0) ([]) := by
  refine m_go (cc := cX8_isOf) (nL := 2) (by decide +kernel) rfl (Nat.le_of_ble_eq_true rfl) (fun x X Y hnm => ?_)
  refine v_eq (lo2 := [some (.int (iI s)), some (.int (iI t))]) rfl rfl rfl rfl ?_
  refine v_iload_n X dX8_isOf_0 rfl ?_
  refine v_if_eq (tgt := 29) X dX8_isOf_1 (by decide) (by omega) (fun c1 => ?_) (fun c1 => ?_)
  · skip
    refine v_iconst X dX8_isOf_29 ?_
    refine v_goto (tgt := 34) X dX8_isOf_30 (by decide) ?_
    exact v_zret X Y dX8_isOf_34 (by first | decide | omega | (split <;> omega)) (u := ()) (by first | rfl | omega | (split <;> omega) | (simp [*]; done)) (by rfl)
  · skip
    refine v_iload_n X dX8_isOf_4 rfl ?_
    refine v_iload_n X dX8_isOf_5 rfl ?_
    refine v_icmp_eq (tgt := 29) X dX8_isOf_6 (by decide) (by omega) (by omega) (fun c2 => ?_) (fun c2 => ?_)
    · skip
      refine v_iconst X dX8_isOf_29 ?_
      refine v_goto (tgt := 34) X dX8_isOf_30 (by decide) ?_
      exact v_zret X Y dX8_isOf_34 (by first | decide | omega | (split <;> omega)) (u := ()) (by first | rfl | omega | (split <;> omega) | (simp [*]; done)) (by rfl)
    · skip
      refine v_iload_n X dX8_isOf_9 rfl ?_
      refine v_iconst X dX8_isOf_10 ?_
      refine v_icmp_ne (tgt := 19) X dX8_isOf_11 (by decide) (by omega) (by omega) (fun c3 => ?_) (fun c3 => ?_)
      · skip
        refine v_iload_n X dX8_isOf_19 rfl ?_
        refine v_iconst X dX8_isOf_20 ?_
        refine v_icmp_ne (tgt := 33) X dX8_isOf_21 (by decide) (by omega) (by omega) (fun c4 => ?_) (fun c4 => ?_)
        · skip
          refine v_iconst X dX8_isOf_33 ?_
          exact v_zret X Y dX8_isOf_34 (by first | decide | omega | (split <;> omega)) (u := ()) (by first | rfl | omega | (split <;> omega) | (simp [*]; done)) (by rfl)
        · skip
          refine v_iload_n X dX8_isOf_24 rfl ?_
          refine v_iconst X dX8_isOf_25 ?_
          refine v_icmp_ne (tgt := 33) X dX8_isOf_26 (by decide) (by omega) (by omega) (fun c5 => ?_) (fun c5 => ?_)
          · skip
            refine v_iconst X dX8_isOf_33 ?_
            exact v_zret X Y dX8_isOf_34 (by first | decide | omega | (split <;> omega)) (u := ()) (by first | rfl | omega | (split <;> omega) | (simp [*]; done)) (by rfl)
          · skip
            refine v_iconst X dX8_isOf_29 ?_
            refine v_goto (tgt := 34) X dX8_isOf_30 (by decide) ?_
            exact v_zret X Y dX8_isOf_34 (by first | decide | omega | (split <;> omega)) (u := ()) (by first | rfl | omega | (split <;> omega) | (simp [*]; done)) (by rfl)
      · skip
        refine v_iload_n X dX8_isOf_14 rfl ?_
        refine v_iconst X dX8_isOf_15 ?_
        refine v_icmp_lt (tgt := 29) X dX8_isOf_16 (by decide) (by omega) (by omega) (fun c6 => ?_) (fun c6 => ?_)
        · skip
          refine v_iconst X dX8_isOf_29 ?_
          refine v_goto (tgt := 34) X dX8_isOf_30 (by decide) ?_
          exact v_zret X Y dX8_isOf_34 (by first | decide | omega | (split <;> omega)) (u := ()) (by first | rfl | omega | (split <;> omega) | (simp [*]; done)) (by rfl)
        · skip
          refine v_iload_n X dX8_isOf_19 rfl ?_
          refine v_iconst X dX8_isOf_20 ?_
          refine v_icmp_ne (tgt := 33) X dX8_isOf_21 (by decide) (by omega) (by omega) (fun c7 => ?_) (fun c7 => ?_)
          · skip
            refine v_iconst X dX8_isOf_33 ?_
            exact v_zret X Y dX8_isOf_34 (by first | decide | omega | (split <;> omega)) (u := ()) (by first | rfl | omega | (split <;> omega) | (simp [*]; done)) (by rfl)
          · skip
            refine v_iload_n X dX8_isOf_24 rfl ?_
            refine v_iconst X dX8_isOf_25 ?_
            refine v_icmp_ne (tgt := 33) X dX8_isOf_26 (by decide) (by omega) (by omega) (fun c8 => ?_) (fun c8 => ?_)
            · skip
              refine v_iconst X dX8_isOf_33 ?_
              exact v_zret X Y dX8_isOf_34 (by first | decide | omega | (split <;> omega)) (u := ()) (by first | rfl | omega | (split <;> omega) | (simp [*]; done)) (by rfl)
            · skip
              refine v_iconst X dX8_isOf_29 ?_
              refine v_goto (tgt := 34) X dX8_isOf_30 (by decide) ?_
              exact v_zret X Y dX8_isOf_34 (by first | decide | omega | (split <;> omega)) (u := ()) (by first | rfl | omega | (split <;> omega) | (simp [*]; done)) (by rfl)

theorem hdX8_isSo : yX8_isSo.cls = RX8 ∧ yX8_isSo.cls ≠ "java/lang/invoke/MethodHandle" ∧ yX8_isSo.cls ≠ "java/lang/invoke/VarHandle" ∧ (parseMethodDescriptor yX8_isSo.desc).map (fun d => d.parameters.length) = some 2 := ⟨rfl, by decide +kernel, by decide +kernel, by decide +kernel⟩
set_option maxHeartbeats 4000000 in
set_option maxRecDepth 100000 in
theorem c_X8_isSo {g : Gx} {p h : Int} (hp : 0 ≤ p ∧ p ≤ 2147483647) (hh : 0 ≤ h ∧ h ≤ 2) : CtE g yX8_isSo wsX8_isSo 0 0 [.int (iI p), .int (iI h)] ([]) (if (h = 0 ∧ p % 4 = 0) ∨ (h = 1 ∧ p % 4 = 2) ∨ (h = 2 ∧ p % 2 = 1) then 1 else 0) ([]) := by
  refine m_go (cc := cX8_isSo) (nL := 2) (by decide +kernel) rfl (Nat.le_of_ble_eq_true rfl) (fun x X Y hnm => ?_)
  refine v_eq (lo2 := [some (.int (iI p)), some (.int (iI h))]) rfl rfl rfl rfl ?_
  have q1 : p.tmod 4 = p % 4 := Int.tmod_eq_emod_of_nonneg hp.1
  have q2 : p.tmod 2 = p % 2 := Int.tmod_eq_emod_of_nonneg hp.1
  refine v_iload_n X dX8_isSo_0 rfl ?_
  refine v_if_ne (tgt := 18) X dX8_isSo_1 (by decide) (by omega) (fun c1 => ?_) (fun c1 => ?_)
  · skip
    refine v_iload_n X dX8_isSo_18 rfl ?_
    refine v_iconst X dX8_isSo_19 ?_
    refine v_icmp_ne (tgt := 38) X dX8_isSo_20 (by decide) (by omega) (by omega) (fun c2 => ?_) (fun c2 => ?_)
    · skip
      refine v_iload_n X dX8_isSo_38 rfl ?_
      refine v_iconst X dX8_isSo_39 ?_
      refine v_irem X dX8_isSo_40 (by omega) (by omega) (by omega) ?_
      refine v_iconst X dX8_isSo_41 ?_
      refine v_icmp_ne (tgt := 49) X dX8_isSo_42 (by decide) (by omega) (by omega) (fun c3 => ?_) (fun c3 => ?_)
      · skip
        refine v_iconst X dX8_isSo_49 ?_
        exact v_zret X Y dX8_isSo_50 (by first | decide | omega | (split <;> omega)) (u := ()) (by first | rfl | omega | (split <;> omega) | (simp [*]; done)) (by rfl)
      · skip
        refine v_iconst X dX8_isSo_45 ?_
        refine v_goto (tgt := 50) X dX8_isSo_46 (by decide) ?_
        exact v_zret X Y dX8_isSo_50 (by first | decide | omega | (split <;> omega)) (u := ()) (by first | rfl | omega | (split <;> omega) | (simp [*]; done)) (by rfl)
    · skip
      refine v_iload_n X dX8_isSo_23 rfl ?_
      refine v_iconst X dX8_isSo_24 ?_
      refine v_irem X dX8_isSo_25 (by omega) (by omega) (by omega) ?_
      refine v_iconst X dX8_isSo_26 ?_
      refine v_icmp_ne (tgt := 34) X dX8_isSo_27 (by decide) (by omega) (by omega) (fun c4 => ?_) (fun c4 => ?_)
      · skip
        refine v_iconst X dX8_isSo_34 ?_
        refine v_goto (tgt := 50) X dX8_isSo_35 (by decide) ?_
        exact v_zret X Y dX8_isSo_50 (by first | decide | omega | (split <;> omega)) (u := ()) (by first | rfl | omega | (split <;> omega) | (simp [*]; done)) (by rfl)
      · skip
        refine v_iconst X dX8_isSo_30 ?_
        refine v_goto (tgt := 50) X dX8_isSo_31 (by decide) ?_
        exact v_zret X Y dX8_isSo_50 (by first | decide | omega | (split <;> omega)) (u := ()) (by first | rfl | omega | (split <;> omega) | (simp [*]; done)) (by rfl)
  · skip
    refine v_iload_n X dX8_isSo_4 rfl ?_
    refine v_iconst X dX8_isSo_5 ?_
    refine v_irem X dX8_isSo_6 (by omega) (by omega) (by omega) ?_
    refine v_if_ne (tgt := 14) X dX8_isSo_7 (by decide) (by omega) (fun c5 => ?_) (fun c5 => ?_)
    · skip
      refine v_iconst X dX8_isSo_14 ?_
      refine v_goto (tgt := 50) X dX8_isSo_15 (by decide) ?_
      exact v_zret X Y dX8_isSo_50 (by first | decide | omega | (split <;> omega)) (u := ()) (by first | rfl | omega | (split <;> omega) | (simp [*]; done)) (by rfl)
    · skip
      refine v_iconst X dX8_isSo_10 ?_
      refine v_goto (tgt := 50) X dX8_isSo_11 (by decide) ?_
      exact v_zret X Y dX8_isSo_50 (by first | decide | omega | (split <;> omega)) (u := ()) (by first | rfl | omega | (split <;> omega) | (simp [*]; done)) (by rfl)

theorem hdX8_kindBy : yX8_kindBy.cls = RX8 ∧ yX8_kindBy.cls ≠ "java/lang/invoke/MethodHandle" ∧ yX8_kindBy.cls ≠ "java/lang/invoke/VarHandle" ∧ (parseMethodDescriptor yX8_kindBy.desc).map (fun d => d.parameters.length) = some 1 := ⟨rfl, by decide +kernel, by decide +kernel, by decide +kernel⟩
set_option maxHeartbeats 4000000 in
set_option maxRecDepth 100000 in
theorem c_X8_kindBy {g : Gx} {w : Int} (hw : R64 w) : CtE g yX8_kindBy wsX8_kindBy 0 0 [.long (lI w)] ([]) (kndI w) ([]) := by
  refine m_go (cc := cX8_kindBy) (nL := 2) (by decide +kernel) rfl (Nat.le_of_ble_eq_true rfl) (fun x X Y hnm => ?_)
  refine v_eq (lo2 := [some (.long (lI w)), none]) rfl rfl rfl rfl ?_
  refine v_lload_n X dX8_kindBy_0 rfl ?_
  refine v_ldc2 X (List.mem_of_getElem? (i := 1) rfl) dX8_kindBy_1 (n := 1752135026) (by decide) ?_
  refine v_lcmp X dX8_kindBy_4 (by omega) (by omega) (fun c1 => ?_) (fun c1 => ?_) (fun c1 => ?_)
  · skip
    refine v_if_ne (tgt := 12) X dX8_kindBy_5 (by decide) (by decide) (fun hh => ?_) (fun hh => ?_)
    · skip
      refine v_lload_n X dX8_kindBy_12 rfl ?_
      refine v_ldc2 X (List.mem_of_getElem? (i := 2) rfl) dX8_kindBy_13 (n := 1836019566) (by decide) ?_
      refine v_lcmp X dX8_kindBy_16 (by omega) (by omega) (fun c2 => ?_) (fun c2 => ?_) (fun c2 => ?_)
      · skip
        refine v_if_ne (tgt := 24) X dX8_kindBy_17 (by decide) (by decide) (fun hh => ?_) (fun hh => ?_)
        · skip
          refine v_lload_n X dX8_kindBy_24 rfl ?_
          refine v_ldc2 X (List.mem_of_getElem? (i := 3) rfl) dX8_kindBy_25 (n := 495924372848) (by decide) ?_
          refine v_lcmp X dX8_kindBy_28 (by omega) (by omega) (fun c3 => ?_) (fun c3 => ?_) (fun c3 => ?_)
          · skip
            refine v_if_ne (tgt := 36) X dX8_kindBy_29 (by decide) (by decide) (fun hh => ?_) (fun hh => ?_)
            · skip
              refine v_lload_n X dX8_kindBy_36 rfl ?_
              refine v_ldc2 X (List.mem_of_getElem? (i := 4) rfl) dX8_kindBy_37 (n := 1650549611) (by decide) ?_
              refine v_lcmp X dX8_kindBy_40 (by omega) (by omega) (fun c4 => ?_) (fun c4 => ?_) (fun c4 => ?_)
              · skip
                refine v_if_ne (tgt := 48) X dX8_kindBy_41 (by decide) (by decide) (fun hh => ?_) (fun hh => ?_)
                · skip
                  refine v_lload_n X dX8_kindBy_48 rfl ?_
                  refine v_ldc2 X (List.mem_of_getElem? (i := 5) rfl) dX8_kindBy_49 (n := 1953064037) (by decide) ?_
                  refine v_lcmp X dX8_kindBy_52 (by omega) (by omega) (fun c5 => ?_) (fun c5 => ?_) (fun c5 => ?_)
                  · skip
                    refine v_if_ne (tgt := 60) X dX8_kindBy_53 (by decide) (by decide) (fun hh => ?_) (fun hh => ?_)
                    · skip
                      refine v_ldc X (List.mem_of_getElem? (i := 6) rfl) dX8_kindBy_60 (n := -1000000) (by decide) ?_
                      exact v_iret X Y dX8_kindBy_62 (u := ()) (by unfold kndI; (repeat split) <;> omega) (by rfl)
                    · skip
                      exfalso; omega
                  · skip
                    refine v_if_ne (tgt := 60) X dX8_kindBy_53 (by decide) (by decide) (fun hh => ?_) (fun hh => ?_)
                    · skip
                      exfalso; omega
                    · skip
                      refine v_iconst X dX8_kindBy_56 ?_
                      refine v_goto (tgt := 62) X dX8_kindBy_57 (by decide) ?_
                      exact v_iret X Y dX8_kindBy_62 (u := ()) (by unfold kndI; (repeat split) <;> omega) (by rfl)
                  · skip
                    refine v_if_ne (tgt := 60) X dX8_kindBy_53 (by decide) (by decide) (fun hh => ?_) (fun hh => ?_)
                    · skip
                      refine v_ldc X (List.mem_of_getElem? (i := 6) rfl) dX8_kindBy_60 (n := -1000000) (by decide) ?_
                      exact v_iret X Y dX8_kindBy_62 (u := ()) (by unfold kndI; (repeat split) <;> omega) (by rfl)
                    · skip
                      exfalso; omega
                · skip
                  exfalso; omega
              · skip
                refine v_if_ne (tgt := 48) X dX8_kindBy_41 (by decide) (by decide) (fun hh => ?_) (fun hh => ?_)
                · skip
                  exfalso; omega
                · skip
                  refine v_iconst X dX8_kindBy_44 ?_
                  refine v_goto (tgt := 62) X dX8_kindBy_45 (by decide) ?_
                  exact v_iret X Y dX8_kindBy_62 (u := ()) (by unfold kndI; (repeat split) <;> omega) (by rfl)
              · skip
                refine v_if_ne (tgt := 48) X dX8_kindBy_41 (by decide) (by decide) (fun hh => ?_) (fun hh => ?_)
                · skip
                  refine v_lload_n X dX8_kindBy_48 rfl ?_
                  refine v_ldc2 X (List.mem_of_getElem? (i := 5) rfl) dX8_kindBy_49 (n := 1953064037) (by decide) ?_
                  refine v_lcmp X dX8_kindBy_52 (by omega) (by omega) (fun c6 => ?_) (fun c6 => ?_) (fun c6 => ?_)
                  · skip
                    refine v_if_ne (tgt := 60) X dX8_kindBy_53 (by decide) (by decide) (fun hh => ?_) (fun hh => ?_)
                    · skip
                      refine v_ldc X (List.mem_of_getElem? (i := 6) rfl) dX8_kindBy_60 (n := -1000000) (by decide) ?_
                      exact v_iret X Y dX8_kindBy_62 (u := ()) (by unfold kndI; (repeat split) <;> omega) (by rfl)
                    · skip
                      exfalso; omega
                  · skip
                    refine v_if_ne (tgt := 60) X dX8_kindBy_53 (by decide) (by decide) (fun hh => ?_) (fun hh => ?_)
                    · skip
                      exfalso; omega
                    · skip
                      refine v_iconst X dX8_kindBy_56 ?_
                      refine v_goto (tgt := 62) X dX8_kindBy_57 (by decide) ?_
                      exact v_iret X Y dX8_kindBy_62 (u := ()) (by unfold kndI; (repeat split) <;> omega) (by rfl)
                  · skip
                    refine v_if_ne (tgt := 60) X dX8_kindBy_53 (by decide) (by decide) (fun hh => ?_) (fun hh => ?_)
                    · skip
                      refine v_ldc X (List.mem_of_getElem? (i := 6) rfl) dX8_kindBy_60 (n := -1000000) (by decide) ?_
                      exact v_iret X Y dX8_kindBy_62 (u := ()) (by unfold kndI; (repeat split) <;> omega) (by rfl)
                    · skip
                      exfalso; omega
                · skip
                  exfalso; omega
            · skip
              exfalso; omega
          · skip
            refine v_if_ne (tgt := 36) X dX8_kindBy_29 (by decide) (by decide) (fun hh => ?_) (fun hh => ?_)
            · skip
              exfalso; omega
            · skip
              refine v_iconst X dX8_kindBy_32 ?_
              refine v_goto (tgt := 62) X dX8_kindBy_33 (by decide) ?_
              exact v_iret X Y dX8_kindBy_62 (u := ()) (by unfold kndI; (repeat split) <;> omega) (by rfl)
          · skip
            refine v_if_ne (tgt := 36) X dX8_kindBy_29 (by decide) (by decide) (fun hh => ?_) (fun hh => ?_)
            · skip
              refine v_lload_n X dX8_kindBy_36 rfl ?_
              refine v_ldc2 X (List.mem_of_getElem? (i := 4) rfl) dX8_kindBy_37 (n := 1650549611) (by decide) ?_
              refine v_lcmp X dX8_kindBy_40 (by omega) (by omega) (fun c7 => ?_) (fun c7 => ?_) (fun c7 => ?_)
              · skip
                refine v_if_ne (tgt := 48) X dX8_kindBy_41 (by decide) (by decide) (fun hh => ?_) (fun hh => ?_)
                · skip
                  refine v_lload_n X dX8_kindBy_48 rfl ?_
                  refine v_ldc2 X (List.mem_of_getElem? (i := 5) rfl) dX8_kindBy_49 (n := 1953064037) (by decide) ?_
                  refine v_lcmp X dX8_kindBy_52 (by omega) (by omega) (fun c8 => ?_) (fun c8 => ?_) (fun c8 => ?_)
                  · skip
                    refine v_if_ne (tgt := 60) X dX8_kindBy_53 (by decide) (by decide) (fun hh => ?_) (fun hh => ?_)
                    · skip
                      refine v_ldc X (List.mem_of_getElem? (i := 6) rfl) dX8_kindBy_60 (n := -1000000) (by decide) ?_
                      exact v_iret X Y dX8_kindBy_62 (u := ()) (by unfold kndI; (repeat split) <;> omega) (by rfl)
                    · skip
                      exfalso; omega
                  · skip
                    refine v_if_ne (tgt := 60) X dX8_kindBy_53 (by decide) (by decide) (fun hh => ?_) (fun hh => ?_)
                    · skip
                      exfalso; omega
                    · skip
                      refine v_iconst X dX8_kindBy_56 ?_
                      refine v_goto (tgt := 62) X dX8_kindBy_57 (by decide) ?_
                      exact v_iret X Y dX8_kindBy_62 (u := ()) (by unfold kndI; (repeat split) <;> omega) (by rfl)
                  · skip
                    refine v_if_ne (tgt := 60) X dX8_kindBy_53 (by decide) (by decide) (fun hh => ?_) (fun hh => ?_)
                    · skip
                      refine v_ldc X (List.mem_of_getElem? (i := 6) rfl) dX8_kindBy_60 (n := -1000000) (by decide) ?_
                      exact v_iret X Y dX8_kindBy_62 (u := ()) (by unfold kndI; (repeat split) <;> omega) (by rfl)
                    · skip
                      exfalso; omega
                · skip
                  exfalso; omega
              · skip
                refine v_if_ne (tgt := 48) X dX8_kindBy_41 (by decide) (by decide) (fun hh => ?_) (fun hh => ?_)
                · skip
                  exfalso; omega
                · skip
                  refine v_iconst X dX8_kindBy_44 ?_
                  refine v_goto (tgt := 62) X dX8_kindBy_45 (by decide) ?_
                  exact v_iret X Y dX8_kindBy_62 (u := ()) (by unfold kndI; (repeat split) <;> omega) (by rfl)
              · skip
                refine v_if_ne (tgt := 48) X dX8_kindBy_41 (by decide) (by decide) (fun hh => ?_) (fun hh => ?_)
                · skip
                  refine v_lload_n X dX8_kindBy_48 rfl ?_
                  refine v_ldc2 X (List.mem_of_getElem? (i := 5) rfl) dX8_kindBy_49 (n := 1953064037) (by decide) ?_
                  refine v_lcmp X dX8_kindBy_52 (by omega) (by omega) (fun c9 => ?_) (fun c9 => ?_) (fun c9 => ?_)
                  · skip
                    refine v_if_ne (tgt := 60) X dX8_kindBy_53 (by decide) (by decide) (fun hh => ?_) (fun hh => ?_)
                    · skip
                      refine v_ldc X (List.mem_of_getElem? (i := 6) rfl) dX8_kindBy_60 (n := -1000000) (by decide) ?_
                      exact v_iret X Y dX8_kindBy_62 (u := ()) (by unfold kndI; (repeat split) <;> omega) (by rfl)
                    · skip
                      exfalso; omega
                  · skip
                    refine v_if_ne (tgt := 60) X dX8_kindBy_53 (by decide) (by decide) (fun hh => ?_) (fun hh => ?_)
                    · skip
                      exfalso; omega
                    · skip
                      refine v_iconst X dX8_kindBy_56 ?_
                      refine v_goto (tgt := 62) X dX8_kindBy_57 (by decide) ?_
                      exact v_iret X Y dX8_kindBy_62 (u := ()) (by unfold kndI; (repeat split) <;> omega) (by rfl)
                  · skip
                    refine v_if_ne (tgt := 60) X dX8_kindBy_53 (by decide) (by decide) (fun hh => ?_) (fun hh => ?_)
                    · skip
                      refine v_ldc X (List.mem_of_getElem? (i := 6) rfl) dX8_kindBy_60 (n := -1000000) (by decide) ?_
                      exact v_iret X Y dX8_kindBy_62 (u := ()) (by unfold kndI; (repeat split) <;> omega) (by rfl)
                    · skip
                      exfalso; omega
                · skip
                  exfalso; omega
            · skip
              exfalso; omega
        · skip
          exfalso; omega
      · skip
        refine v_if_ne (tgt := 24) X dX8_kindBy_17 (by decide) (by decide) (fun hh => ?_) (fun hh => ?_)
        · skip
          exfalso; omega
        · skip
          refine v_iconst X dX8_kindBy_20 ?_
          refine v_goto (tgt := 62) X dX8_kindBy_21 (by decide) ?_
          exact v_iret X Y dX8_kindBy_62 (u := ()) (by unfold kndI; (repeat split) <;> omega) (by rfl)
      · skip
        refine v_if_ne (tgt := 24) X dX8_kindBy_17 (by decide) (by decide) (fun hh => ?_) (fun hh => ?_)
        · skip
          refine v_lload_n X dX8_kindBy_24 rfl ?_
          refine v_ldc2 X (List.mem_of_getElem? (i := 3) rfl) dX8_kindBy_25 (n := 495924372848) (by decide) ?_
          refine v_lcmp X dX8_kindBy_28 (by omega) (by omega) (fun c10 => ?_) (fun c10 => ?_) (fun c10 => ?_)
          · skip
            refine v_if_ne (tgt := 36) X dX8_kindBy_29 (by decide) (by decide) (fun hh => ?_) (fun hh => ?_)
            · skip
              refine v_lload_n X dX8_kindBy_36 rfl ?_
              refine v_ldc2 X (List.mem_of_getElem? (i := 4) rfl) dX8_kindBy_37 (n := 1650549611) (by decide) ?_
              refine v_lcmp X dX8_kindBy_40 (by omega) (by omega) (fun c11 => ?_) (fun c11 => ?_) (fun c11 => ?_)
              · skip
                refine v_if_ne (tgt := 48) X dX8_kindBy_41 (by decide) (by decide) (fun hh => ?_) (fun hh => ?_)
                · skip
                  refine v_lload_n X dX8_kindBy_48 rfl ?_
                  refine v_ldc2 X (List.mem_of_getElem? (i := 5) rfl) dX8_kindBy_49 (n := 1953064037) (by decide) ?_
                  refine v_lcmp X dX8_kindBy_52 (by omega) (by omega) (fun c12 => ?_) (fun c12 => ?_) (fun c12 => ?_)
                  · skip
                    refine v_if_ne (tgt := 60) X dX8_kindBy_53 (by decide) (by decide) (fun hh => ?_) (fun hh => ?_)
                    · skip
                      refine v_ldc X (List.mem_of_getElem? (i := 6) rfl) dX8_kindBy_60 (n := -1000000) (by decide) ?_
                      exact v_iret X Y dX8_kindBy_62 (u := ()) (by unfold kndI; (repeat split) <;> omega) (by rfl)
                    · skip
                      exfalso; omega
                  · skip
                    refine v_if_ne (tgt := 60) X dX8_kindBy_53 (by decide) (by decide) (fun hh => ?_) (fun hh => ?_)
                    · skip
                      exfalso; omega
                    · skip
                      refine v_iconst X dX8_kindBy_56 ?_
                      refine v_goto (tgt := 62) X dX8_kindBy_57 (by decide) ?_
                      exact v_iret X Y dX8_kindBy_62 (u := ()) (by unfold kndI; (repeat split) <;> omega) (by rfl)
                  · skip
                    refine v_if_ne (tgt := 60) X dX8_kindBy_53 (by decide) (by decide) (fun hh => ?_) (fun hh => ?_)
                    · skip
                      refine v_ldc X (List.mem_of_getElem? (i := 6) rfl) dX8_kindBy_60 (n := -1000000) (by decide) ?_
                      exact v_iret X Y dX8_kindBy_62 (u := ()) (by unfold kndI; (repeat split) <;> omega) (by rfl)
                    · skip
                      exfalso; omega
                · skip
                  exfalso; omega
              · skip
                refine v_if_ne (tgt := 48) X dX8_kindBy_41 (by decide) (by decide) (fun hh => ?_) (fun hh => ?_)
                · skip
                  exfalso; omega
                · skip
                  refine v_iconst X dX8_kindBy_44 ?_
                  refine v_goto (tgt := 62) X dX8_kindBy_45 (by decide) ?_
                  exact v_iret X Y dX8_kindBy_62 (u := ()) (by unfold kndI; (repeat split) <;> omega) (by rfl)
              · skip
                refine v_if_ne (tgt := 48) X dX8_kindBy_41 (by decide) (by decide) (fun hh => ?_) (fun hh => ?_)
                · skip
                  refine v_lload_n X dX8_kindBy_48 rfl ?_
                  refine v_ldc2 X (List.mem_of_getElem? (i := 5) rfl) dX8_kindBy_49 (n := 1953064037) (by decide) ?_
                  refine v_lcmp X dX8_kindBy_52 (by omega) (by omega) (fun c13 => ?_) (fun c13 => ?_) (fun c13 => ?_)
                  · skip
                    refine v_if_ne (tgt := 60) X dX8_kindBy_53 (by decide) (by decide) (fun hh => ?_) (fun hh => ?_)
                    · skip
                      refine v_ldc X (List.mem_of_getElem? (i := 6) rfl) dX8_kindBy_60 (n := -1000000) (by decide) ?_
                      exact v_iret X Y dX8_kindBy_62 (u := ()) (by unfold kndI; (repeat split) <;> omega) (by rfl)
                    · skip
                      exfalso; omega
                  · skip
                    refine v_if_ne (tgt := 60) X dX8_kindBy_53 (by decide) (by decide) (fun hh => ?_) (fun hh => ?_)
                    · skip
                      exfalso; omega
                    · skip
                      refine v_iconst X dX8_kindBy_56 ?_
                      refine v_goto (tgt := 62) X dX8_kindBy_57 (by decide) ?_
                      exact v_iret X Y dX8_kindBy_62 (u := ()) (by unfold kndI; (repeat split) <;> omega) (by rfl)
                  · skip
                    refine v_if_ne (tgt := 60) X dX8_kindBy_53 (by decide) (by decide) (fun hh => ?_) (fun hh => ?_)
                    · skip
                      refine v_ldc X (List.mem_of_getElem? (i := 6) rfl) dX8_kindBy_60 (n := -1000000) (by decide) ?_
                      exact v_iret X Y dX8_kindBy_62 (u := ()) (by unfold kndI; (repeat split) <;> omega) (by rfl)
                    · skip
                      exfalso; omega
                · skip
                  exfalso; omega
            · skip
              exfalso; omega
          · skip
            refine v_if_ne (tgt := 36) X dX8_kindBy_29 (by decide) (by decide) (fun hh => ?_) (fun hh => ?_)
            · skip
              exfalso; omega
            · skip
              refine v_iconst X dX8_kindBy_32 ?_
              refine v_goto (tgt := 62) X dX8_kindBy_33 (by decide) ?_
              exact v_iret X Y dX8_kindBy_62 (u := ()) (by unfold kndI; (repeat split) <;> omega) (by rfl)
          · skip
            refine v_if_ne (tgt := 36) X dX8_kindBy_29 (by decide) (by decide) (fun hh => ?_) (fun hh => ?_)
            · skip
              refine v_lload_n X dX8_kindBy_36 rfl ?_
              refine v_ldc2 X (List.mem_of_getElem? (i := 4) rfl) dX8_kindBy_37 (n := 1650549611) (by decide) ?_
              refine v_lcmp X dX8_kindBy_40 (by omega) (by omega) (fun c14 => ?_) (fun c14 => ?_) (fun c14 => ?_)
              · skip
                refine v_if_ne (tgt := 48) X dX8_kindBy_41 (by decide) (by decide) (fun hh => ?_) (fun hh => ?_)
                · skip
                  refine v_lload_n X dX8_kindBy_48 rfl ?_
                  refine v_ldc2 X (List.mem_of_getElem? (i := 5) rfl) dX8_kindBy_49 (n := 1953064037) (by decide) ?_
                  refine v_lcmp X dX8_kindBy_52 (by omega) (by omega) (fun c15 => ?_) (fun c15 => ?_) (fun c15 => ?_)
                  · skip
                    refine v_if_ne (tgt := 60) X dX8_kindBy_53 (by decide) (by decide) (fun hh => ?_) (fun hh => ?_)
                    · skip
                      refine v_ldc X (List.mem_of_getElem? (i := 6) rfl) dX8_kindBy_60 (n := -1000000) (by decide) ?_
                      exact v_iret X Y dX8_kindBy_62 (u := ()) (by unfold kndI; (repeat split) <;> omega) (by rfl)
                    · skip
                      exfalso; omega
                  · skip
                    refine v_if_ne (tgt := 60) X dX8_kindBy_53 (by decide) (by decide) (fun hh => ?_) (fun hh => ?_)
                    · skip
                      exfalso; omega
                    · skip
                      refine v_iconst X dX8_kindBy_56 ?_
                      refine v_goto (tgt := 62) X dX8_kindBy_57 (by decide) ?_
                      exact v_iret X Y dX8_kindBy_62 (u := ()) (by unfold kndI; (repeat split) <;> omega) (by rfl)
                  · skip
                    refine v_if_ne (tgt := 60) X dX8_kindBy_53 (by decide) (by decide) (fun hh => ?_) (fun hh => ?_)
                    · skip
                      refine v_ldc X (List.mem_of_getElem? (i := 6) rfl) dX8_kindBy_60 (n := -1000000) (by decide) ?_
                      exact v_iret X Y dX8_kindBy_62 (u := ()) (by unfold kndI; (repeat split) <;> omega) (by rfl)
                    · skip
                      exfalso; omega
                · skip
                  exfalso; omega
              · skip
                refine v_if_ne (tgt := 48) X dX8_kindBy_41 (by decide) (by decide) (fun hh => ?_) (fun hh => ?_)
                · skip
                  exfalso; omega
                · skip
                  refine v_iconst X dX8_kindBy_44 ?_
                  refine v_goto (tgt := 62) X dX8_kindBy_45 (by decide) ?_
                  exact v_iret X Y dX8_kindBy_62 (u := ()) (by unfold kndI; (repeat split) <;> omega) (by rfl)
              · skip
                refine v_if_ne (tgt := 48) X dX8_kindBy_41 (by decide) (by decide) (fun hh => ?_) (fun hh => ?_)
                · skip
                  refine v_lload_n X dX8_kindBy_48 rfl ?_
                  refine v_ldc2 X (List.mem_of_getElem? (i := 5) rfl) dX8_kindBy_49 (n := 1953064037) (by decide) ?_
                  refine v_lcmp X dX8_kindBy_52 (by omega) (by omega) (fun c16 => ?_) (fun c16 => ?_) (fun c16 => ?_)
                  · skip
                    refine v_if_ne (tgt := 60) X dX8_kindBy_53 (by decide) (by decide) (fun hh => ?_) (fun hh => ?_)
                    · skip
                      refine v_ldc X (List.mem_of_getElem? (i := 6) rfl) dX8_kindBy_60 (n := -1000000) (by decide) ?_
                      exact v_iret X Y dX8_kindBy_62 (u := ()) (by unfold kndI; (repeat split) <;> omega) (by rfl)
                    · skip
                      exfalso; omega
                  · skip
                    refine v_if_ne (tgt := 60) X dX8_kindBy_53 (by decide) (by decide) (fun hh => ?_) (fun hh => ?_)
                    · skip
                      exfalso; omega
                    · skip
                      refine v_iconst X dX8_kindBy_56 ?_
                      refine v_goto (tgt := 62) X dX8_kindBy_57 (by decide) ?_
                      exact v_iret X Y dX8_kindBy_62 (u := ()) (by unfold kndI; (repeat split) <;> omega) (by rfl)
                  · skip
                    refine v_if_ne (tgt := 60) X dX8_kindBy_53 (by decide) (by decide) (fun hh => ?_) (fun hh => ?_)
                    · skip
                      refine v_ldc X (List.mem_of_getElem? (i := 6) rfl) dX8_kindBy_60 (n := -1000000) (by decide) ?_
                      exact v_iret X Y dX8_kindBy_62 (u := ()) (by unfold kndI; (repeat split) <;> omega) (by rfl)
                    · skip
                      exfalso; omega
                · skip
                  exfalso; omega
            · skip
              exfalso; omega
        · skip
          exfalso; omega
    · skip
      exfalso; omega
  · skip
    refine v_if_ne (tgt := 12) X dX8_kindBy_5 (by decide) (by decide) (fun hh => ?_) (fun hh => ?_)
    · skip
      exfalso; omega
    · skip
      refine v_iconst X dX8_kindBy_8 ?_
      refine v_goto (tgt := 62) X dX8_kindBy_9 (by decide) ?_
      exact v_iret X Y dX8_kindBy_62 (u := ()) (by unfold kndI; (repeat split) <;> omega) (by rfl)
  · skip
    refine v_if_ne (tgt := 12) X dX8_kindBy_5 (by decide) (by decide) (fun hh => ?_) (fun hh => ?_)
    · skip
      refine v_lload_n X dX8_kindBy_12 rfl ?_
      refine v_ldc2 X (List.mem_of_getElem? (i := 2) rfl) dX8_kindBy_13 (n := 1836019566) (by decide) ?_
      refine v_lcmp X dX8_kindBy_16 (by omega) (by omega) (fun c17 => ?_) (fun c17 => ?_) (fun c17 => ?_)
      · skip
        refine v_if_ne (tgt := 24) X dX8_kindBy_17 (by decide) (by decide) (fun hh => ?_) (fun hh => ?_)
        · skip
          refine v_lload_n X dX8_kindBy_24 rfl ?_
          refine v_ldc2 X (List.mem_of_getElem? (i := 3) rfl) dX8_kindBy_25 (n := 495924372848) (by decide) ?_
          refine v_lcmp X dX8_kindBy_28 (by omega) (by omega) (fun c18 => ?_) (fun c18 => ?_) (fun c18 => ?_)
          · skip
            refine v_if_ne (tgt := 36) X dX8_kindBy_29 (by decide) (by decide) (fun hh => ?_) (fun hh => ?_)
            · skip
              refine v_lload_n X dX8_kindBy_36 rfl ?_
              refine v_ldc2 X (List.mem_of_getElem? (i := 4) rfl) dX8_kindBy_37 (n := 1650549611) (by decide) ?_
              refine v_lcmp X dX8_kindBy_40 (by omega) (by omega) (fun c19 => ?_) (fun c19 => ?_) (fun c19 => ?_)
              · skip
                refine v_if_ne (tgt := 48) X dX8_kindBy_41 (by decide) (by decide) (fun hh => ?_) (fun hh => ?_)
                · skip
                  refine v_lload_n X dX8_kindBy_48 rfl ?_
                  refine v_ldc2 X (List.mem_of_getElem? (i := 5) rfl) dX8_kindBy_49 (n := 1953064037) (by decide) ?_
                  refine v_lcmp X dX8_kindBy_52 (by omega) (by omega) (fun c20 => ?_) (fun c20 => ?_) (fun c20 => ?_)
                  · skip
                    refine v_if_ne (tgt := 60) X dX8_kindBy_53 (by decide) (by decide) (fun hh => ?_) (fun hh => ?_)
                    · skip
                      refine v_ldc X (List.mem_of_getElem? (i := 6) rfl) dX8_kindBy_60 (n := -1000000) (by decide) ?_
                      exact v_iret X Y dX8_kindBy_62 (u := ()) (by unfold kndI; (repeat split) <;> omega) (by rfl)
                    · skip
                      exfalso; omega
                  · skip
                    refine v_if_ne (tgt := 60) X dX8_kindBy_53 (by decide) (by decide) (fun hh => ?_) (fun hh => ?_)
                    · skip
                      exfalso; omega
                    · skip
                      refine v_iconst X dX8_kindBy_56 ?_
                      refine v_goto (tgt := 62) X dX8_kindBy_57 (by decide) ?_
                      exact v_iret X Y dX8_kindBy_62 (u := ()) (by unfold kndI; (repeat split) <;> omega) (by rfl)
                  · skip
                    refine v_if_ne (tgt := 60) X dX8_kindBy_53 (by decide) (by decide) (fun hh => ?_) (fun hh => ?_)
                    · skip
                      refine v_ldc X (List.mem_of_getElem? (i := 6) rfl) dX8_kindBy_60 (n := -1000000) (by decide) ?_
                      exact v_iret X Y dX8_kindBy_62 (u := ()) (by unfold kndI; (repeat split) <;> omega) (by rfl)
                    · skip
                      exfalso; omega
                · skip
                  exfalso; omega
              · skip
                refine v_if_ne (tgt := 48) X dX8_kindBy_41 (by decide) (by decide) (fun hh => ?_) (fun hh => ?_)
                · skip
                  exfalso; omega
                · skip
                  refine v_iconst X dX8_kindBy_44 ?_
                  refine v_goto (tgt := 62) X dX8_kindBy_45 (by decide) ?_
                  exact v_iret X Y dX8_kindBy_62 (u := ()) (by unfold kndI; (repeat split) <;> omega) (by rfl)
              · skip
                refine v_if_ne (tgt := 48) X dX8_kindBy_41 (by decide) (by decide) (fun hh => ?_) (fun hh => ?_)
                · skip
                  refine v_lload_n X dX8_kindBy_48 rfl ?_
                  refine v_ldc2 X (List.mem_of_getElem? (i := 5) rfl) dX8_kindBy_49 (n := 1953064037) (by decide) ?_
                  refine v_lcmp X dX8_kindBy_52 (by omega) (by omega) (fun c21 => ?_) (fun c21 => ?_) (fun c21 => ?_)
                  · skip
                    refine v_if_ne (tgt := 60) X dX8_kindBy_53 (by decide) (by decide) (fun hh => ?_) (fun hh => ?_)
                    · skip
                      refine v_ldc X (List.mem_of_getElem? (i := 6) rfl) dX8_kindBy_60 (n := -1000000) (by decide) ?_
                      exact v_iret X Y dX8_kindBy_62 (u := ()) (by unfold kndI; (repeat split) <;> omega) (by rfl)
                    · skip
                      exfalso; omega
                  · skip
                    refine v_if_ne (tgt := 60) X dX8_kindBy_53 (by decide) (by decide) (fun hh => ?_) (fun hh => ?_)
                    · skip
                      exfalso; omega
                    · skip
                      refine v_iconst X dX8_kindBy_56 ?_
                      refine v_goto (tgt := 62) X dX8_kindBy_57 (by decide) ?_
                      exact v_iret X Y dX8_kindBy_62 (u := ()) (by unfold kndI; (repeat split) <;> omega) (by rfl)
                  · skip
                    refine v_if_ne (tgt := 60) X dX8_kindBy_53 (by decide) (by decide) (fun hh => ?_) (fun hh => ?_)
                    · skip
                      refine v_ldc X (List.mem_of_getElem? (i := 6) rfl) dX8_kindBy_60 (n := -1000000) (by decide) ?_
                      exact v_iret X Y dX8_kindBy_62 (u := ()) (by unfold kndI; (repeat split) <;> omega) (by rfl)
                    · skip
                      exfalso; omega
                · skip
                  exfalso; omega
            · skip
              exfalso; omega
          · skip
            refine v_if_ne (tgt := 36) X dX8_kindBy_29 (by decide) (by decide) (fun hh => ?_) (fun hh => ?_)
            · skip
              exfalso; omega
            · skip
              refine v_iconst X dX8_kindBy_32 ?_
              refine v_goto (tgt := 62) X dX8_kindBy_33 (by decide) ?_
              exact v_iret X Y dX8_kindBy_62 (u := ()) (by unfold kndI; (repeat split) <;> omega) (by rfl)
          · skip
            refine v_if_ne (tgt := 36) X dX8_kindBy_29 (by decide) (by decide) (fun hh => ?_) (fun hh => ?_)
            · skip
              refine v_lload_n X dX8_kindBy_36 rfl ?_
              refine v_ldc2 X (List.mem_of_getElem? (i := 4) rfl) dX8_kindBy_37 (n := 1650549611) (by decide) ?_
              refine v_lcmp X dX8_kindBy_40 (by omega) (by omega) (fun c22 => ?_) (fun c22 => ?_) (fun c22 => ?_)
              · skip
                refine v_if_ne (tgt := 48) X dX8_kindBy_41 (by decide) (by decide) (fun hh => ?_) (fun hh => ?_)
                · skip
                  refine v_lload_n X dX8_kindBy_48 rfl ?_
                  refine v_ldc2 X (List.mem_of_getElem? (i := 5) rfl) dX8_kindBy_49 (n := 1953064037) (by decide) ?_
                  refine v_lcmp X dX8_kindBy_52 (by omega) (by omega) (fun c23 => ?_) (fun c23 => ?_) (fun c23 => ?_)
                  · skip
                    refine v_if_ne (tgt := 60) X dX8_kindBy_53 (by decide) (by decide) (fun hh => ?_) (fun hh => ?_)
                    · skip
                      refine v_ldc X (List.mem_of_getElem? (i := 6) rfl) dX8_kindBy_60 (n := -1000000) (by decide) ?_
                      exact v_iret X Y dX8_kindBy_62 (u := ()) (by unfold kndI; (repeat split) <;> omega) (by rfl)
                    · skip
                      exfalso; omega
                  · skip
                    refine v_if_ne (tgt := 60) X dX8_kindBy_53 (by decide) (by decide) (fun hh => ?_) (fun hh => ?_)
                    · skip
                      exfalso; omega
                    · skip
                      refine v_iconst X dX8_kindBy_56 ?_
                      refine v_goto (tgt := 62) X dX8_kindBy_57 (by decide) ?_
                      exact v_iret X Y dX8_kindBy_62 (u := ()) (by unfold kndI; (repeat split) <;> omega) (by rfl)
                  · skip
                    refine v_if_ne (tgt := 60) X dX8_kindBy_53 (by decide) (by decide) (fun hh => ?_) (fun hh => ?_)
                    · skip
                      refine v_ldc X (List.mem_of_getElem? (i := 6) rfl) dX8_kindBy_60 (n := -1000000) (by decide) ?_
                      exact v_iret X Y dX8_kindBy_62 (u := ()) (by unfold kndI; (repeat split) <;> omega) (by rfl)
                    · skip
                      exfalso; omega
                · skip
                  exfalso; omega
              · skip
                refine v_if_ne (tgt := 48) X dX8_kindBy_41 (by decide) (by decide) (fun hh => ?_) (fun hh => ?_)
                · skip
                  exfalso; omega
                · skip
                  refine v_iconst X dX8_kindBy_44 ?_
                  refine v_goto (tgt := 62) X dX8_kindBy_45 (by decide) ?_
                  exact v_iret X Y dX8_kindBy_62 (u := ()) (by unfold kndI; (repeat split) <;> omega) (by rfl)
              · skip
                refine v_if_ne (tgt := 48) X dX8_kindBy_41 (by decide) (by decide) (fun hh => ?_) (fun hh => ?_)
                · skip
                  refine v_lload_n X dX8_kindBy_48 rfl ?_
                  refine v_ldc2 X (List.mem_of_getElem? (i := 5) rfl) dX8_kindBy_49 (n := 1953064037) (by decide) ?_
                  refine v_lcmp X dX8_kindBy_52 (by omega) (by omega) (fun c24 => ?_) (fun c24 => ?_) (fun c24 => ?_)
                  · skip
                    refine v_if_ne (tgt := 60) X dX8_kindBy_53 (by decide) (by decide) (fun hh => ?_) (fun hh => ?_)
                    · skip
                      refine v_ldc X (List.mem_of_getElem? (i := 6) rfl) dX8_kindBy_60 (n := -1000000) (by decide) ?_
                      exact v_iret X Y dX8_kindBy_62 (u := ()) (by unfold kndI; (repeat split) <;> omega) (by rfl)
                    · skip
                      exfalso; omega
                  · skip
                    refine v_if_ne (tgt := 60) X dX8_kindBy_53 (by decide) (by decide) (fun hh => ?_) (fun hh => ?_)
                    · skip
                      exfalso; omega
                    · skip
                      refine v_iconst X dX8_kindBy_56 ?_
                      refine v_goto (tgt := 62) X dX8_kindBy_57 (by decide) ?_
                      exact v_iret X Y dX8_kindBy_62 (u := ()) (by unfold kndI; (repeat split) <;> omega) (by rfl)
                  · skip
                    refine v_if_ne (tgt := 60) X dX8_kindBy_53 (by decide) (by decide) (fun hh => ?_) (fun hh => ?_)
                    · skip
                      refine v_ldc X (List.mem_of_getElem? (i := 6) rfl) dX8_kindBy_60 (n := -1000000) (by decide) ?_
                      exact v_iret X Y dX8_kindBy_62 (u := ()) (by unfold kndI; (repeat split) <;> omega) (by rfl)
                    · skip
                      exfalso; omega
                · skip
                  exfalso; omega
            · skip
              exfalso; omega
        · skip
          exfalso; omega
      · skip
        refine v_if_ne (tgt := 24) X dX8_kindBy_17 (by decide) (by decide) (fun hh => ?_) (fun hh => ?_)
        · skip
          exfalso; omega
        · skip
          refine v_iconst X dX8_kindBy_20 ?_
          refine v_goto (tgt := 62) X dX8_kindBy_21 (by decide) ?_
          exact v_iret X Y dX8_kindBy_62 (u := ()) (by unfold kndI; (repeat split) <;> omega) (by rfl)
      · skip
        refine v_if_ne (tgt := 24) X dX8_kindBy_17 (by decide) (by decide) (fun hh => ?_) (fun hh => ?_)
        · skip
          refine v_lload_n X dX8_kindBy_24 rfl ?_
          refine v_ldc2 X (List.mem_of_getElem? (i := 3) rfl) dX8_kindBy_25 (n := 495924372848) (by decide) ?_
          refine v_lcmp X dX8_kindBy_28 (by omega) (by omega) (fun c25 => ?_) (fun c25 => ?_) (fun c25 => ?_)
          · skip
            refine v_if_ne (tgt := 36) X dX8_kindBy_29 (by decide) (by decide) (fun hh => ?_) (fun hh => ?_)
            · skip
              refine v_lload_n X dX8_kindBy_36 rfl ?_
              refine v_ldc2 X (List.mem_of_getElem? (i := 4) rfl) dX8_kindBy_37 (n := 1650549611) (by decide) ?_
              refine v_lcmp X dX8_kindBy_40 (by omega) (by omega) (fun c26 => ?_) (fun c26 => ?_) (fun c26 => ?_)
              · skip
                refine v_if_ne (tgt := 48) X dX8_kindBy_41 (by decide) (by decide) (fun hh => ?_) (fun hh => ?_)
                · skip
                  refine v_lload_n X dX8_kindBy_48 rfl ?_
                  refine v_ldc2 X (List.mem_of_getElem? (i := 5) rfl) dX8_kindBy_49 (n := 1953064037) (by decide) ?_
                  refine v_lcmp X dX8_kindBy_52 (by omega) (by omega) (fun c27 => ?_) (fun c27 => ?_) (fun c27 => ?_)
                  · skip
                    refine v_if_ne (tgt := 60) X dX8_kindBy_53 (by decide) (by decide) (fun hh => ?_) (fun hh => ?_)
                    · skip
                      refine v_ldc X (List.mem_of_getElem? (i := 6) rfl) dX8_kindBy_60 (n := -1000000) (by decide) ?_
                      exact v_iret X Y dX8_kindBy_62 (u := ()) (by unfold kndI; (repeat split) <;> omega) (by rfl)
                    · skip
                      exfalso; omega
                  · skip
                    refine v_if_ne (tgt := 60) X dX8_kindBy_53 (by decide) (by decide) (fun hh => ?_) (fun hh => ?_)
                    · skip
                      exfalso; omega
                    · skip
                      refine v_iconst X dX8_kindBy_56 ?_
                      refine v_goto (tgt := 62) X dX8_kindBy_57 (by decide) ?_
                      exact v_iret X Y dX8_kindBy_62 (u := ()) (by unfold kndI; (repeat split) <;> omega) (by rfl)
                  · skip
                    refine v_if_ne (tgt := 60) X dX8_kindBy_53 (by decide) (by decide) (fun hh => ?_) (fun hh => ?_)
                    · skip
                      refine v_ldc X (List.mem_of_getElem? (i := 6) rfl) dX8_kindBy_60 (n := -1000000) (by decide) ?_
                      exact v_iret X Y dX8_kindBy_62 (u := ()) (by unfold kndI; (repeat split) <;> omega) (by rfl)
                    · skip
                      exfalso; omega
                · skip
                  exfalso; omega
              · skip
                refine v_if_ne (tgt := 48) X dX8_kindBy_41 (by decide) (by decide) (fun hh => ?_) (fun hh => ?_)
                · skip
                  exfalso; omega
                · skip
                  refine v_iconst X dX8_kindBy_44 ?_
                  refine v_goto (tgt := 62) X dX8_kindBy_45 (by decide) ?_
                  exact v_iret X Y dX8_kindBy_62 (u := ()) (by unfold kndI; (repeat split) <;> omega) (by rfl)
              · skip
                refine v_if_ne (tgt := 48) X dX8_kindBy_41 (by decide) (by decide) (fun hh => ?_) (fun hh => ?_)
                · skip
                  refine v_lload_n X dX8_kindBy_48 rfl ?_
                  refine v_ldc2 X (List.mem_of_getElem? (i := 5) rfl) dX8_kindBy_49 (n := 1953064037) (by decide) ?_
                  refine v_lcmp X dX8_kindBy_52 (by omega) (by omega) (fun c28 => ?_) (fun c28 => ?_) (fun c28 => ?_)
                  · skip
                    refine v_if_ne (tgt := 60) X dX8_kindBy_53 (by decide) (by decide) (fun hh => ?_) (fun hh => ?_)
                    · skip
                      refine v_ldc X (List.mem_of_getElem? (i := 6) rfl) dX8_kindBy_60 (n := -1000000) (by decide) ?_
                      exact v_iret X Y dX8_kindBy_62 (u := ()) (by unfold kndI; (repeat split) <;> omega) (by rfl)
                    · skip
                      exfalso; omega
                  · skip
                    refine v_if_ne (tgt := 60) X dX8_kindBy_53 (by decide) (by decide) (fun hh => ?_) (fun hh => ?_)
                    · skip
                      exfalso; omega
                    · skip
                      refine v_iconst X dX8_kindBy_56 ?_
                      refine v_goto (tgt := 62) X dX8_kindBy_57 (by decide) ?_
                      exact v_iret X Y dX8_kindBy_62 (u := ()) (by unfold kndI; (repeat split) <;> omega) (by rfl)
                  · skip
                    refine v_if_ne (tgt := 60) X dX8_kindBy_53 (by decide) (by decide) (fun hh => ?_) (fun hh => ?_)
                    · skip
                      refine v_ldc X (List.mem_of_getElem? (i := 6) rfl) dX8_kindBy_60 (n := -1000000) (by decide) ?_
                      exact v_iret X Y dX8_kindBy_62 (u := ()) (by unfold kndI; (repeat split) <;> omega) (by rfl)
                    · skip
                      exfalso; omega
                · skip
                  exfalso; omega
            · skip
              exfalso; omega
          · skip
            refine v_if_ne (tgt := 36) X dX8_kindBy_29 (by decide) (by decide) (fun hh => ?_) (fun hh => ?_)
            · skip
              exfalso; omega
            · skip
              refine v_iconst X dX8_kindBy_32 ?_
              refine v_goto (tgt := 62) X dX8_kindBy_33 (by decide) ?_
              exact v_iret X Y dX8_kindBy_62 (u := ()) (by unfold kndI; (repeat split) <;> omega) (by rfl)
          · skip
            refine v_if_ne (tgt := 36) X dX8_kindBy_29 (by decide) (by decide) (fun hh => ?_) (fun hh => ?_)
            · skip
              refine v_lload_n X dX8_kindBy_36 rfl ?_
              refine v_ldc2 X (List.mem_of_getElem? (i := 4) rfl) dX8_kindBy_37 (n := 1650549611) (by decide) ?_
              refine v_lcmp X dX8_kindBy_40 (by omega) (by omega) (fun c29 => ?_) (fun c29 => ?_) (fun c29 => ?_)
              · skip
                refine v_if_ne (tgt := 48) X dX8_kindBy_41 (by decide) (by decide) (fun hh => ?_) (fun hh => ?_)
                · skip
                  refine v_lload_n X dX8_kindBy_48 rfl ?_
                  refine v_ldc2 X (List.mem_of_getElem? (i := 5) rfl) dX8_kindBy_49 (n := 1953064037) (by decide) ?_
                  refine v_lcmp X dX8_kindBy_52 (by omega) (by omega) (fun c30 => ?_) (fun c30 => ?_) (fun c30 => ?_)
                  · skip
                    refine v_if_ne (tgt := 60) X dX8_kindBy_53 (by decide) (by decide) (fun hh => ?_) (fun hh => ?_)
                    · skip
                      refine v_ldc X (List.mem_of_getElem? (i := 6) rfl) dX8_kindBy_60 (n := -1000000) (by decide) ?_
                      exact v_iret X Y dX8_kindBy_62 (u := ()) (by unfold kndI; (repeat split) <;> omega) (by rfl)
                    · skip
                      exfalso; omega
                  · skip
                    refine v_if_ne (tgt := 60) X dX8_kindBy_53 (by decide) (by decide) (fun hh => ?_) (fun hh => ?_)
                    · skip
                      exfalso; omega
                    · skip
                      refine v_iconst X dX8_kindBy_56 ?_
                      refine v_goto (tgt := 62) X dX8_kindBy_57 (by decide) ?_
                      exact v_iret X Y dX8_kindBy_62 (u := ()) (by unfold kndI; (repeat split) <;> omega) (by rfl)
                  · skip
                    refine v_if_ne (tgt := 60) X dX8_kindBy_53 (by decide) (by decide) (fun hh => ?_) (fun hh => ?_)
                    · skip
                      refine v_ldc X (List.mem_of_getElem? (i := 6) rfl) dX8_kindBy_60 (n := -1000000) (by decide) ?_
                      exact v_iret X Y dX8_kindBy_62 (u := ()) (by unfold kndI; (repeat split) <;> omega) (by rfl)
                    · skip
                      exfalso; omega
                · skip
                  exfalso; omega
              · skip
                refine v_if_ne (tgt := 48) X dX8_kindBy_41 (by decide) (by decide) (fun hh => ?_) (fun hh => ?_)
                · skip
                  exfalso; omega
                · skip
                  refine v_iconst X dX8_kindBy_44 ?_
                  refine v_goto (tgt := 62) X dX8_kindBy_45 (by decide) ?_
                  exact v_iret X Y dX8_kindBy_62 (u := ()) (by unfold kndI; (repeat split) <;> omega) (by rfl)
              · skip
                refine v_if_ne (tgt := 48) X dX8_kindBy_41 (by decide) (by decide) (fun hh => ?_) (fun hh => ?_)
                · skip
                  refine v_lload_n X dX8_kindBy_48 rfl ?_
                  refine v_ldc2 X (List.mem_of_getElem? (i := 5) rfl) dX8_kindBy_49 (n := 1953064037) (by decide) ?_
                  refine v_lcmp X dX8_kindBy_52 (by omega) (by omega) (fun c31 => ?_) (fun c31 => ?_) (fun c31 => ?_)
                  · skip
                    refine v_if_ne (tgt := 60) X dX8_kindBy_53 (by decide) (by decide) (fun hh => ?_) (fun hh => ?_)
                    · skip
                      refine v_ldc X (List.mem_of_getElem? (i := 6) rfl) dX8_kindBy_60 (n := -1000000) (by decide) ?_
                      exact v_iret X Y dX8_kindBy_62 (u := ()) (by unfold kndI; (repeat split) <;> omega) (by rfl)
                    · skip
                      exfalso; omega
                  · skip
                    refine v_if_ne (tgt := 60) X dX8_kindBy_53 (by decide) (by decide) (fun hh => ?_) (fun hh => ?_)
                    · skip
                      exfalso; omega
                    · skip
                      refine v_iconst X dX8_kindBy_56 ?_
                      refine v_goto (tgt := 62) X dX8_kindBy_57 (by decide) ?_
                      exact v_iret X Y dX8_kindBy_62 (u := ()) (by unfold kndI; (repeat split) <;> omega) (by rfl)
                  · skip
                    refine v_if_ne (tgt := 60) X dX8_kindBy_53 (by decide) (by decide) (fun hh => ?_) (fun hh => ?_)
                    · skip
                      refine v_ldc X (List.mem_of_getElem? (i := 6) rfl) dX8_kindBy_60 (n := -1000000) (by decide) ?_
                      exact v_iret X Y dX8_kindBy_62 (u := ()) (by unfold kndI; (repeat split) <;> omega) (by rfl)
                    · skip
                      exfalso; omega
                · skip
                  exfalso; omega
            · skip
              exfalso; omega
        · skip
          exfalso; omega
    · skip
      exfalso; omega

theorem hdX8_finding : yX8_finding.cls = RX8 ∧ yX8_finding.cls ≠ "java/lang/invoke/MethodHandle" ∧ yX8_finding.cls ≠ "java/lang/invoke/VarHandle" ∧ (parseMethodDescriptor yX8_finding.desc).map (fun d => d.parameters.length) = some 1 := ⟨rfl, by decide +kernel, by decide +kernel, by decide +kernel⟩
set_option maxHeartbeats 4000000 in
set_option maxRecDepth 100000 in
theorem c_X8_finding {g : Gx} {A : Nat → Nat} {th sq ac td lt ln cu tk sa ti ft fp le lf tr : Int} {fl fm fi fc ff fw ftp fk fe fr : Nat → Int} {n : Int}  : CtE g yX8_finding wsX8_finding 0 0 [.ref (A 0), .int (iI n)] (wMod g A th sq ac td lt ln cu tk sa ti ft fp le lf tr fl fm fi fc ff fw ftp fk fe fr) (-1000010 - n) (wMod g A th (n) ac td lt ln cu tk sa ti ft fp le lf tr fl fm fi fc ff fw ftp fk fe fr) := by
  refine m_go (cc := cX8_finding) (nL := 2) (by decide +kernel) rfl (Nat.le_of_ble_eq_true rfl) (fun x X Y hnm => ?_)
  refine v_eq (lo2 := [some (.ref (A 0)), some (.int (iI n))]) rfl rfl rfl rfl ?_
  refine v_aload_n X dX8_finding_0 rfl ?_
  refine v_iload_n X dX8_finding_1 rfl ?_
  refine v_put X (fun _ h => List.mem_cons_of_mem _ (List.mem_append_right _ h)) tyX8 tyX8_ok nmX8 0 rfl rfl 1 (by decide) rfl (List.mem_of_getElem? (i := 1) rfl) rfl rfl rfl (Nat.le_of_ble_eq_true rfl) dX8_finding_2 ?_
  dsimp only [List.set, wMod]
  refine v_ldc X (List.mem_of_getElem? (i := 2) rfl) dX8_finding_5 (n := -1000010) (by decide) ?_
  refine v_iload_n X dX8_finding_7 rfl ?_
  refine v_isub X dX8_finding_8 ?_
  exact v_iret X Y dX8_finding_9 (u := ()) (by first | rfl | omega | (split <;> omega) | (simp [*]; done)) (by rfl)

theorem hdX8_row : yX8_row.cls = RX8 ∧ yX8_row.cls ≠ "java/lang/invoke/MethodHandle" ∧ yX8_row.cls ≠ "java/lang/invoke/VarHandle" ∧ (parseMethodDescriptor yX8_row.desc).map (fun d => d.parameters.length) = some 3 := ⟨rfl, by decide +kernel, by decide +kernel, by decide +kernel⟩
set_option maxHeartbeats 4000000 in
set_option maxRecDepth 100000 in
theorem c_X8_row {g : Gx} {A : Nat → Nat} {th sq ac td lt ln cu tk sa ti ft fp le lf tr : Int} {fl fm fi fc ff fw ftp fk fe fr : Nat → Int} {r l n : Int} (hr : R32 r) (hl : R32 l) (hn : R32 n) : CtI (S := Int × (Nat → Int) × (Nat → Int) × (Nat → Int)) g yX8_row wsX8_row 2 45 [.ref (A 0), .int (iI r), .int (iI l), .int (iI n)] (wMod g A th sq ac td lt ln cu tk sa ti ft fp le lf tr fl fm fi fc ff fw ftp fk fe fr) (fun v u => (¬ (0 ≤ r ∧ r < 8 ∧ 0 ≤ l ∧ l ≤ 2 ∧ n ≤ 40) ∧ v = -1000001 ∧ u = (sq, fl, fm, fi)) ∨ ((0 ≤ r ∧ r < 8 ∧ 0 ≤ l ∧ l ≤ 2 ∧ n < 0) ∧ v = -1000014 ∧ u = (4, fl, fm, fi)) ∨ ((0 ≤ r ∧ r < 8 ∧ 0 ≤ l ∧ l ≤ 2 ∧ 0 ≤ n ∧ n ≤ 40) ∧ v = n ∧ u.1 = 0 ∧ u.2.1 = updI fl r.toNat l ∧ u.2.2.1 = updI fm r.toNat n ∧ ∀ j : Nat, u.2.2.2 j = if r * 40 ≤ (j : Int) ∧ (j : Int) < r * 40 + 40 then 0 else fi j)) (fun u => wMod g A 0 u.1 ac td lt ln cu tk sa ti ft fp le lf tr u.2.1 u.2.2.1 u.2.2.2 fc ff fw ftp fk fe fr) := by
  refine m_go (cc := cX8_row) (nL := 5) (by decide +kernel) rfl (Nat.le_of_ble_eq_true rfl) (fun x X Y hnm => ?_)
  refine v_eq (lo2 := [some (.ref (A 0)), some (.int (iI r)), some (.int (iI l)), some (.int (iI n)), none]) rfl rfl rfl rfl ?_
  refine v_aload_n X dX8_row_0 rfl ?_
  refine v_iconst X dX8_row_1 ?_
  refine v_put X (fun _ h => List.mem_cons_of_mem _ (List.mem_append_right _ h)) tyX8 tyX8_ok nmX8 0 rfl rfl 0 (by decide) rfl (List.mem_of_getElem? (i := 1) rfl) rfl rfl rfl (Nat.le_of_ble_eq_true rfl) dX8_row_2 ?_
  dsimp only [List.set, wMod]
  refine v_iload_n X dX8_row_5 rfl ?_
  refine res_E X (run_S X (c_X8_isRow (g := g) (by first | assumption | omega)) gX8_row_X8_isRow rfl hdX8_isRow.2 ⟨(Nat.le_of_ble_eq_true rfl), (Nat.le_of_ble_eq_true rfl)⟩ ⟨(Nat.le_of_ble_eq_true rfl), (Nat.le_of_ble_eq_true rfl)⟩ [] rfl rfl rfl rfl (by simp [Value.category]) dX8_row_6) [] rfl rfl ?_
  refine v_ifb_eq (tgt := 30) X dX8_row_9 (by decide) (fun c1 => ?_) (fun c1 => ?_)
  · skip
    refine v_ldc X (List.mem_of_getElem? (i := 3) rfl) dX8_row_30 (n := -1000001) (by decide) ?_
    refine v_iret X Y dX8_row_32 (u := (sq, fl, fm, fi)) ?_ rfl
    exact Or.inl ⟨by omega, rfl, rfl⟩
  · skip
    refine v_iload_n X dX8_row_12 rfl ?_
    refine v_i2l X dX8_row_13 (by first | omega | (split <;> omega)) ?_
    refine v_lconst0 X dX8_row_14 ?_
    refine v_ldc2 X (List.mem_of_getElem? (i := 2) rfl) dX8_row_15 (n := 2) (by decide) ?_
    refine res_E X (run_S X (c_X8_in (g := g) (by first | assumption | omega) (by first | assumption | omega) (by first | assumption | omega)) gX8_row_X8_in rfl hdX8_in.2 ⟨(Nat.le_of_ble_eq_true rfl), (Nat.le_of_ble_eq_true rfl)⟩ ⟨(Nat.le_of_ble_eq_true rfl), (Nat.le_of_ble_eq_true rfl)⟩ [] rfl rfl rfl rfl (by simp [Value.category]) dX8_row_18) [] rfl rfl ?_
    refine v_ifb_eq (tgt := 30) X dX8_row_21 (by decide) (fun c2 => ?_) (fun c2 => ?_)
    · skip
      refine v_ldc X (List.mem_of_getElem? (i := 3) rfl) dX8_row_30 (n := -1000001) (by decide) ?_
      refine v_iret X Y dX8_row_32 (u := (sq, fl, fm, fi)) ?_ rfl
      exact Or.inl ⟨by omega, rfl, rfl⟩
    · skip
      refine v_iload_n X dX8_row_24 rfl ?_
      refine v_bipush X dX8_row_25 (by decide) ?_
      refine v_icmp_le (tgt := 33) X dX8_row_27 (by decide) (by first | omega | (split <;> omega)) (by first | omega | (split <;> omega)) (fun c3 => ?_) (fun c3 => ?_)
      · skip
        refine v_aload_n X dX8_row_33 rfl ?_
        refine v_iconst X dX8_row_34 ?_
        refine v_put X (fun _ h => List.mem_cons_of_mem _ (List.mem_append_right _ h)) tyX8 tyX8_ok nmX8 0 rfl rfl 1 (by decide) rfl (List.mem_of_getElem? (i := 4) rfl) rfl rfl rfl (Nat.le_of_ble_eq_true rfl) dX8_row_35 ?_
        dsimp only [List.set, wMod]
        refine v_iload_n X dX8_row_38 rfl ?_
        refine v_if_ge (tgt := 48) X dX8_row_39 (by decide) (by first | omega | (split <;> omega)) (fun c4 => ?_) (fun c4 => ?_)
        · skip
          refine v_aload_n X dX8_row_48 rfl ?_
          refine v_get X (fun _ h => List.mem_cons_of_mem _ (List.mem_append_right _ h)) 0 rfl rfl 2 (by decide) rfl (List.mem_of_getElem? (i := 5) rfl) rfl dX8_row_49 ?_
          refine v_iload_n X dX8_row_52 rfl ?_
          refine v_iload_n X dX8_row_53 rfl ?_
          refine v_iast X 1 rfl (by first | omega | (split <;> omega)) (by first | omega | (split <;> omega)) (by first | omega | (split <;> omega)) dX8_row_54 ?_
          dsimp only [List.set, wMod]
          refine v_aload_n X dX8_row_55 rfl ?_
          refine v_get X (fun _ h => List.mem_cons_of_mem _ (List.mem_append_right _ h)) 0 rfl rfl 3 (by decide) rfl (List.mem_of_getElem? (i := 6) rfl) rfl dX8_row_56 ?_
          refine v_iload_n X dX8_row_59 rfl ?_
          refine v_iload_n X dX8_row_60 rfl ?_
          refine v_iast X 2 rfl (by first | omega | (split <;> omega)) (by first | omega | (split <;> omega)) (by first | omega | (split <;> omega)) dX8_row_61 ?_
          dsimp only [List.set, wMod]
          refine v_iconst X dX8_row_62 ?_
          refine v_istore X dX8_row_63 (by decide) rfl ?_
          dsimp only [List.set]
          have L65 : ∀ (nf : Nat) (f : Nat → Int) (i : Int) (h1 : 0 ≤ i ∧ i ≤ 40) (h2 : ∀ j : Nat, f j = (if r * 40 ≤ (j : Int) ∧ (j : Int) < r * 40 + i then 0 else fi j)) (h3 : 0 ≤ r ∧ r < 8) (_ : (40 - i).toNat < nf), V g x 0 0 (wMod g A (0) (0) ac td lt ln cu tk sa ti ft fp le lf tr (updI fl r.toNat l) (updI fm r.toNat n) (f) fc ff fw ftp fk fe fr) [some (.ref (A 0)), some (.int (iI r)), some (.int (iI l)), some (.int (iI n)), some (.int (iI i))] 65 [] := by
            intro nf
            induction nf with
            | zero => intro f i h1 h2 h3 hmu; exact absurd hmu (Nat.not_lt_zero _)
            | succ nf ih65 =>
              intro f i h1 h2 h3 hmu
              refine v_iload X dX8_row_65 rfl ?_
              refine v_bipush X dX8_row_67 (by decide) ?_
              refine v_icmp_ge (tgt := 91) X dX8_row_69 (by decide) (by first | omega | (split <;> omega)) (by first | omega | (split <;> omega)) (fun c5 => ?_) (fun c5 => ?_)
              · skip
                refine v_iload_n X dX8_row_91 rfl ?_
                refine v_iret X Y dX8_row_92 (u := (0, updI fl r.toNat l, updI fm r.toNat n, f)) ?_ rfl
                refine Or.inr (Or.inr ⟨by omega, rfl, rfl, rfl, rfl, ?_⟩)
                have e : i = 40 := by omega
                rw [← e]; exact h2
              · skip
                refine v_aload_n X dX8_row_72 rfl ?_
                refine v_get X (fun _ h => List.mem_cons_of_mem _ (List.mem_append_right _ h)) 0 rfl rfl 4 (by decide) rfl (List.mem_of_getElem? (i := 7) rfl) rfl dX8_row_73 ?_
                refine v_bipush X dX8_row_76 (by decide) ?_
                refine v_iload_n X dX8_row_78 rfl ?_
                refine v_imul X dX8_row_79 ?_
                refine v_iload X dX8_row_80 rfl ?_
                refine v_iadd X dX8_row_82 ?_
                refine v_iconst X dX8_row_83 ?_
                refine v_iast X 3 rfl (by first | omega | (split <;> omega)) (by first | omega | (split <;> omega)) (by first | omega | (split <;> omega)) dX8_row_84 ?_
                dsimp only [List.set, wMod]
                refine v_iinc X dX8_row_85 rfl (by decide) rfl ?_
                dsimp only [List.set]
                refine v_goto (tgt := 65) X dX8_row_88 (by decide) ?_
                exact ih65 _ _ (by omega) (by intro j; rw [updI_e, h2 j]; split <;> split <;> (first | rfl | (split <;> first | rfl | omega) | omega)) (by omega) (by omega)
          exact L65 _ _ _ (by omega) (by intro j; rw [if_neg (by omega)]) (by omega) (Nat.lt_succ_self _)
        · skip
          refine v_aload_n X dX8_row_42 rfl ?_
          refine v_iconst X dX8_row_43 ?_
          refine res_F X (run_V X (c_X8_finding (g := g) ) gX8_row_X8_finding rfl hdX8_finding ⟨(Nat.le_of_ble_eq_true rfl), (Nat.le_of_ble_eq_true rfl)⟩ ⟨(Nat.le_of_ble_eq_true rfl), (Nat.le_of_ble_eq_true rfl)⟩ 0 rfl rfl rfl [0, 1, 2, 3, 4, 5, 6, 7, 8, 9, 10] rfl rfl rfl rfl (by simp [Value.category]) dX8_row_44) [0, 1, 2, 3, 4, 5, 6, 7, 8, 9, 10] rfl rfl rfl ?_
          dsimp only [patch, List.set, wMod]
          refine v_iret X Y dX8_row_47 (u := (4, fl, fm, fi)) ?_ rfl
          exact Or.inr (Or.inl ⟨by omega, rfl, rfl⟩)
      · skip
        refine v_ldc X (List.mem_of_getElem? (i := 3) rfl) dX8_row_30 (n := -1000001) (by decide) ?_
        refine v_iret X Y dX8_row_32 (u := (sq, fl, fm, fi)) ?_ rfl
        exact Or.inl ⟨by omega, rfl, rfl⟩

theorem hdX8_isThere : yX8_isThere.cls = RX8 ∧ yX8_isThere.cls ≠ "java/lang/invoke/MethodHandle" ∧ yX8_isThere.cls ≠ "java/lang/invoke/VarHandle" ∧ (parseMethodDescriptor yX8_isThere.desc).map (fun d => d.parameters.length) = some 0 := ⟨rfl, by decide +kernel, by decide +kernel, by decide +kernel⟩
set_option maxHeartbeats 4000000 in
set_option maxRecDepth 100000 in
theorem c_X8_isThere {g : Gx} {A : Nat → Nat} {th sq ac td lt ln cu tk sa ti ft fp le lf tr : Int} {fl fm fi fc ff fw ftp fk fe fr : Nat → Int}  (hfc : Bd 0 60 fc) : CtE g yX8_isThere wsX8_isThere 0 0 [.ref (A 0)] (wMod g A th sq ac td lt ln cu tk sa ti ft fp le lf tr fl fm fi fc ff fw ftp fk fe fr) (if 0 < fc 0 then 1 else 0) (wMod g A th sq ac td lt ln cu tk sa ti ft fp le lf tr fl fm fi fc ff fw ftp fk fe fr) := by
  refine m_go (cc := cX8_isThere) (nL := 1) (by decide +kernel) rfl (Nat.le_of_ble_eq_true rfl) (fun x X Y hnm => ?_)
  refine v_eq (lo2 := [some (.ref (A 0))]) rfl rfl rfl rfl ?_
  refine v_aload_n X dX8_isThere_0 rfl ?_
  refine v_get X (fun _ h => List.mem_cons_of_mem _ (List.mem_append_right _ h)) 0 rfl rfl 5 (by decide) rfl (List.mem_of_getElem? (i := 1) rfl) rfl dX8_isThere_1 ?_
  refine v_iconst X dX8_isThere_4 ?_
  refine v_iald X 4 rfl (by omega) (by omega) (by omega) dX8_isThere_5 hfc (fun z1 ez1 lz1 uz1 => ?_)
  refine v_if_le (tgt := 13) X dX8_isThere_6 (by decide) (by omega) (fun c2 => ?_) (fun c2 => ?_)
  · skip
    refine v_iconst X dX8_isThere_13 ?_
    exact v_zret X Y dX8_isThere_14 (by first | decide | omega | (split <;> omega)) (u := ()) (by first | rfl | omega | (split <;> omega) | (simp [*]; done)) (by rfl)
  · skip
    refine v_iconst X dX8_isThere_9 ?_
    refine v_goto (tgt := 14) X dX8_isThere_10 (by decide) ?_
    exact v_zret X Y dX8_isThere_14 (by first | decide | omega | (split <;> omega)) (u := ()) (by first | rfl | omega | (split <;> omega) | (simp [*]; done)) (by rfl)

theorem hdX8_isHand : yX8_isHand.cls = RX8 ∧ yX8_isHand.cls ≠ "java/lang/invoke/MethodHandle" ∧ yX8_isHand.cls ≠ "java/lang/invoke/VarHandle" ∧ (parseMethodDescriptor yX8_isHand.desc).map (fun d => d.parameters.length) = some 1 := ⟨rfl, by decide +kernel, by decide +kernel, by decide +kernel⟩
set_option maxHeartbeats 4000000 in
set_option maxRecDepth 100000 in
theorem c_X8_isHand {g : Gx} {A : Nat → Nat} {th sq ac td lt ln cu tk sa ti ft fp le lf tr : Int} {fl fm fi fc ff fw ftp fk fe fr : Nat → Int} {h : Int} (hfc : Bd 0 60 fc) (hh : R32 h) : CtE g yX8_isHand wsX8_isHand 1 25 [.ref (A 0), .int (iI h)] (wMod g A th sq ac td lt ln cu tk sa ti ft fp le lf tr fl fm fi fc ff fw ftp fk fe fr) (if 0 ≤ h ∧ h < fc 1 then 1 else 0) (wMod g A th sq ac td lt ln cu tk sa ti ft fp le lf tr fl fm fi fc ff fw ftp fk fe fr) := by
  refine m_go (cc := cX8_isHand) (nL := 2) (by decide +kernel) rfl (Nat.le_of_ble_eq_true rfl) (fun x X Y hnm => ?_)
  refine v_eq (lo2 := [some (.ref (A 0)), some (.int (iI h))]) rfl rfl rfl rfl ?_
  refine v_iload_n X dX8_isHand_0 rfl ?_
  refine v_i2l X dX8_isHand_1 (by first | omega | (split <;> omega)) ?_
  refine v_lconst0 X dX8_isHand_2 ?_
  refine v_aload_n X dX8_isHand_3 rfl ?_
  refine v_get X (fun _ h => List.mem_cons_of_mem _ (List.mem_append_right _ h)) 0 rfl rfl 5 (by decide) rfl (List.mem_of_getElem? (i := 1) rfl) rfl dX8_isHand_4 ?_
  refine v_iconst X dX8_isHand_7 ?_
  refine v_iald X 4 rfl (by first | omega | (split <;> omega)) (by first | omega | (split <;> omega)) (by first | omega | (split <;> omega)) dX8_isHand_8 hfc (fun z1 ez1 lz1 uz1 => ?_)
  refine v_iconst X dX8_isHand_9 ?_
  refine v_isub X dX8_isHand_10 ?_
  refine v_i2l X dX8_isHand_11 (by first | omega | (split <;> omega)) ?_
  refine res_E X (run_S X (c_X8_in (g := g) (by first | assumption | omega) (by first | assumption | omega) (by first | assumption | omega)) gX8_isHand_X8_in rfl hdX8_in.2 ⟨(Nat.le_of_ble_eq_true rfl), (Nat.le_of_ble_eq_true rfl)⟩ ⟨(Nat.le_of_ble_eq_true rfl), (Nat.le_of_ble_eq_true rfl)⟩ [] rfl rfl rfl rfl (by simp [Value.category]) dX8_isHand_12) [] rfl rfl ?_
  exact v_zret X Y dX8_isHand_15 (by first | decide | omega | (split <;> omega)) (u := ()) (by rw [ez0] at *; simp only [show ((1 : Int).toNat) = 1 from rfl] at *; first | rfl | omega | (split <;> split <;> omega)) (by rfl)

theorem hdX8_areTwo : yX8_areTwo.cls = RX8 ∧ yX8_areTwo.cls ≠ "java/lang/invoke/MethodHandle" ∧ yX8_areTwo.cls ≠ "java/lang/invoke/VarHandle" ∧ (parseMethodDescriptor yX8_areTwo.desc).map (fun d => d.parameters.length) = some 2 := ⟨rfl, by decide +kernel, by decide +kernel, by decide +kernel⟩
set_option maxHeartbeats 4000000 in
set_option maxRecDepth 100000 in
theorem c_X8_areTwo {g : Gx} {A : Nat → Nat} {th sq ac td lt ln cu tk sa ti ft fp le lf tr : Int} {fl fm fi fc ff fw ftp fk fe fr : Nat → Int} {a b : Int} (hfc : Bd 0 60 fc) (ha : R32 a) (hb : R32 b) : CtE g yX8_areTwo wsX8_areTwo 2 46 [.ref (A 0), .int (iI a), .int (iI b)] (wMod g A th sq ac td lt ln cu tk sa ti ft fp le lf tr fl fm fi fc ff fw ftp fk fe fr) (if (0 ≤ a ∧ a < fc 1) ∧ (0 ≤ b ∧ b < fc 1) ∧ a ≠ b then 1 else 0) (wMod g A th sq ac td lt ln cu tk sa ti ft fp le lf tr fl fm fi fc ff fw ftp fk fe fr) := by
  refine m_go (cc := cX8_areTwo) (nL := 3) (by decide +kernel) rfl (Nat.le_of_ble_eq_true rfl) (fun x X Y hnm => ?_)
  refine v_eq (lo2 := [some (.ref (A 0)), some (.int (iI a)), some (.int (iI b))]) rfl rfl rfl rfl ?_
  refine v_aload_n X dX8_areTwo_0 rfl ?_
  refine v_iload_n X dX8_areTwo_1 rfl ?_
  refine res_E X (run_V X (c_X8_isHand (g := g) (by first | assumption | omega) (by first | assumption | omega)) gX8_areTwo_X8_isHand rfl hdX8_isHand ⟨(Nat.le_of_ble_eq_true rfl), (Nat.le_of_ble_eq_true rfl)⟩ ⟨(Nat.le_of_ble_eq_true rfl), (Nat.le_of_ble_eq_true rfl)⟩ 0 rfl rfl rfl [0, 1, 2, 3, 4, 5, 6, 7, 8, 9, 10] rfl rfl rfl rfl (by simp [Value.category]) dX8_areTwo_2) [0, 1, 2, 3, 4, 5, 6, 7, 8, 9, 10] rfl rfl ?_
  refine v_ifb_eq (tgt := 25) X dX8_areTwo_5 (by decide) (fun c1 => ?_) (fun c1 => ?_)
  · skip
    refine v_iconst X dX8_areTwo_25 ?_
    exact v_zret X Y dX8_areTwo_26 (by first | decide | omega | (split <;> omega)) (u := ()) (by first | rfl | omega | (split <;> omega) | (split <;> split <;> omega)) (by rfl)
  · skip
    refine v_aload_n X dX8_areTwo_8 rfl ?_
    refine v_iload_n X dX8_areTwo_9 rfl ?_
    refine res_E X (run_V X (c_X8_isHand (g := g) (by first | assumption | omega) (by first | assumption | omega)) gX8_areTwo_X8_isHand rfl hdX8_isHand ⟨(Nat.le_of_ble_eq_true rfl), (Nat.le_of_ble_eq_true rfl)⟩ ⟨(Nat.le_of_ble_eq_true rfl), (Nat.le_of_ble_eq_true rfl)⟩ 0 rfl rfl rfl [0, 1, 2, 3, 4, 5, 6, 7, 8, 9, 10] rfl rfl rfl rfl (by simp [Value.category]) dX8_areTwo_10) [0, 1, 2, 3, 4, 5, 6, 7, 8, 9, 10] rfl rfl ?_
    refine v_ifb_eq (tgt := 25) X dX8_areTwo_13 (by decide) (fun c2 => ?_) (fun c2 => ?_)
    · skip
      refine v_iconst X dX8_areTwo_25 ?_
      exact v_zret X Y dX8_areTwo_26 (by first | decide | omega | (split <;> omega)) (u := ()) (by first | rfl | omega | (split <;> omega) | (split <;> split <;> omega)) (by rfl)
    · skip
      refine v_iload_n X dX8_areTwo_16 rfl ?_
      refine v_iload_n X dX8_areTwo_17 rfl ?_
      refine v_icmp_eq (tgt := 25) X dX8_areTwo_18 (by decide) (by first | omega | (split <;> omega)) (by first | omega | (split <;> omega)) (fun c3 => ?_) (fun c3 => ?_)
      · skip
        refine v_iconst X dX8_areTwo_25 ?_
        exact v_zret X Y dX8_areTwo_26 (by first | decide | omega | (split <;> omega)) (u := ()) (by first | rfl | omega | (split <;> omega) | (split <;> split <;> omega)) (by rfl)
      · skip
        refine v_iconst X dX8_areTwo_21 ?_
        refine v_goto (tgt := 26) X dX8_areTwo_22 (by decide) ?_
        exact v_zret X Y dX8_areTwo_26 (by first | decide | omega | (split <;> omega)) (u := ()) (by first | rfl | omega | (split <;> omega) | (split <;> split <;> omega)) (by rfl)

theorem hdX8_of : yX8_of.cls = RX8 ∧ yX8_of.cls ≠ "java/lang/invoke/MethodHandle" ∧ yX8_of.cls ≠ "java/lang/invoke/VarHandle" ∧ (parseMethodDescriptor yX8_of.desc).map (fun d => d.parameters.length) = some 2 := ⟨rfl, by decide +kernel, by decide +kernel, by decide +kernel⟩
set_option maxHeartbeats 4000000 in
set_option maxRecDepth 100000 in
theorem c_X8_of {g : Gx} {A : Nat → Nat} {th sq ac td lt ln cu tk sa ti ft fp le lf tr : Int} {fl fm fi fc ff fw ftp fk fe fr : Nat → Int} {h w : Int} (hfc : Bd 0 60 fc) (hh : 0 ≤ h ∧ h ≤ 3) (hw : 0 ≤ w ∧ w ≤ 2) : CtE g yX8_of wsX8_of 0 0 [.ref (A 0), .int (iI h), .int (iI w)] (wMod g A th sq ac td lt ln cu tk sa ti ft fp le lf tr fl fm fi fc ff fw ftp fk fe fr) (fc (2 + 3 * h + w).toNat) (wMod g A th sq ac td lt ln cu tk sa ti ft fp le lf tr fl fm fi fc ff fw ftp fk fe fr) := by
  refine m_go (cc := cX8_of) (nL := 3) (by decide +kernel) rfl (Nat.le_of_ble_eq_true rfl) (fun x X Y hnm => ?_)
  refine v_eq (lo2 := [some (.ref (A 0)), some (.int (iI h)), some (.int (iI w))]) rfl rfl rfl rfl ?_
  refine v_aload_n X dX8_of_0 rfl ?_
  refine v_get X (fun _ h => List.mem_cons_of_mem _ (List.mem_append_right _ h)) 0 rfl rfl 5 (by decide) rfl (List.mem_of_getElem? (i := 1) rfl) rfl dX8_of_1 ?_
  refine v_iconst X dX8_of_4 ?_
  refine v_iconst X dX8_of_5 ?_
  refine v_iload_n X dX8_of_6 rfl ?_
  refine v_imul X dX8_of_7 ?_
  refine v_iadd X dX8_of_8 ?_
  refine v_iload_n X dX8_of_9 rfl ?_
  refine v_iadd X dX8_of_10 ?_
  refine v_iald X 4 rfl (by omega) (by omega) (by omega) dX8_of_11 hfc (fun z1 ez1 lz1 uz1 => ?_)
  exact v_iret X Y dX8_of_12 (u := ()) (by first | rfl | omega | (split <;> omega) | (simp [*]; done)) (by rfl)

theorem hdX8_speed : yX8_speed.cls = RX8 ∧ yX8_speed.cls ≠ "java/lang/invoke/MethodHandle" ∧ yX8_speed.cls ≠ "java/lang/invoke/VarHandle" ∧ (parseMethodDescriptor yX8_speed.desc).map (fun d => d.parameters.length) = some 1 := ⟨rfl, by decide +kernel, by decide +kernel, by decide +kernel⟩
set_option maxHeartbeats 4000000 in
set_option maxRecDepth 100000 in
theorem c_X8_speed {g : Gx} {A : Nat → Nat} {th sq ac td lt ln cu tk sa ti ft fp le lf tr : Int} {fl fm fi fc ff fw ftp fk fe fr : Nat → Int} {h : Int} (hfc : Bd 0 60 fc) (ht3 : Bd 0 12 (tM fc)) (hh : 0 ≤ h ∧ h ≤ 3) : CtE g yX8_speed wsX8_speed 1 22 [.ref (A 0), .int (iI h)] (wMod g A th sq ac td lt ln cu tk sa ti ft fp le lf tr fl fm fi fc ff fw ftp fk fe fr) (spdM fc h) (wMod g A th sq ac td lt ln cu tk sa ti ft fp le lf tr fl fm fi fc ff fw ftp fk fe fr) := by
  refine m_go (cc := cX8_speed) (nL := 2) (by decide +kernel) rfl (Nat.le_of_ble_eq_true rfl) (fun x X Y hnm => ?_)
  refine v_eq (lo2 := [some (.ref (A 0)), some (.int (iI h))]) rfl rfl rfl rfl ?_
  have q1 := hfc (2 + 3 * h + 0).toNat
  have q2 := hfc (2 + 3 * h + 1).toNat
  have f1 : fc (2 + 3 * h + 0).toNat = atI 4 (kM fc) h := kM_at hh
  have f2 : fc (2 + 3 * h + 1).toNat = atI 4 (tM fc) h := tM_at hh
  refine v_aload_n X dX8_speed_0 rfl ?_
  refine v_iload_n X dX8_speed_1 rfl ?_
  refine v_iconst X dX8_speed_2 ?_
  refine res_E X (run_V X (c_X8_of (g := g) (by first | assumption | omega) (by first | assumption | omega) (by first | assumption | omega)) gX8_speed_X8_of rfl hdX8_of ⟨(Nat.le_of_ble_eq_true rfl), (Nat.le_of_ble_eq_true rfl)⟩ ⟨(Nat.le_of_ble_eq_true rfl), (Nat.le_of_ble_eq_true rfl)⟩ 0 rfl rfl rfl [0, 1, 2, 3, 4, 5, 6, 7, 8, 9, 10] rfl rfl rfl rfl (by simp [Value.category]) dX8_speed_3) [0, 1, 2, 3, 4, 5, 6, 7, 8, 9, 10] rfl rfl ?_
  refine v_iconst X dX8_speed_6 ?_
  refine v_icmp_ne (tgt := 20) X dX8_speed_7 (by decide) (by omega) (by omega) (fun c1 => ?_) (fun c1 => ?_)
  · skip
    refine v_aload_n X dX8_speed_20 rfl ?_
    refine v_iload_n X dX8_speed_21 rfl ?_
    refine v_iconst X dX8_speed_22 ?_
    refine res_E X (run_V X (c_X8_of (g := g) (by first | assumption | omega) (by first | assumption | omega) (by first | assumption | omega)) gX8_speed_X8_of rfl hdX8_of ⟨(Nat.le_of_ble_eq_true rfl), (Nat.le_of_ble_eq_true rfl)⟩ ⟨(Nat.le_of_ble_eq_true rfl), (Nat.le_of_ble_eq_true rfl)⟩ 0 rfl rfl rfl [0, 1, 2, 3, 4, 5, 6, 7, 8, 9, 10] rfl rfl rfl rfl (by simp [Value.category]) dX8_speed_23) [0, 1, 2, 3, 4, 5, 6, 7, 8, 9, 10] rfl rfl ?_
    refine v_iconst X dX8_speed_26 ?_
    refine v_icmp_ne (tgt := 41) X dX8_speed_27 (by decide) (by omega) (by omega) (fun c2 => ?_) (fun c2 => ?_)
    · skip
      refine v_aload_n X dX8_speed_41 rfl ?_
      refine v_iload_n X dX8_speed_42 rfl ?_
      refine v_iconst X dX8_speed_43 ?_
      refine res_E X (run_V X (c_X8_of (g := g) (by first | assumption | omega) (by first | assumption | omega) (by first | assumption | omega)) gX8_speed_X8_of rfl hdX8_of ⟨(Nat.le_of_ble_eq_true rfl), (Nat.le_of_ble_eq_true rfl)⟩ ⟨(Nat.le_of_ble_eq_true rfl), (Nat.le_of_ble_eq_true rfl)⟩ 0 rfl rfl rfl [0, 1, 2, 3, 4, 5, 6, 7, 8, 9, 10] rfl rfl rfl rfl (by simp [Value.category]) dX8_speed_44) [0, 1, 2, 3, 4, 5, 6, 7, 8, 9, 10] rfl rfl ?_
      exact v_iret X Y dX8_speed_47 (u := ()) (by unfold spdM spdI; rw [← f1, ← f2]; first | rw [if_pos (by assumption)] | (rw [if_neg (by assumption)]; first | rw [if_pos (by assumption)] | rw [if_neg (by assumption)])) (by rfl)
    · skip
      refine v_iconst X dX8_speed_30 ?_
      refine v_aload_n X dX8_speed_31 rfl ?_
      refine v_iload_n X dX8_speed_32 rfl ?_
      refine v_iconst X dX8_speed_33 ?_
      refine res_E X (run_V X (c_X8_of (g := g) (by first | assumption | omega) (by first | assumption | omega) (by first | assumption | omega)) gX8_speed_X8_of rfl hdX8_of ⟨(Nat.le_of_ble_eq_true rfl), (Nat.le_of_ble_eq_true rfl)⟩ ⟨(Nat.le_of_ble_eq_true rfl), (Nat.le_of_ble_eq_true rfl)⟩ 0 rfl rfl rfl [0, 1, 2, 3, 4, 5, 6, 7, 8, 9, 10] rfl rfl rfl rfl (by simp [Value.category]) dX8_speed_34) [0, 1, 2, 3, 4, 5, 6, 7, 8, 9, 10] rfl rfl ?_
      refine v_imul X dX8_speed_37 ?_
      refine v_goto (tgt := 47) X dX8_speed_38 (by decide) ?_
      exact v_iret X Y dX8_speed_47 (u := ()) (by unfold spdM spdI; rw [← f1, ← f2]; first | rw [if_pos (by assumption)] | (rw [if_neg (by assumption)]; first | rw [if_pos (by assumption)] | rw [if_neg (by assumption)])) (by rfl)
  · skip
    refine v_aload_n X dX8_speed_10 rfl ?_
    refine v_iload_n X dX8_speed_11 rfl ?_
    refine v_iconst X dX8_speed_12 ?_
    refine res_E X (run_V X (c_X8_of (g := g) (by first | assumption | omega) (by first | assumption | omega) (by first | assumption | omega)) gX8_speed_X8_of rfl hdX8_of ⟨(Nat.le_of_ble_eq_true rfl), (Nat.le_of_ble_eq_true rfl)⟩ ⟨(Nat.le_of_ble_eq_true rfl), (Nat.le_of_ble_eq_true rfl)⟩ 0 rfl rfl rfl [0, 1, 2, 3, 4, 5, 6, 7, 8, 9, 10] rfl rfl rfl rfl (by simp [Value.category]) dX8_speed_13) [0, 1, 2, 3, 4, 5, 6, 7, 8, 9, 10] rfl rfl ?_
    refine v_ineg X dX8_speed_16 ?_
    refine v_goto (tgt := 47) X dX8_speed_17 (by decide) ?_
    exact v_iret X Y dX8_speed_47 (u := ()) (by unfold spdM spdI; rw [← f1, ← f2]; first | rw [if_pos (by assumption)] | (rw [if_neg (by assumption)]; first | rw [if_pos (by assumption)] | rw [if_neg (by assumption)])) (by rfl)

theorem hdX8_hand : yX8_hand.cls = RX8 ∧ yX8_hand.cls ≠ "java/lang/invoke/MethodHandle" ∧ yX8_hand.cls ≠ "java/lang/invoke/VarHandle" ∧ (parseMethodDescriptor yX8_hand.desc).map (fun d => d.parameters.length) = some 2 := ⟨rfl, by decide +kernel, by decide +kernel, by decide +kernel⟩
set_option maxHeartbeats 4000000 in
set_option maxRecDepth 100000 in
theorem c_X8_hand {g : Gx} {A : Nat → Nat} {th sq ac td lt ln cu tk sa ti ft fp le lf tr : Int} {fl fm fi fc ff fw ftp fk fe fr : Nat → Int} {h w : Int} (hfc : Bd 0 60 fc) (hc1 : 0 ≤ fc 1 ∧ fc 1 ≤ 4) (ht3 : Bd 0 12 (tM fc)) (hh : R32 h) (hw : R32 w) : CtE g yX8_hand wsX8_hand 2 46 [.ref (A 0), .int (iI h), .int (iI w)] (wMod g A th sq ac td lt ln cu tk sa ti ft fp le lf tr fl fm fi fc ff fw ftp fk fe fr) (if (0 ≤ h ∧ h < fc 1) ∧ 0 ≤ w ∧ w ≤ 2 then (if w = 0 then atI 4 (tM fc) h else if w = 1 then spdM fc h else atI 4 (sM fc) h) else -1000001) (wMod g A (0) sq ac td lt ln cu tk sa ti ft fp le lf tr fl fm fi fc ff fw ftp fk fe fr) := by
  refine m_go (cc := cX8_hand) (nL := 3) (by decide +kernel) rfl (Nat.le_of_ble_eq_true rfl) (fun x X Y hnm => ?_)
  refine v_eq (lo2 := [some (.ref (A 0)), some (.int (iI h)), some (.int (iI w))]) rfl rfl rfl rfl ?_
  refine v_aload_n X dX8_hand_0 rfl ?_
  refine v_iconst X dX8_hand_1 ?_
  refine v_put X (fun _ h => List.mem_cons_of_mem _ (List.mem_append_right _ h)) tyX8 tyX8_ok nmX8 0 rfl rfl 0 (by decide) rfl (List.mem_of_getElem? (i := 1) rfl) rfl rfl rfl (Nat.le_of_ble_eq_true rfl) dX8_hand_2 ?_
  dsimp only [List.set, wMod]
  refine v_aload_n X dX8_hand_5 rfl ?_
  refine v_iload_n X dX8_hand_6 rfl ?_
  refine res_E X (run_V X (c_X8_isHand (g := g) (by first | assumption | omega) (by first | assumption | omega)) gX8_hand_X8_isHand rfl hdX8_isHand ⟨(Nat.le_of_ble_eq_true rfl), (Nat.le_of_ble_eq_true rfl)⟩ ⟨(Nat.le_of_ble_eq_true rfl), (Nat.le_of_ble_eq_true rfl)⟩ 0 rfl rfl rfl [0, 1, 2, 3, 4, 5, 6, 7, 8, 9, 10] rfl rfl rfl rfl (by simp [Value.category]) dX8_hand_7) [0, 1, 2, 3, 4, 5, 6, 7, 8, 9, 10] rfl rfl ?_
  refine v_ifb_eq (tgt := 25) X dX8_hand_10 (by decide) (fun c1 => ?_) (fun c1 => ?_)
  · skip
    refine v_ldc X (List.mem_of_getElem? (i := 3) rfl) dX8_hand_25 (n := -1000001) (by decide) ?_
    exact v_iret X Y dX8_hand_27 (u := ()) (by rw [if_neg (by omega)]) (by rfl)
  · skip
    refine v_iload_n X dX8_hand_13 rfl ?_
    refine v_i2l X dX8_hand_14 (by first | omega | (split <;> omega)) ?_
    refine v_lconst0 X dX8_hand_15 ?_
    refine v_ldc2 X (List.mem_of_getElem? (i := 2) rfl) dX8_hand_16 (n := 2) (by decide) ?_
    refine res_E X (run_S X (c_X8_in (g := g) (by first | assumption | omega) (by first | assumption | omega) (by first | assumption | omega)) gX8_hand_X8_in rfl hdX8_in.2 ⟨(Nat.le_of_ble_eq_true rfl), (Nat.le_of_ble_eq_true rfl)⟩ ⟨(Nat.le_of_ble_eq_true rfl), (Nat.le_of_ble_eq_true rfl)⟩ [] rfl rfl rfl rfl (by simp [Value.category]) dX8_hand_19) [] rfl rfl ?_
    refine v_ifb_ne (tgt := 28) X dX8_hand_22 (by decide) (fun c2 => ?_) (fun c2 => ?_)
    · skip
      refine v_iload_n X dX8_hand_28 rfl ?_
      refine v_if_ne (tgt := 41) X dX8_hand_29 (by decide) (by first | omega | (split <;> omega)) (fun c3 => ?_) (fun c3 => ?_)
      · skip
        refine v_iload_n X dX8_hand_41 rfl ?_
        refine v_iconst X dX8_hand_42 ?_
        refine v_icmp_ne (tgt := 54) X dX8_hand_43 (by decide) (by first | omega | (split <;> omega)) (by first | omega | (split <;> omega)) (fun c4 => ?_) (fun c4 => ?_)
        · skip
          refine v_aload_n X dX8_hand_54 rfl ?_
          refine v_iload_n X dX8_hand_55 rfl ?_
          refine v_iconst X dX8_hand_56 ?_
          refine res_E X (run_V X (c_X8_of (g := g) (by first | assumption | omega) (by omega) (by first | assumption | omega)) gX8_hand_X8_of rfl hdX8_of ⟨(Nat.le_of_ble_eq_true rfl), (Nat.le_of_ble_eq_true rfl)⟩ ⟨(Nat.le_of_ble_eq_true rfl), (Nat.le_of_ble_eq_true rfl)⟩ 0 rfl rfl rfl [0, 1, 2, 3, 4, 5, 6, 7, 8, 9, 10] rfl rfl rfl rfl (by simp [Value.category]) dX8_hand_57) [0, 1, 2, 3, 4, 5, 6, 7, 8, 9, 10] rfl rfl ?_
          rw [sM_at (by omega)]
          exact v_iret X Y dX8_hand_60 (u := ()) (by rw [if_pos (by omega)]; first | rw [if_pos (by assumption)] | (rw [if_neg (by assumption)]; first | rw [if_pos (by assumption)] | rw [if_neg (by omega)])) (by rfl)
        · skip
          refine v_aload_n X dX8_hand_46 rfl ?_
          refine v_iload_n X dX8_hand_47 rfl ?_
          refine res_E X (run_V X (c_X8_speed (g := g) (by first | assumption | omega) (by first | assumption | omega) (by omega)) gX8_hand_X8_speed rfl hdX8_speed ⟨(Nat.le_of_ble_eq_true rfl), (Nat.le_of_ble_eq_true rfl)⟩ ⟨(Nat.le_of_ble_eq_true rfl), (Nat.le_of_ble_eq_true rfl)⟩ 0 rfl rfl rfl [0, 1, 2, 3, 4, 5, 6, 7, 8, 9, 10] rfl rfl rfl rfl (by simp [Value.category]) dX8_hand_48) [0, 1, 2, 3, 4, 5, 6, 7, 8, 9, 10] rfl rfl ?_
          refine v_goto (tgt := 60) X dX8_hand_51 (by decide) ?_
          exact v_iret X Y dX8_hand_60 (u := ()) (by rw [if_pos (by omega)]; first | rw [if_pos (by assumption)] | (rw [if_neg (by assumption)]; first | rw [if_pos (by assumption)] | rw [if_neg (by omega)])) (by rfl)
      · skip
        refine v_aload_n X dX8_hand_32 rfl ?_
        refine v_iload_n X dX8_hand_33 rfl ?_
        refine v_iconst X dX8_hand_34 ?_
        refine res_E X (run_V X (c_X8_of (g := g) (by first | assumption | omega) (by omega) (by first | assumption | omega)) gX8_hand_X8_of rfl hdX8_of ⟨(Nat.le_of_ble_eq_true rfl), (Nat.le_of_ble_eq_true rfl)⟩ ⟨(Nat.le_of_ble_eq_true rfl), (Nat.le_of_ble_eq_true rfl)⟩ 0 rfl rfl rfl [0, 1, 2, 3, 4, 5, 6, 7, 8, 9, 10] rfl rfl rfl rfl (by simp [Value.category]) dX8_hand_35) [0, 1, 2, 3, 4, 5, 6, 7, 8, 9, 10] rfl rfl ?_
        rw [tM_at (by omega)]
        refine v_goto (tgt := 60) X dX8_hand_38 (by decide) ?_
        exact v_iret X Y dX8_hand_60 (u := ()) (by rw [if_pos (by omega)]; first | rw [if_pos (by assumption)] | (rw [if_neg (by assumption)]; first | rw [if_pos (by assumption)] | rw [if_neg (by omega)])) (by rfl)
    · skip
      refine v_ldc X (List.mem_of_getElem? (i := 3) rfl) dX8_hand_25 (n := -1000001) (by decide) ?_
      exact v_iret X Y dX8_hand_27 (u := ()) (by rw [if_neg (by omega)]) (by rfl)

theorem hdX8_arc : yX8_arc.cls = RX8 ∧ yX8_arc.cls ≠ "java/lang/invoke/MethodHandle" ∧ yX8_arc.cls ≠ "java/lang/invoke/VarHandle" ∧ (parseMethodDescriptor yX8_arc.desc).map (fun d => d.parameters.length) = some 3 := ⟨rfl, by decide +kernel, by decide +kernel, by decide +kernel⟩
set_option maxHeartbeats 4000000 in
set_option maxRecDepth 100000 in
theorem c_X8_arc {g : Gx} {A : Nat → Nat} {th sq ac td lt ln cu tk sa ti ft fp le lf tr : Int} {fl fm fi fc ff fw ftp fk fe fr : Nat → Int} {h p q : Int} (hfc : Bd 0 60 fc) (hc1 : 0 ≤ fc 1 ∧ fc 1 ≤ 4) (ht3 : Bd 0 12 (tM fc)) (hh : 0 ≤ h ∧ h ≤ 3) (hp : 0 ≤ p ∧ p ≤ 9999) (hq : 1 ≤ q ∧ q ≤ 9999) (h0 : 0 < fc 0) : CtE g yX8_arc wsX8_arc 2 43 [.ref (A 0), .int (iI h), .int (iI p), .int (iI q)] (wMod g A th sq ac td lt ln cu tk sa ti ft fp le lf tr fl fm fi fc ff fw ftp fk fe fr) (arcM fc h p q) (wMod g A th sq ac td lt ln cu tk sa ti ft fp le lf tr fl fm fi fc ff fw ftp fk fe fr) := by
  refine m_go (cc := cX8_arc) (nL := 4) (by decide +kernel) rfl (Nat.le_of_ble_eq_true rfl) (fun x X Y hnm => ?_)
  refine v_eq (lo2 := [some (.ref (A 0)), some (.int (iI h)), some (.int (iI p)), some (.int (iI q))]) rfl rfl rfl rfl ?_
  have q1 := spdM_bd (fc := fc) (h := h) ht3
  have q0 := hfc 0
  have qz := hfc (2 + 3 * h + 2).toNat
  have f1 := sM_at (fc := fc) hh
  have q3 := mul_bd q1 hp
  have q4 := mul_bd q3 q0
  have q5 := mul_nn qz (show 0 ≤ q ∧ q ≤ 9999 by omega)
  have q6 := mul_nn (show 0 ≤ q ∧ q ≤ 9999 by omega) q0
  have q7 := Int.mul_pos (show 0 < q by omega) h0
  refine v_aload_n X dX8_arc_0 rfl ?_
  refine v_iload_n X dX8_arc_1 rfl ?_
  refine res_E X (run_V X (c_X8_speed (g := g) (by first | assumption | omega) (by first | assumption | omega) (by first | assumption | omega)) gX8_arc_X8_speed rfl hdX8_speed ⟨(Nat.le_of_ble_eq_true rfl), (Nat.le_of_ble_eq_true rfl)⟩ ⟨(Nat.le_of_ble_eq_true rfl), (Nat.le_of_ble_eq_true rfl)⟩ 0 rfl rfl rfl [0, 1, 2, 3, 4, 5, 6, 7, 8, 9, 10] rfl rfl rfl rfl (by simp [Value.category]) dX8_arc_2) [0, 1, 2, 3, 4, 5, 6, 7, 8, 9, 10] rfl rfl ?_
  refine v_iload_n X dX8_arc_5 rfl ?_
  refine v_imul X dX8_arc_6 ?_
  refine v_aload_n X dX8_arc_7 rfl ?_
  refine v_get X (fun _ h => List.mem_cons_of_mem _ (List.mem_append_right _ h)) 0 rfl rfl 5 (by decide) rfl (List.mem_of_getElem? (i := 1) rfl) rfl dX8_arc_8 ?_
  refine v_iconst X dX8_arc_11 ?_
  refine v_iald X 4 rfl (by omega) (by omega) (by omega) dX8_arc_12 hfc (fun z1 ez1 lz1 uz1 => ?_)
  rw [show z1 = fc 0 from ez1]
  refine v_imul X dX8_arc_13 ?_
  refine v_aload_n X dX8_arc_14 rfl ?_
  refine v_iload_n X dX8_arc_15 rfl ?_
  refine v_iconst X dX8_arc_16 ?_
  refine res_E X (run_V X (c_X8_of (g := g) (by first | assumption | omega) (by first | assumption | omega) (by first | assumption | omega)) gX8_arc_X8_of rfl hdX8_of ⟨(Nat.le_of_ble_eq_true rfl), (Nat.le_of_ble_eq_true rfl)⟩ ⟨(Nat.le_of_ble_eq_true rfl), (Nat.le_of_ble_eq_true rfl)⟩ 0 rfl rfl rfl [0, 1, 2, 3, 4, 5, 6, 7, 8, 9, 10] rfl rfl rfl rfl (by simp [Value.category]) dX8_arc_17) [0, 1, 2, 3, 4, 5, 6, 7, 8, 9, 10] rfl rfl ?_
  refine v_iload_n X dX8_arc_20 rfl ?_
  refine v_imul X dX8_arc_21 ?_
  refine v_iadd X dX8_arc_22 ?_
  refine v_iload_n X dX8_arc_23 rfl ?_
  refine v_aload_n X dX8_arc_24 rfl ?_
  refine v_get X (fun _ h => List.mem_cons_of_mem _ (List.mem_append_right _ h)) 0 rfl rfl 5 (by decide) rfl (List.mem_of_getElem? (i := 1) rfl) rfl dX8_arc_25 ?_
  refine v_iconst X dX8_arc_28 ?_
  refine v_iald X 4 rfl (by omega) (by omega) (by omega) dX8_arc_29 hfc (fun z2 ez2 lz2 uz2 => ?_)
  rw [show z2 = fc 0 from ez2]
  refine v_imul X dX8_arc_30 ?_
  refine res_E X (run_S X (c_X8_rest (g := g) (by first | assumption | omega) (by first | assumption | omega) (by first | assumption | omega)) gX8_arc_X8_rest rfl hdX8_rest.2 ⟨(Nat.le_of_ble_eq_true rfl), (Nat.le_of_ble_eq_true rfl)⟩ ⟨(Nat.le_of_ble_eq_true rfl), (Nat.le_of_ble_eq_true rfl)⟩ [] rfl rfl rfl rfl (by simp [Value.category]) dX8_arc_31) [] rfl rfl ?_
  exact v_iret X Y dX8_arc_34 (u := ()) (by unfold arcM; rw [← f1]) (by rfl)

theorem hdX8_points : yX8_points.cls = RX8 ∧ yX8_points.cls ≠ "java/lang/invoke/MethodHandle" ∧ yX8_points.cls ≠ "java/lang/invoke/VarHandle" ∧ (parseMethodDescriptor yX8_points.desc).map (fun d => d.parameters.length) = some 4 := ⟨rfl, by decide +kernel, by decide +kernel, by decide +kernel⟩
set_option maxHeartbeats 4000000 in
set_option maxRecDepth 100000 in
theorem c_X8_points {g : Gx} {A : Nat → Nat} {th sq ac td lt ln cu tk sa ti ft fp le lf tr : Int} {fl fm fi fc ff fw ftp fk fe fr : Nat → Int} {h p q w : Int} (hfc : Bd 0 60 fc) (hc1 : 0 ≤ fc 1 ∧ fc 1 ≤ 4) (ht3 : Bd 0 12 (tM fc)) (h0 : 0 < fc 1 → 0 < fc 0) (hh : R32 h) (hp : R32 p) (hq : R32 q) (hw : R32 w) : CtE g yX8_points wsX8_points 3 66 [.ref (A 0), .int (iI h), .int (iI p), .int (iI q), .int (iI w)] (wMod g A th sq ac td lt ln cu tk sa ti ft fp le lf tr fl fm fi fc ff fw ftp fk fe fr) (if (0 ≤ h ∧ h < fc 1) ∧ (1 ≤ q ∧ q ≤ 9999 ∧ 0 ≤ p ∧ p < q) ∧ 0 ≤ w ∧ w ≤ 1 then toldI (arcM fc h p q) (q * fc 0) w else -1000001) (wMod g A (0) sq ac td lt ln cu tk sa ti ft fp le lf tr fl fm fi fc ff fw ftp fk fe fr) := by
  refine m_go (cc := cX8_points) (nL := 5) (by decide +kernel) rfl (Nat.le_of_ble_eq_true rfl) (fun x X Y hnm => ?_)
  refine v_eq (lo2 := [some (.ref (A 0)), some (.int (iI h)), some (.int (iI p)), some (.int (iI q)), some (.int (iI w))]) rfl rfl rfl rfl ?_
  refine v_aload_n X dX8_points_0 rfl ?_
  refine v_iconst X dX8_points_1 ?_
  refine v_put X (fun _ h => List.mem_cons_of_mem _ (List.mem_append_right _ h)) tyX8 tyX8_ok nmX8 0 rfl rfl 0 (by decide) rfl (List.mem_of_getElem? (i := 1) rfl) rfl rfl rfl (Nat.le_of_ble_eq_true rfl) dX8_points_2 ?_
  dsimp only [List.set, wMod]
  refine v_aload_n X dX8_points_5 rfl ?_
  refine v_iload_n X dX8_points_6 rfl ?_
  refine res_E X (run_V X (c_X8_isHand (g := g) (by first | assumption | omega) (by first | assumption | omega)) gX8_points_X8_isHand rfl hdX8_isHand ⟨(Nat.le_of_ble_eq_true rfl), (Nat.le_of_ble_eq_true rfl)⟩ ⟨(Nat.le_of_ble_eq_true rfl), (Nat.le_of_ble_eq_true rfl)⟩ 0 rfl rfl rfl [0, 1, 2, 3, 4, 5, 6, 7, 8, 9, 10] rfl rfl rfl rfl (by simp [Value.category]) dX8_points_7) [0, 1, 2, 3, 4, 5, 6, 7, 8, 9, 10] rfl rfl ?_
  refine v_ifb_eq (tgt := 32) X dX8_points_10 (by decide) (fun c1 => ?_) (fun c1 => ?_)
  · skip
    refine v_ldc X (List.mem_of_getElem? (i := 2) rfl) dX8_points_32 (n := -1000001) (by decide) ?_
    exact v_iret X Y dX8_points_34 (u := ()) (by rw [if_neg (by omega)]) (by rfl)
  · skip
    refine v_iload_n X dX8_points_13 rfl ?_
    refine v_iload_n X dX8_points_14 rfl ?_
    refine res_E X (run_S X (c_X8_isMoment (g := g) (by first | assumption | omega) (by first | assumption | omega)) gX8_points_X8_isMoment rfl hdX8_isMoment.2 ⟨(Nat.le_of_ble_eq_true rfl), (Nat.le_of_ble_eq_true rfl)⟩ ⟨(Nat.le_of_ble_eq_true rfl), (Nat.le_of_ble_eq_true rfl)⟩ [] rfl rfl rfl rfl (by simp [Value.category]) dX8_points_15) [] rfl rfl ?_
    refine v_ifb_eq (tgt := 32) X dX8_points_18 (by decide) (fun c2 => ?_) (fun c2 => ?_)
    · skip
      refine v_ldc X (List.mem_of_getElem? (i := 2) rfl) dX8_points_32 (n := -1000001) (by decide) ?_
      exact v_iret X Y dX8_points_34 (u := ()) (by rw [if_neg (by omega)]) (by rfl)
    · skip
      refine v_iload X dX8_points_21 rfl ?_
      refine v_i2l X dX8_points_23 (by first | omega | (split <;> omega)) ?_
      refine v_lconst0 X dX8_points_24 ?_
      refine v_lconst1 X dX8_points_25 ?_
      refine res_E X (run_S X (c_X8_in (g := g) (by first | assumption | omega) (by first | assumption | omega) (by first | assumption | omega)) gX8_points_X8_in rfl hdX8_in.2 ⟨(Nat.le_of_ble_eq_true rfl), (Nat.le_of_ble_eq_true rfl)⟩ ⟨(Nat.le_of_ble_eq_true rfl), (Nat.le_of_ble_eq_true rfl)⟩ [] rfl rfl rfl rfl (by simp [Value.category]) dX8_points_26) [] rfl rfl ?_
      refine v_ifb_ne (tgt := 35) X dX8_points_29 (by decide) (fun c3 => ?_) (fun c3 => ?_)
      · skip
        refine v_aload_n X dX8_points_35 rfl ?_
        refine v_iload_n X dX8_points_36 rfl ?_
        refine v_iload_n X dX8_points_37 rfl ?_
        refine v_iload_n X dX8_points_38 rfl ?_
        have g1 : (0 ≤ h ∧ h < fc 1) ∧ (1 ≤ q ∧ q ≤ 9999 ∧ 0 ≤ p ∧ p < q) ∧ 0 ≤ w ∧ w ≤ 1 := (by omega)
        have q0 := hfc 0
        have q6 := mul_nn (show 0 ≤ q ∧ q ≤ 9999 by omega) q0
        have q7 := Int.mul_pos (show 0 < q by omega) (show 0 < fc 0 by omega)
        have q8 := arcM_bd (fc := fc) (h := h) (p := p) (q := q) q6.2
        refine res_E X (run_V X (c_X8_arc (g := g) (by first | assumption | omega) (by first | assumption | omega) (by first | assumption | omega) (by first | assumption | omega) (by first | assumption | omega) (by first | assumption | omega) (by first | assumption | omega)) gX8_points_X8_arc rfl hdX8_arc ⟨(Nat.le_of_ble_eq_true rfl), (Nat.le_of_ble_eq_true rfl)⟩ ⟨(Nat.le_of_ble_eq_true rfl), (Nat.le_of_ble_eq_true rfl)⟩ 0 rfl rfl rfl [0, 1, 2, 3, 4, 5, 6, 7, 8, 9, 10] rfl rfl rfl rfl (by simp [Value.category]) dX8_points_39) [0, 1, 2, 3, 4, 5, 6, 7, 8, 9, 10] rfl rfl ?_
        refine v_iload_n X dX8_points_42 rfl ?_
        refine v_aload_n X dX8_points_43 rfl ?_
        refine v_get X (fun _ h => List.mem_cons_of_mem _ (List.mem_append_right _ h)) 0 rfl rfl 5 (by decide) rfl (List.mem_of_getElem? (i := 3) rfl) rfl dX8_points_44 ?_
        refine v_iconst X dX8_points_47 ?_
        refine v_iald X 4 rfl (by first | omega | (split <;> omega)) (by first | omega | (split <;> omega)) (by first | omega | (split <;> omega)) dX8_points_48 hfc (fun z2 ez2 lz2 uz2 => ?_)
        rw [show z2 = fc 0 from ez2]
        refine v_imul X dX8_points_49 ?_
        refine v_iload X dX8_points_50 rfl ?_
        refine res_E X (run_S X (c_X8_told (g := g) (by first | assumption | omega) (by first | assumption | omega) (by first | assumption | omega) (by first | assumption | omega) (by first | assumption | omega)) gX8_points_X8_told rfl hdX8_told.2 ⟨(Nat.le_of_ble_eq_true rfl), (Nat.le_of_ble_eq_true rfl)⟩ ⟨(Nat.le_of_ble_eq_true rfl), (Nat.le_of_ble_eq_true rfl)⟩ [] rfl rfl rfl rfl (by simp [Value.category]) dX8_points_52) [] rfl rfl ?_
        exact v_iret X Y dX8_points_55 (u := ()) (by rw [if_pos g1]) (by rfl)
      · skip
        refine v_ldc X (List.mem_of_getElem? (i := 2) rfl) dX8_points_32 (n := -1000001) (by decide) ?_
        exact v_iret X Y dX8_points_34 (u := ()) (by rw [if_neg (by omega)]) (by rfl)

theorem hdX8_partsOf : yX8_partsOf.cls = RX8 ∧ yX8_partsOf.cls ≠ "java/lang/invoke/MethodHandle" ∧ yX8_partsOf.cls ≠ "java/lang/invoke/VarHandle" ∧ (parseMethodDescriptor yX8_partsOf.desc).map (fun d => d.parameters.length) = some 2 := ⟨rfl, by decide +kernel, by decide +kernel, by decide +kernel⟩
set_option maxHeartbeats 4000000 in
set_option maxRecDepth 100000 in
theorem c_X8_partsOf {g : Gx} {A : Nat → Nat} {th sq ac td lt ln cu tk sa ti ft fp le lf tr : Int} {fl fm fi fc ff fw ftp fk fe fr : Nat → Int} {a b : Int} (hfc : Bd 0 60 fc) (hc1 : 0 ≤ fc 1 ∧ fc 1 ≤ 4) (ht3 : Bd 0 12 (tM fc)) (ha : 0 ≤ a ∧ a ≤ 3) (hb : 0 ≤ b ∧ b ≤ 3) : CtE g yX8_partsOf wsX8_partsOf 2 43 [.ref (A 0), .int (iI a), .int (iI b)] (wMod g A th sq ac td lt ln cu tk sa ti ft fp le lf tr fl fm fi fc ff fw ftp fk fe fr) (whoI (spdM fc a) (spdM fc b)) (wMod g A th sq ac td lt ln cu tk sa ti ft fp le lf tr fl fm fi fc ff fw ftp fk fe fr) := by
  refine m_go (cc := cX8_partsOf) (nL := 3) (by decide +kernel) rfl (Nat.le_of_ble_eq_true rfl) (fun x X Y hnm => ?_)
  refine v_eq (lo2 := [some (.ref (A 0)), some (.int (iI a)), some (.int (iI b))]) rfl rfl rfl rfl ?_
  have m1 := sq_bd (spdM_bd (fc := fc) (h := a) ht3)
  have m2 := sq_bd (spdM_bd (fc := fc) (h := b) ht3)
  refine v_aload_n X dX8_partsOf_0 rfl ?_
  refine v_iload_n X dX8_partsOf_1 rfl ?_
  refine res_E X (run_V X (c_X8_speed (g := g) (by first | assumption | omega) (by first | assumption | omega) (by first | assumption | omega)) gX8_partsOf_X8_speed rfl hdX8_speed ⟨(Nat.le_of_ble_eq_true rfl), (Nat.le_of_ble_eq_true rfl)⟩ ⟨(Nat.le_of_ble_eq_true rfl), (Nat.le_of_ble_eq_true rfl)⟩ 0 rfl rfl rfl [0, 1, 2, 3, 4, 5, 6, 7, 8, 9, 10] rfl rfl rfl rfl (by simp [Value.category]) dX8_partsOf_2) [0, 1, 2, 3, 4, 5, 6, 7, 8, 9, 10] rfl rfl ?_
  refine v_aload_n X dX8_partsOf_5 rfl ?_
  refine v_iload_n X dX8_partsOf_6 rfl ?_
  refine res_E X (run_V X (c_X8_speed (g := g) (by first | assumption | omega) (by first | assumption | omega) (by first | assumption | omega)) gX8_partsOf_X8_speed rfl hdX8_speed ⟨(Nat.le_of_ble_eq_true rfl), (Nat.le_of_ble_eq_true rfl)⟩ ⟨(Nat.le_of_ble_eq_true rfl), (Nat.le_of_ble_eq_true rfl)⟩ 0 rfl rfl rfl [0, 1, 2, 3, 4, 5, 6, 7, 8, 9, 10] rfl rfl rfl rfl (by simp [Value.category]) dX8_partsOf_7) [0, 1, 2, 3, 4, 5, 6, 7, 8, 9, 10] rfl rfl ?_
  refine v_imul X dX8_partsOf_10 ?_
  refine v_aload_n X dX8_partsOf_11 rfl ?_
  refine v_iload_n X dX8_partsOf_12 rfl ?_
  refine res_E X (run_V X (c_X8_speed (g := g) (by first | assumption | omega) (by first | assumption | omega) (by first | assumption | omega)) gX8_partsOf_X8_speed rfl hdX8_speed ⟨(Nat.le_of_ble_eq_true rfl), (Nat.le_of_ble_eq_true rfl)⟩ ⟨(Nat.le_of_ble_eq_true rfl), (Nat.le_of_ble_eq_true rfl)⟩ 0 rfl rfl rfl [0, 1, 2, 3, 4, 5, 6, 7, 8, 9, 10] rfl rfl rfl rfl (by simp [Value.category]) dX8_partsOf_13) [0, 1, 2, 3, 4, 5, 6, 7, 8, 9, 10] rfl rfl ?_
  refine v_aload_n X dX8_partsOf_16 rfl ?_
  refine v_iload_n X dX8_partsOf_17 rfl ?_
  refine res_E X (run_V X (c_X8_speed (g := g) (by first | assumption | omega) (by first | assumption | omega) (by first | assumption | omega)) gX8_partsOf_X8_speed rfl hdX8_speed ⟨(Nat.le_of_ble_eq_true rfl), (Nat.le_of_ble_eq_true rfl)⟩ ⟨(Nat.le_of_ble_eq_true rfl), (Nat.le_of_ble_eq_true rfl)⟩ 0 rfl rfl rfl [0, 1, 2, 3, 4, 5, 6, 7, 8, 9, 10] rfl rfl rfl rfl (by simp [Value.category]) dX8_partsOf_18) [0, 1, 2, 3, 4, 5, 6, 7, 8, 9, 10] rfl rfl ?_
  refine v_imul X dX8_partsOf_21 ?_
  refine v_isub X dX8_partsOf_22 ?_
  refine res_E X (run_S X (c_X8_size (g := g) (by first | assumption | omega)) gX8_partsOf_X8_size rfl hdX8_size.2 ⟨(Nat.le_of_ble_eq_true rfl), (Nat.le_of_ble_eq_true rfl)⟩ ⟨(Nat.le_of_ble_eq_true rfl), (Nat.le_of_ble_eq_true rfl)⟩ [] rfl rfl rfl rfl (by simp [Value.category]) dX8_partsOf_23) [] rfl rfl ?_
  exact v_iret X Y dX8_partsOf_26 (u := ()) (by rfl) (by rfl)

theorem hdX8_otherOf : yX8_otherOf.cls = RX8 ∧ yX8_otherOf.cls ≠ "java/lang/invoke/MethodHandle" ∧ yX8_otherOf.cls ≠ "java/lang/invoke/VarHandle" ∧ (parseMethodDescriptor yX8_otherOf.desc).map (fun d => d.parameters.length) = some 3 := ⟨rfl, by decide +kernel, by decide +kernel, by decide +kernel⟩
set_option maxHeartbeats 4000000 in
set_option maxRecDepth 100000 in
theorem c_X8_otherOf {g : Gx} {A : Nat → Nat} {th sq ac td lt ln cu tk sa ti ft fp le lf tr : Int} {fl fm fi fc ff fw ftp fk fe fr : Nat → Int} {a b k : Int} (hfc : Bd 0 60 fc) (hc1 : 0 ≤ fc 1 ∧ fc 1 ≤ 4) (ht3 : Bd 0 12 (tM fc)) (ha : 0 ≤ a ∧ a ≤ 3) (hb : 0 ≤ b ∧ b ≤ 3) (hk : 0 ≤ k ∧ k ≤ 576) : CtE g yX8_otherOf wsX8_otherOf 3 65 [.ref (A 0), .int (iI a), .int (iI b), .int (iI k)] (wMod g A th sq ac td lt ln cu tk sa ti ft fp le lf tr fl fm fi fc ff fw ftp fk fe fr) (othM (spdM fc a) (spdM fc b) k) (wMod g A th sq ac td lt ln cu tk sa ti ft fp le lf tr fl fm fi fc ff fw ftp fk fe fr) := by
  refine m_go (cc := cX8_otherOf) (nL := 8) (by decide +kernel) rfl (Nat.le_of_ble_eq_true rfl) (fun x X Y hnm => ?_)
  refine v_eq (lo2 := [some (.ref (A 0)), some (.int (iI a)), some (.int (iI b)), some (.int (iI k)), none, none, none, none]) rfl rfl rfl rfl ?_
  have q1 := spdM_bd (fc := fc) (h := a) ht3
  have q2 := spdM_bd (fc := fc) (h := b) ht3
  have q3 := whoI_bd q1 q2
  have q4 := mul_bd q1 hk
  have q5 := mul_bd q2 hk
  refine v_aload_n X dX8_otherOf_0 rfl ?_
  refine v_iload_n X dX8_otherOf_1 rfl ?_
  refine v_iload_n X dX8_otherOf_2 rfl ?_
  refine res_E X (run_V X (c_X8_partsOf (g := g) (by first | assumption | omega) (by first | assumption | omega) (by first | assumption | omega) (by first | assumption | omega) (by first | assumption | omega)) gX8_otherOf_X8_partsOf rfl hdX8_partsOf ⟨(Nat.le_of_ble_eq_true rfl), (Nat.le_of_ble_eq_true rfl)⟩ ⟨(Nat.le_of_ble_eq_true rfl), (Nat.le_of_ble_eq_true rfl)⟩ 0 rfl rfl rfl [0, 1, 2, 3, 4, 5, 6, 7, 8, 9, 10] rfl rfl rfl rfl (by simp [Value.category]) dX8_otherOf_3) [0, 1, 2, 3, 4, 5, 6, 7, 8, 9, 10] rfl rfl ?_
  refine v_istore X dX8_otherOf_6 (by decide) rfl ?_
  dsimp only [List.set]
  refine v_iconst X dX8_otherOf_8 ?_
  refine v_istore X dX8_otherOf_9 (by decide) rfl ?_
  dsimp only [List.set]
  have L11 : ∀ (nf : Nat) (y : Int) (h1 : 0 ≤ y ∧ y ≤ whoI (spdM fc a) (spdM fc b)) (h2 : othM (spdM fc a) (spdM fc b) k = othS (othQ (spdM fc a) (spdM fc b) (whoI (spdM fc a) (spdM fc b)) k) (whoI (spdM fc a) (spdM fc b) - y).toNat y) (_ : (whoI (spdM fc a) (spdM fc b) - y).toNat < nf), V g x 0 0 (wMod g A th sq ac td lt ln cu tk sa ti ft fp le lf tr fl fm fi fc ff fw ftp fk fe fr) [some (.ref (A 0)), some (.int (iI a)), some (.int (iI b)), some (.int (iI k)), some (.int (iI (whoI (spdM fc a) (spdM fc b)))), some (.int (iI y)), none, none] 11 [] := by
    intro nf
    induction nf with
    | zero => intro y h1 h2 hmu; exact absurd hmu (Nat.not_lt_zero _)
    | succ nf ih11 =>
      intro y h1 h2 hmu
      refine v_iload X dX8_otherOf_11 rfl ?_
      refine v_iload X dX8_otherOf_13 rfl ?_
      refine v_icmp_ge (tgt := 101) X dX8_otherOf_15 (by decide) (by omega) (by omega) (fun c1 => ?_) (fun c1 => ?_)
      · skip
        refine v_ldc X (List.mem_of_getElem? (i := 1) rfl) dX8_otherOf_101 (n := -1000000) (by decide) ?_
        exact v_iret X Y dX8_otherOf_103 (u := ()) (by rw [h2, show (whoI (spdM fc a) (spdM fc b) - y).toNat = 0 by omega]; rfl) (by rfl)
      · skip
        have q6 := mul_bd q1 (show 0 ≤ y ∧ y ≤ 576 by omega)
        have q7 := mul_bd q2 (show 0 ≤ y ∧ y ≤ 576 by omega)
        refine v_aload_n X dX8_otherOf_18 rfl ?_
        refine v_iload_n X dX8_otherOf_19 rfl ?_
        refine res_E X (run_V X (c_X8_speed (g := g) (by first | assumption | omega) (by first | assumption | omega) (by first | assumption | omega)) gX8_otherOf_X8_speed rfl hdX8_speed ⟨(Nat.le_of_ble_eq_true rfl), (Nat.le_of_ble_eq_true rfl)⟩ ⟨(Nat.le_of_ble_eq_true rfl), (Nat.le_of_ble_eq_true rfl)⟩ 0 rfl rfl rfl [0, 1, 2, 3, 4, 5, 6, 7, 8, 9, 10] rfl rfl rfl rfl (by simp [Value.category]) dX8_otherOf_20) [0, 1, 2, 3, 4, 5, 6, 7, 8, 9, 10] rfl rfl ?_
        refine v_iload_n X dX8_otherOf_23 rfl ?_
        refine v_imul X dX8_otherOf_24 ?_
        refine v_aload_n X dX8_otherOf_25 rfl ?_
        refine v_iload_n X dX8_otherOf_26 rfl ?_
        refine res_E X (run_V X (c_X8_speed (g := g) (by first | assumption | omega) (by first | assumption | omega) (by first | assumption | omega)) gX8_otherOf_X8_speed rfl hdX8_speed ⟨(Nat.le_of_ble_eq_true rfl), (Nat.le_of_ble_eq_true rfl)⟩ ⟨(Nat.le_of_ble_eq_true rfl), (Nat.le_of_ble_eq_true rfl)⟩ 0 rfl rfl rfl [0, 1, 2, 3, 4, 5, 6, 7, 8, 9, 10] rfl rfl rfl rfl (by simp [Value.category]) dX8_otherOf_27) [0, 1, 2, 3, 4, 5, 6, 7, 8, 9, 10] rfl rfl ?_
        refine v_iload X dX8_otherOf_30 rfl ?_
        refine v_imul X dX8_otherOf_32 ?_
        refine v_isub X dX8_otherOf_33 ?_
        refine v_iload X dX8_otherOf_34 rfl ?_
        refine v_irem X dX8_otherOf_36 (by omega) (by omega) (by omega) ?_
        refine v_if_ne (tgt := 44) X dX8_otherOf_37 (by decide) (by exact tmod_r (by omega)) (fun c2 => ?_) (fun c2 => ?_)
        · skip
          refine v_iconst X dX8_otherOf_44 ?_
          refine v_istore X dX8_otherOf_45 (by decide) rfl ?_
          dsimp only [List.set]
          refine v_aload_n X dX8_otherOf_47 rfl ?_
          refine v_iload_n X dX8_otherOf_48 rfl ?_
          refine res_E X (run_V X (c_X8_speed (g := g) (by first | assumption | omega) (by first | assumption | omega) (by first | assumption | omega)) gX8_otherOf_X8_speed rfl hdX8_speed ⟨(Nat.le_of_ble_eq_true rfl), (Nat.le_of_ble_eq_true rfl)⟩ ⟨(Nat.le_of_ble_eq_true rfl), (Nat.le_of_ble_eq_true rfl)⟩ 0 rfl rfl rfl [0, 1, 2, 3, 4, 5, 6, 7, 8, 9, 10] rfl rfl rfl rfl (by simp [Value.category]) dX8_otherOf_49) [0, 1, 2, 3, 4, 5, 6, 7, 8, 9, 10] rfl rfl ?_
          refine v_iload_n X dX8_otherOf_52 rfl ?_
          refine v_imul X dX8_otherOf_53 ?_
          refine v_aload_n X dX8_otherOf_54 rfl ?_
          refine v_iload_n X dX8_otherOf_55 rfl ?_
          refine res_E X (run_V X (c_X8_speed (g := g) (by first | assumption | omega) (by first | assumption | omega) (by first | assumption | omega)) gX8_otherOf_X8_speed rfl hdX8_speed ⟨(Nat.le_of_ble_eq_true rfl), (Nat.le_of_ble_eq_true rfl)⟩ ⟨(Nat.le_of_ble_eq_true rfl), (Nat.le_of_ble_eq_true rfl)⟩ 0 rfl rfl rfl [0, 1, 2, 3, 4, 5, 6, 7, 8, 9, 10] rfl rfl rfl rfl (by simp [Value.category]) dX8_otherOf_56) [0, 1, 2, 3, 4, 5, 6, 7, 8, 9, 10] rfl rfl ?_
          refine v_iload X dX8_otherOf_59 rfl ?_
          refine v_imul X dX8_otherOf_61 ?_
          refine v_isub X dX8_otherOf_62 ?_
          refine v_iload X dX8_otherOf_63 rfl ?_
          refine v_irem X dX8_otherOf_65 (by omega) (by omega) (by omega) ?_
          refine v_if_ne (tgt := 73) X dX8_otherOf_66 (by decide) (by exact tmod_r (by omega)) (fun c3 => ?_) (fun c3 => ?_)
          · skip
            refine v_iconst X dX8_otherOf_73 ?_
            refine v_istore X dX8_otherOf_74 (by decide) rfl ?_
            dsimp only [List.set]
            refine v_iload X dX8_otherOf_76 rfl ?_
            refine v_iload_n X dX8_otherOf_78 rfl ?_
            refine v_icmp_eq (tgt := 95) X dX8_otherOf_79 (by decide) (by omega) (by omega) (fun c4 => ?_) (fun c4 => ?_)
            · skip
              refine v_iinc X dX8_otherOf_95 rfl (by decide) rfl ?_
              dsimp only [List.set]
              refine v_goto (tgt := 11) X dX8_otherOf_98 (by decide) ?_
              refine v_drop 6 ?_
              dsimp only [List.set]
              refine v_drop 7 ?_
              dsimp only [List.set]
              exact ih11 _ (by omega) (by rw [h2, othS_s (by omega), if_neg (by unfold othQ; rw [decide_eq_true_eq]; omega)]) (by omega)
            · skip
              refine v_iload X dX8_otherOf_82 rfl ?_
              refine v_if_eq (tgt := 95) X dX8_otherOf_84 (by decide) (by omega) (fun c5 => ?_) (fun c5 => ?_)
              · skip
                refine v_iinc X dX8_otherOf_95 rfl (by decide) rfl ?_
                dsimp only [List.set]
                refine v_goto (tgt := 11) X dX8_otherOf_98 (by decide) ?_
                refine v_drop 6 ?_
                dsimp only [List.set]
                refine v_drop 7 ?_
                dsimp only [List.set]
                exact ih11 _ (by omega) (by rw [h2, othS_s (by omega), if_neg (by unfold othQ; rw [decide_eq_true_eq]; omega)]) (by omega)
              · skip
                refine v_iload X dX8_otherOf_87 rfl ?_
                refine v_if_eq (tgt := 95) X dX8_otherOf_89 (by decide) (by omega) (fun c6 => ?_) (fun c6 => ?_)
                · skip
                  refine v_iinc X dX8_otherOf_95 rfl (by decide) rfl ?_
                  dsimp only [List.set]
                  refine v_goto (tgt := 11) X dX8_otherOf_98 (by decide) ?_
                  refine v_drop 6 ?_
                  dsimp only [List.set]
                  refine v_drop 7 ?_
                  dsimp only [List.set]
                  exact ih11 _ (by omega) (by rw [h2, othS_s (by omega), if_neg (by unfold othQ; rw [decide_eq_true_eq]; omega)]) (by omega)
                · skip
                  refine v_iload X dX8_otherOf_92 rfl ?_
                  exact v_iret X Y dX8_otherOf_94 (u := ()) (by rw [h2, othS_s (by omega), if_pos (by unfold othQ; rw [decide_eq_true_eq]; omega)]) (by rfl)
          · skip
            refine v_iconst X dX8_otherOf_69 ?_
            refine v_goto (tgt := 74) X dX8_otherOf_70 (by decide) ?_
            refine v_istore X dX8_otherOf_74 (by decide) rfl ?_
            dsimp only [List.set]
            refine v_iload X dX8_otherOf_76 rfl ?_
            refine v_iload_n X dX8_otherOf_78 rfl ?_
            refine v_icmp_eq (tgt := 95) X dX8_otherOf_79 (by decide) (by omega) (by omega) (fun c7 => ?_) (fun c7 => ?_)
            · skip
              refine v_iinc X dX8_otherOf_95 rfl (by decide) rfl ?_
              dsimp only [List.set]
              refine v_goto (tgt := 11) X dX8_otherOf_98 (by decide) ?_
              refine v_drop 6 ?_
              dsimp only [List.set]
              refine v_drop 7 ?_
              dsimp only [List.set]
              exact ih11 _ (by omega) (by rw [h2, othS_s (by omega), if_neg (by unfold othQ; rw [decide_eq_true_eq]; omega)]) (by omega)
            · skip
              refine v_iload X dX8_otherOf_82 rfl ?_
              refine v_if_eq (tgt := 95) X dX8_otherOf_84 (by decide) (by omega) (fun c8 => ?_) (fun c8 => ?_)
              · skip
                refine v_iinc X dX8_otherOf_95 rfl (by decide) rfl ?_
                dsimp only [List.set]
                refine v_goto (tgt := 11) X dX8_otherOf_98 (by decide) ?_
                refine v_drop 6 ?_
                dsimp only [List.set]
                refine v_drop 7 ?_
                dsimp only [List.set]
                exact ih11 _ (by omega) (by rw [h2, othS_s (by omega), if_neg (by unfold othQ; rw [decide_eq_true_eq]; omega)]) (by omega)
              · skip
                refine v_iload X dX8_otherOf_87 rfl ?_
                refine v_if_eq (tgt := 95) X dX8_otherOf_89 (by decide) (by omega) (fun c9 => ?_) (fun c9 => ?_)
                · skip
                  refine v_iinc X dX8_otherOf_95 rfl (by decide) rfl ?_
                  dsimp only [List.set]
                  refine v_goto (tgt := 11) X dX8_otherOf_98 (by decide) ?_
                  refine v_drop 6 ?_
                  dsimp only [List.set]
                  refine v_drop 7 ?_
                  dsimp only [List.set]
                  exact ih11 _ (by omega) (by rw [h2, othS_s (by omega), if_neg (by unfold othQ; rw [decide_eq_true_eq]; omega)]) (by omega)
                · skip
                  refine v_iload X dX8_otherOf_92 rfl ?_
                  exact v_iret X Y dX8_otherOf_94 (u := ()) (by rw [h2, othS_s (by omega), if_pos (by unfold othQ; rw [decide_eq_true_eq]; omega)]) (by rfl)
        · skip
          refine v_iconst X dX8_otherOf_40 ?_
          refine v_goto (tgt := 45) X dX8_otherOf_41 (by decide) ?_
          refine v_istore X dX8_otherOf_45 (by decide) rfl ?_
          dsimp only [List.set]
          refine v_aload_n X dX8_otherOf_47 rfl ?_
          refine v_iload_n X dX8_otherOf_48 rfl ?_
          refine res_E X (run_V X (c_X8_speed (g := g) (by first | assumption | omega) (by first | assumption | omega) (by first | assumption | omega)) gX8_otherOf_X8_speed rfl hdX8_speed ⟨(Nat.le_of_ble_eq_true rfl), (Nat.le_of_ble_eq_true rfl)⟩ ⟨(Nat.le_of_ble_eq_true rfl), (Nat.le_of_ble_eq_true rfl)⟩ 0 rfl rfl rfl [0, 1, 2, 3, 4, 5, 6, 7, 8, 9, 10] rfl rfl rfl rfl (by simp [Value.category]) dX8_otherOf_49) [0, 1, 2, 3, 4, 5, 6, 7, 8, 9, 10] rfl rfl ?_
          refine v_iload_n X dX8_otherOf_52 rfl ?_
          refine v_imul X dX8_otherOf_53 ?_
          refine v_aload_n X dX8_otherOf_54 rfl ?_
          refine v_iload_n X dX8_otherOf_55 rfl ?_
          refine res_E X (run_V X (c_X8_speed (g := g) (by first | assumption | omega) (by first | assumption | omega) (by first | assumption | omega)) gX8_otherOf_X8_speed rfl hdX8_speed ⟨(Nat.le_of_ble_eq_true rfl), (Nat.le_of_ble_eq_true rfl)⟩ ⟨(Nat.le_of_ble_eq_true rfl), (Nat.le_of_ble_eq_true rfl)⟩ 0 rfl rfl rfl [0, 1, 2, 3, 4, 5, 6, 7, 8, 9, 10] rfl rfl rfl rfl (by simp [Value.category]) dX8_otherOf_56) [0, 1, 2, 3, 4, 5, 6, 7, 8, 9, 10] rfl rfl ?_
          refine v_iload X dX8_otherOf_59 rfl ?_
          refine v_imul X dX8_otherOf_61 ?_
          refine v_isub X dX8_otherOf_62 ?_
          refine v_iload X dX8_otherOf_63 rfl ?_
          refine v_irem X dX8_otherOf_65 (by omega) (by omega) (by omega) ?_
          refine v_if_ne (tgt := 73) X dX8_otherOf_66 (by decide) (by exact tmod_r (by omega)) (fun c10 => ?_) (fun c10 => ?_)
          · skip
            refine v_iconst X dX8_otherOf_73 ?_
            refine v_istore X dX8_otherOf_74 (by decide) rfl ?_
            dsimp only [List.set]
            refine v_iload X dX8_otherOf_76 rfl ?_
            refine v_iload_n X dX8_otherOf_78 rfl ?_
            refine v_icmp_eq (tgt := 95) X dX8_otherOf_79 (by decide) (by omega) (by omega) (fun c11 => ?_) (fun c11 => ?_)
            · skip
              refine v_iinc X dX8_otherOf_95 rfl (by decide) rfl ?_
              dsimp only [List.set]
              refine v_goto (tgt := 11) X dX8_otherOf_98 (by decide) ?_
              refine v_drop 6 ?_
              dsimp only [List.set]
              refine v_drop 7 ?_
              dsimp only [List.set]
              exact ih11 _ (by omega) (by rw [h2, othS_s (by omega), if_neg (by unfold othQ; rw [decide_eq_true_eq]; omega)]) (by omega)
            · skip
              refine v_iload X dX8_otherOf_82 rfl ?_
              refine v_if_eq (tgt := 95) X dX8_otherOf_84 (by decide) (by omega) (fun c12 => ?_) (fun c12 => ?_)
              · skip
                refine v_iinc X dX8_otherOf_95 rfl (by decide) rfl ?_
                dsimp only [List.set]
                refine v_goto (tgt := 11) X dX8_otherOf_98 (by decide) ?_
                refine v_drop 6 ?_
                dsimp only [List.set]
                refine v_drop 7 ?_
                dsimp only [List.set]
                exact ih11 _ (by omega) (by rw [h2, othS_s (by omega), if_neg (by unfold othQ; rw [decide_eq_true_eq]; omega)]) (by omega)
              · skip
                refine v_iload X dX8_otherOf_87 rfl ?_
                refine v_if_eq (tgt := 95) X dX8_otherOf_89 (by decide) (by omega) (fun c13 => ?_) (fun c13 => ?_)
                · skip
                  refine v_iinc X dX8_otherOf_95 rfl (by decide) rfl ?_
                  dsimp only [List.set]
                  refine v_goto (tgt := 11) X dX8_otherOf_98 (by decide) ?_
                  refine v_drop 6 ?_
                  dsimp only [List.set]
                  refine v_drop 7 ?_
                  dsimp only [List.set]
                  exact ih11 _ (by omega) (by rw [h2, othS_s (by omega), if_neg (by unfold othQ; rw [decide_eq_true_eq]; omega)]) (by omega)
                · skip
                  refine v_iload X dX8_otherOf_92 rfl ?_
                  exact v_iret X Y dX8_otherOf_94 (u := ()) (by rw [h2, othS_s (by omega), if_pos (by unfold othQ; rw [decide_eq_true_eq]; omega)]) (by rfl)
          · skip
            refine v_iconst X dX8_otherOf_69 ?_
            refine v_goto (tgt := 74) X dX8_otherOf_70 (by decide) ?_
            refine v_istore X dX8_otherOf_74 (by decide) rfl ?_
            dsimp only [List.set]
            refine v_iload X dX8_otherOf_76 rfl ?_
            refine v_iload_n X dX8_otherOf_78 rfl ?_
            refine v_icmp_eq (tgt := 95) X dX8_otherOf_79 (by decide) (by omega) (by omega) (fun c14 => ?_) (fun c14 => ?_)
            · skip
              refine v_iinc X dX8_otherOf_95 rfl (by decide) rfl ?_
              dsimp only [List.set]
              refine v_goto (tgt := 11) X dX8_otherOf_98 (by decide) ?_
              refine v_drop 6 ?_
              dsimp only [List.set]
              refine v_drop 7 ?_
              dsimp only [List.set]
              exact ih11 _ (by omega) (by rw [h2, othS_s (by omega), if_neg (by unfold othQ; rw [decide_eq_true_eq]; omega)]) (by omega)
            · skip
              refine v_iload X dX8_otherOf_82 rfl ?_
              refine v_if_eq (tgt := 95) X dX8_otherOf_84 (by decide) (by omega) (fun c15 => ?_) (fun c15 => ?_)
              · skip
                refine v_iinc X dX8_otherOf_95 rfl (by decide) rfl ?_
                dsimp only [List.set]
                refine v_goto (tgt := 11) X dX8_otherOf_98 (by decide) ?_
                refine v_drop 6 ?_
                dsimp only [List.set]
                refine v_drop 7 ?_
                dsimp only [List.set]
                exact ih11 _ (by omega) (by rw [h2, othS_s (by omega), if_neg (by unfold othQ; rw [decide_eq_true_eq]; omega)]) (by omega)
              · skip
                refine v_iload X dX8_otherOf_87 rfl ?_
                refine v_if_eq (tgt := 95) X dX8_otherOf_89 (by decide) (by omega) (fun c16 => ?_) (fun c16 => ?_)
                · skip
                  refine v_iinc X dX8_otherOf_95 rfl (by decide) rfl ?_
                  dsimp only [List.set]
                  refine v_goto (tgt := 11) X dX8_otherOf_98 (by decide) ?_
                  refine v_drop 6 ?_
                  dsimp only [List.set]
                  refine v_drop 7 ?_
                  dsimp only [List.set]
                  exact ih11 _ (by omega) (by rw [h2, othS_s (by omega), if_neg (by unfold othQ; rw [decide_eq_true_eq]; omega)]) (by omega)
                · skip
                  refine v_iload X dX8_otherOf_92 rfl ?_
                  exact v_iret X Y dX8_otherOf_94 (u := ()) (by rw [h2, othS_s (by omega), if_pos (by unfold othQ; rw [decide_eq_true_eq]; omega)]) (by rfl)
  exact L11 _ _ (by omega) (by rw [Int.sub_zero]; rfl) (Nat.lt_succ_self _)

theorem hdX8_doubts : yX8_doubts.cls = RX8 ∧ yX8_doubts.cls ≠ "java/lang/invoke/MethodHandle" ∧ yX8_doubts.cls ≠ "java/lang/invoke/VarHandle" ∧ (parseMethodDescriptor yX8_doubts.desc).map (fun d => d.parameters.length) = some 2 := ⟨rfl, by decide +kernel, by decide +kernel, by decide +kernel⟩
set_option maxHeartbeats 4000000 in
set_option maxRecDepth 100000 in
theorem c_X8_doubts {g : Gx} {A : Nat → Nat} {th sq ac td lt ln cu tk sa ti ft fp le lf tr : Int} {fl fm fi fc ff fw ftp fk fe fr : Nat → Int} {a b : Int} (hfc : Bd 0 60 fc) (hc1 : 0 ≤ fc 1 ∧ fc 1 ≤ 4) (ht3 : Bd 0 12 (tM fc)) (ha : R32 a) (hb : R32 b) : CtE g yX8_doubts wsX8_doubts 4 92 [.ref (A 0), .int (iI a), .int (iI b)] (wMod g A th sq ac td lt ln cu tk sa ti ft fp le lf tr fl fm fi fc ff fw ftp fk fe fr) (if (0 ≤ a ∧ a < fc 1) ∧ (0 ≤ b ∧ b < fc 1) ∧ a ≠ b then (if whoI (spdM fc a) (spdM fc b) = 0 then -1000000 else cntN (fun k => decide (othM (spdM fc a) (spdM fc b) k ≠ -1000000)) (whoI (spdM fc a) (spdM fc b)).toNat) else -1000001) (wMod g A (0) sq ac td lt ln cu tk sa ti ft fp le lf tr fl fm fi fc ff fw ftp fk fe fr) := by
  refine m_go (cc := cX8_doubts) (nL := 6) (by decide +kernel) rfl (Nat.le_of_ble_eq_true rfl) (fun x X Y hnm => ?_)
  refine v_eq (lo2 := [some (.ref (A 0)), some (.int (iI a)), some (.int (iI b)), none, none, none]) rfl rfl rfl rfl ?_
  have q1 := spdM_bd (fc := fc) (h := a) ht3
  have q2 := spdM_bd (fc := fc) (h := b) ht3
  have q3 := whoI_bd q1 q2
  have qm := fun (i : Int) => othM_bd (x := i) q3
  refine v_aload_n X dX8_doubts_0 rfl ?_
  refine v_iconst X dX8_doubts_1 ?_
  refine v_put X (fun _ h => List.mem_cons_of_mem _ (List.mem_append_right _ h)) tyX8 tyX8_ok nmX8 0 rfl rfl 0 (by decide) rfl (List.mem_of_getElem? (i := 1) rfl) rfl rfl rfl (Nat.le_of_ble_eq_true rfl) dX8_doubts_2 ?_
  dsimp only [List.set, wMod]
  refine v_aload_n X dX8_doubts_5 rfl ?_
  refine v_iload_n X dX8_doubts_6 rfl ?_
  refine v_iload_n X dX8_doubts_7 rfl ?_
  refine res_E X (run_V X (c_X8_areTwo (g := g) (by first | assumption | omega) (by first | assumption | omega) (by first | assumption | omega)) gX8_doubts_X8_areTwo rfl hdX8_areTwo ⟨(Nat.le_of_ble_eq_true rfl), (Nat.le_of_ble_eq_true rfl)⟩ ⟨(Nat.le_of_ble_eq_true rfl), (Nat.le_of_ble_eq_true rfl)⟩ 0 rfl rfl rfl [0, 1, 2, 3, 4, 5, 6, 7, 8, 9, 10] rfl rfl rfl rfl (by simp [Value.category]) dX8_doubts_8) [0, 1, 2, 3, 4, 5, 6, 7, 8, 9, 10] rfl rfl ?_
  refine v_ifb_ne (tgt := 17) X dX8_doubts_11 (by decide) (fun c1 => ?_) (fun c1 => ?_)
  · skip
    refine v_aload_n X dX8_doubts_17 rfl ?_
    refine v_iload_n X dX8_doubts_18 rfl ?_
    refine v_iload_n X dX8_doubts_19 rfl ?_
    have g1 : (0 ≤ a ∧ a < fc 1) ∧ (0 ≤ b ∧ b < fc 1) ∧ a ≠ b := (by omega)
    refine res_E X (run_V X (c_X8_partsOf (g := g) (by first | assumption | omega) (by first | assumption | omega) (by first | assumption | omega) (by first | assumption | omega) (by first | assumption | omega)) gX8_doubts_X8_partsOf rfl hdX8_partsOf ⟨(Nat.le_of_ble_eq_true rfl), (Nat.le_of_ble_eq_true rfl)⟩ ⟨(Nat.le_of_ble_eq_true rfl), (Nat.le_of_ble_eq_true rfl)⟩ 0 rfl rfl rfl [0, 1, 2, 3, 4, 5, 6, 7, 8, 9, 10] rfl rfl rfl rfl (by simp [Value.category]) dX8_doubts_20) [0, 1, 2, 3, 4, 5, 6, 7, 8, 9, 10] rfl rfl ?_
    refine v_istore_n X dX8_doubts_23 3 rfl (by decide) rfl ?_
    dsimp only [List.set]
    refine v_iconst X dX8_doubts_24 ?_
    refine v_istore X dX8_doubts_25 (by decide) rfl ?_
    dsimp only [List.set]
    refine v_iconst X dX8_doubts_27 ?_
    refine v_istore X dX8_doubts_28 (by decide) rfl ?_
    dsimp only [List.set]
    have L30 : ∀ (nf : Nat) (n : Int) (k : Int) (h1 : 0 ≤ k ∧ k ≤ whoI (spdM fc a) (spdM fc b)) (h2 : n = cntN (fun k => decide (othM (spdM fc a) (spdM fc b) k ≠ -1000000)) k.toNat) (h3 : 0 ≤ n ∧ n ≤ k) (_ : (whoI (spdM fc a) (spdM fc b) - k).toNat < nf), V g x 0 0 (wMod g A (0) sq ac td lt ln cu tk sa ti ft fp le lf tr fl fm fi fc ff fw ftp fk fe fr) [some (.ref (A 0)), some (.int (iI a)), some (.int (iI b)), some (.int (iI (whoI (spdM fc a) (spdM fc b)))), some (.int (iI n)), some (.int (iI k))] 30 [] := by
      intro nf
      induction nf with
      | zero => intro n k h1 h2 h3 hmu; exact absurd hmu (Nat.not_lt_zero _)
      | succ nf ih30 =>
        intro n k h1 h2 h3 hmu
        refine v_iload X dX8_doubts_30 rfl ?_
        refine v_iload_n X dX8_doubts_32 rfl ?_
        refine v_icmp_ge (tgt := 65) X dX8_doubts_33 (by decide) (by first | omega | (split <;> omega)) (by first | omega | (split <;> omega)) (fun c2 => ?_) (fun c2 => ?_)
        · skip
          refine v_iload_n X dX8_doubts_65 rfl ?_
          refine v_if_ne (tgt := 74) X dX8_doubts_66 (by decide) (by first | omega | (split <;> omega)) (fun c3 => ?_) (fun c3 => ?_)
          · skip
            refine v_iload X dX8_doubts_74 rfl ?_
            exact v_iret X Y dX8_doubts_76 (u := ()) (by
                rw [if_pos g1]; have e : k = whoI (spdM fc a) (spdM fc b) := by omega
                first | rw [if_pos (by assumption)] | rw [if_neg (by assumption), h2, e]) (by rfl)
          · skip
            refine v_ldc X (List.mem_of_getElem? (i := 3) rfl) dX8_doubts_69 (n := -1000000) (by decide) ?_
            refine v_goto (tgt := 76) X dX8_doubts_71 (by decide) ?_
            exact v_iret X Y dX8_doubts_76 (u := ()) (by
                rw [if_pos g1]; have e : k = whoI (spdM fc a) (spdM fc b) := by omega
                first | rw [if_pos (by assumption)] | rw [if_neg (by assumption), h2, e]) (by rfl)
        · skip
          refine v_iload X dX8_doubts_36 rfl ?_
          refine v_aload_n X dX8_doubts_38 rfl ?_
          refine v_iload_n X dX8_doubts_39 rfl ?_
          refine v_iload_n X dX8_doubts_40 rfl ?_
          refine v_iload X dX8_doubts_41 rfl ?_
          refine res_E X (run_V X (c_X8_otherOf (g := g) (by first | assumption | omega) (by first | assumption | omega) (by first | assumption | omega) (by first | assumption | omega) (by first | assumption | omega) (by first | assumption | omega)) gX8_doubts_X8_otherOf rfl hdX8_otherOf ⟨(Nat.le_of_ble_eq_true rfl), (Nat.le_of_ble_eq_true rfl)⟩ ⟨(Nat.le_of_ble_eq_true rfl), (Nat.le_of_ble_eq_true rfl)⟩ 0 rfl rfl rfl [0, 1, 2, 3, 4, 5, 6, 7, 8, 9, 10] rfl rfl rfl rfl (by simp [Value.category]) dX8_doubts_43) [0, 1, 2, 3, 4, 5, 6, 7, 8, 9, 10] rfl rfl ?_
          refine v_ldc X (List.mem_of_getElem? (i := 3) rfl) dX8_doubts_46 (n := -1000000) (by decide) ?_
          refine v_icmp_eq (tgt := 55) X dX8_doubts_48 (by decide) (by have := qm k; omega) (by omega) (fun c4 => ?_) (fun c4 => ?_)
          · skip
            refine v_iconst X dX8_doubts_55 ?_
            refine v_iadd X dX8_doubts_56 ?_
            refine v_istore X dX8_doubts_57 (by decide) rfl ?_
            dsimp only [List.set]
            refine v_iinc X dX8_doubts_59 rfl (by decide) rfl ?_
            dsimp only [List.set]
            refine v_goto (tgt := 30) X dX8_doubts_62 (by decide) ?_
            exact ih30 _ _ (by omega) (by rw [cntN_s h1.1]; simp only [decide_eq_true_eq]; rw [show ((k.toNat : Nat) : Int) = k by omega]; split <;> omega) (by omega) (by omega)
          · skip
            refine v_iconst X dX8_doubts_51 ?_
            refine v_goto (tgt := 56) X dX8_doubts_52 (by decide) ?_
            refine v_iadd X dX8_doubts_56 ?_
            refine v_istore X dX8_doubts_57 (by decide) rfl ?_
            dsimp only [List.set]
            refine v_iinc X dX8_doubts_59 rfl (by decide) rfl ?_
            dsimp only [List.set]
            refine v_goto (tgt := 30) X dX8_doubts_62 (by decide) ?_
            exact ih30 _ _ (by omega) (by rw [cntN_s h1.1]; simp only [decide_eq_true_eq]; rw [show ((k.toNat : Nat) : Int) = k by omega]; split <;> omega) (by omega) (by omega)
    exact L30 _ _ _ (by omega) (by rfl) (by omega) (Nat.lt_succ_self _)
  · skip
    refine v_ldc X (List.mem_of_getElem? (i := 2) rfl) dX8_doubts_14 (n := -1000001) (by decide) ?_
    exact v_iret X Y dX8_doubts_16 (u := ()) (by rw [if_neg (by omega)]) (by rfl)

theorem hdX8_doubt : yX8_doubt.cls = RX8 ∧ yX8_doubt.cls ≠ "java/lang/invoke/MethodHandle" ∧ yX8_doubt.cls ≠ "java/lang/invoke/VarHandle" ∧ (parseMethodDescriptor yX8_doubt.desc).map (fun d => d.parameters.length) = some 4 := ⟨rfl, by decide +kernel, by decide +kernel, by decide +kernel⟩
set_option maxHeartbeats 4000000 in
set_option maxRecDepth 100000 in
theorem c_X8_doubt {g : Gx} {A : Nat → Nat} {th sq ac td lt ln cu tk sa ti ft fp le lf tr : Int} {fl fm fi fc ff fw ftp fk fe fr : Nat → Int} {a b i w : Int} (hfc : Bd 0 60 fc) (hc1 : 0 ≤ fc 1 ∧ fc 1 ≤ 4) (ht3 : Bd 0 12 (tM fc)) (ha : R32 a) (hb : R32 b) (hi : R32 i) (hw : R32 w) : CtI (S := Unit) g yX8_doubt wsX8_doubt 4 92 [.ref (A 0), .int (iI a), .int (iI b), .int (iI i), .int (iI w)] (wMod g A th sq ac td lt ln cu tk sa ti ft fp le lf tr fl fm fi fc ff fw ftp fk fe fr) (fun v _ => (¬ (((0 ≤ a ∧ a < fc 1) ∧ (0 ≤ b ∧ b < fc 1) ∧ a ≠ b) ∧ 0 ≤ i ∧ 0 ≤ w ∧ w ≤ 3) ∧ v = -1000001) ∨ ((((0 ≤ a ∧ a < fc 1) ∧ (0 ≤ b ∧ b < fc 1) ∧ a ≠ b) ∧ 0 ≤ i ∧ 0 ≤ w ∧ w ≤ 3) ∧ ((∃ k : Int, 0 ≤ k ∧ k < whoI (spdM fc a) (spdM fc b) ∧ othM (spdM fc a) (spdM fc b) k ≠ -1000000 ∧ cntN (fun k => decide (othM (spdM fc a) (spdM fc b) k ≠ -1000000)) k.toNat = i ∧ v = (if w < 2 then toldI k (whoI (spdM fc a) (spdM fc b)) w else toldI (othM (spdM fc a) (spdM fc b) k) (whoI (spdM fc a) (spdM fc b)) (w - 2))) ∨ (cntN (fun k => decide (othM (spdM fc a) (spdM fc b) k ≠ -1000000)) (whoI (spdM fc a) (spdM fc b)).toNat ≤ i ∧ v = -1000000)))) (fun _ => wMod g A (0) sq ac td lt ln cu tk sa ti ft fp le lf tr fl fm fi fc ff fw ftp fk fe fr) := by
  refine m_go (cc := cX8_doubt) (nL := 9) (by decide +kernel) rfl (Nat.le_of_ble_eq_true rfl) (fun x X Y hnm => ?_)
  refine v_eq (lo2 := [some (.ref (A 0)), some (.int (iI a)), some (.int (iI b)), some (.int (iI i)), some (.int (iI w)), none, none, none, none]) rfl rfl rfl rfl ?_
  have q1 := spdM_bd (fc := fc) (h := a) ht3
  have q2 := spdM_bd (fc := fc) (h := b) ht3
  have q3 := whoI_bd q1 q2
  have qm := fun (i : Int) => othM_bd (x := i) q3
  refine v_aload_n X dX8_doubt_0 rfl ?_
  refine v_iconst X dX8_doubt_1 ?_
  refine v_put X (fun _ h => List.mem_cons_of_mem _ (List.mem_append_right _ h)) tyX8 tyX8_ok nmX8 0 rfl rfl 0 (by decide) rfl (List.mem_of_getElem? (i := 1) rfl) rfl rfl rfl (Nat.le_of_ble_eq_true rfl) dX8_doubt_2 ?_
  dsimp only [List.set, wMod]
  refine v_aload_n X dX8_doubt_5 rfl ?_
  refine v_iload_n X dX8_doubt_6 rfl ?_
  refine v_iload_n X dX8_doubt_7 rfl ?_
  refine res_E X (run_V X (c_X8_areTwo (g := g) (by first | assumption | omega) (by first | assumption | omega) (by first | assumption | omega)) gX8_doubt_X8_areTwo rfl hdX8_areTwo ⟨(Nat.le_of_ble_eq_true rfl), (Nat.le_of_ble_eq_true rfl)⟩ ⟨(Nat.le_of_ble_eq_true rfl), (Nat.le_of_ble_eq_true rfl)⟩ 0 rfl rfl rfl [0, 1, 2, 3, 4, 5, 6, 7, 8, 9, 10] rfl rfl rfl rfl (by simp [Value.category]) dX8_doubt_8) [0, 1, 2, 3, 4, 5, 6, 7, 8, 9, 10] rfl rfl ?_
  refine v_ifb_eq (tgt := 31) X dX8_doubt_11 (by decide) (fun c1 => ?_) (fun c1 => ?_)
  · skip
    refine v_ldc X (List.mem_of_getElem? (i := 3) rfl) dX8_doubt_31 (n := -1000001) (by decide) ?_
    refine v_iret X Y dX8_doubt_33 (u := ()) ?_ rfl
    exact Or.inl ⟨(by omega), rfl⟩
  · skip
    refine v_iload_n X dX8_doubt_14 rfl ?_
    refine v_if_lt (tgt := 31) X dX8_doubt_15 (by decide) (by first | omega | (split <;> omega)) (fun c2 => ?_) (fun c2 => ?_)
    · skip
      refine v_ldc X (List.mem_of_getElem? (i := 3) rfl) dX8_doubt_31 (n := -1000001) (by decide) ?_
      refine v_iret X Y dX8_doubt_33 (u := ()) ?_ rfl
      exact Or.inl ⟨(by omega), rfl⟩
    · skip
      refine v_iload X dX8_doubt_18 rfl ?_
      refine v_i2l X dX8_doubt_20 (by first | omega | (split <;> omega)) ?_
      refine v_lconst0 X dX8_doubt_21 ?_
      refine v_ldc2 X (List.mem_of_getElem? (i := 2) rfl) dX8_doubt_22 (n := 3) (by decide) ?_
      refine res_E X (run_S X (c_X8_in (g := g) (by first | assumption | omega) (by first | assumption | omega) (by first | assumption | omega)) gX8_doubt_X8_in rfl hdX8_in.2 ⟨(Nat.le_of_ble_eq_true rfl), (Nat.le_of_ble_eq_true rfl)⟩ ⟨(Nat.le_of_ble_eq_true rfl), (Nat.le_of_ble_eq_true rfl)⟩ [] rfl rfl rfl rfl (by simp [Value.category]) dX8_doubt_25) [] rfl rfl ?_
      refine v_ifb_ne (tgt := 34) X dX8_doubt_28 (by decide) (fun c3 => ?_) (fun c3 => ?_)
      · skip
        refine v_aload_n X dX8_doubt_34 rfl ?_
        refine v_iload_n X dX8_doubt_35 rfl ?_
        refine v_iload_n X dX8_doubt_36 rfl ?_
        have g1 : ((0 ≤ a ∧ a < fc 1) ∧ (0 ≤ b ∧ b < fc 1) ∧ a ≠ b) ∧ 0 ≤ i ∧ 0 ≤ w ∧ w ≤ 3 := (by omega)
        refine res_E X (run_V X (c_X8_partsOf (g := g) (by first | assumption | omega) (by first | assumption | omega) (by first | assumption | omega) (by first | assumption | omega) (by first | assumption | omega)) gX8_doubt_X8_partsOf rfl hdX8_partsOf ⟨(Nat.le_of_ble_eq_true rfl), (Nat.le_of_ble_eq_true rfl)⟩ ⟨(Nat.le_of_ble_eq_true rfl), (Nat.le_of_ble_eq_true rfl)⟩ 0 rfl rfl rfl [0, 1, 2, 3, 4, 5, 6, 7, 8, 9, 10] rfl rfl rfl rfl (by simp [Value.category]) dX8_doubt_37) [0, 1, 2, 3, 4, 5, 6, 7, 8, 9, 10] rfl rfl ?_
        refine v_istore X dX8_doubt_40 (by decide) rfl ?_
        dsimp only [List.set]
        refine v_iload_n X dX8_doubt_42 rfl ?_
        refine v_istore X dX8_doubt_43 (by decide) rfl ?_
        dsimp only [List.set]
        refine v_iconst X dX8_doubt_45 ?_
        refine v_istore X dX8_doubt_46 (by decide) rfl ?_
        dsimp only [List.set]
        have L48 : ∀ (nf : Nat) (l : Int) (k : Int) (h1 : 0 ≤ k ∧ k ≤ whoI (spdM fc a) (spdM fc b)) (h2 : i - l = cntN (fun k => decide (othM (spdM fc a) (spdM fc b) k ≠ -1000000)) k.toNat) (h3 : 0 ≤ l ∧ l ≤ i) (_ : (whoI (spdM fc a) (spdM fc b) - k).toNat < nf), V g x 0 0 (wMod g A (0) sq ac td lt ln cu tk sa ti ft fp le lf tr fl fm fi fc ff fw ftp fk fe fr) [some (.ref (A 0)), some (.int (iI a)), some (.int (iI b)), some (.int (iI i)), some (.int (iI w)), some (.int (iI (whoI (spdM fc a) (spdM fc b)))), some (.int (iI l)), some (.int (iI k)), none] 48 [] := by
          intro nf
          induction nf with
          | zero => intro l k h1 h2 h3 hmu; exact absurd hmu (Nat.not_lt_zero _)
          | succ nf ih48 =>
            intro l k h1 h2 h3 hmu
            refine v_iload X dX8_doubt_48 rfl ?_
            refine v_iload X dX8_doubt_50 rfl ?_
            refine v_icmp_ge (tgt := 130) X dX8_doubt_52 (by decide) (by first | omega | (split <;> omega)) (by first | omega | (split <;> omega)) (fun c4 => ?_) (fun c4 => ?_)
            · skip
              refine v_ldc X (List.mem_of_getElem? (i := 4) rfl) dX8_doubt_130 (n := -1000000) (by decide) ?_
              refine v_iret X Y dX8_doubt_132 (u := ()) ?_ rfl
              have e : k = whoI (spdM fc a) (spdM fc b) := by omega
              exact Or.inr ⟨g1, Or.inr ⟨by rw [← e]; omega, rfl⟩⟩
            · skip
              refine v_aload_n X dX8_doubt_55 rfl ?_
              refine v_iload_n X dX8_doubt_56 rfl ?_
              refine v_iload_n X dX8_doubt_57 rfl ?_
              refine v_iload X dX8_doubt_58 rfl ?_
              refine res_E X (run_V X (c_X8_otherOf (g := g) (by first | assumption | omega) (by first | assumption | omega) (by first | assumption | omega) (by first | assumption | omega) (by first | assumption | omega) (by first | assumption | omega)) gX8_doubt_X8_otherOf rfl hdX8_otherOf ⟨(Nat.le_of_ble_eq_true rfl), (Nat.le_of_ble_eq_true rfl)⟩ ⟨(Nat.le_of_ble_eq_true rfl), (Nat.le_of_ble_eq_true rfl)⟩ 0 rfl rfl rfl [0, 1, 2, 3, 4, 5, 6, 7, 8, 9, 10] rfl rfl rfl rfl (by simp [Value.category]) dX8_doubt_60) [0, 1, 2, 3, 4, 5, 6, 7, 8, 9, 10] rfl rfl ?_
              have q9 := qm k
              refine v_istore X dX8_doubt_63 (by decide) rfl ?_
              dsimp only [List.set]
              refine v_iload X dX8_doubt_65 rfl ?_
              refine v_ldc X (List.mem_of_getElem? (i := 4) rfl) dX8_doubt_67 (n := -1000000) (by decide) ?_
              refine v_icmp_eq (tgt := 107) X dX8_doubt_69 (by decide) (by have := qm k; omega) (by first | omega | (split <;> omega)) (fun c5 => ?_) (fun c5 => ?_)
              · skip
                refine v_iload X dX8_doubt_107 rfl ?_
                refine v_iload X dX8_doubt_109 rfl ?_
                refine v_ldc X (List.mem_of_getElem? (i := 4) rfl) dX8_doubt_111 (n := -1000000) (by decide) ?_
                refine v_icmp_eq (tgt := 120) X dX8_doubt_113 (by decide) (by have := qm k; omega) (by first | omega | (split <;> omega)) (fun c6 => ?_) (fun c6 => ?_)
                · skip
                  refine v_iconst X dX8_doubt_120 ?_
                  refine v_isub X dX8_doubt_121 ?_
                  refine v_istore X dX8_doubt_122 (by decide) rfl ?_
                  dsimp only [List.set]
                  refine v_iinc X dX8_doubt_124 rfl (by decide) rfl ?_
                  dsimp only [List.set]
                  refine v_goto (tgt := 48) X dX8_doubt_127 (by decide) ?_
                  refine v_drop 8 ?_
                  dsimp only [List.set]
                  exact ih48 _ _ (by omega) (by rw [cntN_s h1.1]; simp only [decide_eq_true_eq]; rw [show ((k.toNat : Nat) : Int) = k by omega]; split <;> omega) (by omega) (by omega)
                · skip
                  refine v_iconst X dX8_doubt_116 ?_
                  refine v_goto (tgt := 121) X dX8_doubt_117 (by decide) ?_
                  refine v_isub X dX8_doubt_121 ?_
                  refine v_istore X dX8_doubt_122 (by decide) rfl ?_
                  dsimp only [List.set]
                  refine v_iinc X dX8_doubt_124 rfl (by decide) rfl ?_
                  dsimp only [List.set]
                  refine v_goto (tgt := 48) X dX8_doubt_127 (by decide) ?_
                  refine v_drop 8 ?_
                  dsimp only [List.set]
                  exact ih48 _ _ (by omega) (by rw [cntN_s h1.1]; simp only [decide_eq_true_eq]; rw [show ((k.toNat : Nat) : Int) = k by omega]; split <;> omega) (by omega) (by omega)
              · skip
                refine v_iload X dX8_doubt_72 rfl ?_
                refine v_if_ne (tgt := 107) X dX8_doubt_74 (by decide) (by first | omega | (split <;> omega)) (fun c7 => ?_) (fun c7 => ?_)
                · skip
                  refine v_iload X dX8_doubt_107 rfl ?_
                  refine v_iload X dX8_doubt_109 rfl ?_
                  refine v_ldc X (List.mem_of_getElem? (i := 4) rfl) dX8_doubt_111 (n := -1000000) (by decide) ?_
                  refine v_icmp_eq (tgt := 120) X dX8_doubt_113 (by decide) (by have := qm k; omega) (by first | omega | (split <;> omega)) (fun c8 => ?_) (fun c8 => ?_)
                  · skip
                    refine v_iconst X dX8_doubt_120 ?_
                    refine v_isub X dX8_doubt_121 ?_
                    refine v_istore X dX8_doubt_122 (by decide) rfl ?_
                    dsimp only [List.set]
                    refine v_iinc X dX8_doubt_124 rfl (by decide) rfl ?_
                    dsimp only [List.set]
                    refine v_goto (tgt := 48) X dX8_doubt_127 (by decide) ?_
                    refine v_drop 8 ?_
                    dsimp only [List.set]
                    exact ih48 _ _ (by omega) (by rw [cntN_s h1.1]; simp only [decide_eq_true_eq]; rw [show ((k.toNat : Nat) : Int) = k by omega]; split <;> omega) (by omega) (by omega)
                  · skip
                    refine v_iconst X dX8_doubt_116 ?_
                    refine v_goto (tgt := 121) X dX8_doubt_117 (by decide) ?_
                    refine v_isub X dX8_doubt_121 ?_
                    refine v_istore X dX8_doubt_122 (by decide) rfl ?_
                    dsimp only [List.set]
                    refine v_iinc X dX8_doubt_124 rfl (by decide) rfl ?_
                    dsimp only [List.set]
                    refine v_goto (tgt := 48) X dX8_doubt_127 (by decide) ?_
                    refine v_drop 8 ?_
                    dsimp only [List.set]
                    exact ih48 _ _ (by omega) (by rw [cntN_s h1.1]; simp only [decide_eq_true_eq]; rw [show ((k.toNat : Nat) : Int) = k by omega]; split <;> omega) (by omega) (by omega)
                · skip
                  refine v_iload X dX8_doubt_77 rfl ?_
                  refine v_iconst X dX8_doubt_79 ?_
                  refine v_icmp_ge (tgt := 95) X dX8_doubt_80 (by decide) (by first | omega | (split <;> omega)) (by first | omega | (split <;> omega)) (fun c9 => ?_) (fun c9 => ?_)
                  · skip
                    refine v_iload X dX8_doubt_95 rfl ?_
                    refine v_iload X dX8_doubt_97 rfl ?_
                    refine v_iload X dX8_doubt_99 rfl ?_
                    refine v_iconst X dX8_doubt_101 ?_
                    refine v_isub X dX8_doubt_102 ?_
                    refine res_E X (run_S X (c_X8_told (g := g) (by first | assumption | omega) (by first | assumption | omega) (by first | assumption | omega) (by first | assumption | omega) (by first | assumption | omega)) gX8_doubt_X8_told rfl hdX8_told.2 ⟨(Nat.le_of_ble_eq_true rfl), (Nat.le_of_ble_eq_true rfl)⟩ ⟨(Nat.le_of_ble_eq_true rfl), (Nat.le_of_ble_eq_true rfl)⟩ [] rfl rfl rfl rfl (by simp [Value.category]) dX8_doubt_103) [] rfl rfl ?_
                    refine v_iret X Y dX8_doubt_106 (u := ()) ?_ rfl
                    exact Or.inr ⟨g1, Or.inl ⟨k, h1.1, by omega, by omega, by omega, by first | rw [if_pos (by assumption)] | rw [if_neg (by omega)]⟩⟩
                  · skip
                    refine v_iload X dX8_doubt_83 rfl ?_
                    refine v_iload X dX8_doubt_85 rfl ?_
                    refine v_iload X dX8_doubt_87 rfl ?_
                    refine res_E X (run_S X (c_X8_told (g := g) (by first | assumption | omega) (by first | assumption | omega) (by first | assumption | omega) (by first | assumption | omega) (by first | assumption | omega)) gX8_doubt_X8_told rfl hdX8_told.2 ⟨(Nat.le_of_ble_eq_true rfl), (Nat.le_of_ble_eq_true rfl)⟩ ⟨(Nat.le_of_ble_eq_true rfl), (Nat.le_of_ble_eq_true rfl)⟩ [] rfl rfl rfl rfl (by simp [Value.category]) dX8_doubt_89) [] rfl rfl ?_
                    refine v_goto (tgt := 106) X dX8_doubt_92 (by decide) ?_
                    refine v_iret X Y dX8_doubt_106 (u := ()) ?_ rfl
                    exact Or.inr ⟨g1, Or.inl ⟨k, h1.1, by omega, by omega, by omega, by first | rw [if_pos (by assumption)] | rw [if_neg (by omega)]⟩⟩
        exact L48 _ _ _ (by omega) (by rw [Int.sub_self]; rfl) (by omega) (Nat.lt_succ_self _)
      · skip
        refine v_ldc X (List.mem_of_getElem? (i := 3) rfl) dX8_doubt_31 (n := -1000001) (by decide) ?_
        refine v_iret X Y dX8_doubt_33 (u := ()) ?_ rfl
        exact Or.inl ⟨(by omega), rfl⟩

theorem hdX8_isDoubt : yX8_isDoubt.cls = RX8 ∧ yX8_isDoubt.cls ≠ "java/lang/invoke/MethodHandle" ∧ yX8_isDoubt.cls ≠ "java/lang/invoke/VarHandle" ∧ (parseMethodDescriptor yX8_isDoubt.desc).map (fun d => d.parameters.length) = some 4 := ⟨rfl, by decide +kernel, by decide +kernel, by decide +kernel⟩
set_option maxHeartbeats 4000000 in
set_option maxRecDepth 100000 in
theorem c_X8_isDoubt {g : Gx} {A : Nat → Nat} {th sq ac td lt ln cu tk sa ti ft fp le lf tr : Int} {fl fm fi fc ff fw ftp fk fe fr : Nat → Int} {a b p q : Int} (hfc : Bd 0 60 fc) (hc1 : 0 ≤ fc 1 ∧ fc 1 ≤ 4) (ht3 : Bd 0 12 (tM fc)) (ha : R32 a) (hb : R32 b) (hp : R32 p) (hq : R32 q) : CtE g yX8_isDoubt wsX8_isDoubt 4 92 [.ref (A 0), .int (iI a), .int (iI b), .int (iI p), .int (iI q)] (wMod g A th sq ac td lt ln cu tk sa ti ft fp le lf tr fl fm fi fc ff fw ftp fk fe fr) (if ((0 ≤ a ∧ a < fc 1) ∧ (0 ≤ b ∧ b < fc 1) ∧ a ≠ b) ∧ (1 ≤ q ∧ q ≤ 9999 ∧ 0 ≤ p ∧ p < q) then (if whoI (spdM fc a) (spdM fc b) = 0 then -1000000 else if (p * whoI (spdM fc a) (spdM fc b)) %% q = 0 ∧ othM (spdM fc a) (spdM fc b) (p * whoI (spdM fc a) (spdM fc b) / q) ≠ -1000000 then 1 else 0) else -1000001) (wMod g A (0) sq ac td lt ln cu tk sa ti ft fp le lf tr fl fm fi fc ff fw ftp fk fe fr) := by
  refine m_go (cc := cX8_isDoubt) (nL := 6) (by decide +kernel) rfl (Nat.le_of_ble_eq_true rfl) (fun x X Y hnm => ?_)
  refine v_eq (lo2 := [some (.ref (A 0)), some (.int (iI a)), some (.int (iI b)), some (.int (iI p)), some (.int (iI q)), none]) rfl rfl rfl rfl ?_
  have q1 := spdM_bd (fc := fc) (h := a) ht3
  have q2 := spdM_bd (fc := fc) (h := b) ht3
  have q3 := whoI_bd q1 q2
  have qm := fun (i : Int) => othM_bd (x := i) q3
  refine v_aload_n X dX8_isDoubt_0 rfl ?_
  refine v_iconst X dX8_isDoubt_1 ?_
  refine v_put X (fun _ h => List.mem_cons_of_mem _ (List.mem_append_right _ h)) tyX8 tyX8_ok nmX8 0 rfl rfl 0 (by decide) rfl (List.mem_of_getElem? (i := 1) rfl) rfl rfl rfl (Nat.le_of_ble_eq_true rfl) dX8_isDoubt_2 ?_
  dsimp only [List.set, wMod]
  refine v_aload_n X dX8_isDoubt_5 rfl ?_
  refine v_iload_n X dX8_isDoubt_6 rfl ?_
  refine v_iload_n X dX8_isDoubt_7 rfl ?_
  refine res_E X (run_V X (c_X8_areTwo (g := g) (by first | assumption | omega) (by first | assumption | omega) (by first | assumption | omega)) gX8_isDoubt_X8_areTwo rfl hdX8_areTwo ⟨(Nat.le_of_ble_eq_true rfl), (Nat.le_of_ble_eq_true rfl)⟩ ⟨(Nat.le_of_ble_eq_true rfl), (Nat.le_of_ble_eq_true rfl)⟩ 0 rfl rfl rfl [0, 1, 2, 3, 4, 5, 6, 7, 8, 9, 10] rfl rfl rfl rfl (by simp [Value.category]) dX8_isDoubt_8) [0, 1, 2, 3, 4, 5, 6, 7, 8, 9, 10] rfl rfl ?_
  refine v_ifb_eq (tgt := 23) X dX8_isDoubt_11 (by decide) (fun c1 => ?_) (fun c1 => ?_)
  · skip
    refine v_ldc X (List.mem_of_getElem? (i := 2) rfl) dX8_isDoubt_23 (n := -1000001) (by decide) ?_
    exact v_iret X Y dX8_isDoubt_25 (u := ()) (by rw [if_neg (by omega)]) (by rfl)
  · skip
    refine v_iload_n X dX8_isDoubt_14 rfl ?_
    refine v_iload X dX8_isDoubt_15 rfl ?_
    refine res_E X (run_S X (c_X8_isMoment (g := g) (by first | assumption | omega) (by first | assumption | omega)) gX8_isDoubt_X8_isMoment rfl hdX8_isMoment.2 ⟨(Nat.le_of_ble_eq_true rfl), (Nat.le_of_ble_eq_true rfl)⟩ ⟨(Nat.le_of_ble_eq_true rfl), (Nat.le_of_ble_eq_true rfl)⟩ [] rfl rfl rfl rfl (by simp [Value.category]) dX8_isDoubt_17) [] rfl rfl ?_
    refine v_ifb_ne (tgt := 26) X dX8_isDoubt_20 (by decide) (fun c2 => ?_) (fun c2 => ?_)
    · skip
      refine v_aload_n X dX8_isDoubt_26 rfl ?_
      refine v_iload_n X dX8_isDoubt_27 rfl ?_
      refine v_iload_n X dX8_isDoubt_28 rfl ?_
      have g1 : ((0 ≤ a ∧ a < fc 1) ∧ (0 ≤ b ∧ b < fc 1) ∧ a ≠ b) ∧ (1 ≤ q ∧ q ≤ 9999 ∧ 0 ≤ p ∧ p < q) := (by omega)
      have m1 := mul_nn (show 0 ≤ p ∧ p ≤ 9998 by omega) q3
      have m2 : (p * whoI (spdM fc a) (spdM fc b)).tmod q = (p * whoI (spdM fc a) (spdM fc b)) % q := Int.tmod_eq_emod_of_nonneg m1.1
      have m3 : (p * whoI (spdM fc a) (spdM fc b)).tdiv q = p * whoI (spdM fc a) (spdM fc b) / q := tdiv_of_nn m1.1
      have m4 : 0 ≤ p * whoI (spdM fc a) (spdM fc b) / q := Int.ediv_nonneg m1.1 (by omega)
      have m5 : p * whoI (spdM fc a) (spdM fc b) / q ≤ whoI (spdM fc a) (spdM fc b) := Int.ediv_le_of_le_mul (by omega) (by rw [Int.mul_comm]; exact Int.mul_le_mul_of_nonneg_left (by omega) q3.1)
      have m6 := Int.emod_nonneg (p * whoI (spdM fc a) (spdM fc b)) (show q ≠ 0 by omega)
      have m7 := Int.emod_lt_of_pos (p * whoI (spdM fc a) (spdM fc b)) (show 0 < q by omega)
      have m8 := qm (p * whoI (spdM fc a) (spdM fc b) / q)
      refine res_E X (run_V X (c_X8_partsOf (g := g) (by first | assumption | omega) (by first | assumption | omega) (by first | assumption | omega) (by first | assumption | omega) (by first | assumption | omega)) gX8_isDoubt_X8_partsOf rfl hdX8_partsOf ⟨(Nat.le_of_ble_eq_true rfl), (Nat.le_of_ble_eq_true rfl)⟩ ⟨(Nat.le_of_ble_eq_true rfl), (Nat.le_of_ble_eq_true rfl)⟩ 0 rfl rfl rfl [0, 1, 2, 3, 4, 5, 6, 7, 8, 9, 10] rfl rfl rfl rfl (by simp [Value.category]) dX8_isDoubt_29) [0, 1, 2, 3, 4, 5, 6, 7, 8, 9, 10] rfl rfl ?_
      refine v_istore X dX8_isDoubt_32 (by decide) rfl ?_
      dsimp only [List.set]
      refine v_iload X dX8_isDoubt_34 rfl ?_
      refine v_if_ne (tgt := 42) X dX8_isDoubt_36 (by decide) (by first | omega | (split <;> omega)) (fun c3 => ?_) (fun c3 => ?_)
      · skip
        refine v_iload_n X dX8_isDoubt_42 rfl ?_
        refine v_iload X dX8_isDoubt_43 rfl ?_
        refine v_imul X dX8_isDoubt_45 ?_
        refine v_iload X dX8_isDoubt_46 rfl ?_
        refine v_irem X dX8_isDoubt_48 (by first | omega | (split <;> omega)) (by first | omega | (split <;> omega)) (by first | omega | (split <;> omega)) ?_
        rw [m2]
        refine v_if_ne (tgt := 74) X dX8_isDoubt_49 (by decide) (by first | omega | (split <;> omega)) (fun c4 => ?_) (fun c4 => ?_)
        · skip
          refine v_iconst X dX8_isDoubt_74 ?_
          exact v_iret X Y dX8_isDoubt_75 (u := ()) (by rw [if_pos g1, if_neg (by assumption)]; split <;> omega) (by rfl)
        · skip
          refine v_aload_n X dX8_isDoubt_52 rfl ?_
          refine v_iload_n X dX8_isDoubt_53 rfl ?_
          refine v_iload_n X dX8_isDoubt_54 rfl ?_
          refine v_iload_n X dX8_isDoubt_55 rfl ?_
          refine v_iload X dX8_isDoubt_56 rfl ?_
          refine v_imul X dX8_isDoubt_58 ?_
          refine v_iload X dX8_isDoubt_59 rfl ?_
          refine v_idiv X dX8_isDoubt_61 (by first | omega | (split <;> omega)) (by first | omega | (split <;> omega)) (by first | omega | (split <;> omega)) ?_
          rw [m3]
          refine res_E X (run_V X (c_X8_otherOf (g := g) (by first | assumption | omega) (by first | assumption | omega) (by first | assumption | omega) (by first | assumption | omega) (by first | assumption | omega) (by first | assumption | omega)) gX8_isDoubt_X8_otherOf rfl hdX8_otherOf ⟨(Nat.le_of_ble_eq_true rfl), (Nat.le_of_ble_eq_true rfl)⟩ ⟨(Nat.le_of_ble_eq_true rfl), (Nat.le_of_ble_eq_true rfl)⟩ 0 rfl rfl rfl [0, 1, 2, 3, 4, 5, 6, 7, 8, 9, 10] rfl rfl rfl rfl (by simp [Value.category]) dX8_isDoubt_62) [0, 1, 2, 3, 4, 5, 6, 7, 8, 9, 10] rfl rfl ?_
          refine v_ldc X (List.mem_of_getElem? (i := 3) rfl) dX8_isDoubt_65 (n := -1000000) (by decide) ?_
          refine v_icmp_eq (tgt := 74) X dX8_isDoubt_67 (by decide) (by omega) (by first | omega | (split <;> omega)) (fun c5 => ?_) (fun c5 => ?_)
          · skip
            refine v_iconst X dX8_isDoubt_74 ?_
            exact v_iret X Y dX8_isDoubt_75 (u := ()) (by rw [if_pos g1, if_neg (by assumption)]; split <;> omega) (by rfl)
          · skip
            refine v_iconst X dX8_isDoubt_70 ?_
            refine v_goto (tgt := 75) X dX8_isDoubt_71 (by decide) ?_
            exact v_iret X Y dX8_isDoubt_75 (u := ()) (by rw [if_pos g1, if_neg (by assumption)]; split <;> omega) (by rfl)
      · skip
        refine v_ldc X (List.mem_of_getElem? (i := 3) rfl) dX8_isDoubt_39 (n := -1000000) (by decide) ?_
        exact v_iret X Y dX8_isDoubt_41 (u := ()) (by rw [if_pos g1, if_pos (by assumption)]) (by rfl)
    · skip
      refine v_ldc X (List.mem_of_getElem? (i := 2) rfl) dX8_isDoubt_23 (n := -1000001) (by decide) ?_
      exact v_iret X Y dX8_isDoubt_25 (u := ()) (by rw [if_neg (by omega)]) (by rfl)

theorem hdX8_often : yX8_often.cls = RX8 ∧ yX8_often.cls ≠ "java/lang/invoke/MethodHandle" ∧ yX8_often.cls ≠ "java/lang/invoke/VarHandle" ∧ (parseMethodDescriptor yX8_often.desc).map (fun d => d.parameters.length) = some 3 := ⟨rfl, by decide +kernel, by decide +kernel, by decide +kernel⟩
set_option maxHeartbeats 4000000 in
set_option maxRecDepth 100000 in
theorem c_X8_often {g : Gx} {A : Nat → Nat} {th sq ac td lt ln cu tk sa ti ft fp le lf tr : Int} {fl fm fi fc ff fw ftp fk fe fr : Nat → Int} {a b w : Int} (hfc : Bd 0 60 fc) (hc1 : 0 ≤ fc 1 ∧ fc 1 ≤ 4) (ht3 : Bd 0 12 (tM fc)) (ha : R32 a) (hb : R32 b) (hw : R32 w) : CtE g yX8_often wsX8_often 3 68 [.ref (A 0), .int (iI a), .int (iI b), .int (iI w)] (wMod g A th sq ac td lt ln cu tk sa ti ft fp le lf tr fl fm fi fc ff fw ftp fk fe fr) (if ((0 ≤ a ∧ a < fc 1) ∧ (0 ≤ b ∧ b < fc 1) ∧ a ≠ b) ∧ 0 ≤ w ∧ w ≤ 2 then (if absI (spdM fc a - spdM fc b) = 0 then -1000000 else if w = 2 then 2 * absI (spdM fc a - spdM fc b) else absI (spdM fc a - spdM fc b)) else -1000001) (wMod g A (0) sq ac td lt ln cu tk sa ti ft fp le lf tr fl fm fi fc ff fw ftp fk fe fr) := by
  refine m_go (cc := cX8_often) (nL := 5) (by decide +kernel) rfl (Nat.le_of_ble_eq_true rfl) (fun x X Y hnm => ?_)
  refine v_eq (lo2 := [some (.ref (A 0)), some (.int (iI a)), some (.int (iI b)), some (.int (iI w)), none]) rfl rfl rfl rfl ?_
  have q1 := spdM_bd (fc := fc) (h := a) ht3
  have q2 := spdM_bd (fc := fc) (h := b) ht3
  have q3 := whoI_bd q1 q2
  have qm := fun (i : Int) => othM_bd (x := i) q3
  have q5 := absI_bd (a := spdM fc a - spdM fc b) (M := 48) (by omega)
  refine v_aload_n X dX8_often_0 rfl ?_
  refine v_iconst X dX8_often_1 ?_
  refine v_put X (fun _ h => List.mem_cons_of_mem _ (List.mem_append_right _ h)) tyX8 tyX8_ok nmX8 0 rfl rfl 0 (by decide) rfl (List.mem_of_getElem? (i := 1) rfl) rfl rfl rfl (Nat.le_of_ble_eq_true rfl) dX8_often_2 ?_
  dsimp only [List.set, wMod]
  refine v_aload_n X dX8_often_5 rfl ?_
  refine v_iload_n X dX8_often_6 rfl ?_
  refine v_iload_n X dX8_often_7 rfl ?_
  refine res_E X (run_V X (c_X8_areTwo (g := g) (by first | assumption | omega) (by first | assumption | omega) (by first | assumption | omega)) gX8_often_X8_areTwo rfl hdX8_areTwo ⟨(Nat.le_of_ble_eq_true rfl), (Nat.le_of_ble_eq_true rfl)⟩ ⟨(Nat.le_of_ble_eq_true rfl), (Nat.le_of_ble_eq_true rfl)⟩ 0 rfl rfl rfl [0, 1, 2, 3, 4, 5, 6, 7, 8, 9, 10] rfl rfl rfl rfl (by simp [Value.category]) dX8_often_8) [0, 1, 2, 3, 4, 5, 6, 7, 8, 9, 10] rfl rfl ?_
  refine v_ifb_eq (tgt := 26) X dX8_often_11 (by decide) (fun c1 => ?_) (fun c1 => ?_)
  · skip
    refine v_ldc X (List.mem_of_getElem? (i := 3) rfl) dX8_often_26 (n := -1000001) (by decide) ?_
    exact v_iret X Y dX8_often_28 (u := ()) (by rw [if_neg (by omega)]) (by rfl)
  · skip
    refine v_iload_n X dX8_often_14 rfl ?_
    refine v_i2l X dX8_often_15 (by first | omega | (split <;> omega)) ?_
    refine v_lconst0 X dX8_often_16 ?_
    refine v_ldc2 X (List.mem_of_getElem? (i := 2) rfl) dX8_often_17 (n := 2) (by decide) ?_
    refine res_E X (run_S X (c_X8_in (g := g) (by first | assumption | omega) (by first | assumption | omega) (by first | assumption | omega)) gX8_often_X8_in rfl hdX8_in.2 ⟨(Nat.le_of_ble_eq_true rfl), (Nat.le_of_ble_eq_true rfl)⟩ ⟨(Nat.le_of_ble_eq_true rfl), (Nat.le_of_ble_eq_true rfl)⟩ [] rfl rfl rfl rfl (by simp [Value.category]) dX8_often_20) [] rfl rfl ?_
    refine v_ifb_ne (tgt := 29) X dX8_often_23 (by decide) (fun c2 => ?_) (fun c2 => ?_)
    · skip
      refine v_aload_n X dX8_often_29 rfl ?_
      refine v_iload_n X dX8_often_30 rfl ?_
      have g1 : ((0 ≤ a ∧ a < fc 1) ∧ (0 ≤ b ∧ b < fc 1) ∧ a ≠ b) ∧ 0 ≤ w ∧ w ≤ 2 := (by omega)
      refine res_E X (run_V X (c_X8_speed (g := g) (by first | assumption | omega) (by first | assumption | omega) (by first | assumption | omega)) gX8_often_X8_speed rfl hdX8_speed ⟨(Nat.le_of_ble_eq_true rfl), (Nat.le_of_ble_eq_true rfl)⟩ ⟨(Nat.le_of_ble_eq_true rfl), (Nat.le_of_ble_eq_true rfl)⟩ 0 rfl rfl rfl [0, 1, 2, 3, 4, 5, 6, 7, 8, 9, 10] rfl rfl rfl rfl (by simp [Value.category]) dX8_often_31) [0, 1, 2, 3, 4, 5, 6, 7, 8, 9, 10] rfl rfl ?_
      refine v_aload_n X dX8_often_34 rfl ?_
      refine v_iload_n X dX8_often_35 rfl ?_
      refine res_E X (run_V X (c_X8_speed (g := g) (by first | assumption | omega) (by first | assumption | omega) (by first | assumption | omega)) gX8_often_X8_speed rfl hdX8_speed ⟨(Nat.le_of_ble_eq_true rfl), (Nat.le_of_ble_eq_true rfl)⟩ ⟨(Nat.le_of_ble_eq_true rfl), (Nat.le_of_ble_eq_true rfl)⟩ 0 rfl rfl rfl [0, 1, 2, 3, 4, 5, 6, 7, 8, 9, 10] rfl rfl rfl rfl (by simp [Value.category]) dX8_often_36) [0, 1, 2, 3, 4, 5, 6, 7, 8, 9, 10] rfl rfl ?_
      refine v_isub X dX8_often_39 ?_
      refine res_E X (run_S X (c_X8_size (g := g) (by first | assumption | omega)) gX8_often_X8_size rfl hdX8_size.2 ⟨(Nat.le_of_ble_eq_true rfl), (Nat.le_of_ble_eq_true rfl)⟩ ⟨(Nat.le_of_ble_eq_true rfl), (Nat.le_of_ble_eq_true rfl)⟩ [] rfl rfl rfl rfl (by simp [Value.category]) dX8_often_40) [] rfl rfl ?_
      refine v_istore X dX8_often_43 (by decide) rfl ?_
      dsimp only [List.set]
      refine v_iload X dX8_often_45 rfl ?_
      refine v_if_ne (tgt := 55) X dX8_often_47 (by decide) (by first | omega | (split <;> omega)) (fun c3 => ?_) (fun c3 => ?_)
      · skip
        refine v_iload_n X dX8_often_55 rfl ?_
        refine v_iconst X dX8_often_56 ?_
        refine v_icmp_ne (tgt := 67) X dX8_often_57 (by decide) (by first | omega | (split <;> omega)) (by first | omega | (split <;> omega)) (fun c4 => ?_) (fun c4 => ?_)
        · skip
          refine v_iload X dX8_often_67 rfl ?_
          exact v_iret X Y dX8_often_69 (u := ()) (by rw [if_pos g1]; first | rw [if_pos (by assumption)] | (rw [if_neg (by assumption)]; first | rw [if_pos (by assumption)] | rw [if_neg (by assumption)])) (by rfl)
        · skip
          refine v_iconst X dX8_often_60 ?_
          refine v_iload X dX8_often_61 rfl ?_
          refine v_imul X dX8_often_63 ?_
          refine v_goto (tgt := 69) X dX8_often_64 (by decide) ?_
          exact v_iret X Y dX8_often_69 (u := ()) (by rw [if_pos g1]; first | rw [if_pos (by assumption)] | (rw [if_neg (by assumption)]; first | rw [if_pos (by assumption)] | rw [if_neg (by assumption)])) (by rfl)
      · skip
        refine v_ldc X (List.mem_of_getElem? (i := 4) rfl) dX8_often_50 (n := -1000000) (by decide) ?_
        refine v_goto (tgt := 69) X dX8_often_52 (by decide) ?_
        exact v_iret X Y dX8_often_69 (u := ()) (by rw [if_pos g1]; first | rw [if_pos (by assumption)] | (rw [if_neg (by assumption)]; first | rw [if_pos (by assumption)] | rw [if_neg (by assumption)])) (by rfl)
    · skip
      refine v_ldc X (List.mem_of_getElem? (i := 3) rfl) dX8_often_26 (n := -1000001) (by decide) ?_
      exact v_iret X Y dX8_often_28 (u := ()) (by rw [if_neg (by omega)]) (by rfl)

theorem hdX8_next : yX8_next.cls = RX8 ∧ yX8_next.cls ≠ "java/lang/invoke/MethodHandle" ∧ yX8_next.cls ≠ "java/lang/invoke/VarHandle" ∧ (parseMethodDescriptor yX8_next.desc).map (fun d => d.parameters.length) = some 6 := ⟨rfl, by decide +kernel, by decide +kernel, by decide +kernel⟩
set_option maxHeartbeats 4000000 in
set_option maxRecDepth 100000 in
theorem c_X8_next {g : Gx} {A : Nat → Nat} {th sq ac td lt ln cu tk sa ti ft fp le lf tr : Int} {fl fm fi fc ff fw ftp fk fe fr : Nat → Int} {a b h p q w : Int} (hfc : Bd 0 60 fc) (hc1 : 0 ≤ fc 1 ∧ fc 1 ≤ 4) (ht3 : Bd 0 12 (tM fc)) (ha : R32 a) (hb : R32 b) (hh : R32 h) (hp : R32 p) (hq : R32 q) (hw : R32 w) : CtI (S := Unit) g yX8_next wsX8_next 3 68 [.ref (A 0), .int (iI a), .int (iI b), .int (iI h), .int (iI p), .int (iI q), .int (iI w)] (wMod g A th sq ac td lt ln cu tk sa ti ft fp le lf tr fl fm fi fc ff fw ftp fk fe fr) (fun v _ => (¬ (((0 ≤ a ∧ a < fc 1) ∧ (0 ≤ b ∧ b < fc 1) ∧ a ≠ b) ∧ (0 ≤ h ∧ h ≤ 2) ∧ (1 ≤ q ∧ q ≤ 9999 ∧ 0 ≤ p ∧ p < q) ∧ 0 ≤ w ∧ w ≤ 1) ∧ v = -1000001) ∨ ((((0 ≤ a ∧ a < fc 1) ∧ (0 ≤ b ∧ b < fc 1) ∧ a ≠ b) ∧ (0 ≤ h ∧ h ≤ 2) ∧ (1 ≤ q ∧ q ≤ 9999 ∧ 0 ≤ p ∧ p < q) ∧ 0 ≤ w ∧ w ≤ 1) ∧ ((absI (spdM fc a - spdM fc b) = 0 ∧ v = -1000000) ∨ (absI (spdM fc a - spdM fc b) ≠ 0 ∧ ((nxM (absI (spdM fc a - spdM fc b)) h p q = -1 ∧ v = -1000000) ∨ (0 ≤ nxM (absI (spdM fc a - spdM fc b)) h p q ∧ v = toldI (nxM (absI (spdM fc a - spdM fc b)) h p q) (4 * absI (spdM fc a - spdM fc b)) w)))))) (fun _ => wMod g A (0) sq ac td lt ln cu tk sa ti ft fp le lf tr fl fm fi fc ff fw ftp fk fe fr) := by
  refine m_go (cc := cX8_next) (nL := 11) (by decide +kernel) rfl (Nat.le_of_ble_eq_true rfl) (fun x X Y hnm => ?_)
  refine v_eq (lo2 := [some (.ref (A 0)), some (.int (iI a)), some (.int (iI b)), some (.int (iI h)), some (.int (iI p)), some (.int (iI q)), some (.int (iI w)), none, none, none, none]) rfl rfl rfl rfl ?_
  have q1 := spdM_bd (fc := fc) (h := a) ht3
  have q2 := spdM_bd (fc := fc) (h := b) ht3
  have q3 := whoI_bd q1 q2
  have qm := fun (i : Int) => othM_bd (x := i) q3
  have q5 := absI_bd (a := spdM fc a - spdM fc b) (M := 48) (by omega)
  refine v_aload_n X dX8_next_0 rfl ?_
  refine v_iconst X dX8_next_1 ?_
  refine v_put X (fun _ h => List.mem_cons_of_mem _ (List.mem_append_right _ h)) tyX8 tyX8_ok nmX8 0 rfl rfl 0 (by decide) rfl (List.mem_of_getElem? (i := 1) rfl) rfl rfl rfl (Nat.le_of_ble_eq_true rfl) dX8_next_2 ?_
  dsimp only [List.set, wMod]
  refine v_aload_n X dX8_next_5 rfl ?_
  refine v_iload_n X dX8_next_6 rfl ?_
  refine v_iload_n X dX8_next_7 rfl ?_
  refine res_E X (run_V X (c_X8_areTwo (g := g) (by first | assumption | omega) (by first | assumption | omega) (by first | assumption | omega)) gX8_next_X8_areTwo rfl hdX8_areTwo ⟨(Nat.le_of_ble_eq_true rfl), (Nat.le_of_ble_eq_true rfl)⟩ ⟨(Nat.le_of_ble_eq_true rfl), (Nat.le_of_ble_eq_true rfl)⟩ 0 rfl rfl rfl [0, 1, 2, 3, 4, 5, 6, 7, 8, 9, 10] rfl rfl rfl rfl (by simp [Value.category]) dX8_next_8) [0, 1, 2, 3, 4, 5, 6, 7, 8, 9, 10] rfl rfl ?_
  refine v_ifb_eq (tgt := 47) X dX8_next_11 (by decide) (fun c1 => ?_) (fun c1 => ?_)
  · skip
    refine v_ldc X (List.mem_of_getElem? (i := 3) rfl) dX8_next_47 (n := -1000001) (by decide) ?_
    refine v_iret X Y dX8_next_49 (u := ()) ?_ rfl
    exact Or.inl ⟨(by omega), rfl⟩
  · skip
    refine v_iload_n X dX8_next_14 rfl ?_
    refine v_i2l X dX8_next_15 (by first | omega | (split <;> omega)) ?_
    refine v_lconst0 X dX8_next_16 ?_
    refine v_ldc2 X (List.mem_of_getElem? (i := 2) rfl) dX8_next_17 (n := 2) (by decide) ?_
    refine res_E X (run_S X (c_X8_in (g := g) (by first | assumption | omega) (by first | assumption | omega) (by first | assumption | omega)) gX8_next_X8_in rfl hdX8_in.2 ⟨(Nat.le_of_ble_eq_true rfl), (Nat.le_of_ble_eq_true rfl)⟩ ⟨(Nat.le_of_ble_eq_true rfl), (Nat.le_of_ble_eq_true rfl)⟩ [] rfl rfl rfl rfl (by simp [Value.category]) dX8_next_20) [] rfl rfl ?_
    refine v_ifb_eq (tgt := 47) X dX8_next_23 (by decide) (fun c2 => ?_) (fun c2 => ?_)
    · skip
      refine v_ldc X (List.mem_of_getElem? (i := 3) rfl) dX8_next_47 (n := -1000001) (by decide) ?_
      refine v_iret X Y dX8_next_49 (u := ()) ?_ rfl
      exact Or.inl ⟨(by omega), rfl⟩
    · skip
      refine v_iload X dX8_next_26 rfl ?_
      refine v_iload X dX8_next_28 rfl ?_
      refine res_E X (run_S X (c_X8_isMoment (g := g) (by first | assumption | omega) (by first | assumption | omega)) gX8_next_X8_isMoment rfl hdX8_isMoment.2 ⟨(Nat.le_of_ble_eq_true rfl), (Nat.le_of_ble_eq_true rfl)⟩ ⟨(Nat.le_of_ble_eq_true rfl), (Nat.le_of_ble_eq_true rfl)⟩ [] rfl rfl rfl rfl (by simp [Value.category]) dX8_next_30) [] rfl rfl ?_
      refine v_ifb_eq (tgt := 47) X dX8_next_33 (by decide) (fun c3 => ?_) (fun c3 => ?_)
      · skip
        refine v_ldc X (List.mem_of_getElem? (i := 3) rfl) dX8_next_47 (n := -1000001) (by decide) ?_
        refine v_iret X Y dX8_next_49 (u := ()) ?_ rfl
        exact Or.inl ⟨(by omega), rfl⟩
      · skip
        refine v_iload X dX8_next_36 rfl ?_
        refine v_i2l X dX8_next_38 (by first | omega | (split <;> omega)) ?_
        refine v_lconst0 X dX8_next_39 ?_
        refine v_lconst1 X dX8_next_40 ?_
        refine res_E X (run_S X (c_X8_in (g := g) (by first | assumption | omega) (by first | assumption | omega) (by first | assumption | omega)) gX8_next_X8_in rfl hdX8_in.2 ⟨(Nat.le_of_ble_eq_true rfl), (Nat.le_of_ble_eq_true rfl)⟩ ⟨(Nat.le_of_ble_eq_true rfl), (Nat.le_of_ble_eq_true rfl)⟩ [] rfl rfl rfl rfl (by simp [Value.category]) dX8_next_41) [] rfl rfl ?_
        refine v_ifb_ne (tgt := 50) X dX8_next_44 (by decide) (fun c4 => ?_) (fun c4 => ?_)
        · skip
          refine v_iconst X dX8_next_50 ?_
          refine v_aload_n X dX8_next_51 rfl ?_
          refine v_iload_n X dX8_next_52 rfl ?_
          have g1 : ((0 ≤ a ∧ a < fc 1) ∧ (0 ≤ b ∧ b < fc 1) ∧ a ≠ b) ∧ (0 ≤ h ∧ h ≤ 2) ∧ (1 ≤ q ∧ q ≤ 9999 ∧ 0 ≤ p ∧ p < q) ∧ 0 ≤ w ∧ w ≤ 1 := (by omega)
          refine res_E X (run_V X (c_X8_speed (g := g) (by first | assumption | omega) (by first | assumption | omega) (by first | assumption | omega)) gX8_next_X8_speed rfl hdX8_speed ⟨(Nat.le_of_ble_eq_true rfl), (Nat.le_of_ble_eq_true rfl)⟩ ⟨(Nat.le_of_ble_eq_true rfl), (Nat.le_of_ble_eq_true rfl)⟩ 0 rfl rfl rfl [0, 1, 2, 3, 4, 5, 6, 7, 8, 9, 10] rfl rfl rfl rfl (by simp [Value.category]) dX8_next_53) [0, 1, 2, 3, 4, 5, 6, 7, 8, 9, 10] rfl rfl ?_
          refine v_aload_n X dX8_next_56 rfl ?_
          refine v_iload_n X dX8_next_57 rfl ?_
          refine res_E X (run_V X (c_X8_speed (g := g) (by first | assumption | omega) (by first | assumption | omega) (by first | assumption | omega)) gX8_next_X8_speed rfl hdX8_speed ⟨(Nat.le_of_ble_eq_true rfl), (Nat.le_of_ble_eq_true rfl)⟩ ⟨(Nat.le_of_ble_eq_true rfl), (Nat.le_of_ble_eq_true rfl)⟩ 0 rfl rfl rfl [0, 1, 2, 3, 4, 5, 6, 7, 8, 9, 10] rfl rfl rfl rfl (by simp [Value.category]) dX8_next_58) [0, 1, 2, 3, 4, 5, 6, 7, 8, 9, 10] rfl rfl ?_
          refine v_isub X dX8_next_61 ?_
          refine res_E X (run_S X (c_X8_size (g := g) (by first | assumption | omega)) gX8_next_X8_size rfl hdX8_size.2 ⟨(Nat.le_of_ble_eq_true rfl), (Nat.le_of_ble_eq_true rfl)⟩ ⟨(Nat.le_of_ble_eq_true rfl), (Nat.le_of_ble_eq_true rfl)⟩ [] rfl rfl rfl rfl (by simp [Value.category]) dX8_next_62) [] rfl rfl ?_
          refine v_imul X dX8_next_65 ?_
          refine v_istore X dX8_next_66 (by decide) rfl ?_
          dsimp only [List.set]
          refine v_iload X dX8_next_68 rfl ?_
          refine v_if_ne (tgt := 76) X dX8_next_70 (by decide) (by first | omega | (split <;> omega)) (fun c5 => ?_) (fun c5 => ?_)
          · skip
            refine v_iload X dX8_next_76 rfl ?_
            have m1 := mul_nn (show 0 ≤ p ∧ p ≤ 9998 by omega) (show 0 ≤ 4 * absI (spdM fc a - spdM fc b) ∧ 4 * absI (spdM fc a - spdM fc b) ≤ 192 by omega)
            have m2 : (p * (4 * absI (spdM fc a - spdM fc b)) + q - 1).tdiv q = (p * (4 * absI (spdM fc a - spdM fc b)) + q - 1) / q := tdiv_of_nn (by omega)
            have m3 : 0 ≤ (p * (4 * absI (spdM fc a - spdM fc b)) + q - 1) / q := Int.ediv_nonneg (by omega) (by omega)
            have m4 : (p * (4 * absI (spdM fc a - spdM fc b)) + q - 1) / q ≤ p * (4 * absI (spdM fc a - spdM fc b)) + q - 1 := Int.ediv_le_self _ (by omega)
            refine v_iload X dX8_next_78 rfl ?_
            refine v_imul X dX8_next_80 ?_
            refine v_iload X dX8_next_81 rfl ?_
            refine v_iadd X dX8_next_83 ?_
            refine v_iconst X dX8_next_84 ?_
            refine v_isub X dX8_next_85 ?_
            refine v_iload X dX8_next_86 rfl ?_
            refine v_idiv X dX8_next_88 (by first | omega | (split <;> omega)) (by first | omega | (split <;> omega)) (by first | omega | (split <;> omega)) ?_
            rw [m2]
            refine v_istore X dX8_next_89 (by decide) rfl ?_
            dsimp only [List.set]
            refine v_iconst X dX8_next_91 ?_
            refine v_istore X dX8_next_92 (by decide) rfl ?_
            dsimp only [List.set]
            have L94 : ∀ (nf : Nat) (k : Int) (h1 : 0 ≤ k ∧ k ≤ 4 * absI (spdM fc a - spdM fc b)) (h2 : nxM (absI (spdM fc a - spdM fc b)) h p q = nxS (isS h) (4 * absI (spdM fc a - spdM fc b)) (4 * absI (spdM fc a - spdM fc b) - k).toNat ((p * (4 * absI (spdM fc a - spdM fc b)) + q - 1) / q + k)) (_ : (4 * absI (spdM fc a - spdM fc b) - k).toNat < nf), V g x 0 0 (wMod g A (0) sq ac td lt ln cu tk sa ti ft fp le lf tr fl fm fi fc ff fw ftp fk fe fr) [some (.ref (A 0)), some (.int (iI a)), some (.int (iI b)), some (.int (iI h)), some (.int (iI p)), some (.int (iI q)), some (.int (iI w)), some (.int (iI (4 * absI (spdM fc a - spdM fc b)))), some (.int (iI ((p * (4 * absI (spdM fc a - spdM fc b)) + q - 1) / q))), some (.int (iI k)), none] 94 [] := by
              intro nf
              induction nf with
              | zero => intro k h1 h2 hmu; exact absurd hmu (Nat.not_lt_zero _)
              | succ nf ih94 =>
                intro k h1 h2 hmu
                refine v_iload X dX8_next_94 rfl ?_
                refine v_iload X dX8_next_96 rfl ?_
                refine v_icmp_ge (tgt := 136) X dX8_next_98 (by decide) (by first | omega | (split <;> omega)) (by first | omega | (split <;> omega)) (fun c6 => ?_) (fun c6 => ?_)
                · skip
                  refine v_ldc X (List.mem_of_getElem? (i := 4) rfl) dX8_next_136 (n := -1000000) (by decide) ?_
                  refine v_iret X Y dX8_next_138 (u := ()) ?_ rfl
                  have e : nxM (absI (spdM fc a - spdM fc b)) h p q = -1 := by rw [h2, show (4 * absI (spdM fc a - spdM fc b) - k).toNat = 0 by omega]; rfl
                  exact Or.inr ⟨g1, Or.inr ⟨by omega, Or.inl ⟨e, rfl⟩⟩⟩
                · skip
                  refine v_iload X dX8_next_101 rfl ?_
                  refine v_iload X dX8_next_103 rfl ?_
                  refine v_iadd X dX8_next_105 ?_
                  refine v_iload X dX8_next_106 rfl ?_
                  refine v_irem X dX8_next_108 (by first | omega | (split <;> omega)) (by first | omega | (split <;> omega)) (by first | omega | (split <;> omega)) ?_
                  have m5 := Int.tmod_nonneg (4 * absI (spdM fc a - spdM fc b)) (show 0 ≤ (p * (4 * absI (spdM fc a - spdM fc b)) + q - 1) / q + k by omega)
                  have m6 := Int.tmod_lt_of_pos ((p * (4 * absI (spdM fc a - spdM fc b)) + q - 1) / q + k) (show 0 < 4 * absI (spdM fc a - spdM fc b) by omega)
                  refine v_istore X dX8_next_109 (by decide) rfl ?_
                  dsimp only [List.set]
                  refine v_iload X dX8_next_111 rfl ?_
                  refine v_iload_n X dX8_next_113 rfl ?_
                  refine res_E X (run_S X (c_X8_isSo (g := g) (by first | assumption | omega) (by first | assumption | omega)) gX8_next_X8_isSo rfl hdX8_isSo.2 ⟨(Nat.le_of_ble_eq_true rfl), (Nat.le_of_ble_eq_true rfl)⟩ ⟨(Nat.le_of_ble_eq_true rfl), (Nat.le_of_ble_eq_true rfl)⟩ [] rfl rfl rfl rfl (by simp [Value.category]) dX8_next_114) [] rfl rfl ?_
                  refine v_ifb_eq (tgt := 130) X dX8_next_117 (by decide) (fun c7 => ?_) (fun c7 => ?_)
                  · skip
                    refine v_iinc X dX8_next_130 rfl (by decide) rfl ?_
                    dsimp only [List.set]
                    refine v_goto (tgt := 94) X dX8_next_133 (by decide) ?_
                    refine v_drop 10 ?_
                    dsimp only [List.set]
                    exact ih94 _ (by omega) (by rw [h2, nxS_s (by omega), if_neg (by unfold isS; rw [decide_eq_true_eq]; omega)]) (by omega)
                  · skip
                    refine v_iload X dX8_next_120 rfl ?_
                    refine v_iload X dX8_next_122 rfl ?_
                    refine v_iload X dX8_next_124 rfl ?_
                    refine res_E X (run_S X (c_X8_told (g := g) (by first | assumption | omega) (by first | assumption | omega) (by first | assumption | omega) (by first | assumption | omega) (by first | assumption | omega)) gX8_next_X8_told rfl hdX8_told.2 ⟨(Nat.le_of_ble_eq_true rfl), (Nat.le_of_ble_eq_true rfl)⟩ ⟨(Nat.le_of_ble_eq_true rfl), (Nat.le_of_ble_eq_true rfl)⟩ [] rfl rfl rfl rfl (by simp [Value.category]) dX8_next_126) [] rfl rfl ?_
                    refine v_iret X Y dX8_next_129 (u := ()) ?_ rfl
                    have e : nxM (absI (spdM fc a - spdM fc b)) h p q = ((p * (4 * absI (spdM fc a - spdM fc b)) + q - 1) / q + k).tmod (4 * absI (spdM fc a - spdM fc b)) := by rw [h2, nxS_s (by omega), if_pos (by unfold isS; rw [decide_eq_true_eq]; omega)]
                    exact Or.inr ⟨g1, Or.inr ⟨by omega, Or.inr ⟨by rw [e]; exact m5, by rw [e]⟩⟩⟩
            exact L94 _ _ (by omega) (by unfold nxM; rw [Int.sub_zero, Int.add_zero]) (Nat.lt_succ_self _)
          · skip
            refine v_ldc X (List.mem_of_getElem? (i := 4) rfl) dX8_next_73 (n := -1000000) (by decide) ?_
            refine v_iret X Y dX8_next_75 (u := ()) ?_ rfl
            exact Or.inr ⟨g1, Or.inl ⟨by omega, rfl⟩⟩
        · skip
          refine v_ldc X (List.mem_of_getElem? (i := 3) rfl) dX8_next_47 (n := -1000001) (by decide) ?_
          refine v_iret X Y dX8_next_49 (u := ()) ?_ rfl
          exact Or.inl ⟨(by omega), rfl⟩

theorem hdX8_all : yX8_all.cls = RX8 ∧ yX8_all.cls ≠ "java/lang/invoke/MethodHandle" ∧ yX8_all.cls ≠ "java/lang/invoke/VarHandle" ∧ (parseMethodDescriptor yX8_all.desc).map (fun d => d.parameters.length) = some 0 := ⟨rfl, by decide +kernel, by decide +kernel, by decide +kernel⟩
set_option maxHeartbeats 4000000 in
set_option maxRecDepth 100000 in
theorem c_X8_all {g : Gx} {A : Nat → Nat} {th sq ac td lt ln cu tk sa ti ft fp le lf tr : Int} {fl fm fi fc ff fw ftp fk fe fr : Nat → Int}  (hfc : Bd 0 60 fc) (hc1 : 0 ≤ fc 1 ∧ fc 1 ≤ 4) (ht3 : Bd 0 12 (tM fc)) : CtE g yX8_all wsX8_all 2 43 [.ref (A 0)] (wMod g A th sq ac td lt ln cu tk sa ti ft fp le lf tr fl fm fi fc ff fw ftp fk fe fr) (if 0 < fc 0 then (if allM fc = 0 then -1000000 else allM fc) else -1000002) (wMod g A (0) sq ac td lt ln cu tk sa ti ft fp le lf tr fl fm fi fc ff fw ftp fk fe fr) := by
  refine m_go (cc := cX8_all) (nL := 3) (by decide +kernel) rfl (Nat.le_of_ble_eq_true rfl) (fun x X Y hnm => ?_)
  refine v_eq (lo2 := [some (.ref (A 0)), none, none]) rfl rfl rfl rfl ?_
  have q0 := hfc 0
  have qa := fun (i : Int) => absI_bd (a := spdM fc i - spdM fc 0) (M := 48) (by have := spdM_bd (fc := fc) (h := i) ht3; have := spdM_bd (fc := fc) (h := 0) ht3; omega)
  have qg := gcdN_bd (f := fun j => absI (spdM fc ((j : Int) + 1) - spdM fc 0)) (M := 48) (fun j => qa _)
  refine v_aload_n X dX8_all_0 rfl ?_
  refine v_iconst X dX8_all_1 ?_
  refine v_put X (fun _ h => List.mem_cons_of_mem _ (List.mem_append_right _ h)) tyX8 tyX8_ok nmX8 0 rfl rfl 0 (by decide) rfl (List.mem_of_getElem? (i := 1) rfl) rfl rfl rfl (Nat.le_of_ble_eq_true rfl) dX8_all_2 ?_
  dsimp only [List.set, wMod]
  refine v_aload_n X dX8_all_5 rfl ?_
  refine res_E X (run_V X (c_X8_isThere (g := g) (by first | assumption | omega)) gX8_all_X8_isThere rfl hdX8_isThere ⟨(Nat.le_of_ble_eq_true rfl), (Nat.le_of_ble_eq_true rfl)⟩ ⟨(Nat.le_of_ble_eq_true rfl), (Nat.le_of_ble_eq_true rfl)⟩ 0 rfl rfl rfl [0, 1, 2, 3, 4, 5, 6, 7, 8, 9, 10] rfl rfl rfl rfl (by simp [Value.category]) dX8_all_6) [0, 1, 2, 3, 4, 5, 6, 7, 8, 9, 10] rfl rfl ?_
  refine v_ifb_ne (tgt := 15) X dX8_all_9 (by decide) (fun c1 => ?_) (fun c1 => ?_)
  · skip
    refine v_iconst X dX8_all_15 ?_
    refine v_istore_n X dX8_all_16 1 rfl (by decide) rfl ?_
    dsimp only [List.set]
    refine v_iconst X dX8_all_17 ?_
    refine v_istore_n X dX8_all_18 2 rfl (by decide) rfl ?_
    dsimp only [List.set]
    have L19 : ∀ (nf : Nat) (n : Int) (h : Int) (h1 : 1 ≤ h ∧ (h ≤ fc 1 ∨ h = 1)) (h2 : n = gcdN (fun j => absI (spdM fc ((j : Int) + 1) - spdM fc 0)) (h - 1).toNat) (h3 : 0 ≤ n ∧ n ≤ 48) (_ : (fc 1 + 1 - h).toNat < nf), V g x 0 0 (wMod g A (0) sq ac td lt ln cu tk sa ti ft fp le lf tr fl fm fi fc ff fw ftp fk fe fr) [some (.ref (A 0)), some (.int (iI n)), some (.int (iI h))] 19 [] := by
      intro nf
      induction nf with
      | zero => intro n h h1 h2 h3 hmu; exact absurd hmu (Nat.not_lt_zero _)
      | succ nf ih19 =>
        intro n h h1 h2 h3 hmu
        refine v_iload_n X dX8_all_19 rfl ?_
        refine v_aload_n X dX8_all_20 rfl ?_
        refine v_get X (fun _ h => List.mem_cons_of_mem _ (List.mem_append_right _ h)) 0 rfl rfl 5 (by decide) rfl (List.mem_of_getElem? (i := 3) rfl) rfl dX8_all_21 ?_
        refine v_iconst X dX8_all_24 ?_
        refine v_iald X 4 rfl (by first | omega | (split <;> omega)) (by first | omega | (split <;> omega)) (by first | omega | (split <;> omega)) dX8_all_25 hfc (fun z1 ez1 lz1 uz1 => ?_)
        rw [show z1 = fc 1 from ez1]
        refine v_icmp_ge (tgt := 54) X dX8_all_26 (by decide) (by first | omega | (split <;> omega)) (by first | omega | (split <;> omega)) (fun c3 => ?_) (fun c3 => ?_)
        · skip
          refine v_iload_n X dX8_all_54 rfl ?_
          refine v_if_ne (tgt := 63) X dX8_all_55 (by decide) (by first | omega | (split <;> omega)) (fun c4 => ?_) (fun c4 => ?_)
          · skip
            refine v_iload_n X dX8_all_63 rfl ?_
            exact v_iret X Y dX8_all_64 (u := ()) (by
                have e : allM fc = n := by unfold allM; rw [h2, show (h - 1).toNat = (fc 1 - 1).toNat by omega]
                rw [if_pos (by omega), e]; first | rw [if_pos (by assumption)] | rw [if_neg (by assumption)]) (by rfl)
          · skip
            refine v_ldc X (List.mem_of_getElem? (i := 4) rfl) dX8_all_58 (n := -1000000) (by decide) ?_
            refine v_goto (tgt := 64) X dX8_all_60 (by decide) ?_
            exact v_iret X Y dX8_all_64 (u := ()) (by
                have e : allM fc = n := by unfold allM; rw [h2, show (h - 1).toNat = (fc 1 - 1).toNat by omega]
                rw [if_pos (by omega), e]; first | rw [if_pos (by assumption)] | rw [if_neg (by assumption)]) (by rfl)
        · skip
          refine v_iload_n X dX8_all_29 rfl ?_
          refine v_aload_n X dX8_all_30 rfl ?_
          refine v_iload_n X dX8_all_31 rfl ?_
          have q8 := spdM_bd (fc := fc) (h := h) ht3
          have q9 := spdM_bd (fc := fc) (h := 0) ht3
          have q7 := qa h
          refine res_E X (run_V X (c_X8_speed (g := g) (by first | assumption | omega) (by first | assumption | omega) (by first | assumption | omega)) gX8_all_X8_speed rfl hdX8_speed ⟨(Nat.le_of_ble_eq_true rfl), (Nat.le_of_ble_eq_true rfl)⟩ ⟨(Nat.le_of_ble_eq_true rfl), (Nat.le_of_ble_eq_true rfl)⟩ 0 rfl rfl rfl [0, 1, 2, 3, 4, 5, 6, 7, 8, 9, 10] rfl rfl rfl rfl (by simp [Value.category]) dX8_all_32) [0, 1, 2, 3, 4, 5, 6, 7, 8, 9, 10] rfl rfl ?_
          refine v_aload_n X dX8_all_35 rfl ?_
          refine v_iconst X dX8_all_36 ?_
          refine res_E X (run_V X (c_X8_speed (g := g) (by first | assumption | omega) (by first | assumption | omega) (by first | assumption | omega)) gX8_all_X8_speed rfl hdX8_speed ⟨(Nat.le_of_ble_eq_true rfl), (Nat.le_of_ble_eq_true rfl)⟩ ⟨(Nat.le_of_ble_eq_true rfl), (Nat.le_of_ble_eq_true rfl)⟩ 0 rfl rfl rfl [0, 1, 2, 3, 4, 5, 6, 7, 8, 9, 10] rfl rfl rfl rfl (by simp [Value.category]) dX8_all_37) [0, 1, 2, 3, 4, 5, 6, 7, 8, 9, 10] rfl rfl ?_
          refine v_isub X dX8_all_40 ?_
          refine res_E X (run_S X (c_X8_size (g := g) (by first | assumption | omega)) gX8_all_X8_size rfl hdX8_size.2 ⟨(Nat.le_of_ble_eq_true rfl), (Nat.le_of_ble_eq_true rfl)⟩ ⟨(Nat.le_of_ble_eq_true rfl), (Nat.le_of_ble_eq_true rfl)⟩ [] rfl rfl rfl rfl (by simp [Value.category]) dX8_all_41) [] rfl rfl ?_
          refine res_E X (run_S X (c_X8_divisor (g := g) (by first | assumption | omega) (by first | assumption | omega) (by first | assumption | omega) (by first | assumption | omega)) gX8_all_X8_divisor rfl hdX8_divisor.2 ⟨(Nat.le_of_ble_eq_true rfl), (Nat.le_of_ble_eq_true rfl)⟩ ⟨(Nat.le_of_ble_eq_true rfl), (Nat.le_of_ble_eq_true rfl)⟩ [] rfl rfl rfl rfl (by simp [Value.category]) dX8_all_44) [] rfl rfl ?_
          refine v_istore_n X dX8_all_47 1 rfl (by decide) rfl ?_
          dsimp only [List.set]
          refine v_iinc X dX8_all_48 rfl (by decide) rfl ?_
          dsimp only [List.set]
          refine v_goto (tgt := 19) X dX8_all_51 (by decide) ?_
          exact ih19 _ _ (by omega) (by rw [show (h + 1 - 1).toNat = (h - 1).toNat + 1 by omega]; simp only [gcdN]; rw [← h2, show (((h - 1).toNat : Nat) : Int) + 1 = h by omega]) (by first | omega | (have q7 := qg (h + 1 - 1).toNat; rw [show (h + 1 - 1).toNat = (h - 1).toNat + 1 by omega] at q7; simp only [gcdN] at q7; rw [← h2, show (((h - 1).toNat : Nat) : Int) + 1 = h by omega] at q7; exact q7)) (by omega)
    exact L19 _ _ _ (by omega) (by rfl) (by first | omega | (have q7 := qg (h + 1 - 1).toNat; rw [show (h + 1 - 1).toNat = (h - 1).toNat + 1 by omega] at q7; simp only [gcdN] at q7; rw [← h2, show (((h - 1).toNat : Nat) : Int) + 1 = h by omega] at q7; exact q7)) (Nat.lt_succ_self _)
  · skip
    refine v_ldc X (List.mem_of_getElem? (i := 2) rfl) dX8_all_12 (n := -1000002) (by decide) ?_
    exact v_iret X Y dX8_all_14 (u := ()) (by rw [if_neg (by omega)]) (by rfl)

theorem hdX7_found : yX7_found.cls = RX7 ∧ yX7_found.cls ≠ "java/lang/invoke/MethodHandle" ∧ yX7_found.cls ≠ "java/lang/invoke/VarHandle" ∧ (parseMethodDescriptor yX7_found.desc).map (fun d => d.parameters.length) = some 1 := ⟨rfl, by decide +kernel, by decide +kernel, by decide +kernel⟩
set_option maxHeartbeats 4000000 in
set_option maxRecDepth 100000 in
theorem c_X7_found {g : Gx} {B : Nat → Nat} {lf fi : Int}  {n : Int}  : CtE g yX7_found wsX7_found 0 0 [.ref (B 0), .int (iI n)] ([oAH g B (lf) (fi)]) (-1000010 - n) ([oAH g B (lf) (n)]) := by
  refine m_go (cc := cX7_found) (nL := 2) (by decide +kernel) rfl (Nat.le_of_ble_eq_true rfl) (fun x X Y hnm => ?_)
  refine v_eq (lo2 := [some (.ref (B 0)), some (.int (iI n))]) rfl rfl rfl rfl ?_
  refine v_aload_n X dX7_found_0 rfl ?_
  refine v_iload_n X dX7_found_1 rfl ?_
  refine v_put X (fun _ h => List.mem_cons_of_mem _ (List.mem_append_right _ h)) tyX7 tyX7_ok nmX7 0 rfl rfl 11 (by decide) rfl (List.mem_of_getElem? (i := 1) rfl) rfl rfl rfl (Nat.le_of_ble_eq_true rfl) dX7_found_2 ?_
  dsimp only [List.set, oAH, List.cons_append, List.nil_append]
  refine v_ldcw X (List.mem_of_getElem? (i := 2) rfl) dX7_found_5 (n := -1000010) (by decide) ?_
  refine v_iload_n X dX7_found_8 rfl ?_
  refine v_isub X dX7_found_9 ?_
  exact v_iret X Y dX7_found_10 (u := ()) (by first | rfl | omega | (split <;> omega) | (simp [*]; done)) (by rfl)

theorem hdX7_fine : yX7_fine.cls = RX7 ∧ yX7_fine.cls ≠ "java/lang/invoke/MethodHandle" ∧ yX7_fine.cls ≠ "java/lang/invoke/VarHandle" ∧ (parseMethodDescriptor yX7_fine.desc).map (fun d => d.parameters.length) = some 1 := ⟨rfl, by decide +kernel, by decide +kernel, by decide +kernel⟩
set_option maxHeartbeats 4000000 in
set_option maxRecDepth 100000 in
theorem c_X7_fine {g : Gx} {B : Nat → Nat} {lf fi : Int}  {n : Int}  : CtE g yX7_fine wsX7_fine 0 0 [.ref (B 0), .int (iI n)] ([oAH g B (lf) (fi)]) (n) ([oAH g B (lf) (0)]) := by
  refine m_go (cc := cX7_fine) (nL := 2) (by decide +kernel) rfl (Nat.le_of_ble_eq_true rfl) (fun x X Y hnm => ?_)
  refine v_eq (lo2 := [some (.ref (B 0)), some (.int (iI n))]) rfl rfl rfl rfl ?_
  refine v_aload_n X dX7_fine_0 rfl ?_
  refine v_iconst X dX7_fine_1 ?_
  refine v_put X (fun _ h => List.mem_cons_of_mem _ (List.mem_append_right _ h)) tyX7 tyX7_ok nmX7 0 rfl rfl 11 (by decide) rfl (List.mem_of_getElem? (i := 1) rfl) rfl rfl rfl (Nat.le_of_ble_eq_true rfl) dX7_fine_2 ?_
  dsimp only [List.set, oAH, List.cons_append, List.nil_append]
  refine v_iload_n X dX7_fine_5 rfl ?_
  exact v_iret X Y dX7_fine_6 (u := ()) (by first | rfl | omega | (split <;> omega) | (simp [*]; done)) (by rfl)

theorem hdX7_fault : yX7_fault.cls = RX7 ∧ yX7_fault.cls ≠ "java/lang/invoke/MethodHandle" ∧ yX7_fault.cls ≠ "java/lang/invoke/VarHandle" ∧ (parseMethodDescriptor yX7_fault.desc).map (fun d => d.parameters.length) = some 0 := ⟨rfl, by decide +kernel, by decide +kernel, by decide +kernel⟩
set_option maxHeartbeats 4000000 in
set_option maxRecDepth 100000 in
theorem c_X7_fault {g : Gx} {B : Nat → Nat} {lf fi : Int}    : CtE g yX7_fault wsX7_fault 0 0 [.ref (B 0)] ([oAH g B (lf) (fi)]) (lf) ([oAH g B (lf) (fi)]) := by
  refine m_go (cc := cX7_fault) (nL := 1) (by decide +kernel) rfl (Nat.le_of_ble_eq_true rfl) (fun x X Y hnm => ?_)
  refine v_eq (lo2 := [some (.ref (B 0))]) rfl rfl rfl rfl ?_
  refine v_aload_n X dX7_fault_0 rfl ?_
  refine v_get X (fun _ h => List.mem_cons_of_mem _ (List.mem_append_right _ h)) 0 rfl rfl 10 (by decide) rfl (List.mem_of_getElem? (i := 1) rfl) rfl dX7_fault_1 ?_
  exact v_iret X Y dX7_fault_4 (u := ()) (by first | rfl | omega | (split <;> omega) | (simp [*]; done)) (by rfl)

theorem hdX7_status : yX7_status.cls = RX7 ∧ yX7_status.cls ≠ "java/lang/invoke/MethodHandle" ∧ yX7_status.cls ≠ "java/lang/invoke/VarHandle" ∧ (parseMethodDescriptor yX7_status.desc).map (fun d => d.parameters.length) = some 0 := ⟨rfl, by decide +kernel, by decide +kernel, by decide +kernel⟩
set_option maxHeartbeats 4000000 in
set_option maxRecDepth 100000 in
theorem c_X7_status {g : Gx} {B : Nat → Nat} {lf fi : Int}    : CtE g yX7_status wsX7_status 0 0 [.ref (B 0)] ([oAH g B (lf) (fi)]) (fi) ([oAH g B (lf) (fi)]) := by
  refine m_go (cc := cX7_status) (nL := 1) (by decide +kernel) rfl (Nat.le_of_ble_eq_true rfl) (fun x X Y hnm => ?_)
  refine v_eq (lo2 := [some (.ref (B 0))]) rfl rfl rfl rfl ?_
  refine v_aload_n X dX7_status_0 rfl ?_
  refine v_get X (fun _ h => List.mem_cons_of_mem _ (List.mem_append_right _ h)) 0 rfl rfl 11 (by decide) rfl (List.mem_of_getElem? (i := 1) rfl) rfl dX7_status_1 ?_
  exact v_iret X Y dX7_status_4 (u := ()) (by first | rfl | omega | (split <;> omega) | (simp [*]; done)) (by rfl)

theorem hdX7_isOfKind : yX7_isOfKind.cls = RX7 ∧ yX7_isOfKind.cls ≠ "java/lang/invoke/MethodHandle" ∧ yX7_isOfKind.cls ≠ "java/lang/invoke/VarHandle" ∧ (parseMethodDescriptor yX7_isOfKind.desc).map (fun d => d.parameters.length) = some 2 := ⟨rfl, by decide +kernel, by decide +kernel, by decide +kernel⟩
set_option maxHeartbeats 4000000 in
set_option maxRecDepth 100000 in
theorem c_X7_isOfKind {g : Gx} {s t : Int} (hs : R32 s) (ht : R32 t) : CtE g yX7_isOfKind wsX7_isOfKind 0 0 [.int (iI s), .int (iI t)] ([]) (if t = 0 ∨ s = t ∨ (t = 1 ∧ (s = 2 ∨ s = 3)) ∨ (t = 4 ∧ s = 5) then 1 else 0) ([]) := by
  refine m_go (cc := cX7_isOfKind) (nL := 2) (by decide +kernel) rfl (Nat.le_of_ble_eq_true rfl) (fun x X Y hnm => ?_)
  refine v_eq (lo2 := [some (.int (iI s)), some (.int (iI t))]) rfl rfl rfl rfl ?_
  refine v_iload_n X dX7_isOfKind_0 rfl ?_
  refine v_if_eq (tgt := 9) X dX7_isOfKind_1 (by decide) (by omega) (fun c1 => ?_) (fun c1 => ?_)
  · skip
    refine v_iconst X dX7_isOfKind_9 ?_
    exact v_zret X Y dX7_isOfKind_10 (by first | decide | omega | (split <;> omega)) (u := ()) (by first | rfl | omega | (split <;> omega) | (simp [*]; done)) (by rfl)
  · skip
    refine v_iload_n X dX7_isOfKind_4 rfl ?_
    refine v_iload_n X dX7_isOfKind_5 rfl ?_
    refine v_icmp_ne (tgt := 11) X dX7_isOfKind_6 (by decide) (by omega) (by omega) (fun c2 => ?_) (fun c2 => ?_)
    · skip
      refine v_iload_n X dX7_isOfKind_11 rfl ?_
      refine v_iconst X dX7_isOfKind_12 ?_
      refine v_icmp_ne (tgt := 34) X dX7_isOfKind_13 (by decide) (by omega) (by omega) (fun c3 => ?_) (fun c3 => ?_)
      · skip
        refine v_iload_n X dX7_isOfKind_34 rfl ?_
        refine v_iconst X dX7_isOfKind_35 ?_
        refine v_icmp_ne (tgt := 48) X dX7_isOfKind_36 (by decide) (by omega) (by omega) (fun c4 => ?_) (fun c4 => ?_)
        · skip
          refine v_iconst X dX7_isOfKind_48 ?_
          exact v_zret X Y dX7_isOfKind_49 (by first | decide | omega | (split <;> omega)) (u := ()) (by first | rfl | omega | (split <;> omega) | (simp [*]; done)) (by rfl)
        · skip
          refine v_iload_n X dX7_isOfKind_39 rfl ?_
          refine v_iconst X dX7_isOfKind_40 ?_
          refine v_icmp_ne (tgt := 48) X dX7_isOfKind_41 (by decide) (by omega) (by omega) (fun c5 => ?_) (fun c5 => ?_)
          · skip
            refine v_iconst X dX7_isOfKind_48 ?_
            exact v_zret X Y dX7_isOfKind_49 (by first | decide | omega | (split <;> omega)) (u := ()) (by first | rfl | omega | (split <;> omega) | (simp [*]; done)) (by rfl)
          · skip
            refine v_iconst X dX7_isOfKind_44 ?_
            refine v_goto (tgt := 49) X dX7_isOfKind_45 (by decide) ?_
            exact v_zret X Y dX7_isOfKind_49 (by first | decide | omega | (split <;> omega)) (u := ()) (by first | rfl | omega | (split <;> omega) | (simp [*]; done)) (by rfl)
      · skip
        refine v_iload_n X dX7_isOfKind_16 rfl ?_
        refine v_iconst X dX7_isOfKind_17 ?_
        refine v_icmp_eq (tgt := 26) X dX7_isOfKind_18 (by decide) (by omega) (by omega) (fun c6 => ?_) (fun c6 => ?_)
        · skip
          refine v_iconst X dX7_isOfKind_26 ?_
          refine v_goto (tgt := 49) X dX7_isOfKind_27 (by decide) ?_
          exact v_zret X Y dX7_isOfKind_49 (by first | decide | omega | (split <;> omega)) (u := ()) (by first | rfl | omega | (split <;> omega) | (simp [*]; done)) (by rfl)
        · skip
          refine v_iload_n X dX7_isOfKind_21 rfl ?_
          refine v_iconst X dX7_isOfKind_22 ?_
          refine v_icmp_ne (tgt := 30) X dX7_isOfKind_23 (by decide) (by omega) (by omega) (fun c7 => ?_) (fun c7 => ?_)
          · skip
            refine v_iconst X dX7_isOfKind_30 ?_
            refine v_goto (tgt := 49) X dX7_isOfKind_31 (by decide) ?_
            exact v_zret X Y dX7_isOfKind_49 (by first | decide | omega | (split <;> omega)) (u := ()) (by first | rfl | omega | (split <;> omega) | (simp [*]; done)) (by rfl)
          · skip
            refine v_iconst X dX7_isOfKind_26 ?_
            refine v_goto (tgt := 49) X dX7_isOfKind_27 (by decide) ?_
            exact v_zret X Y dX7_isOfKind_49 (by first | decide | omega | (split <;> omega)) (u := ()) (by first | rfl | omega | (split <;> omega) | (simp [*]; done)) (by rfl)
    · skip
      refine v_iconst X dX7_isOfKind_9 ?_
      exact v_zret X Y dX7_isOfKind_10 (by first | decide | omega | (split <;> omega)) (u := ()) (by first | rfl | omega | (split <;> omega) | (simp [*]; done)) (by rfl)

theorem hdX7_firstMeeting : yX7_firstMeeting.cls = RX7 ∧ yX7_firstMeeting.cls ≠ "java/lang/invoke/MethodHandle" ∧ yX7_firstMeeting.cls ≠ "java/lang/invoke/VarHandle" ∧ (parseMethodDescriptor yX7_firstMeeting.desc).map (fun d => d.parameters.length) = some 4 := ⟨rfl, by decide +kernel, by decide +kernel, by decide +kernel⟩
set_option maxHeartbeats 4000000 in
set_option maxRecDepth 100000 in
theorem c_X7_firstMeeting {g : Gx} {b h p q : Int} (hb : 0 ≤ b ∧ b ≤ 192) (hh : 0 ≤ h ∧ h ≤ 2) (hp : 0 ≤ p ∧ p < q) (hq : 1 ≤ q ∧ q ≤ 9999) : CtE g yX7_firstMeeting wsX7_firstMeeting 0 0 [.int (iI b), .int (iI h), .int (iI p), .int (iI q)] ([]) (fmI b h p q) ([]) := by
  refine m_go (cc := cX7_firstMeeting) (nL := 6) (by decide +kernel) rfl (Nat.le_of_ble_eq_true rfl) (fun x X Y hnm => ?_)
  refine v_eq (lo2 := [some (.int (iI b)), some (.int (iI h)), some (.int (iI p)), some (.int (iI q)), none, none]) rfl rfl rfl rfl ?_
  have m1 := mul_nn hb (show 0 ≤ p ∧ p ≤ 9998 by omega)
  have m2 : (b * p + q - 1).tdiv q = (b * p + q - 1) / q := tdiv_of_nn (by omega)
  have m3 : 0 ≤ (b * p + q - 1) / q := Int.ediv_nonneg (by omega) (by omega)
  have m4 : (b * p + q - 1) / q ≤ b * p + q - 1 := Int.ediv_le_self _ (by omega)
  have m5 : ((b * p + q - 1) / q).tmod 2 = ((b * p + q - 1) / q) % 2 := Int.tmod_eq_emod_of_nonneg m3
  refine v_iload_n X dX7_firstMeeting_0 rfl ?_
  refine v_if_ne (tgt := 8) X dX7_firstMeeting_1 (by decide) (by omega) (fun c1 => ?_) (fun c1 => ?_)
  · skip
    refine v_iconst X dX7_firstMeeting_8 ?_
    refine v_istore X dX7_firstMeeting_9 (by decide) rfl ?_
    dsimp only [List.set]
    refine v_iload_n X dX7_firstMeeting_11 rfl ?_
    refine v_iconst X dX7_firstMeeting_12 ?_
    refine v_icmp_ge (tgt := 19) X dX7_firstMeeting_13 (by decide) (by omega) (by omega) (fun c2 => ?_) (fun c2 => ?_)
    · skip
      refine v_iload_n X dX7_firstMeeting_19 rfl ?_
      refine v_iload_n X dX7_firstMeeting_20 rfl ?_
      refine v_imul X dX7_firstMeeting_21 ?_
      refine v_iload_n X dX7_firstMeeting_22 rfl ?_
      refine v_iadd X dX7_firstMeeting_23 ?_
      refine v_iconst X dX7_firstMeeting_24 ?_
      refine v_isub X dX7_firstMeeting_25 ?_
      refine v_iload_n X dX7_firstMeeting_26 rfl ?_
      refine v_idiv X dX7_firstMeeting_27 (by omega) (by omega) (by omega) ?_
      rw [m2]
      refine v_istore X dX7_firstMeeting_28 (by decide) rfl ?_
      dsimp only [List.set]
      refine v_iload_n X dX7_firstMeeting_30 rfl ?_
      refine v_if_eq (tgt := 44) X dX7_firstMeeting_31 (by decide) (by omega) (fun c3 => ?_) (fun c3 => ?_)
      · skip
        refine v_iload X dX7_firstMeeting_44 rfl ?_
        refine v_iload_n X dX7_firstMeeting_46 rfl ?_
        refine v_icmp_ge (tgt := 55) X dX7_firstMeeting_47 (by decide) (by omega) (by omega) (fun c4 => ?_) (fun c4 => ?_)
        · skip
          refine v_iload X dX7_firstMeeting_55 rfl ?_
          exact v_iret X Y dX7_firstMeeting_57 (u := ()) (by unfold fmI; (repeat split) <;> omega) (by rfl)
        · skip
          refine v_iload X dX7_firstMeeting_50 rfl ?_
          refine v_goto (tgt := 57) X dX7_firstMeeting_52 (by decide) ?_
          exact v_iret X Y dX7_firstMeeting_57 (u := ()) (by unfold fmI; (repeat split) <;> omega) (by rfl)
      · skip
        refine v_iload X dX7_firstMeeting_34 rfl ?_
        refine v_iconst X dX7_firstMeeting_36 ?_
        refine v_irem X dX7_firstMeeting_37 (by omega) (by omega) (by omega) ?_
        rw [m5]
        refine v_if_ne (tgt := 44) X dX7_firstMeeting_38 (by decide) (by omega) (fun c5 => ?_) (fun c5 => ?_)
        · skip
          refine v_iload X dX7_firstMeeting_44 rfl ?_
          refine v_iload_n X dX7_firstMeeting_46 rfl ?_
          refine v_icmp_ge (tgt := 55) X dX7_firstMeeting_47 (by decide) (by omega) (by omega) (fun c6 => ?_) (fun c6 => ?_)
          · skip
            refine v_iload X dX7_firstMeeting_55 rfl ?_
            exact v_iret X Y dX7_firstMeeting_57 (u := ()) (by unfold fmI; (repeat split) <;> omega) (by rfl)
          · skip
            refine v_iload X dX7_firstMeeting_50 rfl ?_
            refine v_goto (tgt := 57) X dX7_firstMeeting_52 (by decide) ?_
            exact v_iret X Y dX7_firstMeeting_57 (u := ()) (by unfold fmI; (repeat split) <;> omega) (by rfl)
        · skip
          refine v_iinc X dX7_firstMeeting_41 rfl (by decide) rfl ?_
          dsimp only [List.set]
          refine v_iload X dX7_firstMeeting_44 rfl ?_
          refine v_iload_n X dX7_firstMeeting_46 rfl ?_
          refine v_icmp_ge (tgt := 55) X dX7_firstMeeting_47 (by decide) (by omega) (by omega) (fun c7 => ?_) (fun c7 => ?_)
          · skip
            refine v_iload X dX7_firstMeeting_55 rfl ?_
            exact v_iret X Y dX7_firstMeeting_57 (u := ()) (by unfold fmI; (repeat split) <;> omega) (by rfl)
          · skip
            refine v_iload X dX7_firstMeeting_50 rfl ?_
            refine v_goto (tgt := 57) X dX7_firstMeeting_52 (by decide) ?_
            exact v_iret X Y dX7_firstMeeting_57 (u := ()) (by unfold fmI; (repeat split) <;> omega) (by rfl)
    · skip
      exfalso; omega
  · skip
    refine v_iconst X dX7_firstMeeting_4 ?_
    refine v_goto (tgt := 9) X dX7_firstMeeting_5 (by decide) ?_
    refine v_istore X dX7_firstMeeting_9 (by decide) rfl ?_
    dsimp only [List.set]
    refine v_iload_n X dX7_firstMeeting_11 rfl ?_
    refine v_iconst X dX7_firstMeeting_12 ?_
    refine v_icmp_ge (tgt := 19) X dX7_firstMeeting_13 (by decide) (by omega) (by omega) (fun c8 => ?_) (fun c8 => ?_)
    · skip
      refine v_iload_n X dX7_firstMeeting_19 rfl ?_
      refine v_iload_n X dX7_firstMeeting_20 rfl ?_
      refine v_imul X dX7_firstMeeting_21 ?_
      refine v_iload_n X dX7_firstMeeting_22 rfl ?_
      refine v_iadd X dX7_firstMeeting_23 ?_
      refine v_iconst X dX7_firstMeeting_24 ?_
      refine v_isub X dX7_firstMeeting_25 ?_
      refine v_iload_n X dX7_firstMeeting_26 rfl ?_
      refine v_idiv X dX7_firstMeeting_27 (by omega) (by omega) (by omega) ?_
      rw [m2]
      refine v_istore X dX7_firstMeeting_28 (by decide) rfl ?_
      dsimp only [List.set]
      refine v_iload_n X dX7_firstMeeting_30 rfl ?_
      refine v_if_eq (tgt := 44) X dX7_firstMeeting_31 (by decide) (by omega) (fun c9 => ?_) (fun c9 => ?_)
      · skip
        refine v_iload X dX7_firstMeeting_44 rfl ?_
        refine v_iload_n X dX7_firstMeeting_46 rfl ?_
        refine v_icmp_ge (tgt := 55) X dX7_firstMeeting_47 (by decide) (by omega) (by omega) (fun c10 => ?_) (fun c10 => ?_)
        · skip
          refine v_iload X dX7_firstMeeting_55 rfl ?_
          exact v_iret X Y dX7_firstMeeting_57 (u := ()) (by unfold fmI; (repeat split) <;> omega) (by rfl)
        · skip
          refine v_iload X dX7_firstMeeting_50 rfl ?_
          refine v_goto (tgt := 57) X dX7_firstMeeting_52 (by decide) ?_
          exact v_iret X Y dX7_firstMeeting_57 (u := ()) (by unfold fmI; (repeat split) <;> omega) (by rfl)
      · skip
        refine v_iload X dX7_firstMeeting_34 rfl ?_
        refine v_iconst X dX7_firstMeeting_36 ?_
        refine v_irem X dX7_firstMeeting_37 (by omega) (by omega) (by omega) ?_
        rw [m5]
        refine v_if_ne (tgt := 44) X dX7_firstMeeting_38 (by decide) (by omega) (fun c11 => ?_) (fun c11 => ?_)
        · skip
          refine v_iload X dX7_firstMeeting_44 rfl ?_
          refine v_iload_n X dX7_firstMeeting_46 rfl ?_
          refine v_icmp_ge (tgt := 55) X dX7_firstMeeting_47 (by decide) (by omega) (by omega) (fun c12 => ?_) (fun c12 => ?_)
          · skip
            refine v_iload X dX7_firstMeeting_55 rfl ?_
            exact v_iret X Y dX7_firstMeeting_57 (u := ()) (by unfold fmI; (repeat split) <;> omega) (by rfl)
          · skip
            refine v_iload X dX7_firstMeeting_50 rfl ?_
            refine v_goto (tgt := 57) X dX7_firstMeeting_52 (by decide) ?_
            exact v_iret X Y dX7_firstMeeting_57 (u := ()) (by unfold fmI; (repeat split) <;> omega) (by rfl)
        · skip
          refine v_iinc X dX7_firstMeeting_41 rfl (by decide) rfl ?_
          dsimp only [List.set]
          refine v_iload X dX7_firstMeeting_44 rfl ?_
          refine v_iload_n X dX7_firstMeeting_46 rfl ?_
          refine v_icmp_ge (tgt := 55) X dX7_firstMeeting_47 (by decide) (by omega) (by omega) (fun c13 => ?_) (fun c13 => ?_)
          · skip
            refine v_iload X dX7_firstMeeting_55 rfl ?_
            exact v_iret X Y dX7_firstMeeting_57 (u := ()) (by unfold fmI; (repeat split) <;> omega) (by rfl)
          · skip
            refine v_iload X dX7_firstMeeting_50 rfl ?_
            refine v_goto (tgt := 57) X dX7_firstMeeting_52 (by decide) ?_
            exact v_iret X Y dX7_firstMeeting_57 (u := ()) (by unfold fmI; (repeat split) <;> omega) (by rfl)
    · skip
      exfalso; omega

theorem hdX7_isPair : yX7_isPair.cls = RX7 ∧ yX7_isPair.cls ≠ "java/lang/invoke/MethodHandle" ∧ yX7_isPair.cls ≠ "java/lang/invoke/VarHandle" ∧ (parseMethodDescriptor yX7_isPair.desc).map (fun d => d.parameters.length) = some 2 := ⟨rfl, by decide +kernel, by decide +kernel, by decide +kernel⟩
set_option maxHeartbeats 4000000 in
set_option maxRecDepth 100000 in
theorem c_X7_isPair {g : Gx} {B : Nat → Nat} {lf fi : Int} {mk cn : Int} {so tu sp : Nat → Int} {a b : Int} (hcn : 0 ≤ cn ∧ cn ≤ 4) (ha : R32 a) (hb : R32 b) : CtE g yX7_isPair wsX7_isPair 1 21 [.ref (B 0), .int (iI a), .int (iI b)] (oAH g B (lf) (fi) :: (wClk g (B 3) (B 15) (B 16) (B 17) mk cn so tu sp)) (if (0 ≤ a ∧ a < cn) ∧ (0 ≤ b ∧ b < cn) ∧ a ≠ b then 1 else 0) (oAH g B (lf) (fi) :: (wClk g (B 3) (B 15) (B 16) (B 17) mk cn so tu sp)) := by
  refine m_go (cc := cX7_isPair) (nL := 3) (by decide +kernel) rfl (Nat.le_of_ble_eq_true rfl) (fun x X Y hnm => ?_)
  refine v_eq (lo2 := [some (.ref (B 0)), some (.int (iI a)), some (.int (iI b))]) rfl rfl rfl rfl ?_
  refine v_aload_n X dX7_isPair_0 rfl ?_
  refine v_get X (fun _ h => List.mem_cons_of_mem _ (List.mem_append_left _ (List.mem_append_right _ h))) 0 rfl rfl 2 (by decide) rfl (List.mem_of_getElem? (i := 1) rfl) rfl dX7_isPair_1 ?_
  refine v_iload_n X dX7_isPair_4 rfl ?_
  refine res_E X (run_V X (c_X2_has (g := g) (by first | assumption | omega) (by first | assumption | omega)) gX7_isPair_X2_has rfl hdX2_has ⟨(Nat.le_of_ble_eq_true rfl), (Nat.le_of_ble_eq_true rfl)⟩ ⟨(Nat.le_of_ble_eq_true rfl), (Nat.le_of_ble_eq_true rfl)⟩ 1 rfl rfl rfl [1, 2, 3, 4] rfl rfl rfl rfl (by simp [Value.category]) dX7_isPair_5) [1, 2, 3, 4] rfl rfl ?_
  refine v_ifb_eq (tgt := 31) X dX7_isPair_8 (by decide) (fun c1 => ?_) (fun c1 => ?_)
  · skip
    refine v_iconst X dX7_isPair_31 ?_
    exact v_zret X Y dX7_isPair_32 (by first | decide | omega | (split <;> omega)) (u := ()) (by first | rfl | omega | (split <;> omega) | (simp [*]; done)) (by rfl)
  · skip
    refine v_aload_n X dX7_isPair_11 rfl ?_
    refine v_get X (fun _ h => List.mem_cons_of_mem _ (List.mem_append_left _ (List.mem_append_right _ h))) 0 rfl rfl 2 (by decide) rfl (List.mem_of_getElem? (i := 1) rfl) rfl dX7_isPair_12 ?_
    refine v_iload_n X dX7_isPair_15 rfl ?_
    refine res_E X (run_V X (c_X2_has (g := g) (by first | assumption | omega) (by first | assumption | omega)) gX7_isPair_X2_has rfl hdX2_has ⟨(Nat.le_of_ble_eq_true rfl), (Nat.le_of_ble_eq_true rfl)⟩ ⟨(Nat.le_of_ble_eq_true rfl), (Nat.le_of_ble_eq_true rfl)⟩ 1 rfl rfl rfl [1, 2, 3, 4] rfl rfl rfl rfl (by simp [Value.category]) dX7_isPair_16) [1, 2, 3, 4] rfl rfl ?_
    refine v_ifb_eq (tgt := 31) X dX7_isPair_19 (by decide) (fun c2 => ?_) (fun c2 => ?_)
    · skip
      refine v_iconst X dX7_isPair_31 ?_
      exact v_zret X Y dX7_isPair_32 (by first | decide | omega | (split <;> omega)) (u := ()) (by first | rfl | omega | (split <;> omega) | (simp [*]; done)) (by rfl)
    · skip
      refine v_iload_n X dX7_isPair_22 rfl ?_
      refine v_iload_n X dX7_isPair_23 rfl ?_
      refine v_icmp_eq (tgt := 31) X dX7_isPair_24 (by decide) (by omega) (by omega) (fun c3 => ?_) (fun c3 => ?_)
      · skip
        refine v_iconst X dX7_isPair_31 ?_
        exact v_zret X Y dX7_isPair_32 (by first | decide | omega | (split <;> omega)) (u := ()) (by first | rfl | omega | (split <;> omega) | (simp [*]; done)) (by rfl)
      · skip
        refine v_iconst X dX7_isPair_27 ?_
        refine v_goto (tgt := 32) X dX7_isPair_28 (by decide) ?_
        exact v_zret X Y dX7_isPair_32 (by first | decide | omega | (split <;> omega)) (u := ()) (by first | rfl | omega | (split <;> omega) | (simp [*]; done)) (by rfl)

theorem hdX7_speedApart : yX7_speedApart.cls = RX7 ∧ yX7_speedApart.cls ≠ "java/lang/invoke/MethodHandle" ∧ yX7_speedApart.cls ≠ "java/lang/invoke/VarHandle" ∧ (parseMethodDescriptor yX7_speedApart.desc).map (fun d => d.parameters.length) = some 2 := ⟨rfl, by decide +kernel, by decide +kernel, by decide +kernel⟩
set_option maxHeartbeats 4000000 in
set_option maxRecDepth 100000 in
theorem c_X7_speedApart {g : Gx} {B : Nat → Nat} {lf fi : Int} {mk cn : Int} {so tu sp : Nat → Int} {a b : Int} (hcn : 0 ≤ cn ∧ cn ≤ 4) (hso : Bd 0 5 so) (htu : Bd 0 12 tu) (ha : R32 a) (hb : R32 b) : CtE g yX7_speedApart wsX7_speedApart 3 64 [.ref (B 0), .int (iI a), .int (iI b)] (oAH g B (lf) (fi) :: (wClk g (B 3) (B 15) (B 16) (B 17) mk cn so tu sp)) (absI (spdI cn so tu a - spdI cn so tu b)) (oAH g B (lf) (fi) :: (wClk g (B 3) (B 15) (B 16) (B 17) mk cn so tu sp)) := by
  refine m_go (cc := cX7_speedApart) (nL := 3) (by decide +kernel) rfl (Nat.le_of_ble_eq_true rfl) (fun x X Y hnm => ?_)
  refine v_eq (lo2 := [some (.ref (B 0)), some (.int (iI a)), some (.int (iI b))]) rfl rfl rfl rfl ?_
  have qs := fun (i : Int) => spdI_bd (cn := cn) (so := so) (h := i) htu
  have q1 := qs a
  have q2 := qs b
  refine v_aload_n X dX7_speedApart_0 rfl ?_
  refine v_get X (fun _ h => List.mem_cons_of_mem _ (List.mem_append_left _ (List.mem_append_right _ h))) 0 rfl rfl 2 (by decide) rfl (List.mem_of_getElem? (i := 1) rfl) rfl dX7_speedApart_1 ?_
  refine v_iload_n X dX7_speedApart_4 rfl ?_
  refine res_E X (run_V X (c_X2_speedOf (g := g) (by first | assumption | omega) (by first | assumption | omega) (by first | assumption | omega) (by first | assumption | omega)) gX7_speedApart_X2_speedOf rfl hdX2_speedOf ⟨(Nat.le_of_ble_eq_true rfl), (Nat.le_of_ble_eq_true rfl)⟩ ⟨(Nat.le_of_ble_eq_true rfl), (Nat.le_of_ble_eq_true rfl)⟩ 1 rfl rfl rfl [1, 2, 3, 4] rfl rfl rfl rfl (by simp [Value.category]) dX7_speedApart_5) [1, 2, 3, 4] rfl rfl ?_
  refine v_aload_n X dX7_speedApart_8 rfl ?_
  refine v_get X (fun _ h => List.mem_cons_of_mem _ (List.mem_append_left _ (List.mem_append_right _ h))) 0 rfl rfl 2 (by decide) rfl (List.mem_of_getElem? (i := 1) rfl) rfl dX7_speedApart_9 ?_
  refine v_iload_n X dX7_speedApart_12 rfl ?_
  refine res_E X (run_V X (c_X2_speedOf (g := g) (by first | assumption | omega) (by first | assumption | omega) (by first | assumption | omega) (by first | assumption | omega)) gX7_speedApart_X2_speedOf rfl hdX2_speedOf ⟨(Nat.le_of_ble_eq_true rfl), (Nat.le_of_ble_eq_true rfl)⟩ ⟨(Nat.le_of_ble_eq_true rfl), (Nat.le_of_ble_eq_true rfl)⟩ 1 rfl rfl rfl [1, 2, 3, 4] rfl rfl rfl rfl (by simp [Value.category]) dX7_speedApart_13) [1, 2, 3, 4] rfl rfl ?_
  refine v_isub X dX7_speedApart_16 ?_
  refine v_abs X (List.mem_of_getElem? (i := 2) rfl) (List.mem_of_getElem? (i := 3) rfl) (List.mem_of_getElem? (i := 4) rfl) (List.mem_of_getElem? (i := 5) rfl) ⟨(Nat.le_of_ble_eq_true rfl), (Nat.le_of_ble_eq_true rfl), (Nat.le_of_ble_eq_true rfl), (Nat.le_of_ble_eq_true rfl)⟩ (by omega) dX7_speedApart_17 ?_
  exact v_iret X Y dX7_speedApart_20 (u := ()) (by rfl) (by rfl)

theorem hdX7_hand : yX7_hand.cls = RX7 ∧ yX7_hand.cls ≠ "java/lang/invoke/MethodHandle" ∧ yX7_hand.cls ≠ "java/lang/invoke/VarHandle" ∧ (parseMethodDescriptor yX7_hand.desc).map (fun d => d.parameters.length) = some 2 := ⟨rfl, by decide +kernel, by decide +kernel, by decide +kernel⟩
set_option maxHeartbeats 4000000 in
set_option maxRecDepth 100000 in
theorem c_X7_hand {g : Gx} {B : Nat → Nat} {lf fi : Int} {mk cn : Int} {so tu sp : Nat → Int} {h w : Int} (hcn : 0 ≤ cn ∧ cn ≤ 4) (hmk : 0 ≤ mk ∧ mk ≤ 60) (hso : Bd 0 5 so) (htu : Bd 0 12 tu) (hsp : Bd 0 59 sp) (hh : R32 h) (hw : R32 w) : CtE g yX7_hand wsX7_hand 3 64 [.ref (B 0), .int (iI h), .int (iI w)] (oAH g B (lf) (fi) :: (wClk g (B 3) (B 15) (B 16) (B 17) mk cn so tu sp)) (if (0 ≤ h ∧ h < cn) ∧ 0 ≤ w ∧ w ≤ 2 then (if w = 0 then atI cn tu h else if w = 1 then spdI cn so tu h else atI cn sp h) else -1000001) (oAH g B (lf) (fi) :: (wClk g (B 3) (B 15) (B 16) (B 17) mk cn so tu sp)) := by
  refine m_go (cc := cX7_hand) (nL := 3) (by decide +kernel) rfl (Nat.le_of_ble_eq_true rfl) (fun x X Y hnm => ?_)
  refine v_eq (lo2 := [some (.ref (B 0)), some (.int (iI h)), some (.int (iI w))]) rfl rfl rfl rfl ?_
  refine v_aload_n X dX7_hand_0 rfl ?_
  refine v_get X (fun _ h => List.mem_cons_of_mem _ (List.mem_append_left _ (List.mem_append_right _ h))) 0 rfl rfl 2 (by decide) rfl (List.mem_of_getElem? (i := 1) rfl) rfl dX7_hand_1 ?_
  refine v_iload_n X dX7_hand_4 rfl ?_
  refine res_E X (run_V X (c_X2_has (g := g) (by first | assumption | omega) (by first | assumption | omega)) gX7_hand_X2_has rfl hdX2_has ⟨(Nat.le_of_ble_eq_true rfl), (Nat.le_of_ble_eq_true rfl)⟩ ⟨(Nat.le_of_ble_eq_true rfl), (Nat.le_of_ble_eq_true rfl)⟩ 1 rfl rfl rfl [1, 2, 3, 4] rfl rfl rfl rfl (by simp [Value.category]) dX7_hand_5) [1, 2, 3, 4] rfl rfl ?_
  refine v_ifb_eq (tgt := 20) X dX7_hand_8 (by decide) (fun c1 => ?_) (fun c1 => ?_)
  · skip
    refine v_ldc X (List.mem_of_getElem? (i := 2) rfl) dX7_hand_20 (n := -1000001) (by decide) ?_
    exact v_iret X Y dX7_hand_22 (u := ()) (by rw [if_neg (by omega)]) (by rfl)
  · skip
    refine v_iload_n X dX7_hand_11 rfl ?_
    refine v_iconst X dX7_hand_12 ?_
    refine v_iconst X dX7_hand_13 ?_
    refine res_E X (run_S X (c_X7_isWithin (g := g) (by first | assumption | omega) (by first | assumption | omega) (by first | assumption | omega)) gX7_hand_X7_isWithin rfl hdX7_isWithin.2 ⟨(Nat.le_of_ble_eq_true rfl), (Nat.le_of_ble_eq_true rfl)⟩ ⟨(Nat.le_of_ble_eq_true rfl), (Nat.le_of_ble_eq_true rfl)⟩ [] rfl rfl rfl rfl (by simp [Value.category]) dX7_hand_14) [] rfl rfl ?_
    refine v_ifb_ne (tgt := 23) X dX7_hand_17 (by decide) (fun c2 => ?_) (fun c2 => ?_)
    · skip
      refine v_iload_n X dX7_hand_23 rfl ?_
      refine v_if_ne (tgt := 36) X dX7_hand_24 (by decide) (by omega) (fun c3 => ?_) (fun c3 => ?_)
      · skip
        refine v_iload_n X dX7_hand_36 rfl ?_
        refine v_iconst X dX7_hand_37 ?_
        refine v_icmp_ne (tgt := 52) X dX7_hand_38 (by decide) (by omega) (by omega) (fun c4 => ?_) (fun c4 => ?_)
        · skip
          refine v_aload_n X dX7_hand_52 rfl ?_
          refine v_get X (fun _ h => List.mem_cons_of_mem _ (List.mem_append_left _ (List.mem_append_right _ h))) 0 rfl rfl 2 (by decide) rfl (List.mem_of_getElem? (i := 1) rfl) rfl dX7_hand_53 ?_
          refine v_iload_n X dX7_hand_56 rfl ?_
          refine res_E X (run_V X (c_X2_slipOf (g := g) (by first | assumption | omega) (by first | assumption | omega) (by first | assumption | omega)) gX7_hand_X2_slipOf rfl hdX2_slipOf ⟨(Nat.le_of_ble_eq_true rfl), (Nat.le_of_ble_eq_true rfl)⟩ ⟨(Nat.le_of_ble_eq_true rfl), (Nat.le_of_ble_eq_true rfl)⟩ 1 rfl rfl rfl [1, 2, 3, 4] rfl rfl rfl rfl (by simp [Value.category]) dX7_hand_57) [1, 2, 3, 4] rfl rfl ?_
          exact v_iret X Y dX7_hand_60 (u := ()) (by rw [if_pos (by omega), if_neg (by assumption)]; first | rw [if_pos (by assumption)] | rw [if_neg (by assumption)]) (by rfl)
        · skip
          refine v_aload_n X dX7_hand_41 rfl ?_
          refine v_get X (fun _ h => List.mem_cons_of_mem _ (List.mem_append_left _ (List.mem_append_right _ h))) 0 rfl rfl 2 (by decide) rfl (List.mem_of_getElem? (i := 1) rfl) rfl dX7_hand_42 ?_
          refine v_iload_n X dX7_hand_45 rfl ?_
          refine res_E X (run_V X (c_X2_speedOf (g := g) (by first | assumption | omega) (by first | assumption | omega) (by first | assumption | omega) (by first | assumption | omega)) gX7_hand_X2_speedOf rfl hdX2_speedOf ⟨(Nat.le_of_ble_eq_true rfl), (Nat.le_of_ble_eq_true rfl)⟩ ⟨(Nat.le_of_ble_eq_true rfl), (Nat.le_of_ble_eq_true rfl)⟩ 1 rfl rfl rfl [1, 2, 3, 4] rfl rfl rfl rfl (by simp [Value.category]) dX7_hand_46) [1, 2, 3, 4] rfl rfl ?_
          refine v_goto (tgt := 60) X dX7_hand_49 (by decide) ?_
          exact v_iret X Y dX7_hand_60 (u := ()) (by rw [if_pos (by omega), if_neg (by assumption)]; first | rw [if_pos (by assumption)] | rw [if_neg (by assumption)]) (by rfl)
      · skip
        refine v_aload_n X dX7_hand_27 rfl ?_
        refine v_get X (fun _ h => List.mem_cons_of_mem _ (List.mem_append_left _ (List.mem_append_right _ h))) 0 rfl rfl 2 (by decide) rfl (List.mem_of_getElem? (i := 1) rfl) rfl dX7_hand_28 ?_
        refine v_iload_n X dX7_hand_31 rfl ?_
        refine res_E X (run_V X (c_X2_turnsOf (g := g) (by first | assumption | omega) (by first | assumption | omega) (by first | assumption | omega)) gX7_hand_X2_turnsOf rfl hdX2_turnsOf ⟨(Nat.le_of_ble_eq_true rfl), (Nat.le_of_ble_eq_true rfl)⟩ ⟨(Nat.le_of_ble_eq_true rfl), (Nat.le_of_ble_eq_true rfl)⟩ 1 rfl rfl rfl [1, 2, 3, 4] rfl rfl rfl rfl (by simp [Value.category]) dX7_hand_32) [1, 2, 3, 4] rfl rfl ?_
        exact v_iret X Y dX7_hand_35 (u := ()) (by rw [if_pos (by omega), if_pos (by assumption)]) (by rfl)
    · skip
      refine v_ldc X (List.mem_of_getElem? (i := 2) rfl) dX7_hand_20 (n := -1000001) (by decide) ?_
      exact v_iret X Y dX7_hand_22 (u := ()) (by rw [if_neg (by omega)]) (by rfl)

theorem hdX7_points : yX7_points.cls = RX7 ∧ yX7_points.cls ≠ "java/lang/invoke/MethodHandle" ∧ yX7_points.cls ≠ "java/lang/invoke/VarHandle" ∧ (parseMethodDescriptor yX7_points.desc).map (fun d => d.parameters.length) = some 4 := ⟨rfl, by decide +kernel, by decide +kernel, by decide +kernel⟩
set_option maxHeartbeats 4000000 in
set_option maxRecDepth 100000 in
theorem c_X7_points {g : Gx} {B : Nat → Nat} {lf fi : Int} {mk cn : Int} {so tu sp : Nat → Int} {h p q w : Int} (hcn : 0 ≤ cn ∧ cn ≤ 4) (hmk : 0 ≤ mk ∧ mk ≤ 60) (hso : Bd 0 5 so) (htu : Bd 0 12 tu) (hsp : Bd 0 59 sp) (hh : R32 h) (hp : R32 p) (hq : R32 q) (hw : R32 w) : CtE g yX7_points wsX7_points 4 87 [.ref (B 0), .int (iI h), .int (iI p), .int (iI q), .int (iI w)] (oAH g B (lf) (fi) :: (wClk g (B 3) (B 15) (B 16) (B 17) mk cn so tu sp)) (if (0 ≤ h ∧ h < cn) ∧ (1 ≤ q ∧ q ≤ 9999 ∧ 0 ≤ p ∧ p < q) ∧ 0 ≤ w ∧ w ≤ 1 then toldI (restI (spdI cn so tu h * p * mk + atI cn sp h * q) (q * mk)) (q * mk) w else -1000001) (oAH g B (lf) (fi) :: (wClk g (B 3) (B 15) (B 16) (B 17) mk cn so tu sp)) := by
  refine m_go (cc := cX7_points) (nL := 5) (by decide +kernel) rfl (Nat.le_of_ble_eq_true rfl) (fun x X Y hnm => ?_)
  refine v_eq (lo2 := [some (.ref (B 0)), some (.int (iI h)), some (.int (iI p)), some (.int (iI q)), some (.int (iI w))]) rfl rfl rfl rfl ?_
  refine v_aload_n X dX7_points_0 rfl ?_
  refine v_get X (fun _ h => List.mem_cons_of_mem _ (List.mem_append_left _ (List.mem_append_right _ h))) 0 rfl rfl 2 (by decide) rfl (List.mem_of_getElem? (i := 1) rfl) rfl dX7_points_1 ?_
  refine v_iload_n X dX7_points_4 rfl ?_
  refine res_E X (run_V X (c_X2_has (g := g) (by first | assumption | omega) (by first | assumption | omega)) gX7_points_X2_has rfl hdX2_has ⟨(Nat.le_of_ble_eq_true rfl), (Nat.le_of_ble_eq_true rfl)⟩ ⟨(Nat.le_of_ble_eq_true rfl), (Nat.le_of_ble_eq_true rfl)⟩ 1 rfl rfl rfl [1, 2, 3, 4] rfl rfl rfl rfl (by simp [Value.category]) dX7_points_5) [1, 2, 3, 4] rfl rfl ?_
  refine v_ifb_eq (tgt := 29) X dX7_points_8 (by decide) (fun c1 => ?_) (fun c1 => ?_)
  · skip
    refine v_ldc X (List.mem_of_getElem? (i := 2) rfl) dX7_points_29 (n := -1000001) (by decide) ?_
    exact v_iret X Y dX7_points_31 (u := ()) (by rw [if_neg (by omega)]) (by rfl)
  · skip
    refine v_iload_n X dX7_points_11 rfl ?_
    refine v_iload_n X dX7_points_12 rfl ?_
    refine res_E X (run_S X (c_X7_isMoment (g := g) (by first | assumption | omega) (by first | assumption | omega)) gX7_points_X7_isMoment rfl hdX7_isMoment.2 ⟨(Nat.le_of_ble_eq_true rfl), (Nat.le_of_ble_eq_true rfl)⟩ ⟨(Nat.le_of_ble_eq_true rfl), (Nat.le_of_ble_eq_true rfl)⟩ [] rfl rfl rfl rfl (by simp [Value.category]) dX7_points_13) [] rfl rfl ?_
    refine v_ifb_eq (tgt := 29) X dX7_points_16 (by decide) (fun c2 => ?_) (fun c2 => ?_)
    · skip
      refine v_ldc X (List.mem_of_getElem? (i := 2) rfl) dX7_points_29 (n := -1000001) (by decide) ?_
      exact v_iret X Y dX7_points_31 (u := ()) (by rw [if_neg (by omega)]) (by rfl)
    · skip
      refine v_iload X dX7_points_19 rfl ?_
      refine v_iconst X dX7_points_21 ?_
      refine v_iconst X dX7_points_22 ?_
      refine res_E X (run_S X (c_X7_isWithin (g := g) (by first | assumption | omega) (by first | assumption | omega) (by first | assumption | omega)) gX7_points_X7_isWithin rfl hdX7_isWithin.2 ⟨(Nat.le_of_ble_eq_true rfl), (Nat.le_of_ble_eq_true rfl)⟩ ⟨(Nat.le_of_ble_eq_true rfl), (Nat.le_of_ble_eq_true rfl)⟩ [] rfl rfl rfl rfl (by simp [Value.category]) dX7_points_23) [] rfl rfl ?_
      refine v_ifb_ne (tgt := 32) X dX7_points_26 (by decide) (fun c3 => ?_) (fun c3 => ?_)
      · skip
        have g1 : (0 ≤ h ∧ h < cn) ∧ (1 ≤ q ∧ q ≤ 9999 ∧ 0 ≤ p ∧ p < q) ∧ 0 ≤ w ∧ w ≤ 1 := by omega
        have q6 := mul_nn (show 0 ≤ q ∧ q ≤ 9999 by omega) hmk
        have q7 := restI_bd (n := spdI cn so tu h * p * mk + atI cn sp h * q) (w := q * mk)
        have q8 : restI (spdI cn so tu h * p * mk + atI cn sp h * q) (q * mk) ≤ 599940 := restI_le q6.2 (by decide)
        refine v_aload_n X dX7_points_32 rfl ?_
        refine v_get X (fun _ h => List.mem_cons_of_mem _ (List.mem_append_left _ (List.mem_append_right _ h))) 0 rfl rfl 2 (by decide) rfl (List.mem_of_getElem? (i := 1) rfl) rfl dX7_points_33 ?_
        refine v_iload_n X dX7_points_36 rfl ?_
        refine v_iload_n X dX7_points_37 rfl ?_
        refine v_iload_n X dX7_points_38 rfl ?_
        refine res_E X (run_V X (c_X2_arcAbove (g := g) (by first | assumption | omega) (by first | assumption | omega) (by first | assumption | omega) (by first | assumption | omega) (by first | assumption | omega) (by first | assumption | omega) (by first | assumption | omega) (by first | assumption | omega)) gX7_points_X2_arcAbove rfl hdX2_arcAbove ⟨(Nat.le_of_ble_eq_true rfl), (Nat.le_of_ble_eq_true rfl)⟩ ⟨(Nat.le_of_ble_eq_true rfl), (Nat.le_of_ble_eq_true rfl)⟩ 1 rfl rfl rfl [1, 2, 3, 4] rfl rfl rfl rfl (by simp [Value.category]) dX7_points_39) [1, 2, 3, 4] rfl rfl ?_
        refine v_aload_n X dX7_points_42 rfl ?_
        refine v_get X (fun _ h => List.mem_cons_of_mem _ (List.mem_append_left _ (List.mem_append_right _ h))) 0 rfl rfl 2 (by decide) rfl (List.mem_of_getElem? (i := 1) rfl) rfl dX7_points_43 ?_
        refine v_iload_n X dX7_points_46 rfl ?_
        refine res_E X (run_V X (c_X2_arcBelow (g := g) ) gX7_points_X2_arcBelow rfl hdX2_arcBelow ⟨(Nat.le_of_ble_eq_true rfl), (Nat.le_of_ble_eq_true rfl)⟩ ⟨(Nat.le_of_ble_eq_true rfl), (Nat.le_of_ble_eq_true rfl)⟩ 1 rfl rfl rfl [1, 2, 3, 4] rfl rfl rfl rfl (by simp [Value.category]) dX7_points_47) [1, 2, 3, 4] rfl rfl ?_
        refine v_iload X dX7_points_50 rfl ?_
        refine res_E X (run_S X (c_X7_part (g := g) (by first | assumption | omega) (by first | assumption | omega) (by first | assumption | omega) (by first | assumption | omega) (by first | assumption | omega)) gX7_points_X7_part rfl hdX7_part.2 ⟨(Nat.le_of_ble_eq_true rfl), (Nat.le_of_ble_eq_true rfl)⟩ ⟨(Nat.le_of_ble_eq_true rfl), (Nat.le_of_ble_eq_true rfl)⟩ [] rfl rfl rfl rfl (by simp [Value.category]) dX7_points_52) [] rfl rfl ?_
        exact v_iret X Y dX7_points_55 (u := ()) (by rw [if_pos g1]) (by rfl)
      · skip
        refine v_ldc X (List.mem_of_getElem? (i := 2) rfl) dX7_points_29 (n := -1000001) (by decide) ?_
        exact v_iret X Y dX7_points_31 (u := ()) (by rw [if_neg (by omega)]) (by rfl)

theorem hdX7_kind : yX7_kind.cls = RX7 ∧ yX7_kind.cls ≠ "java/lang/invoke/MethodHandle" ∧ yX7_kind.cls ≠ "java/lang/invoke/VarHandle" ∧ (parseMethodDescriptor yX7_kind.desc).map (fun d => d.parameters.length) = some 1 := ⟨rfl, by decide +kernel, by decide +kernel, by decide +kernel⟩
set_option maxHeartbeats 4000000 in
set_option maxRecDepth 100000 in
theorem c_X7_kind {g : Gx} {B : Nat → Nat} {lf fi : Int} {mk cn : Int} {so tu sp : Nat → Int} {h : Int} (hcn : 0 ≤ cn ∧ cn ≤ 4) (hmk : 0 ≤ mk ∧ mk ≤ 60) (hso : Bd 0 5 so) (htu : Bd 0 12 tu) (hsp : Bd 0 59 sp) (hh : R32 h) : CtE g yX7_kind wsX7_kind 2 42 [.ref (B 0), .int (iI h)] (oAH g B (lf) (fi) :: (wClk g (B 3) (B 15) (B 16) (B 17) mk cn so tu sp)) (if 0 ≤ h ∧ h < cn then atI cn so h else -1000001) (oAH g B (lf) (fi) :: (wClk g (B 3) (B 15) (B 16) (B 17) mk cn so tu sp)) := by
  refine m_go (cc := cX7_kind) (nL := 2) (by decide +kernel) rfl (Nat.le_of_ble_eq_true rfl) (fun x X Y hnm => ?_)
  refine v_eq (lo2 := [some (.ref (B 0)), some (.int (iI h))]) rfl rfl rfl rfl ?_
  refine v_aload_n X dX7_kind_0 rfl ?_
  refine v_get X (fun _ h => List.mem_cons_of_mem _ (List.mem_append_left _ (List.mem_append_right _ h))) 0 rfl rfl 2 (by decide) rfl (List.mem_of_getElem? (i := 1) rfl) rfl dX7_kind_1 ?_
  refine v_iload_n X dX7_kind_4 rfl ?_
  refine res_E X (run_V X (c_X2_has (g := g) (by first | assumption | omega) (by first | assumption | omega)) gX7_kind_X2_has rfl hdX2_has ⟨(Nat.le_of_ble_eq_true rfl), (Nat.le_of_ble_eq_true rfl)⟩ ⟨(Nat.le_of_ble_eq_true rfl), (Nat.le_of_ble_eq_true rfl)⟩ 1 rfl rfl rfl [1, 2, 3, 4] rfl rfl rfl rfl (by simp [Value.category]) dX7_kind_5) [1, 2, 3, 4] rfl rfl ?_
  refine v_ifb_eq (tgt := 22) X dX7_kind_8 (by decide) (fun c1 => ?_) (fun c1 => ?_)
  · skip
    refine v_ldc X (List.mem_of_getElem? (i := 2) rfl) dX7_kind_22 (n := -1000001) (by decide) ?_
    exact v_iret X Y dX7_kind_24 (u := ()) (by first | rw [if_pos (by assumption)] | rw [if_neg (by assumption)]) (by rfl)
  · skip
    refine v_aload_n X dX7_kind_11 rfl ?_
    refine v_get X (fun _ h => List.mem_cons_of_mem _ (List.mem_append_left _ (List.mem_append_right _ h))) 0 rfl rfl 2 (by decide) rfl (List.mem_of_getElem? (i := 1) rfl) rfl dX7_kind_12 ?_
    refine v_iload_n X dX7_kind_15 rfl ?_
    refine res_E X (run_V X (c_X2_sortOf (g := g) (by first | assumption | omega) (by first | assumption | omega) (by first | assumption | omega)) gX7_kind_X2_sortOf rfl hdX2_sortOf ⟨(Nat.le_of_ble_eq_true rfl), (Nat.le_of_ble_eq_true rfl)⟩ ⟨(Nat.le_of_ble_eq_true rfl), (Nat.le_of_ble_eq_true rfl)⟩ 1 rfl rfl rfl [1, 2, 3, 4] rfl rfl rfl rfl (by simp [Value.category]) dX7_kind_16) [1, 2, 3, 4] rfl rfl ?_
    refine v_goto (tgt := 24) X dX7_kind_19 (by decide) ?_
    exact v_iret X Y dX7_kind_24 (u := ()) (by first | rw [if_pos (by assumption)] | rw [if_neg (by assumption)]) (by rfl)

theorem hdX7_as : yX7_as.cls = RX7 ∧ yX7_as.cls ≠ "java/lang/invoke/MethodHandle" ∧ yX7_as.cls ≠ "java/lang/invoke/VarHandle" ∧ (parseMethodDescriptor yX7_as.desc).map (fun d => d.parameters.length) = some 2 := ⟨rfl, by decide +kernel, by decide +kernel, by decide +kernel⟩
set_option maxHeartbeats 4000000 in
set_option maxRecDepth 100000 in
theorem c_X7_as {g : Gx} {B : Nat → Nat} {lf fi : Int} {mk cn : Int} {so tu sp : Nat → Int} {h w : Int} (hcn : 0 ≤ cn ∧ cn ≤ 4) (hmk : 0 ≤ mk ∧ mk ≤ 60) (hso : Bd 0 5 so) (htu : Bd 0 12 tu) (hsp : Bd 0 59 sp) (hh : R32 h) (hw : R32 w) : CtI (S := Int) g yX7_as wsX7_as 2 42 [.ref (B 0), .int (iI h), .int (iI w)] (oAH g B (lf) (fi) :: (wClk g (B 3) (B 15) (B 16) (B 17) mk cn so tu sp)) (fun v u => (¬ ((0 ≤ h ∧ h < cn) ∧ 0 ≤ w ∧ w ≤ 5) ∧ v = -1000001 ∧ u = fi) ∨ (((0 ≤ h ∧ h < cn) ∧ 0 ≤ w ∧ w ≤ 5) ∧ ((okK (atI cn so h) w ∧ v = h ∧ u = 0) ∨ (¬ okK (atI cn so h) w ∧ v = -1000013 ∧ u = 3)))) (fun u => oAH g B (lf) (u) :: (wClk g (B 3) (B 15) (B 16) (B 17) mk cn so tu sp)) := by
  refine m_go (cc := cX7_as) (nL := 3) (by decide +kernel) rfl (Nat.le_of_ble_eq_true rfl) (fun x X Y hnm => ?_)
  refine v_eq (lo2 := [some (.ref (B 0)), some (.int (iI h)), some (.int (iI w))]) rfl rfl rfl rfl ?_
  have q1 := atI_bd (cn := cn) (h := h) hso (by omega) (by omega)
  refine v_aload_n X dX7_as_0 rfl ?_
  refine v_get X (fun _ h => List.mem_cons_of_mem _ (List.mem_append_left _ (List.mem_append_right _ h))) 0 rfl rfl 2 (by decide) rfl (List.mem_of_getElem? (i := 1) rfl) rfl dX7_as_1 ?_
  refine v_iload_n X dX7_as_4 rfl ?_
  refine res_E X (run_V X (c_X2_has (g := g) (by first | assumption | omega) (by first | assumption | omega)) gX7_as_X2_has rfl hdX2_has ⟨(Nat.le_of_ble_eq_true rfl), (Nat.le_of_ble_eq_true rfl)⟩ ⟨(Nat.le_of_ble_eq_true rfl), (Nat.le_of_ble_eq_true rfl)⟩ 1 rfl rfl rfl [1, 2, 3, 4] rfl rfl rfl rfl (by simp [Value.category]) dX7_as_5) [1, 2, 3, 4] rfl rfl ?_
  refine v_ifb_eq (tgt := 20) X dX7_as_8 (by decide) (fun c1 => ?_) (fun c1 => ?_)
  · skip
    refine v_ldc X (List.mem_of_getElem? (i := 2) rfl) dX7_as_20 (n := -1000001) (by decide) ?_
    refine v_iret X Y dX7_as_22 (u := fi) ?_ rfl
    exact Or.inl ⟨by omega, rfl, rfl⟩
  · skip
    refine v_iload_n X dX7_as_11 rfl ?_
    refine v_iconst X dX7_as_12 ?_
    refine v_iconst X dX7_as_13 ?_
    refine res_E X (run_S X (c_X7_isWithin (g := g) (by first | assumption | omega) (by first | assumption | omega) (by first | assumption | omega)) gX7_as_X7_isWithin rfl hdX7_isWithin.2 ⟨(Nat.le_of_ble_eq_true rfl), (Nat.le_of_ble_eq_true rfl)⟩ ⟨(Nat.le_of_ble_eq_true rfl), (Nat.le_of_ble_eq_true rfl)⟩ [] rfl rfl rfl rfl (by simp [Value.category]) dX7_as_14) [] rfl rfl ?_
    refine v_ifb_ne (tgt := 23) X dX7_as_17 (by decide) (fun c2 => ?_) (fun c2 => ?_)
    · skip
      refine v_aload_n X dX7_as_23 rfl ?_
      refine v_get X (fun _ h => List.mem_cons_of_mem _ (List.mem_append_left _ (List.mem_append_right _ h))) 0 rfl rfl 2 (by decide) rfl (List.mem_of_getElem? (i := 1) rfl) rfl dX7_as_24 ?_
      refine v_iload_n X dX7_as_27 rfl ?_
      refine res_E X (run_V X (c_X2_sortOf (g := g) (by first | assumption | omega) (by first | assumption | omega) (by first | assumption | omega)) gX7_as_X2_sortOf rfl hdX2_sortOf ⟨(Nat.le_of_ble_eq_true rfl), (Nat.le_of_ble_eq_true rfl)⟩ ⟨(Nat.le_of_ble_eq_true rfl), (Nat.le_of_ble_eq_true rfl)⟩ 1 rfl rfl rfl [1, 2, 3, 4] rfl rfl rfl rfl (by simp [Value.category]) dX7_as_28) [1, 2, 3, 4] rfl rfl ?_
      refine v_iload_n X dX7_as_31 rfl ?_
      refine res_E X (run_S X (c_X7_isOfKind (g := g) (by first | assumption | omega) (by first | assumption | omega)) gX7_as_X7_isOfKind rfl hdX7_isOfKind.2 ⟨(Nat.le_of_ble_eq_true rfl), (Nat.le_of_ble_eq_true rfl)⟩ ⟨(Nat.le_of_ble_eq_true rfl), (Nat.le_of_ble_eq_true rfl)⟩ [] rfl rfl rfl rfl (by simp [Value.category]) dX7_as_32) [] rfl rfl ?_
      refine v_ifb_eq (tgt := 46) X dX7_as_35 (by decide) (fun c3 => ?_) (fun c3 => ?_)
      · skip
        refine v_aload_n X dX7_as_46 rfl ?_
        refine v_iconst X dX7_as_47 ?_
        refine res_F X (run_V X (c_X7_found (g := g) ) gX7_as_X7_found rfl hdX7_found ⟨(Nat.le_of_ble_eq_true rfl), (Nat.le_of_ble_eq_true rfl)⟩ ⟨(Nat.le_of_ble_eq_true rfl), (Nat.le_of_ble_eq_true rfl)⟩ 0 rfl rfl rfl [0] rfl rfl rfl rfl (by simp [Value.category]) dX7_as_48) [0] rfl rfl rfl ?_
        dsimp only [patch, List.set, List.cons_append, List.nil_append, oAH, wClk]
        refine v_iret X Y dX7_as_51 (u := _) ?_ rfl
        exact Or.inr ⟨by omega, by first | exact Or.inl ⟨by unfold okK; assumption, rfl, rfl⟩ | exact Or.inr ⟨by unfold okK; assumption, rfl, rfl⟩⟩
      · skip
        refine v_aload_n X dX7_as_38 rfl ?_
        refine v_iload_n X dX7_as_39 rfl ?_
        refine res_F X (run_V X (c_X7_fine (g := g) ) gX7_as_X7_fine rfl hdX7_fine ⟨(Nat.le_of_ble_eq_true rfl), (Nat.le_of_ble_eq_true rfl)⟩ ⟨(Nat.le_of_ble_eq_true rfl), (Nat.le_of_ble_eq_true rfl)⟩ 0 rfl rfl rfl [0] rfl rfl rfl rfl (by simp [Value.category]) dX7_as_40) [0] rfl rfl rfl ?_
        dsimp only [patch, List.set, List.cons_append, List.nil_append, oAH, wClk]
        refine v_goto (tgt := 51) X dX7_as_43 (by decide) ?_
        refine v_iret X Y dX7_as_51 (u := _) ?_ rfl
        exact Or.inr ⟨by omega, by first | exact Or.inl ⟨by unfold okK; assumption, rfl, rfl⟩ | exact Or.inr ⟨by unfold okK; assumption, rfl, rfl⟩⟩
    · skip
      refine v_ldc X (List.mem_of_getElem? (i := 2) rfl) dX7_as_20 (n := -1000001) (by decide) ?_
      refine v_iret X Y dX7_as_22 (u := fi) ?_ rfl
      exact Or.inl ⟨by omega, rfl, rfl⟩

theorem hdX7_trace : yX7_trace.cls = RX7 ∧ yX7_trace.cls ≠ "java/lang/invoke/MethodHandle" ∧ yX7_trace.cls ≠ "java/lang/invoke/VarHandle" ∧ (parseMethodDescriptor yX7_trace.desc).map (fun d => d.parameters.length) = some 1 := ⟨rfl, by decide +kernel, by decide +kernel, by decide +kernel⟩
set_option maxHeartbeats 4000000 in
set_option maxRecDepth 100000 in
theorem c_X7_trace {g : Gx} {B : Nat → Nat} {lf fi : Int} {t : TS} {i : Int} (ht : 0 ≤ t.2 ∧ t.2 ≤ 16) (hbo : Bd 0 24 t.1) (hi : R32 i) : CtE g yX7_trace wsX7_trace 1 21 [.ref (B 0), .int (iI i)] (oAH g B (lf) (fi) :: (wAsk g (B 10) (B 31) (t.1) (t.2))) (if 0 ≤ i ∧ i < t.2 then t.1 i.toNat else -1000000) (oAH g B (lf) (fi) :: (wAsk g (B 10) (B 31) (t.1) (t.2))) := by
  refine m_go (cc := cX7_trace) (nL := 2) (by decide +kernel) rfl (Nat.le_of_ble_eq_true rfl) (fun x X Y hnm => ?_)
  refine v_eq (lo2 := [some (.ref (B 0)), some (.int (iI i))]) rfl rfl rfl rfl ?_
  refine v_aload_n X dX7_trace_0 rfl ?_
  refine v_get X (fun _ h => List.mem_cons_of_mem _ (List.mem_append_left _ (List.mem_append_right _ h))) 0 rfl rfl 9 (by decide) rfl (List.mem_of_getElem? (i := 1) rfl) rfl dX7_trace_1 ?_
  refine v_iload_n X dX7_trace_4 rfl ?_
  refine res_E X (run_V X (c_X1_numberAt (g := g) (by first | assumption | (apply lvT_bd; assumption) | (apply lvT_bd; apply lvT_bd; assumption) | (apply lvT_bd; apply lvT_bd; apply lvT_bd; assumption)) (by first | assumption | omega) (by first | assumption | omega)) gX7_trace_X1_numberAt rfl hdX1_numberAt ⟨(Nat.le_of_ble_eq_true rfl), (Nat.le_of_ble_eq_true rfl)⟩ ⟨(Nat.le_of_ble_eq_true rfl), (Nat.le_of_ble_eq_true rfl)⟩ 1 rfl rfl rfl [1, 2] rfl rfl rfl rfl (by simp [Value.category]) dX7_trace_5) [1, 2] rfl rfl ?_
  exact v_iret X Y dX7_trace_8 (u := ()) (by rfl) (by rfl)

theorem hdX7_often : yX7_often.cls = RX7 ∧ yX7_often.cls ≠ "java/lang/invoke/MethodHandle" ∧ yX7_often.cls ≠ "java/lang/invoke/VarHandle" ∧ (parseMethodDescriptor yX7_often.desc).map (fun d => d.parameters.length) = some 3 := ⟨rfl, by decide +kernel, by decide +kernel, by decide +kernel⟩
set_option maxHeartbeats 4000000 in
set_option maxRecDepth 100000 in
theorem c_X7_often {g : Gx} {B : Nat → Nat} {lf fi : Int} {mk cn : Int} {so tu sp : Nat → Int} {a b w : Int} (hcn : 0 ≤ cn ∧ cn ≤ 4) (hmk : 0 ≤ mk ∧ mk ≤ 60) (hso : Bd 0 5 so) (htu : Bd 0 12 tu) (hsp : Bd 0 59 sp) (ha : R32 a) (hb : R32 b) (hw : R32 w) : CtE g yX7_often wsX7_often 4 86 [.ref (B 0), .int (iI a), .int (iI b), .int (iI w)] (oAH g B (lf) (fi) :: (wClk g (B 3) (B 15) (B 16) (B 17) mk cn so tu sp)) (if ((0 ≤ a ∧ a < cn) ∧ (0 ≤ b ∧ b < cn) ∧ a ≠ b) ∧ 0 ≤ w ∧ w ≤ 2 then (if absI (spdI cn so tu a - spdI cn so tu b) = 0 then -1000000 else if w = 2 then 2 * absI (spdI cn so tu a - spdI cn so tu b) else absI (spdI cn so tu a - spdI cn so tu b)) else -1000001) (oAH g B (lf) (fi) :: (wClk g (B 3) (B 15) (B 16) (B 17) mk cn so tu sp)) := by
  refine m_go (cc := cX7_often) (nL := 5) (by decide +kernel) rfl (Nat.le_of_ble_eq_true rfl) (fun x X Y hnm => ?_)
  refine v_eq (lo2 := [some (.ref (B 0)), some (.int (iI a)), some (.int (iI b)), some (.int (iI w)), none]) rfl rfl rfl rfl ?_
  have qs := fun (i : Int) => spdI_bd (cn := cn) (so := so) (h := i) htu
  have q1 := qs a
  have q2 := qs b
  have q5 := absI_bd (a := spdI cn so tu a - spdI cn so tu b) (M := 48) (by omega)
  refine v_aload_n X dX7_often_0 rfl ?_
  refine v_iload_n X dX7_often_1 rfl ?_
  refine v_iload_n X dX7_often_2 rfl ?_
  refine res_E X (run_V X (c_X7_isPair (g := g) (by first | assumption | omega) (by first | assumption | omega) (by first | assumption | omega)) gX7_often_X7_isPair rfl hdX7_isPair ⟨(Nat.le_of_ble_eq_true rfl), (Nat.le_of_ble_eq_true rfl)⟩ ⟨(Nat.le_of_ble_eq_true rfl), (Nat.le_of_ble_eq_true rfl)⟩ 0 rfl rfl rfl [0, 1, 2, 3, 4] rfl rfl rfl rfl (by simp [Value.category]) dX7_often_3) [0, 1, 2, 3, 4] rfl rfl ?_
  refine v_ifb_eq (tgt := 18) X dX7_often_6 (by decide) (fun c1 => ?_) (fun c1 => ?_)
  · skip
    refine v_ldc X (List.mem_of_getElem? (i := 1) rfl) dX7_often_18 (n := -1000001) (by decide) ?_
    exact v_iret X Y dX7_often_20 (u := ()) (by rw [if_neg (by omega)]) (by rfl)
  · skip
    refine v_iload_n X dX7_often_9 rfl ?_
    refine v_iconst X dX7_often_10 ?_
    refine v_iconst X dX7_often_11 ?_
    refine res_E X (run_S X (c_X7_isWithin (g := g) (by first | assumption | omega) (by first | assumption | omega) (by first | assumption | omega)) gX7_often_X7_isWithin rfl hdX7_isWithin.2 ⟨(Nat.le_of_ble_eq_true rfl), (Nat.le_of_ble_eq_true rfl)⟩ ⟨(Nat.le_of_ble_eq_true rfl), (Nat.le_of_ble_eq_true rfl)⟩ [] rfl rfl rfl rfl (by simp [Value.category]) dX7_often_12) [] rfl rfl ?_
    refine v_ifb_ne (tgt := 21) X dX7_often_15 (by decide) (fun c2 => ?_) (fun c2 => ?_)
    · skip
      refine v_aload_n X dX7_often_21 rfl ?_
      refine v_iload_n X dX7_often_22 rfl ?_
      refine v_iload_n X dX7_often_23 rfl ?_
      refine res_E X (run_V X (c_X7_speedApart (g := g) (by first | assumption | omega) (by first | assumption | omega) (by first | assumption | omega) (by first | assumption | omega) (by first | assumption | omega)) gX7_often_X7_speedApart rfl hdX7_speedApart ⟨(Nat.le_of_ble_eq_true rfl), (Nat.le_of_ble_eq_true rfl)⟩ ⟨(Nat.le_of_ble_eq_true rfl), (Nat.le_of_ble_eq_true rfl)⟩ 0 rfl rfl rfl [0, 1, 2, 3, 4] rfl rfl rfl rfl (by simp [Value.category]) dX7_often_24) [0, 1, 2, 3, 4] rfl rfl ?_
      refine v_istore X dX7_often_27 (by decide) rfl ?_
      dsimp only [List.set]
      refine v_iload X dX7_often_29 rfl ?_
      refine v_if_ne (tgt := 37) X dX7_often_31 (by decide) (by omega) (fun c3 => ?_) (fun c3 => ?_)
      · skip
        refine v_iload_n X dX7_often_37 rfl ?_
        refine v_iconst X dX7_often_38 ?_
        refine v_icmp_ne (tgt := 49) X dX7_often_39 (by decide) (by omega) (by omega) (fun c4 => ?_) (fun c4 => ?_)
        · skip
          refine v_iload X dX7_often_49 rfl ?_
          exact v_iret X Y dX7_often_51 (u := ()) (by rw [if_pos (by omega), if_neg (by assumption)]; first | rw [if_pos (by assumption)] | rw [if_neg (by assumption)]) (by rfl)
        · skip
          refine v_iconst X dX7_often_42 ?_
          refine v_iload X dX7_often_43 rfl ?_
          refine v_imul X dX7_often_45 ?_
          refine v_goto (tgt := 51) X dX7_often_46 (by decide) ?_
          exact v_iret X Y dX7_often_51 (u := ()) (by rw [if_pos (by omega), if_neg (by assumption)]; first | rw [if_pos (by assumption)] | rw [if_neg (by assumption)]) (by rfl)
      · skip
        refine v_ldc X (List.mem_of_getElem? (i := 2) rfl) dX7_often_34 (n := -1000000) (by decide) ?_
        exact v_iret X Y dX7_often_36 (u := ()) (by rw [if_pos (by omega), if_pos (by assumption)]) (by rfl)
    · skip
      refine v_ldc X (List.mem_of_getElem? (i := 1) rfl) dX7_often_18 (n := -1000001) (by decide) ?_
      exact v_iret X Y dX7_often_20 (u := ()) (by rw [if_neg (by omega)]) (by rfl)

theorem hdX7_all : yX7_all.cls = RX7 ∧ yX7_all.cls ≠ "java/lang/invoke/MethodHandle" ∧ yX7_all.cls ≠ "java/lang/invoke/VarHandle" ∧ (parseMethodDescriptor yX7_all.desc).map (fun d => d.parameters.length) = some 0 := ⟨rfl, by decide +kernel, by decide +kernel, by decide +kernel⟩
set_option maxHeartbeats 4000000 in
set_option maxRecDepth 100000 in
theorem c_X7_all {g : Gx} {B : Nat → Nat} {lf fi : Int} {mk cn : Int} {so tu sp : Nat → Int}  (hcn : 0 ≤ cn ∧ cn ≤ 4) (hmk : 0 ≤ mk ∧ mk ≤ 60) (hso : Bd 0 5 so) (htu : Bd 0 12 tu) (hsp : Bd 0 59 sp) : CtE g yX7_all wsX7_all 4 86 [.ref (B 0)] (oAH g B (lf) (fi) :: (wClk g (B 3) (B 15) (B 16) (B 17) mk cn so tu sp)) (if cn = 0 then -1000002 else if allI cn so tu = 0 then -1000000 else allI cn so tu) (oAH g B (lf) (fi) :: (wClk g (B 3) (B 15) (B 16) (B 17) mk cn so tu sp)) := by
  refine m_go (cc := cX7_all) (nL := 3) (by decide +kernel) rfl (Nat.le_of_ble_eq_true rfl) (fun x X Y hnm => ?_)
  refine v_eq (lo2 := [some (.ref (B 0)), none, none]) rfl rfl rfl rfl ?_
  have qa := fun (i : Int) => absI_bd (a := spdI cn so tu 0 - spdI cn so tu i) (M := 48) (by have := spdI_bd (cn := cn) (so := so) (h := i) htu; have := spdI_bd (cn := cn) (so := so) (h := 0) htu; omega)
  have qg := gcdN_bd (f := fun j => absI (spdI cn so tu 0 - spdI cn so tu ((j : Int) + 1))) (M := 48) (fun j => qa _)
  refine v_aload_n X dX7_all_0 rfl ?_
  refine v_get X (fun _ h => List.mem_cons_of_mem _ (List.mem_append_left _ (List.mem_append_right _ h))) 0 rfl rfl 2 (by decide) rfl (List.mem_of_getElem? (i := 1) rfl) rfl dX7_all_1 ?_
  refine res_E X (run_V X (c_X2_isNone (g := g) (by first | assumption | omega)) gX7_all_X2_isNone rfl hdX2_isNone ⟨(Nat.le_of_ble_eq_true rfl), (Nat.le_of_ble_eq_true rfl)⟩ ⟨(Nat.le_of_ble_eq_true rfl), (Nat.le_of_ble_eq_true rfl)⟩ 1 rfl rfl rfl [1, 2, 3, 4] rfl rfl rfl rfl (by simp [Value.category]) dX7_all_4) [1, 2, 3, 4] rfl rfl ?_
  refine v_ifb_eq (tgt := 13) X dX7_all_7 (by decide) (fun c1 => ?_) (fun c1 => ?_)
  · skip
    refine v_iconst X dX7_all_13 ?_
    refine v_istore_n X dX7_all_14 1 rfl (by decide) rfl ?_
    dsimp only [List.set]
    refine v_iconst X dX7_all_15 ?_
    refine v_istore_n X dX7_all_16 2 rfl (by decide) rfl ?_
    dsimp only [List.set]
    have L17 : ∀ (nf : Nat) (n : Int) (h : Int) (h1 : 1 ≤ h ∧ (h ≤ cn ∨ h = 1)) (h2 : n = gcdN (fun j => absI (spdI cn so tu 0 - spdI cn so tu ((j : Int) + 1))) (h - 1).toNat) (h3 : 0 ≤ n ∧ n ≤ 48) (_ : (cn + 1 - h).toNat < nf), V g x 0 0 (oAH g B (lf) (fi) :: (wClk g (B 3) (B 15) (B 16) (B 17) mk cn so tu sp)) [some (.ref (B 0)), some (.int (iI n)), some (.int (iI h))] 17 [] := by
      intro nf
      induction nf with
      | zero => intro n h h1 h2 h3 hmu; exact absurd hmu (Nat.not_lt_zero _)
      | succ nf ih17 =>
        intro n h h1 h2 h3 hmu
        refine v_iload_n X dX7_all_17 rfl ?_
        refine v_aload_n X dX7_all_18 rfl ?_
        refine v_get X (fun _ h => List.mem_cons_of_mem _ (List.mem_append_left _ (List.mem_append_right _ h))) 0 rfl rfl 2 (by decide) rfl (List.mem_of_getElem? (i := 1) rfl) rfl dX7_all_19 ?_
        refine v_get X (fun _ h => List.mem_cons_of_mem _ (List.mem_append_right _ h)) 1 rfl rfl 4 (by decide) rfl (List.mem_of_getElem? (i := 3) rfl) rfl dX7_all_22 ?_
        refine v_icmp_ge (tgt := 45) X dX7_all_25 (by decide) (by omega) (by omega) (fun c2 => ?_) (fun c2 => ?_)
        · skip
          refine v_iload_n X dX7_all_45 rfl ?_
          refine v_if_ne (tgt := 54) X dX7_all_46 (by decide) (by omega) (fun c3 => ?_) (fun c3 => ?_)
          · skip
            refine v_iload_n X dX7_all_54 rfl ?_
            exact v_iret X Y dX7_all_55 (u := ()) (by
                have e : allI cn so tu = n := by unfold allI; rw [h2, show (h - 1).toNat = (cn - 1).toNat by omega]
                rw [if_neg (by assumption), e]; first | rw [if_pos (by assumption)] | rw [if_neg (by assumption)]) (by rfl)
          · skip
            refine v_ldc X (List.mem_of_getElem? (i := 4) rfl) dX7_all_49 (n := -1000000) (by decide) ?_
            refine v_goto (tgt := 55) X dX7_all_51 (by decide) ?_
            exact v_iret X Y dX7_all_55 (u := ()) (by
                have e : allI cn so tu = n := by unfold allI; rw [h2, show (h - 1).toNat = (cn - 1).toNat by omega]
                rw [if_neg (by assumption), e]; first | rw [if_pos (by assumption)] | rw [if_neg (by assumption)]) (by rfl)
        · skip
          refine v_iload_n X dX7_all_28 rfl ?_
          refine v_aload_n X dX7_all_29 rfl ?_
          refine v_iconst X dX7_all_30 ?_
          refine v_iload_n X dX7_all_31 rfl ?_
          refine res_E X (run_V X (c_X7_speedApart (g := g) (by first | assumption | omega) (by first | assumption | omega) (by first | assumption | omega) (by first | assumption | omega) (by first | assumption | omega)) gX7_all_X7_speedApart rfl hdX7_speedApart ⟨(Nat.le_of_ble_eq_true rfl), (Nat.le_of_ble_eq_true rfl)⟩ ⟨(Nat.le_of_ble_eq_true rfl), (Nat.le_of_ble_eq_true rfl)⟩ 0 rfl rfl rfl [0, 1, 2, 3, 4] rfl rfl rfl rfl (by simp [Value.category]) dX7_all_32) [0, 1, 2, 3, 4] rfl rfl ?_
          have q7 := qa h
          refine res_E X (run_S X (c_X7_common (g := g) (by first | assumption | omega) (by first | assumption | omega) (by first | assumption | omega) (by first | assumption | omega)) gX7_all_X7_common rfl hdX7_common.2 ⟨(Nat.le_of_ble_eq_true rfl), (Nat.le_of_ble_eq_true rfl)⟩ ⟨(Nat.le_of_ble_eq_true rfl), (Nat.le_of_ble_eq_true rfl)⟩ [] rfl rfl rfl rfl (by simp [Value.category]) dX7_all_35) [] rfl rfl ?_
          refine v_istore_n X dX7_all_38 1 rfl (by decide) rfl ?_
          dsimp only [List.set]
          refine v_iinc X dX7_all_39 rfl (by decide) rfl ?_
          dsimp only [List.set]
          refine v_goto (tgt := 17) X dX7_all_42 (by decide) ?_
          exact ih17 _ _ (by omega) (by rw [show (h + 1 - 1).toNat = (h - 1).toNat + 1 by omega]; simp only [gcdN]; rw [← h2, show (((h - 1).toNat : Nat) : Int) + 1 = h by omega]) (by first | omega | (have q7 := qg (h + 1 - 1).toNat; rw [show (h + 1 - 1).toNat = (h - 1).toNat + 1 by omega] at q7; simp only [gcdN] at q7; rw [← h2, show (((h - 1).toNat : Nat) : Int) + 1 = h by omega] at q7; exact q7)) (by omega)
    exact L17 _ _ _ (by omega) (by rfl) (by first | omega | (have q7 := qg (h + 1 - 1).toNat; rw [show (h + 1 - 1).toNat = (h - 1).toNat + 1 by omega] at q7; simp only [gcdN] at q7; rw [← h2, show (((h - 1).toNat : Nat) : Int) + 1 = h by omega] at q7; exact q7)) (Nat.lt_succ_self _)
  · skip
    refine v_ldc X (List.mem_of_getElem? (i := 2) rfl) dX7_all_10 (n := -1000002) (by decide) ?_
    exact v_iret X Y dX7_all_12 (u := ()) (by rw [if_pos (by assumption)]) (by rfl)

theorem hdX7_row : yX7_row.cls = RX7 ∧ yX7_row.cls ≠ "java/lang/invoke/MethodHandle" ∧ yX7_row.cls ≠ "java/lang/invoke/VarHandle" ∧ (parseMethodDescriptor yX7_row.desc).map (fun d => d.parameters.length) = some 3 := ⟨rfl, by decide +kernel, by decide +kernel, by decide +kernel⟩
set_option maxHeartbeats 4000000 in
set_option maxRecDepth 100000 in
theorem c_X7_row {g : Gx} {B : Nat → Nat} {lf fi : Int} {it la le : Nat → Int} {r l n : Int} (hr : R32 r) (hl : R32 l) (hn : R32 n) : CtI (S := Int × (Nat → Int) × (Nat → Int) × (Nat → Int)) g yX7_row wsX7_row 2 46 [.ref (B 0), .int (iI r), .int (iI l), .int (iI n)] (oAH g B (lf) (fi) :: (wRow g (B 1) (B 11) (B 12) (B 13) it la le)) (fun v u => (¬ (0 ≤ r ∧ r < 8 ∧ 0 ≤ l ∧ l ≤ 2 ∧ n ≤ 40) ∧ v = -1000001 ∧ u = (fi, la, le, it)) ∨ ((0 ≤ r ∧ r < 8 ∧ 0 ≤ l ∧ l ≤ 2 ∧ n < 0) ∧ v = -1000014 ∧ u = (4, la, le, it)) ∨ ((0 ≤ r ∧ r < 8 ∧ 0 ≤ l ∧ l ≤ 2 ∧ 0 ≤ n ∧ n ≤ 40) ∧ v = n ∧ u.1 = 0 ∧ u.2.1 = updI la r.toNat l ∧ u.2.2.1 = updI le r.toNat n ∧ ∀ j : Nat, u.2.2.2 j = if r * 40 ≤ (j : Int) ∧ (j : Int) < r * 40 + n then 0 else it j)) (fun u => oAH g B (lf) (u.1) :: (wRow g (B 1) (B 11) (B 12) (B 13) (u.2.2.2) (u.2.1) (u.2.2.1))) := by
  refine m_go (cc := cX7_row) (nL := 4) (by decide +kernel) rfl (Nat.le_of_ble_eq_true rfl) (fun x X Y hnm => ?_)
  refine v_eq (lo2 := [some (.ref (B 0)), some (.int (iI r)), some (.int (iI l)), some (.int (iI n))]) rfl rfl rfl rfl ?_
  refine v_iload_n X dX7_row_0 rfl ?_
  refine res_E X (run_S X (c_X7_isRow (g := g) (by first | assumption | omega)) gX7_row_X7_isRow rfl hdX7_isRow.2 ⟨(Nat.le_of_ble_eq_true rfl), (Nat.le_of_ble_eq_true rfl)⟩ ⟨(Nat.le_of_ble_eq_true rfl), (Nat.le_of_ble_eq_true rfl)⟩ [] rfl rfl rfl rfl (by simp [Value.category]) dX7_row_1) [] rfl rfl ?_
  refine v_ifb_eq (tgt := 22) X dX7_row_4 (by decide) (fun c1 => ?_) (fun c1 => ?_)
  · skip
    refine v_ldc X (List.mem_of_getElem? (i := 1) rfl) dX7_row_22 (n := -1000001) (by decide) ?_
    refine v_iret X Y dX7_row_24 (u := (fi, la, le, it)) ?_ rfl
    exact Or.inl ⟨by omega, rfl, rfl⟩
  · skip
    refine v_iload_n X dX7_row_7 rfl ?_
    refine v_iconst X dX7_row_8 ?_
    refine v_iconst X dX7_row_9 ?_
    refine res_E X (run_S X (c_X7_isWithin (g := g) (by first | assumption | omega) (by first | assumption | omega) (by first | assumption | omega)) gX7_row_X7_isWithin rfl hdX7_isWithin.2 ⟨(Nat.le_of_ble_eq_true rfl), (Nat.le_of_ble_eq_true rfl)⟩ ⟨(Nat.le_of_ble_eq_true rfl), (Nat.le_of_ble_eq_true rfl)⟩ [] rfl rfl rfl rfl (by simp [Value.category]) dX7_row_10) [] rfl rfl ?_
    refine v_ifb_eq (tgt := 22) X dX7_row_13 (by decide) (fun c2 => ?_) (fun c2 => ?_)
    · skip
      refine v_ldc X (List.mem_of_getElem? (i := 1) rfl) dX7_row_22 (n := -1000001) (by decide) ?_
      refine v_iret X Y dX7_row_24 (u := (fi, la, le, it)) ?_ rfl
      exact Or.inl ⟨by omega, rfl, rfl⟩
    · skip
      refine v_iload_n X dX7_row_16 rfl ?_
      refine v_bipush X dX7_row_17 (by decide) ?_
      refine v_icmp_le (tgt := 25) X dX7_row_19 (by decide) (by omega) (by omega) (fun c3 => ?_) (fun c3 => ?_)
      · skip
        refine v_iload_n X dX7_row_25 rfl ?_
        refine v_if_ge (tgt := 35) X dX7_row_26 (by decide) (by omega) (fun c4 => ?_) (fun c4 => ?_)
        · skip
          refine v_aload_n X dX7_row_35 rfl ?_
          refine v_get X (fun _ h => List.mem_cons_of_mem _ (List.mem_append_left _ (List.mem_append_right _ h))) 0 rfl rfl 0 (by decide) rfl (List.mem_of_getElem? (i := 2) rfl) rfl dX7_row_36 ?_
          refine v_iload_n X dX7_row_39 rfl ?_
          refine v_iload_n X dX7_row_40 rfl ?_
          refine v_iload_n X dX7_row_41 rfl ?_
          refine res_V X (run_V X (c_X5_make (g := g) (by first | assumption | omega) (by first | assumption | omega)) gX7_row_X5_make rfl hdX5_make ⟨(Nat.le_of_ble_eq_true rfl), (Nat.le_of_ble_eq_true rfl)⟩ ⟨(Nat.le_of_ble_eq_true rfl), (Nat.le_of_ble_eq_true rfl)⟩ 1 rfl rfl rfl [1, 2, 3, 4] rfl rfl rfl rfl (by simp [Value.category]) dX7_row_42) [1, 2, 3, 4] rfl rfl (fun _ => rfl) (fun f hf => ?_)
          dsimp only [patch, List.set, List.cons_append, List.nil_append, oAH, wRow]
          refine v_aload_n X dX7_row_45 rfl ?_
          refine v_iload_n X dX7_row_46 rfl ?_
          refine res_F X (run_V X (c_X7_fine (g := g) ) gX7_row_X7_fine rfl hdX7_fine ⟨(Nat.le_of_ble_eq_true rfl), (Nat.le_of_ble_eq_true rfl)⟩ ⟨(Nat.le_of_ble_eq_true rfl), (Nat.le_of_ble_eq_true rfl)⟩ 0 rfl rfl rfl [0] rfl rfl rfl rfl (by simp [Value.category]) dX7_row_47) [0] rfl rfl rfl ?_
          dsimp only [patch, List.set, List.cons_append, List.nil_append, oAH, wRow]
          refine v_iret X Y dX7_row_50 (u := (0, updI la r.toNat l, updI le r.toNat n, f)) ?_ rfl
          exact Or.inr (Or.inr ⟨by omega, rfl, rfl, rfl, rfl, hf⟩)
        · skip
          refine v_aload_n X dX7_row_29 rfl ?_
          refine v_iconst X dX7_row_30 ?_
          refine res_F X (run_V X (c_X7_found (g := g) ) gX7_row_X7_found rfl hdX7_found ⟨(Nat.le_of_ble_eq_true rfl), (Nat.le_of_ble_eq_true rfl)⟩ ⟨(Nat.le_of_ble_eq_true rfl), (Nat.le_of_ble_eq_true rfl)⟩ 0 rfl rfl rfl [0] rfl rfl rfl rfl (by simp [Value.category]) dX7_row_31) [0] rfl rfl rfl ?_
          dsimp only [patch, List.set, List.cons_append, List.nil_append, oAH, wRow]
          refine v_iret X Y dX7_row_34 (u := (4, la, le, it)) ?_ rfl
          exact Or.inr (Or.inl ⟨by omega, rfl, rfl⟩)
      · skip
        refine v_ldc X (List.mem_of_getElem? (i := 1) rfl) dX7_row_22 (n := -1000001) (by decide) ?_
        refine v_iret X Y dX7_row_24 (u := (fi, la, le, it)) ?_ rfl
        exact Or.inl ⟨by omega, rfl, rfl⟩

theorem hdX7_set : yX7_set.cls = RX7 ∧ yX7_set.cls ≠ "java/lang/invoke/MethodHandle" ∧ yX7_set.cls ≠ "java/lang/invoke/VarHandle" ∧ (parseMethodDescriptor yX7_set.desc).map (fun d => d.parameters.length) = some 3 := ⟨rfl, by decide +kernel, by decide +kernel, by decide +kernel⟩
set_option maxHeartbeats 4000000 in
set_option maxRecDepth 100000 in
theorem c_X7_set {g : Gx} {B : Nat → Nat} {lf fi : Int} {it la le : Nat → Int} {r i v : Int} (hit : Bd (-2147483648) 2147483647 it) (hla : Bd (-1) 2 la) (hle : Bd 0 40 le) (hr : R32 r) (hi : R32 i) (hv : R32 v) : CtI (S := Int × (Nat → Int)) g yX7_set wsX7_set 4 87 [.ref (B 0), .int (iI r), .int (iI i), .int (iI v)] (oAH g B (lf) (fi) :: (wRow g (B 1) (B 11) (B 12) (B 13) it la le)) (fun w u => (¬ (0 ≤ r ∧ r < 8) ∧ w = -1000001 ∧ u = (fi, it)) ∨ ((0 ≤ r ∧ r < 8) ∧ ((la r.toNat = -1 ∧ w = -1000011 ∧ u = (1, it)) ∨ (la r.toNat ≠ -1 ∧ ¬ (0 ≤ i ∧ i < le r.toNat) ∧ w = -1000012 ∧ u = (2, it)) ∨ (la r.toNat ≠ -1 ∧ (0 ≤ i ∧ i < le r.toNat) ∧ w = cutI (la r.toNat) v ∧ u = (0, updI it (r * 40 + i).toNat (cutI (la r.toNat) v)))))) (fun u => oAH g B (lf) (u.1) :: (wRow g (B 1) (B 11) (B 12) (B 13) (u.2) la le)) := by
  refine m_go (cc := cX7_set) (nL := 5) (by decide +kernel) rfl (Nat.le_of_ble_eq_true rfl) (fun x X Y hnm => ?_)
  refine v_eq (lo2 := [some (.ref (B 0)), some (.int (iI r)), some (.int (iI i)), some (.int (iI v)), none]) rfl rfl rfl rfl ?_
  refine v_iload_n X dX7_set_0 rfl ?_
  refine res_E X (run_S X (c_X7_isRow (g := g) (by first | assumption | omega)) gX7_set_X7_isRow rfl hdX7_isRow.2 ⟨(Nat.le_of_ble_eq_true rfl), (Nat.le_of_ble_eq_true rfl)⟩ ⟨(Nat.le_of_ble_eq_true rfl), (Nat.le_of_ble_eq_true rfl)⟩ [] rfl rfl rfl rfl (by simp [Value.category]) dX7_set_1) [] rfl rfl ?_
  refine v_ifb_ne (tgt := 10) X dX7_set_4 (by decide) (fun c1 => ?_) (fun c1 => ?_)
  · skip
    have g0 := hle r.toNat
    have g1 : lanI la r = la r.toNat := if_pos (by assumption)
    have g2 : rchI le r i 1 = if 0 ≤ i ∧ i < le r.toNat then 1 else 0 := rchI_1 (by assumption)
    have g3 : wrgI la le r i 1 = if la r.toNat = -1 then 1 else if 0 ≤ i ∧ i < le r.toNat then 0 else 2 := by unfold wrgI; rw [g1, g2]; (repeat split) <;> omega
    refine v_aload_n X dX7_set_10 rfl ?_
    refine v_get X (fun _ h => List.mem_cons_of_mem _ (List.mem_append_left _ (List.mem_append_right _ h))) 0 rfl rfl 0 (by decide) rfl (List.mem_of_getElem? (i := 2) rfl) rfl dX7_set_11 ?_
    refine v_iload_n X dX7_set_14 rfl ?_
    refine v_iload_n X dX7_set_15 rfl ?_
    refine v_iconst X dX7_set_16 ?_
    refine res_E X (run_V X (c_X5_wrongAt (g := g) (by first | assumption | omega) (by first | assumption | omega) (by first | assumption | omega) (by first | assumption | omega) (by first | assumption | omega)) gX7_set_X5_wrongAt rfl hdX5_wrongAt ⟨(Nat.le_of_ble_eq_true rfl), (Nat.le_of_ble_eq_true rfl)⟩ ⟨(Nat.le_of_ble_eq_true rfl), (Nat.le_of_ble_eq_true rfl)⟩ 1 rfl rfl rfl [1, 2, 3, 4] rfl rfl rfl rfl (by simp [Value.category]) dX7_set_17) [1, 2, 3, 4] rfl rfl ?_
    refine v_istore X dX7_set_20 (by decide) rfl ?_
    dsimp only [List.set]
    refine v_iload X dX7_set_22 rfl ?_
    refine v_if_eq (tgt := 34) X dX7_set_24 (by decide) (by first | omega | (rw [g3]; (repeat split) <;> omega)) (fun c2 => ?_) (fun c2 => ?_)
    · skip
      refine v_aload_n X dX7_set_34 rfl ?_
      have g4 : la r.toNat ≠ -1 ∧ 0 ≤ i ∧ i < le r.toNat := by rw [g3] at *; (repeat (split at *)) <;> omega
      have g6 := cutI_bd (l := la r.toNat) hv
      refine v_get X (fun _ h => List.mem_cons_of_mem _ (List.mem_append_left _ (List.mem_append_right _ h))) 0 rfl rfl 0 (by decide) rfl (List.mem_of_getElem? (i := 2) rfl) rfl dX7_set_35 ?_
      refine v_iload_n X dX7_set_38 rfl ?_
      refine v_iload_n X dX7_set_39 rfl ?_
      refine v_iload_n X dX7_set_40 rfl ?_
      refine res_W X (run_V X (c_X5_put (g := g) (by first | assumption | omega) (by first | assumption | omega) (by first | assumption | omega) (by first | assumption | omega) (by first | assumption | omega)) gX7_set_X5_put rfl hdX5_put ⟨(Nat.le_of_ble_eq_true rfl), (Nat.le_of_ble_eq_true rfl)⟩ ⟨(Nat.le_of_ble_eq_true rfl), (Nat.le_of_ble_eq_true rfl)⟩ 1 rfl rfl rfl [1, 2, 3, 4] rfl rfl rfl rfl (by simp [Value.category]) dX7_set_41) [1, 2, 3, 4] rfl rfl rfl ?_
      dsimp only [patch, List.set, List.cons_append, List.nil_append, oAH, wRow]
      refine v_aload_n X dX7_set_44 rfl ?_
      refine v_aload_n X dX7_set_45 rfl ?_
      refine v_get X (fun _ h => List.mem_cons_of_mem _ (List.mem_append_left _ (List.mem_append_right _ h))) 0 rfl rfl 0 (by decide) rfl (List.mem_of_getElem? (i := 2) rfl) rfl dX7_set_46 ?_
      refine v_iload_n X dX7_set_49 rfl ?_
      refine v_iload_n X dX7_set_50 rfl ?_
      refine res_E X (run_V X (c_X5_item (g := g) (by rw [g1]; exact Bd_up hit g6.1 g6.2) (by first | assumption | omega) (by first | assumption | omega) (by first | assumption | omega)) gX7_set_X5_item rfl hdX5_item ⟨(Nat.le_of_ble_eq_true rfl), (Nat.le_of_ble_eq_true rfl)⟩ ⟨(Nat.le_of_ble_eq_true rfl), (Nat.le_of_ble_eq_true rfl)⟩ 1 rfl rfl rfl [1, 2, 3, 4] rfl rfl rfl rfl (by simp [Value.category]) dX7_set_51) [1, 2, 3, 4] rfl rfl ?_
      rw [itmI_s (by assumption) (by omega) (by omega), g1]
      refine res_F X (run_V X (c_X7_fine (g := g) ) gX7_set_X7_fine rfl hdX7_fine ⟨(Nat.le_of_ble_eq_true rfl), (Nat.le_of_ble_eq_true rfl)⟩ ⟨(Nat.le_of_ble_eq_true rfl), (Nat.le_of_ble_eq_true rfl)⟩ 0 rfl rfl rfl [0] rfl rfl rfl rfl (by simp [Value.category]) dX7_set_54) [0] rfl rfl rfl ?_
      dsimp only [patch, List.set, List.cons_append, List.nil_append, oAH, wRow]
      refine v_iret X Y dX7_set_57 (u := (0, updI it (r * 40 + i).toNat (cutI (la r.toNat) v))) ?_ rfl
      exact Or.inr ⟨by assumption, Or.inr (Or.inr ⟨g4.1, g4.2, rfl, by rw [g1]⟩)⟩
    · skip
      refine v_aload_n X dX7_set_27 rfl ?_
      refine v_iload X dX7_set_28 rfl ?_
      refine res_F X (run_V X (c_X7_found (g := g) ) gX7_set_X7_found rfl hdX7_found ⟨(Nat.le_of_ble_eq_true rfl), (Nat.le_of_ble_eq_true rfl)⟩ ⟨(Nat.le_of_ble_eq_true rfl), (Nat.le_of_ble_eq_true rfl)⟩ 0 rfl rfl rfl [0] rfl rfl rfl rfl (by simp [Value.category]) dX7_set_30) [0] rfl rfl rfl ?_
      dsimp only [patch, List.set, List.cons_append, List.nil_append, oAH, wRow]
      refine v_iret X Y dX7_set_33 (u := (wrgI la le r i 1, it)) ?_ rfl
      refine Or.inr ⟨by assumption, ?_⟩
      rw [g3] at *
      by_cases e1 : la r.toNat = -1
      · rw [if_pos e1] at *; exact Or.inl ⟨e1, by omega, rfl⟩
      · rw [if_neg e1] at *; by_cases e2 : 0 ≤ i ∧ i < le r.toNat
        · rw [if_pos e2] at *; omega
        · rw [if_neg e2] at *; exact Or.inr (Or.inl ⟨e1, e2, by omega, rfl⟩)
  · skip
    refine v_ldc X (List.mem_of_getElem? (i := 1) rfl) dX7_set_7 (n := -1000001) (by decide) ?_
    refine v_iret X Y dX7_set_9 (u := (fi, it)) ?_ rfl
    exact Or.inl ⟨by omega, rfl, rfl⟩

theorem hdX7_drop : yX7_drop.cls = RX7 ∧ yX7_drop.cls ≠ "java/lang/invoke/MethodHandle" ∧ yX7_drop.cls ≠ "java/lang/invoke/VarHandle" ∧ (parseMethodDescriptor yX7_drop.desc).map (fun d => d.parameters.length) = some 1 := ⟨rfl, by decide +kernel, by decide +kernel, by decide +kernel⟩
set_option maxHeartbeats 4000000 in
set_option maxRecDepth 100000 in
theorem c_X7_drop {g : Gx} {B : Nat → Nat} {lf fi : Int} {it la le : Nat → Int} {r : Int} (hit : Bd (-2147483648) 2147483647 it) (hla : Bd (-1) 2 la) (hle : Bd 0 40 le) (hr : R32 r) : CtI (S := Int × (Nat → Int) × (Nat → Int)) g yX7_drop wsX7_drop 3 62 [.ref (B 0), .int (iI r)] (oAH g B (lf) (fi) :: (wRow g (B 1) (B 11) (B 12) (B 13) it la le)) (fun w u => (¬ (0 ≤ r ∧ r < 8) ∧ w = -1000001 ∧ u = (fi, la, le)) ∨ ((0 ≤ r ∧ r < 8) ∧ ((la r.toNat = -1 ∧ w = -1000011 ∧ u = (1, la, le)) ∨ (la r.toNat ≠ -1 ∧ w = le r.toNat ∧ u = (0, updI la r.toNat (-1), updI le r.toNat 0))))) (fun u => oAH g B (lf) (u.1) :: (wRow g (B 1) (B 11) (B 12) (B 13) it (u.2.1) (u.2.2))) := by
  refine m_go (cc := cX7_drop) (nL := 3) (by decide +kernel) rfl (Nat.le_of_ble_eq_true rfl) (fun x X Y hnm => ?_)
  refine v_eq (lo2 := [some (.ref (B 0)), some (.int (iI r)), none]) rfl rfl rfl rfl ?_
  refine v_iload_n X dX7_drop_0 rfl ?_
  refine res_E X (run_S X (c_X7_isRow (g := g) (by first | assumption | omega)) gX7_drop_X7_isRow rfl hdX7_isRow.2 ⟨(Nat.le_of_ble_eq_true rfl), (Nat.le_of_ble_eq_true rfl)⟩ ⟨(Nat.le_of_ble_eq_true rfl), (Nat.le_of_ble_eq_true rfl)⟩ [] rfl rfl rfl rfl (by simp [Value.category]) dX7_drop_1) [] rfl rfl ?_
  refine v_ifb_ne (tgt := 10) X dX7_drop_4 (by decide) (fun c1 => ?_) (fun c1 => ?_)
  · skip
    have g1 : lanI la r = la r.toNat := if_pos (by assumption)
    have g2 : atI 8 le r = le r.toNat := if_pos (by assumption)
    refine v_aload_n X dX7_drop_10 rfl ?_
    refine v_get X (fun _ h => List.mem_cons_of_mem _ (List.mem_append_left _ (List.mem_append_right _ h))) 0 rfl rfl 0 (by decide) rfl (List.mem_of_getElem? (i := 2) rfl) rfl dX7_drop_11 ?_
    refine v_iload_n X dX7_drop_14 rfl ?_
    refine res_E X (run_V X (c_X5_isMissing (g := g) (by first | assumption | omega) (by first | assumption | omega)) gX7_drop_X5_isMissing rfl hdX5_isMissing ⟨(Nat.le_of_ble_eq_true rfl), (Nat.le_of_ble_eq_true rfl)⟩ ⟨(Nat.le_of_ble_eq_true rfl), (Nat.le_of_ble_eq_true rfl)⟩ 1 rfl rfl rfl [1, 2, 3, 4] rfl rfl rfl rfl (by simp [Value.category]) dX7_drop_15) [1, 2, 3, 4] rfl rfl ?_
    refine v_ifb_eq (tgt := 27) X dX7_drop_18 (by decide) (fun c2 => ?_) (fun c2 => ?_)
    · skip
      refine v_aload_n X dX7_drop_27 rfl ?_
      refine v_get X (fun _ h => List.mem_cons_of_mem _ (List.mem_append_left _ (List.mem_append_right _ h))) 0 rfl rfl 0 (by decide) rfl (List.mem_of_getElem? (i := 2) rfl) rfl dX7_drop_28 ?_
      refine v_iload_n X dX7_drop_31 rfl ?_
      refine res_E X (run_V X (c_X5_length (g := g) (by first | assumption | omega) (by first | assumption | omega)) gX7_drop_X5_length rfl hdX5_length ⟨(Nat.le_of_ble_eq_true rfl), (Nat.le_of_ble_eq_true rfl)⟩ ⟨(Nat.le_of_ble_eq_true rfl), (Nat.le_of_ble_eq_true rfl)⟩ 1 rfl rfl rfl [1, 2, 3, 4] rfl rfl rfl rfl (by simp [Value.category]) dX7_drop_32) [1, 2, 3, 4] rfl rfl ?_
      refine v_istore_n X dX7_drop_35 2 rfl (by decide) rfl ?_
      dsimp only [List.set]
      refine v_aload_n X dX7_drop_36 rfl ?_
      refine v_get X (fun _ h => List.mem_cons_of_mem _ (List.mem_append_left _ (List.mem_append_right _ h))) 0 rfl rfl 0 (by decide) rfl (List.mem_of_getElem? (i := 2) rfl) rfl dX7_drop_37 ?_
      refine v_iload_n X dX7_drop_40 rfl ?_
      refine res_W X (run_V X (c_X5_lose (g := g) (by first | assumption | omega)) gX7_drop_X5_lose rfl hdX5_lose ⟨(Nat.le_of_ble_eq_true rfl), (Nat.le_of_ble_eq_true rfl)⟩ ⟨(Nat.le_of_ble_eq_true rfl), (Nat.le_of_ble_eq_true rfl)⟩ 1 rfl rfl rfl [1, 2, 3, 4] rfl rfl rfl rfl (by simp [Value.category]) dX7_drop_41) [1, 2, 3, 4] rfl rfl rfl ?_
      dsimp only [patch, List.set, List.cons_append, List.nil_append, oAH, wRow]
      refine v_aload_n X dX7_drop_44 rfl ?_
      refine v_iload_n X dX7_drop_45 rfl ?_
      refine res_F X (run_V X (c_X7_fine (g := g) ) gX7_drop_X7_fine rfl hdX7_fine ⟨(Nat.le_of_ble_eq_true rfl), (Nat.le_of_ble_eq_true rfl)⟩ ⟨(Nat.le_of_ble_eq_true rfl), (Nat.le_of_ble_eq_true rfl)⟩ 0 rfl rfl rfl [0] rfl rfl rfl rfl (by simp [Value.category]) dX7_drop_46) [0] rfl rfl rfl ?_
      dsimp only [patch, List.set, List.cons_append, List.nil_append, oAH, wRow]
      refine v_iret X Y dX7_drop_49 (u := (0, updI la r.toNat (-1), updI le r.toNat 0)) ?_ rfl
      exact Or.inr ⟨by assumption, Or.inr ⟨by omega, g2, rfl⟩⟩
    · skip
      refine v_aload_n X dX7_drop_21 rfl ?_
      refine v_iconst X dX7_drop_22 ?_
      refine res_F X (run_V X (c_X7_found (g := g) ) gX7_drop_X7_found rfl hdX7_found ⟨(Nat.le_of_ble_eq_true rfl), (Nat.le_of_ble_eq_true rfl)⟩ ⟨(Nat.le_of_ble_eq_true rfl), (Nat.le_of_ble_eq_true rfl)⟩ 0 rfl rfl rfl [0] rfl rfl rfl rfl (by simp [Value.category]) dX7_drop_23) [0] rfl rfl rfl ?_
      dsimp only [patch, List.set, List.cons_append, List.nil_append, oAH, wRow]
      refine v_iret X Y dX7_drop_26 (u := (1, la, le)) ?_ rfl
      exact Or.inr ⟨by assumption, Or.inl ⟨by omega, rfl, rfl⟩⟩
  · skip
    refine v_ldc X (List.mem_of_getElem? (i := 1) rfl) dX7_drop_7 (n := -1000001) (by decide) ?_
    refine v_iret X Y dX7_drop_9 (u := (fi, la, le)) ?_ rfl
    exact Or.inl ⟨by omega, rfl, rfl⟩

theorem hdX7_slip : yX7_slip.cls = RX7 ∧ yX7_slip.cls ≠ "java/lang/invoke/MethodHandle" ∧ yX7_slip.cls ≠ "java/lang/invoke/VarHandle" ∧ (parseMethodDescriptor yX7_slip.desc).map (fun d => d.parameters.length) = some 2 := ⟨rfl, by decide +kernel, by decide +kernel, by decide +kernel⟩
set_option maxHeartbeats 4000000 in
set_option maxRecDepth 100000 in
theorem c_X7_slip {g : Gx} {B : Nat → Nat} {lf fi : Int} {mk cn : Int} {so tu sp : Nat → Int} {hs ss : Nat → Int} {ln : Int} {h m : Int} (hcn : 0 ≤ cn ∧ cn ≤ 4) (hmk : 0 ≤ mk ∧ mk ≤ 60) (hso : Bd 0 5 so) (htu : Bd 0 12 tu) (hsp : Bd 0 59 sp) (hm2 : 0 < cn → 0 < mk) (hln : 0 ≤ ln ∧ ln ≤ 24) (hh : R32 h) (hm : R32 m) : CtI (S := (Nat → Int) × (Nat → Int) × (Nat → Int) × Int) g yX7_slip wsX7_slip 3 102 [.ref (B 0), .int (iI h), .int (iI m)] (oAH g B (lf) (fi) :: (wClk g (B 3) (B 15) (B 16) (B 17) mk cn so tu sp ++ (wAct g (B 7) (B 27) (B 28) hs ss ln))) (fun w u => (¬ ((0 ≤ h ∧ h < cn) ∧ -60 ≤ m ∧ m ≤ 60) ∧ w = -1000001 ∧ u = (sp, hs, ss, ln)) ∨ (((0 ≤ h ∧ h < cn) ∧ -60 ≤ m ∧ m ≤ 60) ∧ w = (sp h.toNat + m) % mk ∧ u.1 = updI sp h.toNat ((sp h.toNat + m) % mk) ∧ u.2 = (updI (if ln < 24 then hs else cpyI hs hs 1 0 23) (if ln < 24 then ln else 23).toNat h, updI (if ln < 24 then ss else cpyI ss ss 1 0 23) (if ln < 24 then ln else 23).toNat (sp h.toNat), (if ln < 24 then ln else 23) + 1))) (fun u => oAH g B (lf) (fi) :: (wClk g (B 3) (B 15) (B 16) (B 17) mk cn so tu (u.1) ++ (wAct g (B 7) (B 27) (B 28) (u.2.1) (u.2.2.1) (u.2.2.2)))) := by
  refine m_go (cc := cX7_slip) (nL := 4) (by decide +kernel) rfl (Nat.le_of_ble_eq_true rfl) (fun x X Y hnm => ?_)
  refine v_eq (lo2 := [some (.ref (B 0)), some (.int (iI h)), some (.int (iI m)), none]) rfl rfl rfl rfl ?_
  refine v_aload_n X dX7_slip_0 rfl ?_
  refine v_get X (fun _ h => List.mem_cons_of_mem _ (List.mem_append_left _ (List.mem_append_left _ (List.mem_append_right _ h)))) 0 rfl rfl 2 (by decide) rfl (List.mem_of_getElem? (i := 1) rfl) rfl dX7_slip_1 ?_
  refine v_iload_n X dX7_slip_4 rfl ?_
  refine res_E X (run_V X (c_X2_has (g := g) (by first | assumption | omega) (by first | assumption | omega)) gX7_slip_X2_has rfl hdX2_has ⟨(Nat.le_of_ble_eq_true rfl), (Nat.le_of_ble_eq_true rfl)⟩ ⟨(Nat.le_of_ble_eq_true rfl), (Nat.le_of_ble_eq_true rfl)⟩ 1 rfl rfl rfl [1, 2, 3, 4] rfl rfl rfl rfl (by simp [Value.category]) dX7_slip_5) [1, 2, 3, 4] rfl rfl ?_
  refine v_ifb_eq (tgt := 22) X dX7_slip_8 (by decide) (fun c1 => ?_) (fun c1 => ?_)
  · skip
    refine v_ldc X (List.mem_of_getElem? (i := 2) rfl) dX7_slip_22 (n := -1000001) (by decide) ?_
    refine v_iret X Y dX7_slip_24 (u := (sp, hs, ss, ln)) ?_ rfl
    exact Or.inl ⟨by omega, rfl, rfl⟩
  · skip
    refine v_iload_n X dX7_slip_11 rfl ?_
    refine v_bipush X dX7_slip_12 (by decide) ?_
    refine v_bipush X dX7_slip_14 (by decide) ?_
    refine res_E X (run_S X (c_X7_isWithin (g := g) (by first | assumption | omega) (by first | assumption | omega) (by first | assumption | omega)) gX7_slip_X7_isWithin rfl hdX7_isWithin.2 ⟨(Nat.le_of_ble_eq_true rfl), (Nat.le_of_ble_eq_true rfl)⟩ ⟨(Nat.le_of_ble_eq_true rfl), (Nat.le_of_ble_eq_true rfl)⟩ [] rfl rfl rfl rfl (by simp [Value.category]) dX7_slip_16) [] rfl rfl ?_
    refine v_ifb_ne (tgt := 25) X dX7_slip_19 (by decide) (fun c2 => ?_) (fun c2 => ?_)
    · skip
      have g1 : (0 ≤ h ∧ h < cn) ∧ -60 ≤ m ∧ m ≤ 60 := by omega
      have g2 : atI cn sp h = sp h.toNat := if_pos g1.1
      have g3 := hsp h.toNat
      have g4 : restI (sp h.toNat + m) mk = (sp h.toNat + m) % mk := if_neg (by omega)
      have g5 := Int.emod_nonneg (sp h.toNat + m) (show mk ≠ 0 by omega)
      have g6 := Int.emod_lt_of_pos (sp h.toNat + m) (show 0 < mk by omega)
      refine v_aload_n X dX7_slip_25 rfl ?_
      refine v_get X (fun _ h => List.mem_cons_of_mem _ (List.mem_append_left _ (List.mem_append_left _ (List.mem_append_right _ h)))) 0 rfl rfl 2 (by decide) rfl (List.mem_of_getElem? (i := 1) rfl) rfl dX7_slip_26 ?_
      refine v_iload_n X dX7_slip_29 rfl ?_
      refine res_E X (run_V X (c_X2_slipOf (g := g) (by first | assumption | omega) (by first | assumption | omega) (by first | assumption | omega)) gX7_slip_X2_slipOf rfl hdX2_slipOf ⟨(Nat.le_of_ble_eq_true rfl), (Nat.le_of_ble_eq_true rfl)⟩ ⟨(Nat.le_of_ble_eq_true rfl), (Nat.le_of_ble_eq_true rfl)⟩ 1 rfl rfl rfl [1, 2, 3, 4] rfl rfl rfl rfl (by simp [Value.category]) dX7_slip_30) [1, 2, 3, 4] rfl rfl ?_
      rw [g2]
      refine v_istore_n X dX7_slip_33 3 rfl (by decide) rfl ?_
      dsimp only [List.set]
      refine v_aload_n X dX7_slip_34 rfl ?_
      refine v_get X (fun _ h => List.mem_cons_of_mem _ (List.mem_append_left _ (List.mem_append_left _ (List.mem_append_right _ h)))) 0 rfl rfl 6 (by decide) rfl (List.mem_of_getElem? (i := 3) rfl) rfl dX7_slip_35 ?_
      refine v_iload_n X dX7_slip_38 rfl ?_
      refine v_iload_n X dX7_slip_39 rfl ?_
      refine res_W X (run_V X (c_X0_keep (g := g) (by first | assumption | omega)) gX7_slip_X0_keep rfl hdX0_keep ⟨(Nat.le_of_ble_eq_true rfl), (Nat.le_of_ble_eq_true rfl)⟩ ⟨(Nat.le_of_ble_eq_true rfl), (Nat.le_of_ble_eq_true rfl)⟩ 5 rfl rfl rfl [5, 6, 7] rfl rfl rfl rfl (by simp [Value.category]) dX7_slip_40) [5, 6, 7] rfl rfl rfl ?_
      dsimp only [patch, List.set, List.cons_append, List.nil_append, oAH, wAct, wClk]
      refine v_aload_n X dX7_slip_43 rfl ?_
      refine v_get X (fun _ h => List.mem_cons_of_mem _ (List.mem_append_left _ (List.mem_append_left _ (List.mem_append_right _ h)))) 0 rfl rfl 2 (by decide) rfl (List.mem_of_getElem? (i := 1) rfl) rfl dX7_slip_44 ?_
      refine v_iload_n X dX7_slip_47 rfl ?_
      refine v_iload_n X dX7_slip_48 rfl ?_
      refine v_iload_n X dX7_slip_49 rfl ?_
      refine v_iadd X dX7_slip_50 ?_
      refine v_aload_n X dX7_slip_51 rfl ?_
      refine v_get X (fun _ h => List.mem_cons_of_mem _ (List.mem_append_left _ (List.mem_append_left _ (List.mem_append_right _ h)))) 0 rfl rfl 2 (by decide) rfl (List.mem_of_getElem? (i := 1) rfl) rfl dX7_slip_52 ?_
      refine v_get X (fun _ h => List.mem_cons_of_mem _ (List.mem_append_left _ (List.mem_append_right _ h))) 1 rfl rfl 3 (by decide) rfl (List.mem_of_getElem? (i := 4) rfl) rfl dX7_slip_55 ?_
      refine res_E X (run_S X (c_X7_rest (g := g) (by first | assumption | omega) (by first | assumption | omega)) gX7_slip_X7_rest rfl hdX7_rest.2 ⟨(Nat.le_of_ble_eq_true rfl), (Nat.le_of_ble_eq_true rfl)⟩ ⟨(Nat.le_of_ble_eq_true rfl), (Nat.le_of_ble_eq_true rfl)⟩ [] rfl rfl rfl rfl (by simp [Value.category]) dX7_slip_58) [] rfl rfl ?_
      rw [g4]
      refine res_W X (run_V X (c_X2_setSlip (g := g) (by first | assumption | omega) (by first | assumption | omega)) gX7_slip_X2_setSlip rfl hdX2_setSlip ⟨(Nat.le_of_ble_eq_true rfl), (Nat.le_of_ble_eq_true rfl)⟩ ⟨(Nat.le_of_ble_eq_true rfl), (Nat.le_of_ble_eq_true rfl)⟩ 1 rfl rfl rfl [1, 2, 3, 4] rfl rfl rfl rfl (by simp [Value.category]) dX7_slip_61) [1, 2, 3, 4] rfl rfl rfl ?_
      dsimp only [patch, List.set, List.cons_append, List.nil_append, oAH, wAct, wClk]
      refine v_aload_n X dX7_slip_64 rfl ?_
      refine v_get X (fun _ h => List.mem_cons_of_mem _ (List.mem_append_left _ (List.mem_append_left _ (List.mem_append_right _ h)))) 0 rfl rfl 2 (by decide) rfl (List.mem_of_getElem? (i := 1) rfl) rfl dX7_slip_65 ?_
      refine v_iload_n X dX7_slip_68 rfl ?_
      refine res_E X (run_V X (c_X2_slipOf (g := g) (by first | assumption | omega) (by exact Bd_up hsp (by omega) (by omega)) (by first | assumption | omega)) gX7_slip_X2_slipOf rfl hdX2_slipOf ⟨(Nat.le_of_ble_eq_true rfl), (Nat.le_of_ble_eq_true rfl)⟩ ⟨(Nat.le_of_ble_eq_true rfl), (Nat.le_of_ble_eq_true rfl)⟩ 1 rfl rfl rfl [1, 2, 3, 4] rfl rfl rfl rfl (by simp [Value.category]) dX7_slip_69) [1, 2, 3, 4] rfl rfl ?_
      rw [show atI cn (updI sp h.toNat ((sp h.toNat + m) % mk)) h = (sp h.toNat + m) % mk from (if_pos g1.1).trans (updI_s _ _ _)]
      refine v_iret X Y dX7_slip_72 (u := (updI sp h.toNat ((sp h.toNat + m) % mk), updI (if ln < 24 then hs else cpyI hs hs 1 0 23) (if ln < 24 then ln else 23).toNat h, updI (if ln < 24 then ss else cpyI ss ss 1 0 23) (if ln < 24 then ln else 23).toNat (sp h.toNat), (if ln < 24 then ln else 23) + 1)) ?_ rfl
      exact Or.inr ⟨g1, rfl, rfl, rfl⟩
    · skip
      refine v_ldc X (List.mem_of_getElem? (i := 2) rfl) dX7_slip_22 (n := -1000001) (by decide) ?_
      refine v_iret X Y dX7_slip_24 (u := (sp, hs, ss, ln)) ?_ rfl
      exact Or.inl ⟨by omega, rfl, rfl⟩

theorem hdX7_undo : yX7_undo.cls = RX7 ∧ yX7_undo.cls ≠ "java/lang/invoke/MethodHandle" ∧ yX7_undo.cls ≠ "java/lang/invoke/VarHandle" ∧ (parseMethodDescriptor yX7_undo.desc).map (fun d => d.parameters.length) = some 0 := ⟨rfl, by decide +kernel, by decide +kernel, by decide +kernel⟩
set_option maxHeartbeats 4000000 in
set_option maxRecDepth 100000 in
theorem c_X7_undo {g : Gx} {B : Nat → Nat} {lf fi : Int} {mk cn : Int} {so tu sp : Nat → Int} {hs ss : Nat → Int} {ln : Int}  (hcn : 0 ≤ cn ∧ cn ≤ 4) (hmk : 0 ≤ mk ∧ mk ≤ 60) (hso : Bd 0 5 so) (htu : Bd 0 12 tu) (hsp : Bd 0 59 sp) (hln : 0 ≤ ln ∧ ln ≤ 24) (hhs : Bd 0 59 hs) (hss : Bd 0 59 ss) (hhc : 1 ≤ ln → hs (ln - 1).toNat < cn) : CtE g yX7_undo wsX7_undo 2 43 [.ref (B 0)] (oAH g B (lf) (fi) :: (wClk g (B 3) (B 15) (B 16) (B 17) mk cn so tu sp ++ (wAct g (B 7) (B 27) (B 28) hs ss ln))) (if ln < 1 then -1000002 else ln - 1) (oAH g B (lf) (fi) :: (wClk g (B 3) (B 15) (B 16) (B 17) mk cn so tu (if ln < 1 then sp else updI sp (hs (ln - 1).toNat).toNat (ss (ln - 1).toNat)) ++ (wAct g (B 7) (B 27) (B 28) hs ss (if ln < 1 then ln else ln - 1)))) := by
  refine m_go (cc := cX7_undo) (nL := 1) (by decide +kernel) rfl (Nat.le_of_ble_eq_true rfl) (fun x X Y hnm => ?_)
  refine v_eq (lo2 := [some (.ref (B 0))]) rfl rfl rfl rfl ?_
  refine v_aload_n X dX7_undo_0 rfl ?_
  refine v_get X (fun _ h => List.mem_cons_of_mem _ (List.mem_append_left _ (List.mem_append_left _ (List.mem_append_right _ h)))) 0 rfl rfl 6 (by decide) rfl (List.mem_of_getElem? (i := 1) rfl) rfl dX7_undo_1 ?_
  refine v_get X (fun _ h => List.mem_cons_of_mem _ (List.mem_append_left _ (List.mem_append_right _ h))) 5 rfl rfl 2 (by decide) rfl (List.mem_of_getElem? (i := 2) rfl) rfl dX7_undo_4 ?_
  refine v_iconst X dX7_undo_7 ?_
  refine v_icmp_ge (tgt := 14) X dX7_undo_8 (by decide) (by omega) (by omega) (fun c1 => ?_) (fun c1 => ?_)
  · skip
    refine v_aload_n X dX7_undo_14 rfl ?_
    have g1 : (if 1 ≤ ln then hs (ln - 1).toNat else 0) = hs (ln - 1).toNat := if_pos (by omega)
    have g2 : (if 1 ≤ ln then ss (ln - 1).toNat else 0) = ss (ln - 1).toNat := if_pos (by omega)
    have g3 := hhs (ln - 1).toNat
    have g4 := hhc (by omega)
    refine v_get X (fun _ h => List.mem_cons_of_mem _ (List.mem_append_left _ (List.mem_append_left _ (List.mem_append_right _ h)))) 0 rfl rfl 2 (by decide) rfl (List.mem_of_getElem? (i := 4) rfl) rfl dX7_undo_15 ?_
    refine v_aload_n X dX7_undo_18 rfl ?_
    refine v_get X (fun _ h => List.mem_cons_of_mem _ (List.mem_append_left _ (List.mem_append_left _ (List.mem_append_right _ h)))) 0 rfl rfl 6 (by decide) rfl (List.mem_of_getElem? (i := 1) rfl) rfl dX7_undo_19 ?_
    refine res_E X (run_V X (c_X0_lastHand (g := g) (by first | assumption | omega) (by first | assumption | omega)) gX7_undo_X0_lastHand rfl hdX0_lastHand ⟨(Nat.le_of_ble_eq_true rfl), (Nat.le_of_ble_eq_true rfl)⟩ ⟨(Nat.le_of_ble_eq_true rfl), (Nat.le_of_ble_eq_true rfl)⟩ 5 rfl rfl rfl [5, 6, 7] rfl rfl rfl rfl (by simp [Value.category]) dX7_undo_22) [5, 6, 7] rfl rfl ?_
    rw [g1]
    refine v_aload_n X dX7_undo_25 rfl ?_
    refine v_get X (fun _ h => List.mem_cons_of_mem _ (List.mem_append_left _ (List.mem_append_left _ (List.mem_append_right _ h)))) 0 rfl rfl 6 (by decide) rfl (List.mem_of_getElem? (i := 1) rfl) rfl dX7_undo_26 ?_
    refine res_E X (run_V X (c_X0_lastSlip (g := g) (by first | assumption | omega) (by first | assumption | omega)) gX7_undo_X0_lastSlip rfl hdX0_lastSlip ⟨(Nat.le_of_ble_eq_true rfl), (Nat.le_of_ble_eq_true rfl)⟩ ⟨(Nat.le_of_ble_eq_true rfl), (Nat.le_of_ble_eq_true rfl)⟩ 5 rfl rfl rfl [5, 6, 7] rfl rfl rfl rfl (by simp [Value.category]) dX7_undo_29) [5, 6, 7] rfl rfl ?_
    rw [g2]
    refine res_W X (run_V X (c_X2_setSlip (g := g) (by first | assumption | omega) (by first | assumption | omega)) gX7_undo_X2_setSlip rfl hdX2_setSlip ⟨(Nat.le_of_ble_eq_true rfl), (Nat.le_of_ble_eq_true rfl)⟩ ⟨(Nat.le_of_ble_eq_true rfl), (Nat.le_of_ble_eq_true rfl)⟩ 1 rfl rfl rfl [1, 2, 3, 4] rfl rfl rfl rfl (by simp [Value.category]) dX7_undo_32) [1, 2, 3, 4] rfl rfl rfl ?_
    dsimp only [patch, List.set, List.cons_append, List.nil_append, oAH, wAct, wClk]
    refine v_aload_n X dX7_undo_35 rfl ?_
    refine v_get X (fun _ h => List.mem_cons_of_mem _ (List.mem_append_left _ (List.mem_append_left _ (List.mem_append_right _ h)))) 0 rfl rfl 6 (by decide) rfl (List.mem_of_getElem? (i := 1) rfl) rfl dX7_undo_36 ?_
    refine v_dup X dX7_undo_39 rfl ?_
    refine v_get X (fun _ h => List.mem_cons_of_mem _ (List.mem_append_left _ (List.mem_append_right _ h))) 5 rfl rfl 2 (by decide) rfl (List.mem_of_getElem? (i := 2) rfl) rfl dX7_undo_40 ?_
    refine v_iconst X dX7_undo_43 ?_
    refine v_isub X dX7_undo_44 ?_
    refine v_put X (fun _ h => List.mem_cons_of_mem _ (List.mem_append_left _ (List.mem_append_right _ h))) tyX0 tyX0_ok nmX0 5 rfl rfl 2 (by decide) rfl (List.mem_of_getElem? (i := 2) rfl) rfl rfl rfl (Nat.le_of_ble_eq_true rfl) dX7_undo_45 ?_
    dsimp only [List.set, oAH, wAct, wClk, List.cons_append, List.nil_append]
    refine v_aload_n X dX7_undo_48 rfl ?_
    refine v_get X (fun _ h => List.mem_cons_of_mem _ (List.mem_append_left _ (List.mem_append_left _ (List.mem_append_right _ h)))) 0 rfl rfl 6 (by decide) rfl (List.mem_of_getElem? (i := 1) rfl) rfl dX7_undo_49 ?_
    refine v_get X (fun _ h => List.mem_cons_of_mem _ (List.mem_append_left _ (List.mem_append_right _ h))) 5 rfl rfl 2 (by decide) rfl (List.mem_of_getElem? (i := 2) rfl) rfl dX7_undo_52 ?_
    exact v_iret X Y dX7_undo_55 (u := ()) (by rw [if_neg (by omega)]) (by first | simp only [if_pos (show ln < 1 by omega)] | simp only [if_neg (show ¬ ln < 1 by omega)])
  · skip
    refine v_ldc X (List.mem_of_getElem? (i := 3) rfl) dX7_undo_11 (n := -1000002) (by decide) ?_
    exact v_iret X Y dX7_undo_13 (u := ()) (by rw [if_pos (by assumption)]) (by first | simp only [if_pos (show ln < 1 by omega)] | simp only [if_neg (show ¬ ln < 1 by omega)])

theorem hdX8_set : yX8_set.cls = RX8 ∧ yX8_set.cls ≠ "java/lang/invoke/MethodHandle" ∧ yX8_set.cls ≠ "java/lang/invoke/VarHandle" ∧ (parseMethodDescriptor yX8_set.desc).map (fun d => d.parameters.length) = some 3 := ⟨rfl, by decide +kernel, by decide +kernel, by decide +kernel⟩
set_option maxHeartbeats 4000000 in
set_option maxRecDepth 100000 in
theorem c_X8_set {g : Gx} {A : Nat → Nat} {th sq ac td lt ln cu tk sa ti ft fp le lf tr : Int} {fl fm fi fc ff fw ftp fk fe fr : Nat → Int} {r i v : Int} (hfl : Bd (-1) 2 fl) (hfm : Bd 0 40 fm) (hfi : Bd (-2147483648) 2147483647 fi) (hr : R32 r) (hi : R32 i) (hv : R32 v) : CtI (S := Int × (Nat → Int)) g yX8_set wsX8_set 2 45 [.ref (A 0), .int (iI r), .int (iI i), .int (iI v)] (wMod g A th sq ac td lt ln cu tk sa ti ft fp le lf tr fl fm fi fc ff fw ftp fk fe fr) (fun w u => (¬ (0 ≤ r ∧ r < 8) ∧ w = -1000001 ∧ u = (sq, fi)) ∨ ((0 ≤ r ∧ r < 8) ∧ ((fl r.toNat < 0 ∧ w = -1000011 ∧ u = (1, fi)) ∨ (0 ≤ fl r.toNat ∧ ¬ (0 ≤ i ∧ i < fm r.toNat) ∧ w = -1000012 ∧ u = (2, fi)) ∨ (0 ≤ fl r.toNat ∧ (0 ≤ i ∧ i < fm r.toNat) ∧ w = cutI (fl r.toNat) v ∧ u = (0, updI fi (r * 40 + i).toNat (cutI (fl r.toNat) v)))))) (fun u => wMod g A (0) (u.1) ac td lt ln cu tk sa ti ft fp le lf tr fl fm (u.2) fc ff fw ftp fk fe fr) := by
  refine m_go (cc := cX8_set) (nL := 4) (by decide +kernel) rfl (Nat.le_of_ble_eq_true rfl) (fun x X Y hnm => ?_)
  refine v_eq (lo2 := [some (.ref (A 0)), some (.int (iI r)), some (.int (iI i)), some (.int (iI v))]) rfl rfl rfl rfl ?_
  have g6 := fun l => cutI_bd (l := l) hv
  have b1 := iByte_bd v
  have b2 := iShort_bd v
  refine v_aload_n X dX8_set_0 rfl ?_
  refine v_iconst X dX8_set_1 ?_
  refine v_put X (fun _ h => List.mem_cons_of_mem _ (List.mem_append_right _ h)) tyX8 tyX8_ok nmX8 0 rfl rfl 0 (by decide) rfl (List.mem_of_getElem? (i := 1) rfl) rfl rfl rfl (Nat.le_of_ble_eq_true rfl) dX8_set_2 ?_
  dsimp only [List.set, wMod]
  refine v_iload_n X dX8_set_5 rfl ?_
  refine res_E X (run_S X (c_X8_isRow (g := g) (by first | assumption | omega)) gX8_set_X8_isRow rfl hdX8_isRow.2 ⟨(Nat.le_of_ble_eq_true rfl), (Nat.le_of_ble_eq_true rfl)⟩ ⟨(Nat.le_of_ble_eq_true rfl), (Nat.le_of_ble_eq_true rfl)⟩ [] rfl rfl rfl rfl (by simp [Value.category]) dX8_set_6) [] rfl rfl ?_
  refine v_ifb_ne (tgt := 15) X dX8_set_9 (by decide) (fun c1 => ?_) (fun c1 => ?_)
  · skip
    refine v_aload_n X dX8_set_15 rfl ?_
    refine v_iconst X dX8_set_16 ?_
    refine v_put X (fun _ h => List.mem_cons_of_mem _ (List.mem_append_right _ h)) tyX8 tyX8_ok nmX8 0 rfl rfl 1 (by decide) rfl (List.mem_of_getElem? (i := 3) rfl) rfl rfl rfl (Nat.le_of_ble_eq_true rfl) dX8_set_17 ?_
    dsimp only [List.set, wMod]
    have g0 := hfm r.toNat
    refine v_aload_n X dX8_set_20 rfl ?_
    refine v_get X (fun _ h => List.mem_cons_of_mem _ (List.mem_append_right _ h)) 0 rfl rfl 2 (by decide) rfl (List.mem_of_getElem? (i := 4) rfl) rfl dX8_set_21 ?_
    refine v_iload_n X dX8_set_24 rfl ?_
    refine v_iald X 1 rfl (by omega) (by omega) (by omega) dX8_set_25 hfl (fun z2 ez2 lz2 uz2 => ?_)
    refine v_if_ge (tgt := 35) X dX8_set_26 (by decide) (by omega) (fun c3 => ?_) (fun c3 => ?_)
    · skip
      refine v_iload_n X dX8_set_35 rfl ?_
      refine v_i2l X dX8_set_36 (by omega) ?_
      refine v_lconst0 X dX8_set_37 ?_
      refine v_aload_n X dX8_set_38 rfl ?_
      refine v_get X (fun _ h => List.mem_cons_of_mem _ (List.mem_append_right _ h)) 0 rfl rfl 3 (by decide) rfl (List.mem_of_getElem? (i := 5) rfl) rfl dX8_set_39 ?_
      refine v_iload_n X dX8_set_42 rfl ?_
      refine v_iald X 2 rfl (by omega) (by omega) (by omega) dX8_set_43 hfm (fun z4 ez4 lz4 uz4 => ?_)
      refine v_iconst X dX8_set_44 ?_
      refine v_isub X dX8_set_45 ?_
      refine v_i2l X dX8_set_46 (by omega) ?_
      refine res_E X (run_S X (c_X8_in (g := g) (by first | assumption | omega) (by first | assumption | omega) (by first | assumption | omega)) gX8_set_X8_in rfl hdX8_in.2 ⟨(Nat.le_of_ble_eq_true rfl), (Nat.le_of_ble_eq_true rfl)⟩ ⟨(Nat.le_of_ble_eq_true rfl), (Nat.le_of_ble_eq_true rfl)⟩ [] rfl rfl rfl rfl (by simp [Value.category]) dX8_set_47) [] rfl rfl ?_
      refine v_ifb_ne (tgt := 59) X dX8_set_50 (by decide) (fun c5 => ?_) (fun c5 => ?_)
      · skip
        refine v_aload_n X dX8_set_59 rfl ?_
        have J99 : ∀ (q : Int) (hq : q = cutI (fl r.toNat) v), V g x 0 0 (wMod g A (0) (0) ac td lt ln cu tk sa ti ft fp le lf tr fl fm fi fc ff fw ftp fk fe fr) [some (.ref (A 0)), some (.int (iI r)), some (.int (iI i)), some (.int (iI v))] 99 [.int (iI q), .int (iI (40 * r + i)), .ref (A 3)] := by
          intro q hq
          have hq2 := g6 (fl r.toNat)
          rw [← hq] at hq2
          refine v_iast X 3 rfl (by omega) (by omega) (by omega) dX8_set_99 ?_
          dsimp only [List.set, wMod]
          refine v_aload_n X dX8_set_100 rfl ?_
          refine v_get X (fun _ h => List.mem_cons_of_mem _ (List.mem_append_right _ h)) 0 rfl rfl 4 (by decide) rfl (List.mem_of_getElem? (i := 6) rfl) rfl dX8_set_101 ?_
          refine v_bipush X dX8_set_104 (by decide) ?_
          refine v_iload_n X dX8_set_106 rfl ?_
          refine v_imul X dX8_set_107 ?_
          refine v_iload_n X dX8_set_108 rfl ?_
          refine v_iadd X dX8_set_109 ?_
          refine v_iald X 3 rfl (by omega) (by omega) (by omega) dX8_set_110 (Bd_up hfi (by omega) (by omega)) (fun qz eqz lqz uqz => ?_)
          refine v_iret X Y dX8_set_111 (u := (0, updI fi (40 * r + i).toNat q)) ?_ rfl
          have e : (40 * r + i).toNat = (r * 40 + i).toNat := by omega
          refine Or.inr ⟨by assumption, Or.inr (Or.inr ⟨by omega, by omega, ?_, by rw [e, hq]⟩)⟩
          rw [eqz, updI_s, hq]
        refine v_get X (fun _ h => List.mem_cons_of_mem _ (List.mem_append_right _ h)) 0 rfl rfl 4 (by decide) rfl (List.mem_of_getElem? (i := 6) rfl) rfl dX8_set_60 ?_
        refine v_bipush X dX8_set_63 (by decide) ?_
        refine v_iload_n X dX8_set_65 rfl ?_
        refine v_imul X dX8_set_66 ?_
        refine v_iload_n X dX8_set_67 rfl ?_
        refine v_iadd X dX8_set_68 ?_
        refine v_aload_n X dX8_set_69 rfl ?_
        refine v_get X (fun _ h => List.mem_cons_of_mem _ (List.mem_append_right _ h)) 0 rfl rfl 2 (by decide) rfl (List.mem_of_getElem? (i := 4) rfl) rfl dX8_set_70 ?_
        refine v_iload_n X dX8_set_73 rfl ?_
        refine v_iald X 1 rfl (by omega) (by omega) (by omega) dX8_set_74 hfl (fun z7 ez7 lz7 uz7 => ?_)
        refine v_if_ne (tgt := 83) X dX8_set_75 (by decide) (by omega) (fun c8 => ?_) (fun c8 => ?_)
        · skip
          refine v_aload_n X dX8_set_83 rfl ?_
          refine v_get X (fun _ h => List.mem_cons_of_mem _ (List.mem_append_right _ h)) 0 rfl rfl 2 (by decide) rfl (List.mem_of_getElem? (i := 4) rfl) rfl dX8_set_84 ?_
          refine v_iload_n X dX8_set_87 rfl ?_
          refine v_iald X 1 rfl (by omega) (by omega) (by omega) dX8_set_88 hfl (fun z9 ez9 lz9 uz9 => ?_)
          refine v_iconst X dX8_set_89 ?_
          refine v_icmp_ne (tgt := 98) X dX8_set_90 (by decide) (by omega) (by omega) (fun c10 => ?_) (fun c10 => ?_)
          · skip
            refine v_iload_n X dX8_set_98 rfl ?_
            exact J99 _ (by unfold cutI; first | rw [if_pos (by omega)] | (rw [if_neg (by omega)]; first | rw [if_pos (by omega)] | rw [if_neg (by omega)]))
          · skip
            refine v_iload_n X dX8_set_93 rfl ?_
            refine v_i2s X dX8_set_94 ?_
            refine v_goto (tgt := 99) X dX8_set_95 (by decide) ?_
            exact J99 _ (by unfold cutI; first | rw [if_pos (by omega)] | (rw [if_neg (by omega)]; first | rw [if_pos (by omega)] | rw [if_neg (by omega)]))
        · skip
          refine v_iload_n X dX8_set_78 rfl ?_
          refine v_i2b X dX8_set_79 ?_
          refine v_goto (tgt := 99) X dX8_set_80 (by decide) ?_
          exact J99 _ (by unfold cutI; first | rw [if_pos (by omega)] | (rw [if_neg (by omega)]; first | rw [if_pos (by omega)] | rw [if_neg (by omega)]))
      · skip
        refine v_aload_n X dX8_set_53 rfl ?_
        refine v_iconst X dX8_set_54 ?_
        refine res_F X (run_V X (c_X8_finding (g := g) ) gX8_set_X8_finding rfl hdX8_finding ⟨(Nat.le_of_ble_eq_true rfl), (Nat.le_of_ble_eq_true rfl)⟩ ⟨(Nat.le_of_ble_eq_true rfl), (Nat.le_of_ble_eq_true rfl)⟩ 0 rfl rfl rfl [0, 1, 2, 3, 4, 5, 6, 7, 8, 9, 10] rfl rfl rfl rfl (by simp [Value.category]) dX8_set_55) [0, 1, 2, 3, 4, 5, 6, 7, 8, 9, 10] rfl rfl rfl ?_
        dsimp only [patch, List.set, wMod]
        refine v_iret X Y dX8_set_58 (u := (2, fi)) ?_ rfl
        exact Or.inr ⟨by assumption, Or.inr (Or.inl ⟨by omega, by omega, rfl, rfl⟩)⟩
    · skip
      refine v_aload_n X dX8_set_29 rfl ?_
      refine v_iconst X dX8_set_30 ?_
      refine res_F X (run_V X (c_X8_finding (g := g) ) gX8_set_X8_finding rfl hdX8_finding ⟨(Nat.le_of_ble_eq_true rfl), (Nat.le_of_ble_eq_true rfl)⟩ ⟨(Nat.le_of_ble_eq_true rfl), (Nat.le_of_ble_eq_true rfl)⟩ 0 rfl rfl rfl [0, 1, 2, 3, 4, 5, 6, 7, 8, 9, 10] rfl rfl rfl rfl (by simp [Value.category]) dX8_set_31) [0, 1, 2, 3, 4, 5, 6, 7, 8, 9, 10] rfl rfl rfl ?_
      dsimp only [patch, List.set, wMod]
      refine v_iret X Y dX8_set_34 (u := (1, fi)) ?_ rfl
      exact Or.inr ⟨by assumption, Or.inl ⟨by omega, rfl, rfl⟩⟩
  · skip
    refine v_ldc X (List.mem_of_getElem? (i := 2) rfl) dX8_set_12 (n := -1000001) (by decide) ?_
    refine v_iret X Y dX8_set_14 (u := (sq, fi)) ?_ rfl
    exact Or.inl ⟨by omega, rfl, rfl⟩

theorem hdX8_drop : yX8_drop.cls = RX8 ∧ yX8_drop.cls ≠ "java/lang/invoke/MethodHandle" ∧ yX8_drop.cls ≠ "java/lang/invoke/VarHandle" ∧ (parseMethodDescriptor yX8_drop.desc).map (fun d => d.parameters.length) = some 1 := ⟨rfl, by decide +kernel, by decide +kernel, by decide +kernel⟩
set_option maxHeartbeats 4000000 in
set_option maxRecDepth 100000 in
theorem c_X8_drop {g : Gx} {A : Nat → Nat} {th sq ac td lt ln cu tk sa ti ft fp le lf tr : Int} {fl fm fi fc ff fw ftp fk fe fr : Nat → Int} {r : Int} (hfl : Bd (-1) 2 fl) (hfm : Bd 0 40 fm) (hfi : Bd (-2147483648) 2147483647 fi) (hr : R32 r) : CtI (S := Int × (Nat → Int)) g yX8_drop wsX8_drop 2 45 [.ref (A 0), .int (iI r)] (wMod g A th sq ac td lt ln cu tk sa ti ft fp le lf tr fl fm fi fc ff fw ftp fk fe fr) (fun w u => (¬ (0 ≤ r ∧ r < 8) ∧ w = -1000001 ∧ u = (sq, fl)) ∨ ((0 ≤ r ∧ r < 8) ∧ ((fl r.toNat < 0 ∧ w = -1000011 ∧ u = (1, fl)) ∨ (0 ≤ fl r.toNat ∧ w = fm r.toNat ∧ u = (0, updI fl r.toNat (-1)))))) (fun u => wMod g A (0) (u.1) ac td lt ln cu tk sa ti ft fp le lf tr (u.2) fm fi fc ff fw ftp fk fe fr) := by
  refine m_go (cc := cX8_drop) (nL := 2) (by decide +kernel) rfl (Nat.le_of_ble_eq_true rfl) (fun x X Y hnm => ?_)
  refine v_eq (lo2 := [some (.ref (A 0)), some (.int (iI r))]) rfl rfl rfl rfl ?_
  refine v_aload_n X dX8_drop_0 rfl ?_
  refine v_iconst X dX8_drop_1 ?_
  refine v_put X (fun _ h => List.mem_cons_of_mem _ (List.mem_append_right _ h)) tyX8 tyX8_ok nmX8 0 rfl rfl 0 (by decide) rfl (List.mem_of_getElem? (i := 1) rfl) rfl rfl rfl (Nat.le_of_ble_eq_true rfl) dX8_drop_2 ?_
  dsimp only [List.set, wMod]
  refine v_iload_n X dX8_drop_5 rfl ?_
  refine res_E X (run_S X (c_X8_isRow (g := g) (by first | assumption | omega)) gX8_drop_X8_isRow rfl hdX8_isRow.2 ⟨(Nat.le_of_ble_eq_true rfl), (Nat.le_of_ble_eq_true rfl)⟩ ⟨(Nat.le_of_ble_eq_true rfl), (Nat.le_of_ble_eq_true rfl)⟩ [] rfl rfl rfl rfl (by simp [Value.category]) dX8_drop_6) [] rfl rfl ?_
  refine v_ifb_ne (tgt := 15) X dX8_drop_9 (by decide) (fun c1 => ?_) (fun c1 => ?_)
  · skip
    refine v_aload_n X dX8_drop_15 rfl ?_
    refine v_iconst X dX8_drop_16 ?_
    refine v_put X (fun _ h => List.mem_cons_of_mem _ (List.mem_append_right _ h)) tyX8 tyX8_ok nmX8 0 rfl rfl 1 (by decide) rfl (List.mem_of_getElem? (i := 3) rfl) rfl rfl rfl (Nat.le_of_ble_eq_true rfl) dX8_drop_17 ?_
    dsimp only [List.set, wMod]
    refine v_aload_n X dX8_drop_20 rfl ?_
    refine v_get X (fun _ h => List.mem_cons_of_mem _ (List.mem_append_right _ h)) 0 rfl rfl 2 (by decide) rfl (List.mem_of_getElem? (i := 4) rfl) rfl dX8_drop_21 ?_
    refine v_iload_n X dX8_drop_24 rfl ?_
    refine v_iald X 1 rfl (by omega) (by omega) (by omega) dX8_drop_25 hfl (fun z2 ez2 lz2 uz2 => ?_)
    refine v_if_ge (tgt := 35) X dX8_drop_26 (by decide) (by omega) (fun c3 => ?_) (fun c3 => ?_)
    · skip
      refine v_aload_n X dX8_drop_35 rfl ?_
      refine v_get X (fun _ h => List.mem_cons_of_mem _ (List.mem_append_right _ h)) 0 rfl rfl 2 (by decide) rfl (List.mem_of_getElem? (i := 4) rfl) rfl dX8_drop_36 ?_
      refine v_iload_n X dX8_drop_39 rfl ?_
      refine v_iconst X dX8_drop_40 ?_
      refine v_iast X 1 rfl (by omega) (by omega) (by omega) dX8_drop_41 ?_
      dsimp only [List.set, wMod]
      refine v_aload_n X dX8_drop_42 rfl ?_
      refine v_get X (fun _ h => List.mem_cons_of_mem _ (List.mem_append_right _ h)) 0 rfl rfl 3 (by decide) rfl (List.mem_of_getElem? (i := 5) rfl) rfl dX8_drop_43 ?_
      refine v_iload_n X dX8_drop_46 rfl ?_
      refine v_iald X 2 rfl (by omega) (by omega) (by omega) dX8_drop_47 hfm (fun z4 ez4 lz4 uz4 => ?_)
      refine v_iret X Y dX8_drop_48 (u := (0, updI fl r.toNat (-1))) ?_ rfl
      exact Or.inr ⟨by assumption, Or.inr ⟨by omega, by assumption, rfl⟩⟩
    · skip
      refine v_aload_n X dX8_drop_29 rfl ?_
      refine v_iconst X dX8_drop_30 ?_
      refine res_F X (run_V X (c_X8_finding (g := g) ) gX8_drop_X8_finding rfl hdX8_finding ⟨(Nat.le_of_ble_eq_true rfl), (Nat.le_of_ble_eq_true rfl)⟩ ⟨(Nat.le_of_ble_eq_true rfl), (Nat.le_of_ble_eq_true rfl)⟩ 0 rfl rfl rfl [0, 1, 2, 3, 4, 5, 6, 7, 8, 9, 10] rfl rfl rfl rfl (by simp [Value.category]) dX8_drop_31) [0, 1, 2, 3, 4, 5, 6, 7, 8, 9, 10] rfl rfl rfl ?_
      dsimp only [patch, List.set, wMod]
      refine v_iret X Y dX8_drop_34 (u := (1, fl)) ?_ rfl
      exact Or.inr ⟨by assumption, Or.inl ⟨by omega, rfl, rfl⟩⟩
  · skip
    refine v_ldc X (List.mem_of_getElem? (i := 2) rfl) dX8_drop_12 (n := -1000001) (by decide) ?_
    refine v_iret X Y dX8_drop_14 (u := (sq, fl)) ?_ rfl
    exact Or.inl ⟨by omega, rfl, rfl⟩

theorem hdX8_copy : yX8_copy.cls = RX8 ∧ yX8_copy.cls ≠ "java/lang/invoke/MethodHandle" ∧ yX8_copy.cls ≠ "java/lang/invoke/VarHandle" ∧ (parseMethodDescriptor yX8_copy.desc).map (fun d => d.parameters.length) = some 5 := ⟨rfl, by decide +kernel, by decide +kernel, by decide +kernel⟩
set_option maxHeartbeats 4000000 in
set_option maxRecDepth 100000 in
theorem c_X8_copy {g : Gx} {A : Nat → Nat} {th sq ac td lt ln cu tk sa ti ft fp le lf tr : Int} {fl fm fi fc ff fw ftp fk fe fr : Nat → Int} {a i b j n : Int} (hfl : Bd (-1) 2 fl) (hfm : Bd 0 40 fm) (hfi : Bd (-2147483648) 2147483647 fi) (ha : R32 a) (hi : R32 i) (hb : R32 b) (hj : R32 j) (hn : R32 n) : CtI (S := Int × (Nat → Int)) g yX8_copy wsX8_copy 2 45 [.ref (A 0), .int (iI a), .int (iI i), .int (iI b), .int (iI j), .int (iI n)] (wMod g A th sq ac td lt ln cu tk sa ti ft fp le lf tr fl fm fi fc ff fw ftp fk fe fr) (fun w u => (¬ ((0 ≤ a ∧ a < 8) ∧ (0 ≤ b ∧ b < 8)) ∧ w = -1000001 ∧ u = (sq, fi)) ∨ (((0 ≤ a ∧ a < 8) ∧ (0 ≤ b ∧ b < 8)) ∧ (((fl a.toNat < 0 ∨ fl b.toNat < 0) ∧ w = -1000011 ∧ u = (1, fi)) ∨ ((0 ≤ fl a.toNat ∧ 0 ≤ fl b.toNat) ∧ ((fl a.toNat ≠ fl b.toNat ∧ w = -1000015 ∧ u = (5, fi)) ∨ (fl a.toNat = fl b.toNat ∧ ((¬ (0 ≤ i ∧ 0 ≤ n ∧ i + n ≤ fm a.toNat ∧ 0 ≤ j ∧ j + n ≤ fm b.toNat) ∧ w = -1000012 ∧ u = (2, fi)) ∨ ((0 ≤ i ∧ 0 ≤ n ∧ i + n ≤ fm a.toNat ∧ 0 ≤ j ∧ j + n ≤ fm b.toNat) ∧ w = n ∧ u.1 = 0 ∧ ∀ x : Nat, u.2 x = if b * 40 + j ≤ (x : Int) ∧ (x : Int) < b * 40 + j + n then fi ((a * 40 + i).toNat + (x - (b * 40 + j).toNat)) else fi x)))))))) (fun u => wMod g A (0) (u.1) ac td lt ln cu tk sa ti ft fp le lf tr fl fm (u.2) fc ff fw ftp fk fe fr) := by
  refine m_go (cc := cX8_copy) (nL := 9) (by decide +kernel) rfl (Nat.le_of_ble_eq_true rfl) (fun x X Y hnm => ?_)
  refine v_eq (lo2 := [some (.ref (A 0)), some (.int (iI a)), some (.int (iI i)), some (.int (iI b)), some (.int (iI j)), some (.int (iI n)), none, none, none]) rfl rfl rfl rfl ?_
  refine v_aload_n X dX8_copy_0 rfl ?_
  refine v_iconst X dX8_copy_1 ?_
  refine v_put X (fun _ h => List.mem_cons_of_mem _ (List.mem_append_right _ h)) tyX8 tyX8_ok nmX8 0 rfl rfl 0 (by decide) rfl (List.mem_of_getElem? (i := 1) rfl) rfl rfl rfl (Nat.le_of_ble_eq_true rfl) dX8_copy_2 ?_
  dsimp only [List.set, wMod]
  refine v_iload_n X dX8_copy_5 rfl ?_
  refine res_E X (run_S X (c_X8_isRow (g := g) (by first | assumption | omega)) gX8_copy_X8_isRow rfl hdX8_isRow.2 ⟨(Nat.le_of_ble_eq_true rfl), (Nat.le_of_ble_eq_true rfl)⟩ ⟨(Nat.le_of_ble_eq_true rfl), (Nat.le_of_ble_eq_true rfl)⟩ [] rfl rfl rfl rfl (by simp [Value.category]) dX8_copy_6) [] rfl rfl ?_
  refine v_ifb_eq (tgt := 19) X dX8_copy_9 (by decide) (fun c1 => ?_) (fun c1 => ?_)
  · skip
    refine v_ldc X (List.mem_of_getElem? (i := 2) rfl) dX8_copy_19 (n := -1000001) (by decide) ?_
    refine v_iret X Y dX8_copy_21 (u := (sq, fi)) ?_ rfl
    exact Or.inl ⟨by omega, rfl, rfl⟩
  · skip
    refine v_iload_n X dX8_copy_12 rfl ?_
    refine res_E X (run_S X (c_X8_isRow (g := g) (by first | assumption | omega)) gX8_copy_X8_isRow rfl hdX8_isRow.2 ⟨(Nat.le_of_ble_eq_true rfl), (Nat.le_of_ble_eq_true rfl)⟩ ⟨(Nat.le_of_ble_eq_true rfl), (Nat.le_of_ble_eq_true rfl)⟩ [] rfl rfl rfl rfl (by simp [Value.category]) dX8_copy_13) [] rfl rfl ?_
    refine v_ifb_ne (tgt := 22) X dX8_copy_16 (by decide) (fun c2 => ?_) (fun c2 => ?_)
    · skip
      refine v_aload_n X dX8_copy_22 rfl ?_
      refine v_iconst X dX8_copy_23 ?_
      refine v_put X (fun _ h => List.mem_cons_of_mem _ (List.mem_append_right _ h)) tyX8 tyX8_ok nmX8 0 rfl rfl 1 (by decide) rfl (List.mem_of_getElem? (i := 3) rfl) rfl rfl rfl (Nat.le_of_ble_eq_true rfl) dX8_copy_24 ?_
      dsimp only [List.set, wMod]
      have g1 := hfm a.toNat
      have g2 := hfm b.toNat
      refine v_aload_n X dX8_copy_27 rfl ?_
      refine v_get X (fun _ h => List.mem_cons_of_mem _ (List.mem_append_right _ h)) 0 rfl rfl 2 (by decide) rfl (List.mem_of_getElem? (i := 4) rfl) rfl dX8_copy_28 ?_
      refine v_iload_n X dX8_copy_31 rfl ?_
      refine v_iald X 1 rfl (by omega) (by omega) (by omega) dX8_copy_32 hfl (fun z3 ez3 lz3 uz3 => ?_)
      refine v_if_lt (tgt := 45) X dX8_copy_33 (by decide) (by omega) (fun c4 => ?_) (fun c4 => ?_)
      · skip
        refine v_aload_n X dX8_copy_45 rfl ?_
        refine v_iconst X dX8_copy_46 ?_
        refine res_F X (run_V X (c_X8_finding (g := g) ) gX8_copy_X8_finding rfl hdX8_finding ⟨(Nat.le_of_ble_eq_true rfl), (Nat.le_of_ble_eq_true rfl)⟩ ⟨(Nat.le_of_ble_eq_true rfl), (Nat.le_of_ble_eq_true rfl)⟩ 0 rfl rfl rfl [0, 1, 2, 3, 4, 5, 6, 7, 8, 9, 10] rfl rfl rfl rfl (by simp [Value.category]) dX8_copy_47) [0, 1, 2, 3, 4, 5, 6, 7, 8, 9, 10] rfl rfl rfl ?_
        dsimp only [patch, List.set, wMod]
        refine v_iret X Y dX8_copy_50 (u := (1, fi)) ?_ rfl
        exact Or.inr ⟨by omega, Or.inl ⟨by omega, rfl, rfl⟩⟩
      · skip
        refine v_aload_n X dX8_copy_36 rfl ?_
        refine v_get X (fun _ h => List.mem_cons_of_mem _ (List.mem_append_right _ h)) 0 rfl rfl 2 (by decide) rfl (List.mem_of_getElem? (i := 4) rfl) rfl dX8_copy_37 ?_
        refine v_iload_n X dX8_copy_40 rfl ?_
        refine v_iald X 1 rfl (by omega) (by omega) (by omega) dX8_copy_41 hfl (fun z5 ez5 lz5 uz5 => ?_)
        refine v_if_ge (tgt := 51) X dX8_copy_42 (by decide) (by omega) (fun c6 => ?_) (fun c6 => ?_)
        · skip
          refine v_aload_n X dX8_copy_51 rfl ?_
          refine v_get X (fun _ h => List.mem_cons_of_mem _ (List.mem_append_right _ h)) 0 rfl rfl 2 (by decide) rfl (List.mem_of_getElem? (i := 4) rfl) rfl dX8_copy_52 ?_
          refine v_iload_n X dX8_copy_55 rfl ?_
          refine v_iald X 1 rfl (by omega) (by omega) (by omega) dX8_copy_56 hfl (fun z7 ez7 lz7 uz7 => ?_)
          refine v_aload_n X dX8_copy_57 rfl ?_
          refine v_get X (fun _ h => List.mem_cons_of_mem _ (List.mem_append_right _ h)) 0 rfl rfl 2 (by decide) rfl (List.mem_of_getElem? (i := 4) rfl) rfl dX8_copy_58 ?_
          refine v_iload_n X dX8_copy_61 rfl ?_
          refine v_iald X 1 rfl (by omega) (by omega) (by omega) dX8_copy_62 hfl (fun z8 ez8 lz8 uz8 => ?_)
          refine v_icmp_eq (tgt := 72) X dX8_copy_63 (by decide) (by omega) (by omega) (fun c9 => ?_) (fun c9 => ?_)
          · skip
            refine v_iload_n X dX8_copy_72 rfl ?_
            refine v_if_lt (tgt := 121) X dX8_copy_73 (by decide) (by omega) (fun c10 => ?_) (fun c10 => ?_)
            · skip
              refine v_aload_n X dX8_copy_121 rfl ?_
              refine v_iconst X dX8_copy_122 ?_
              refine res_F X (run_V X (c_X8_finding (g := g) ) gX8_copy_X8_finding rfl hdX8_finding ⟨(Nat.le_of_ble_eq_true rfl), (Nat.le_of_ble_eq_true rfl)⟩ ⟨(Nat.le_of_ble_eq_true rfl), (Nat.le_of_ble_eq_true rfl)⟩ 0 rfl rfl rfl [0, 1, 2, 3, 4, 5, 6, 7, 8, 9, 10] rfl rfl rfl rfl (by simp [Value.category]) dX8_copy_123) [0, 1, 2, 3, 4, 5, 6, 7, 8, 9, 10] rfl rfl rfl ?_
              dsimp only [patch, List.set, wMod]
              refine v_iret X Y dX8_copy_126 (u := (2, fi)) ?_ rfl
              exact Or.inr ⟨by omega, Or.inr ⟨by omega, Or.inr ⟨by omega, Or.inl ⟨by omega, rfl, rfl⟩⟩⟩⟩
            · skip
              refine v_iload X dX8_copy_76 rfl ?_
              refine v_if_lt (tgt := 121) X dX8_copy_78 (by decide) (by omega) (fun c11 => ?_) (fun c11 => ?_)
              · skip
                refine v_aload_n X dX8_copy_121 rfl ?_
                refine v_iconst X dX8_copy_122 ?_
                refine res_F X (run_V X (c_X8_finding (g := g) ) gX8_copy_X8_finding rfl hdX8_finding ⟨(Nat.le_of_ble_eq_true rfl), (Nat.le_of_ble_eq_true rfl)⟩ ⟨(Nat.le_of_ble_eq_true rfl), (Nat.le_of_ble_eq_true rfl)⟩ 0 rfl rfl rfl [0, 1, 2, 3, 4, 5, 6, 7, 8, 9, 10] rfl rfl rfl rfl (by simp [Value.category]) dX8_copy_123) [0, 1, 2, 3, 4, 5, 6, 7, 8, 9, 10] rfl rfl rfl ?_
                dsimp only [patch, List.set, wMod]
                refine v_iret X Y dX8_copy_126 (u := (2, fi)) ?_ rfl
                exact Or.inr ⟨by omega, Or.inr ⟨by omega, Or.inr ⟨by omega, Or.inl ⟨by omega, rfl, rfl⟩⟩⟩⟩
              · skip
                refine v_iload X dX8_copy_81 rfl ?_
                refine v_if_lt (tgt := 121) X dX8_copy_83 (by decide) (by omega) (fun c12 => ?_) (fun c12 => ?_)
                · skip
                  refine v_aload_n X dX8_copy_121 rfl ?_
                  refine v_iconst X dX8_copy_122 ?_
                  refine res_F X (run_V X (c_X8_finding (g := g) ) gX8_copy_X8_finding rfl hdX8_finding ⟨(Nat.le_of_ble_eq_true rfl), (Nat.le_of_ble_eq_true rfl)⟩ ⟨(Nat.le_of_ble_eq_true rfl), (Nat.le_of_ble_eq_true rfl)⟩ 0 rfl rfl rfl [0, 1, 2, 3, 4, 5, 6, 7, 8, 9, 10] rfl rfl rfl rfl (by simp [Value.category]) dX8_copy_123) [0, 1, 2, 3, 4, 5, 6, 7, 8, 9, 10] rfl rfl rfl ?_
                  dsimp only [patch, List.set, wMod]
                  refine v_iret X Y dX8_copy_126 (u := (2, fi)) ?_ rfl
                  exact Or.inr ⟨by omega, Or.inr ⟨by omega, Or.inr ⟨by omega, Or.inl ⟨by omega, rfl, rfl⟩⟩⟩⟩
                · skip
                  refine v_iload_n X dX8_copy_86 rfl ?_
                  refine v_i2l X dX8_copy_87 (by omega) ?_
                  refine v_iload X dX8_copy_88 rfl ?_
                  refine v_i2l X dX8_copy_90 (by omega) ?_
                  refine v_ladd X dX8_copy_91 ?_
                  refine v_aload_n X dX8_copy_92 rfl ?_
                  refine v_get X (fun _ h => List.mem_cons_of_mem _ (List.mem_append_right _ h)) 0 rfl rfl 3 (by decide) rfl (List.mem_of_getElem? (i := 5) rfl) rfl dX8_copy_93 ?_
                  refine v_iload_n X dX8_copy_96 rfl ?_
                  refine v_iald X 2 rfl (by omega) (by omega) (by omega) dX8_copy_97 hfm (fun z13 ez13 lz13 uz13 => ?_)
                  refine v_i2l X dX8_copy_98 (by omega) ?_
                  refine v_lcmp X dX8_copy_99 (by omega) (by omega) (fun c14 => ?_) (fun c14 => ?_) (fun c14 => ?_)
                  · skip
                    refine v_if_gt (tgt := 121) X dX8_copy_100 (by decide) (by decide) (fun hh => ?_) (fun hh => ?_)
                    · skip
                      refine v_aload_n X dX8_copy_121 rfl ?_
                      refine v_iconst X dX8_copy_122 ?_
                      refine res_F X (run_V X (c_X8_finding (g := g) ) gX8_copy_X8_finding rfl hdX8_finding ⟨(Nat.le_of_ble_eq_true rfl), (Nat.le_of_ble_eq_true rfl)⟩ ⟨(Nat.le_of_ble_eq_true rfl), (Nat.le_of_ble_eq_true rfl)⟩ 0 rfl rfl rfl [0, 1, 2, 3, 4, 5, 6, 7, 8, 9, 10] rfl rfl rfl rfl (by simp [Value.category]) dX8_copy_123) [0, 1, 2, 3, 4, 5, 6, 7, 8, 9, 10] rfl rfl rfl ?_
                      dsimp only [patch, List.set, wMod]
                      refine v_iret X Y dX8_copy_126 (u := (2, fi)) ?_ rfl
                      exact Or.inr ⟨by omega, Or.inr ⟨by omega, Or.inr ⟨by omega, Or.inl ⟨by omega, rfl, rfl⟩⟩⟩⟩
                    · skip
                      exfalso; omega
                  · skip
                    refine v_if_gt (tgt := 121) X dX8_copy_100 (by decide) (by decide) (fun hh => ?_) (fun hh => ?_)
                    · skip
                      exfalso; omega
                    · skip
                      refine v_iload X dX8_copy_103 rfl ?_
                      refine v_i2l X dX8_copy_105 (by omega) ?_
                      refine v_iload X dX8_copy_106 rfl ?_
                      refine v_i2l X dX8_copy_108 (by omega) ?_
                      refine v_ladd X dX8_copy_109 ?_
                      refine v_aload_n X dX8_copy_110 rfl ?_
                      refine v_get X (fun _ h => List.mem_cons_of_mem _ (List.mem_append_right _ h)) 0 rfl rfl 3 (by decide) rfl (List.mem_of_getElem? (i := 5) rfl) rfl dX8_copy_111 ?_
                      refine v_iload_n X dX8_copy_114 rfl ?_
                      refine v_iald X 2 rfl (by omega) (by omega) (by omega) dX8_copy_115 hfm (fun z15 ez15 lz15 uz15 => ?_)
                      refine v_i2l X dX8_copy_116 (by omega) ?_
                      refine v_lcmp X dX8_copy_117 (by omega) (by omega) (fun c16 => ?_) (fun c16 => ?_) (fun c16 => ?_)
                      · skip
                        refine v_if_le (tgt := 127) X dX8_copy_118 (by decide) (by decide) (fun hh => ?_) (fun hh => ?_)
                        · skip
                          exfalso; omega
                        · skip
                          refine v_aload_n X dX8_copy_121 rfl ?_
                          refine v_iconst X dX8_copy_122 ?_
                          refine res_F X (run_V X (c_X8_finding (g := g) ) gX8_copy_X8_finding rfl hdX8_finding ⟨(Nat.le_of_ble_eq_true rfl), (Nat.le_of_ble_eq_true rfl)⟩ ⟨(Nat.le_of_ble_eq_true rfl), (Nat.le_of_ble_eq_true rfl)⟩ 0 rfl rfl rfl [0, 1, 2, 3, 4, 5, 6, 7, 8, 9, 10] rfl rfl rfl rfl (by simp [Value.category]) dX8_copy_123) [0, 1, 2, 3, 4, 5, 6, 7, 8, 9, 10] rfl rfl rfl ?_
                          dsimp only [patch, List.set, wMod]
                          refine v_iret X Y dX8_copy_126 (u := (2, fi)) ?_ rfl
                          exact Or.inr ⟨by omega, Or.inr ⟨by omega, Or.inr ⟨by omega, Or.inl ⟨by omega, rfl, rfl⟩⟩⟩⟩
                      · skip
                        refine v_if_le (tgt := 127) X dX8_copy_118 (by decide) (by decide) (fun hh => ?_) (fun hh => ?_)
                        · skip
                          refine v_iload_n X dX8_copy_127 rfl ?_
                          refine v_iload X dX8_copy_128 rfl ?_
                          refine v_icmp_lt (tgt := 137) X dX8_copy_130 (by decide) (by omega) (by omega) (fun c17 => ?_) (fun c17 => ?_)
                          · skip
                            refine v_iconst X dX8_copy_137 ?_
                            refine v_istore X dX8_copy_138 (by decide) rfl ?_
                            dsimp only [List.set]
                            refine v_iconst X dX8_copy_140 ?_
                            refine v_istore X dX8_copy_141 (by decide) rfl ?_
                            dsimp only [List.set]
                            have L143 : ∀ (nf : Nat) (f : Nat → Int) (u : Int) (k : Int) (h1 : 0 ≤ k ∧ k ≤ n) (hu : (u = 1 ∧ j ≤ i) ∨ (u = 0 ∧ i < j)) (h2 : ∀ x : Nat, f x = if b * 40 + j + (if u = 1 then 0 else n - k) ≤ (x : Int) ∧ (x : Int) < b * 40 + j + (if u = 1 then k else n) then fi ((a * 40 + i).toNat + (x - (b * 40 + j).toNat)) else fi x) (h3 : Bd (-2147483648) 2147483647 f) (_ : (n - k).toNat < nf), V g x 0 0 (wMod g A (0) (0) ac td lt ln cu tk sa ti ft fp le lf tr fl fm (f) fc ff fw ftp fk fe fr) [some (.ref (A 0)), some (.int (iI a)), some (.int (iI i)), some (.int (iI b)), some (.int (iI j)), some (.int (iI n)), some (.int (iI u)), some (.int (iI k)), none] 143 [] := by
                              intro nf
                              induction nf with
                              | zero => intro f u k h1 hu h2 h3 hmu; exact absurd hmu (Nat.not_lt_zero _)
                              | succ nf ih143 =>
                                intro f u k h1 hu h2 h3 hmu
                                refine v_iload X dX8_copy_143 rfl ?_
                                refine v_iload X dX8_copy_145 rfl ?_
                                refine v_icmp_ge (tgt := 204) X dX8_copy_147 (by decide) (by omega) (by omega) (fun c18 => ?_) (fun c18 => ?_)
                                · skip
                                  refine v_iload X dX8_copy_204 rfl ?_
                                  refine v_iret X Y dX8_copy_206 (u := (0, f)) ?_ rfl
                                  refine Or.inr ⟨by omega, Or.inr ⟨by omega, Or.inr ⟨by omega, Or.inr ⟨by omega, rfl, rfl, ?_⟩⟩⟩⟩
                                  intro x
                                  have e : k = n := by omega
                                  have q := h2 x
                                  rcases hu with hu | hu
                                  · rw [q]; simp only [hu.1, e, if_true, Int.add_zero]
                                  · rw [q]; simp only [hu.1, e, if_false, Int.sub_self, Int.add_zero, show ¬ (0 : Int) = 1 by omega]
                                · skip
                                  refine v_iload X dX8_copy_150 rfl ?_
                                  refine v_if_eq (tgt := 160) X dX8_copy_152 (by decide) (by omega) (fun c19 => ?_) (fun c19 => ?_)
                                  · skip
                                    refine v_iload X dX8_copy_160 rfl ?_
                                    refine v_iconst X dX8_copy_162 ?_
                                    refine v_isub X dX8_copy_163 ?_
                                    refine v_iload X dX8_copy_164 rfl ?_
                                    refine v_isub X dX8_copy_166 ?_
                                    refine v_istore X dX8_copy_167 (by decide) rfl ?_
                                    dsimp only [List.set]
                                    refine v_aload_n X dX8_copy_169 rfl ?_
                                    refine v_get X (fun _ h => List.mem_cons_of_mem _ (List.mem_append_right _ h)) 0 rfl rfl 4 (by decide) rfl (List.mem_of_getElem? (i := 6) rfl) rfl dX8_copy_170 ?_
                                    refine v_bipush X dX8_copy_173 (by decide) ?_
                                    refine v_iload_n X dX8_copy_175 rfl ?_
                                    refine v_imul X dX8_copy_176 ?_
                                    refine v_iload X dX8_copy_177 rfl ?_
                                    refine v_iadd X dX8_copy_179 ?_
                                    refine v_iload X dX8_copy_180 rfl ?_
                                    refine v_iadd X dX8_copy_182 ?_
                                    refine v_aload_n X dX8_copy_183 rfl ?_
                                    refine v_get X (fun _ h => List.mem_cons_of_mem _ (List.mem_append_right _ h)) 0 rfl rfl 4 (by decide) rfl (List.mem_of_getElem? (i := 6) rfl) rfl dX8_copy_184 ?_
                                    refine v_bipush X dX8_copy_187 (by decide) ?_
                                    refine v_iload_n X dX8_copy_189 rfl ?_
                                    refine v_imul X dX8_copy_190 ?_
                                    refine v_iload_n X dX8_copy_191 rfl ?_
                                    refine v_iadd X dX8_copy_192 ?_
                                    refine v_iload X dX8_copy_193 rfl ?_
                                    refine v_iadd X dX8_copy_195 ?_
                                    refine v_iald X 3 rfl (by omega) (by omega) (by omega) dX8_copy_196 h3 (fun zz ezz lzz uzz => ?_)
                                    refine v_iast X 3 rfl (by omega) (by omega) (by omega) dX8_copy_197 ?_
                                    dsimp only [List.set, wMod]
                                    refine v_iinc X dX8_copy_198 rfl (by decide) rfl ?_
                                    dsimp only [List.set]
                                    refine v_goto (tgt := 143) X dX8_copy_201 (by decide) ?_
                                    refine v_drop 8 ?_
                                    dsimp only [List.set]
                                    exact ih143 _ _ _ (by omega) (by omega) (by
                                        first
                                        | exact cpy_up hu h1 h2 g1 g2 (by omega) ezz
                                        | exact cpy_dn hu h1 h2 g1 g2 (by omega) ezz) (by exact Bd_up h3 (by omega) (by omega)) (by omega)
                                  · skip
                                    refine v_iload X dX8_copy_155 rfl ?_
                                    refine v_goto (tgt := 167) X dX8_copy_157 (by decide) ?_
                                    refine v_istore X dX8_copy_167 (by decide) rfl ?_
                                    dsimp only [List.set]
                                    refine v_aload_n X dX8_copy_169 rfl ?_
                                    refine v_get X (fun _ h => List.mem_cons_of_mem _ (List.mem_append_right _ h)) 0 rfl rfl 4 (by decide) rfl (List.mem_of_getElem? (i := 6) rfl) rfl dX8_copy_170 ?_
                                    refine v_bipush X dX8_copy_173 (by decide) ?_
                                    refine v_iload_n X dX8_copy_175 rfl ?_
                                    refine v_imul X dX8_copy_176 ?_
                                    refine v_iload X dX8_copy_177 rfl ?_
                                    refine v_iadd X dX8_copy_179 ?_
                                    refine v_iload X dX8_copy_180 rfl ?_
                                    refine v_iadd X dX8_copy_182 ?_
                                    refine v_aload_n X dX8_copy_183 rfl ?_
                                    refine v_get X (fun _ h => List.mem_cons_of_mem _ (List.mem_append_right _ h)) 0 rfl rfl 4 (by decide) rfl (List.mem_of_getElem? (i := 6) rfl) rfl dX8_copy_184 ?_
                                    refine v_bipush X dX8_copy_187 (by decide) ?_
                                    refine v_iload_n X dX8_copy_189 rfl ?_
                                    refine v_imul X dX8_copy_190 ?_
                                    refine v_iload_n X dX8_copy_191 rfl ?_
                                    refine v_iadd X dX8_copy_192 ?_
                                    refine v_iload X dX8_copy_193 rfl ?_
                                    refine v_iadd X dX8_copy_195 ?_
                                    refine v_iald X 3 rfl (by omega) (by omega) (by omega) dX8_copy_196 h3 (fun zz ezz lzz uzz => ?_)
                                    refine v_iast X 3 rfl (by omega) (by omega) (by omega) dX8_copy_197 ?_
                                    dsimp only [List.set, wMod]
                                    refine v_iinc X dX8_copy_198 rfl (by decide) rfl ?_
                                    dsimp only [List.set]
                                    refine v_goto (tgt := 143) X dX8_copy_201 (by decide) ?_
                                    refine v_drop 8 ?_
                                    dsimp only [List.set]
                                    exact ih143 _ _ _ (by omega) (by omega) (by
                                        first
                                        | exact cpy_up hu h1 h2 g1 g2 (by omega) ezz
                                        | exact cpy_dn hu h1 h2 g1 g2 (by omega) ezz) (by exact Bd_up h3 (by omega) (by omega)) (by omega)
                            exact L143 _ _ _ _ (by omega) (by omega) (by intro x; rw [if_neg (by split <;> omega)]) (by assumption) (Nat.lt_succ_self _)
                          · skip
                            refine v_iconst X dX8_copy_133 ?_
                            refine v_goto (tgt := 138) X dX8_copy_134 (by decide) ?_
                            refine v_istore X dX8_copy_138 (by decide) rfl ?_
                            dsimp only [List.set]
                            refine v_iconst X dX8_copy_140 ?_
                            refine v_istore X dX8_copy_141 (by decide) rfl ?_
                            dsimp only [List.set]
                            have L143 : ∀ (nf : Nat) (f : Nat → Int) (u : Int) (k : Int) (h1 : 0 ≤ k ∧ k ≤ n) (hu : (u = 1 ∧ j ≤ i) ∨ (u = 0 ∧ i < j)) (h2 : ∀ x : Nat, f x = if b * 40 + j + (if u = 1 then 0 else n - k) ≤ (x : Int) ∧ (x : Int) < b * 40 + j + (if u = 1 then k else n) then fi ((a * 40 + i).toNat + (x - (b * 40 + j).toNat)) else fi x) (h3 : Bd (-2147483648) 2147483647 f) (_ : (n - k).toNat < nf), V g x 0 0 (wMod g A (0) (0) ac td lt ln cu tk sa ti ft fp le lf tr fl fm (f) fc ff fw ftp fk fe fr) [some (.ref (A 0)), some (.int (iI a)), some (.int (iI i)), some (.int (iI b)), some (.int (iI j)), some (.int (iI n)), some (.int (iI u)), some (.int (iI k)), none] 143 [] := by
                              intro nf
                              induction nf with
                              | zero => intro f u k h1 hu h2 h3 hmu; exact absurd hmu (Nat.not_lt_zero _)
                              | succ nf ih143 =>
                                intro f u k h1 hu h2 h3 hmu
                                refine v_iload X dX8_copy_143 rfl ?_
                                refine v_iload X dX8_copy_145 rfl ?_
                                refine v_icmp_ge (tgt := 204) X dX8_copy_147 (by decide) (by omega) (by omega) (fun c22 => ?_) (fun c22 => ?_)
                                · skip
                                  refine v_iload X dX8_copy_204 rfl ?_
                                  refine v_iret X Y dX8_copy_206 (u := (0, f)) ?_ rfl
                                  refine Or.inr ⟨by omega, Or.inr ⟨by omega, Or.inr ⟨by omega, Or.inr ⟨by omega, rfl, rfl, ?_⟩⟩⟩⟩
                                  intro x
                                  have e : k = n := by omega
                                  have q := h2 x
                                  rcases hu with hu | hu
                                  · rw [q]; simp only [hu.1, e, if_true, Int.add_zero]
                                  · rw [q]; simp only [hu.1, e, if_false, Int.sub_self, Int.add_zero, show ¬ (0 : Int) = 1 by omega]
                                · skip
                                  refine v_iload X dX8_copy_150 rfl ?_
                                  refine v_if_eq (tgt := 160) X dX8_copy_152 (by decide) (by omega) (fun c23 => ?_) (fun c23 => ?_)
                                  · skip
                                    refine v_iload X dX8_copy_160 rfl ?_
                                    refine v_iconst X dX8_copy_162 ?_
                                    refine v_isub X dX8_copy_163 ?_
                                    refine v_iload X dX8_copy_164 rfl ?_
                                    refine v_isub X dX8_copy_166 ?_
                                    refine v_istore X dX8_copy_167 (by decide) rfl ?_
                                    dsimp only [List.set]
                                    refine v_aload_n X dX8_copy_169 rfl ?_
                                    refine v_get X (fun _ h => List.mem_cons_of_mem _ (List.mem_append_right _ h)) 0 rfl rfl 4 (by decide) rfl (List.mem_of_getElem? (i := 6) rfl) rfl dX8_copy_170 ?_
                                    refine v_bipush X dX8_copy_173 (by decide) ?_
                                    refine v_iload_n X dX8_copy_175 rfl ?_
                                    refine v_imul X dX8_copy_176 ?_
                                    refine v_iload X dX8_copy_177 rfl ?_
                                    refine v_iadd X dX8_copy_179 ?_
                                    refine v_iload X dX8_copy_180 rfl ?_
                                    refine v_iadd X dX8_copy_182 ?_
                                    refine v_aload_n X dX8_copy_183 rfl ?_
                                    refine v_get X (fun _ h => List.mem_cons_of_mem _ (List.mem_append_right _ h)) 0 rfl rfl 4 (by decide) rfl (List.mem_of_getElem? (i := 6) rfl) rfl dX8_copy_184 ?_
                                    refine v_bipush X dX8_copy_187 (by decide) ?_
                                    refine v_iload_n X dX8_copy_189 rfl ?_
                                    refine v_imul X dX8_copy_190 ?_
                                    refine v_iload_n X dX8_copy_191 rfl ?_
                                    refine v_iadd X dX8_copy_192 ?_
                                    refine v_iload X dX8_copy_193 rfl ?_
                                    refine v_iadd X dX8_copy_195 ?_
                                    refine v_iald X 3 rfl (by omega) (by omega) (by omega) dX8_copy_196 h3 (fun zz ezz lzz uzz => ?_)
                                    refine v_iast X 3 rfl (by omega) (by omega) (by omega) dX8_copy_197 ?_
                                    dsimp only [List.set, wMod]
                                    refine v_iinc X dX8_copy_198 rfl (by decide) rfl ?_
                                    dsimp only [List.set]
                                    refine v_goto (tgt := 143) X dX8_copy_201 (by decide) ?_
                                    refine v_drop 8 ?_
                                    dsimp only [List.set]
                                    exact ih143 _ _ _ (by omega) (by omega) (by
                                        first
                                        | exact cpy_up hu h1 h2 g1 g2 (by omega) ezz
                                        | exact cpy_dn hu h1 h2 g1 g2 (by omega) ezz) (by exact Bd_up h3 (by omega) (by omega)) (by omega)
                                  · skip
                                    refine v_iload X dX8_copy_155 rfl ?_
                                    refine v_goto (tgt := 167) X dX8_copy_157 (by decide) ?_
                                    refine v_istore X dX8_copy_167 (by decide) rfl ?_
                                    dsimp only [List.set]
                                    refine v_aload_n X dX8_copy_169 rfl ?_
                                    refine v_get X (fun _ h => List.mem_cons_of_mem _ (List.mem_append_right _ h)) 0 rfl rfl 4 (by decide) rfl (List.mem_of_getElem? (i := 6) rfl) rfl dX8_copy_170 ?_
                                    refine v_bipush X dX8_copy_173 (by decide) ?_
                                    refine v_iload_n X dX8_copy_175 rfl ?_
                                    refine v_imul X dX8_copy_176 ?_
                                    refine v_iload X dX8_copy_177 rfl ?_
                                    refine v_iadd X dX8_copy_179 ?_
                                    refine v_iload X dX8_copy_180 rfl ?_
                                    refine v_iadd X dX8_copy_182 ?_
                                    refine v_aload_n X dX8_copy_183 rfl ?_
                                    refine v_get X (fun _ h => List.mem_cons_of_mem _ (List.mem_append_right _ h)) 0 rfl rfl 4 (by decide) rfl (List.mem_of_getElem? (i := 6) rfl) rfl dX8_copy_184 ?_
                                    refine v_bipush X dX8_copy_187 (by decide) ?_
                                    refine v_iload_n X dX8_copy_189 rfl ?_
                                    refine v_imul X dX8_copy_190 ?_
                                    refine v_iload_n X dX8_copy_191 rfl ?_
                                    refine v_iadd X dX8_copy_192 ?_
                                    refine v_iload X dX8_copy_193 rfl ?_
                                    refine v_iadd X dX8_copy_195 ?_
                                    refine v_iald X 3 rfl (by omega) (by omega) (by omega) dX8_copy_196 h3 (fun zz ezz lzz uzz => ?_)
                                    refine v_iast X 3 rfl (by omega) (by omega) (by omega) dX8_copy_197 ?_
                                    dsimp only [List.set, wMod]
                                    refine v_iinc X dX8_copy_198 rfl (by decide) rfl ?_
                                    dsimp only [List.set]
                                    refine v_goto (tgt := 143) X dX8_copy_201 (by decide) ?_
                                    refine v_drop 8 ?_
                                    dsimp only [List.set]
                                    exact ih143 _ _ _ (by omega) (by omega) (by
                                        first
                                        | exact cpy_up hu h1 h2 g1 g2 (by omega) ezz
                                        | exact cpy_dn hu h1 h2 g1 g2 (by omega) ezz) (by exact Bd_up h3 (by omega) (by omega)) (by omega)
                            exact L143 _ _ _ _ (by omega) (by omega) (by intro x; rw [if_neg (by split <;> omega)]) (by assumption) (Nat.lt_succ_self _)
                        · skip
                          exfalso; omega
                      · skip
                        refine v_if_le (tgt := 127) X dX8_copy_118 (by decide) (by decide) (fun hh => ?_) (fun hh => ?_)
                        · skip
                          refine v_iload_n X dX8_copy_127 rfl ?_
                          refine v_iload X dX8_copy_128 rfl ?_
                          refine v_icmp_lt (tgt := 137) X dX8_copy_130 (by decide) (by omega) (by omega) (fun c26 => ?_) (fun c26 => ?_)
                          · skip
                            refine v_iconst X dX8_copy_137 ?_
                            refine v_istore X dX8_copy_138 (by decide) rfl ?_
                            dsimp only [List.set]
                            refine v_iconst X dX8_copy_140 ?_
                            refine v_istore X dX8_copy_141 (by decide) rfl ?_
                            dsimp only [List.set]
                            have L143 : ∀ (nf : Nat) (f : Nat → Int) (u : Int) (k : Int) (h1 : 0 ≤ k ∧ k ≤ n) (hu : (u = 1 ∧ j ≤ i) ∨ (u = 0 ∧ i < j)) (h2 : ∀ x : Nat, f x = if b * 40 + j + (if u = 1 then 0 else n - k) ≤ (x : Int) ∧ (x : Int) < b * 40 + j + (if u = 1 then k else n) then fi ((a * 40 + i).toNat + (x - (b * 40 + j).toNat)) else fi x) (h3 : Bd (-2147483648) 2147483647 f) (_ : (n - k).toNat < nf), V g x 0 0 (wMod g A (0) (0) ac td lt ln cu tk sa ti ft fp le lf tr fl fm (f) fc ff fw ftp fk fe fr) [some (.ref (A 0)), some (.int (iI a)), some (.int (iI i)), some (.int (iI b)), some (.int (iI j)), some (.int (iI n)), some (.int (iI u)), some (.int (iI k)), none] 143 [] := by
                              intro nf
                              induction nf with
                              | zero => intro f u k h1 hu h2 h3 hmu; exact absurd hmu (Nat.not_lt_zero _)
                              | succ nf ih143 =>
                                intro f u k h1 hu h2 h3 hmu
                                refine v_iload X dX8_copy_143 rfl ?_
                                refine v_iload X dX8_copy_145 rfl ?_
                                refine v_icmp_ge (tgt := 204) X dX8_copy_147 (by decide) (by omega) (by omega) (fun c27 => ?_) (fun c27 => ?_)
                                · skip
                                  refine v_iload X dX8_copy_204 rfl ?_
                                  refine v_iret X Y dX8_copy_206 (u := (0, f)) ?_ rfl
                                  refine Or.inr ⟨by omega, Or.inr ⟨by omega, Or.inr ⟨by omega, Or.inr ⟨by omega, rfl, rfl, ?_⟩⟩⟩⟩
                                  intro x
                                  have e : k = n := by omega
                                  have q := h2 x
                                  rcases hu with hu | hu
                                  · rw [q]; simp only [hu.1, e, if_true, Int.add_zero]
                                  · rw [q]; simp only [hu.1, e, if_false, Int.sub_self, Int.add_zero, show ¬ (0 : Int) = 1 by omega]
                                · skip
                                  refine v_iload X dX8_copy_150 rfl ?_
                                  refine v_if_eq (tgt := 160) X dX8_copy_152 (by decide) (by omega) (fun c28 => ?_) (fun c28 => ?_)
                                  · skip
                                    refine v_iload X dX8_copy_160 rfl ?_
                                    refine v_iconst X dX8_copy_162 ?_
                                    refine v_isub X dX8_copy_163 ?_
                                    refine v_iload X dX8_copy_164 rfl ?_
                                    refine v_isub X dX8_copy_166 ?_
                                    refine v_istore X dX8_copy_167 (by decide) rfl ?_
                                    dsimp only [List.set]
                                    refine v_aload_n X dX8_copy_169 rfl ?_
                                    refine v_get X (fun _ h => List.mem_cons_of_mem _ (List.mem_append_right _ h)) 0 rfl rfl 4 (by decide) rfl (List.mem_of_getElem? (i := 6) rfl) rfl dX8_copy_170 ?_
                                    refine v_bipush X dX8_copy_173 (by decide) ?_
                                    refine v_iload_n X dX8_copy_175 rfl ?_
                                    refine v_imul X dX8_copy_176 ?_
                                    refine v_iload X dX8_copy_177 rfl ?_
                                    refine v_iadd X dX8_copy_179 ?_
                                    refine v_iload X dX8_copy_180 rfl ?_
                                    refine v_iadd X dX8_copy_182 ?_
                                    refine v_aload_n X dX8_copy_183 rfl ?_
                                    refine v_get X (fun _ h => List.mem_cons_of_mem _ (List.mem_append_right _ h)) 0 rfl rfl 4 (by decide) rfl (List.mem_of_getElem? (i := 6) rfl) rfl dX8_copy_184 ?_
                                    refine v_bipush X dX8_copy_187 (by decide) ?_
                                    refine v_iload_n X dX8_copy_189 rfl ?_
                                    refine v_imul X dX8_copy_190 ?_
                                    refine v_iload_n X dX8_copy_191 rfl ?_
                                    refine v_iadd X dX8_copy_192 ?_
                                    refine v_iload X dX8_copy_193 rfl ?_
                                    refine v_iadd X dX8_copy_195 ?_
                                    refine v_iald X 3 rfl (by omega) (by omega) (by omega) dX8_copy_196 h3 (fun zz ezz lzz uzz => ?_)
                                    refine v_iast X 3 rfl (by omega) (by omega) (by omega) dX8_copy_197 ?_
                                    dsimp only [List.set, wMod]
                                    refine v_iinc X dX8_copy_198 rfl (by decide) rfl ?_
                                    dsimp only [List.set]
                                    refine v_goto (tgt := 143) X dX8_copy_201 (by decide) ?_
                                    refine v_drop 8 ?_
                                    dsimp only [List.set]
                                    exact ih143 _ _ _ (by omega) (by omega) (by
                                        first
                                        | exact cpy_up hu h1 h2 g1 g2 (by omega) ezz
                                        | exact cpy_dn hu h1 h2 g1 g2 (by omega) ezz) (by exact Bd_up h3 (by omega) (by omega)) (by omega)
                                  · skip
                                    refine v_iload X dX8_copy_155 rfl ?_
                                    refine v_goto (tgt := 167) X dX8_copy_157 (by decide) ?_
                                    refine v_istore X dX8_copy_167 (by decide) rfl ?_
                                    dsimp only [List.set]
                                    refine v_aload_n X dX8_copy_169 rfl ?_
                                    refine v_get X (fun _ h => List.mem_cons_of_mem _ (List.mem_append_right _ h)) 0 rfl rfl 4 (by decide) rfl (List.mem_of_getElem? (i := 6) rfl) rfl dX8_copy_170 ?_
                                    refine v_bipush X dX8_copy_173 (by decide) ?_
                                    refine v_iload_n X dX8_copy_175 rfl ?_
                                    refine v_imul X dX8_copy_176 ?_
                                    refine v_iload X dX8_copy_177 rfl ?_
                                    refine v_iadd X dX8_copy_179 ?_
                                    refine v_iload X dX8_copy_180 rfl ?_
                                    refine v_iadd X dX8_copy_182 ?_
                                    refine v_aload_n X dX8_copy_183 rfl ?_
                                    refine v_get X (fun _ h => List.mem_cons_of_mem _ (List.mem_append_right _ h)) 0 rfl rfl 4 (by decide) rfl (List.mem_of_getElem? (i := 6) rfl) rfl dX8_copy_184 ?_
                                    refine v_bipush X dX8_copy_187 (by decide) ?_
                                    refine v_iload_n X dX8_copy_189 rfl ?_
                                    refine v_imul X dX8_copy_190 ?_
                                    refine v_iload_n X dX8_copy_191 rfl ?_
                                    refine v_iadd X dX8_copy_192 ?_
                                    refine v_iload X dX8_copy_193 rfl ?_
                                    refine v_iadd X dX8_copy_195 ?_
                                    refine v_iald X 3 rfl (by omega) (by omega) (by omega) dX8_copy_196 h3 (fun zz ezz lzz uzz => ?_)
                                    refine v_iast X 3 rfl (by omega) (by omega) (by omega) dX8_copy_197 ?_
                                    dsimp only [List.set, wMod]
                                    refine v_iinc X dX8_copy_198 rfl (by decide) rfl ?_
                                    dsimp only [List.set]
                                    refine v_goto (tgt := 143) X dX8_copy_201 (by decide) ?_
                                    refine v_drop 8 ?_
                                    dsimp only [List.set]
                                    exact ih143 _ _ _ (by omega) (by omega) (by
                                        first
                                        | exact cpy_up hu h1 h2 g1 g2 (by omega) ezz
                                        | exact cpy_dn hu h1 h2 g1 g2 (by omega) ezz) (by exact Bd_up h3 (by omega) (by omega)) (by omega)
                            exact L143 _ _ _ _ (by omega) (by omega) (by intro x; rw [if_neg (by split <;> omega)]) (by assumption) (Nat.lt_succ_self _)
                          · skip
                            refine v_iconst X dX8_copy_133 ?_
                            refine v_goto (tgt := 138) X dX8_copy_134 (by decide) ?_
                            refine v_istore X dX8_copy_138 (by decide) rfl ?_
                            dsimp only [List.set]
                            refine v_iconst X dX8_copy_140 ?_
                            refine v_istore X dX8_copy_141 (by decide) rfl ?_
                            dsimp only [List.set]
                            have L143 : ∀ (nf : Nat) (f : Nat → Int) (u : Int) (k : Int) (h1 : 0 ≤ k ∧ k ≤ n) (hu : (u = 1 ∧ j ≤ i) ∨ (u = 0 ∧ i < j)) (h2 : ∀ x : Nat, f x = if b * 40 + j + (if u = 1 then 0 else n - k) ≤ (x : Int) ∧ (x : Int) < b * 40 + j + (if u = 1 then k else n) then fi ((a * 40 + i).toNat + (x - (b * 40 + j).toNat)) else fi x) (h3 : Bd (-2147483648) 2147483647 f) (_ : (n - k).toNat < nf), V g x 0 0 (wMod g A (0) (0) ac td lt ln cu tk sa ti ft fp le lf tr fl fm (f) fc ff fw ftp fk fe fr) [some (.ref (A 0)), some (.int (iI a)), some (.int (iI i)), some (.int (iI b)), some (.int (iI j)), some (.int (iI n)), some (.int (iI u)), some (.int (iI k)), none] 143 [] := by
                              intro nf
                              induction nf with
                              | zero => intro f u k h1 hu h2 h3 hmu; exact absurd hmu (Nat.not_lt_zero _)
                              | succ nf ih143 =>
                                intro f u k h1 hu h2 h3 hmu
                                refine v_iload X dX8_copy_143 rfl ?_
                                refine v_iload X dX8_copy_145 rfl ?_
                                refine v_icmp_ge (tgt := 204) X dX8_copy_147 (by decide) (by omega) (by omega) (fun c31 => ?_) (fun c31 => ?_)
                                · skip
                                  refine v_iload X dX8_copy_204 rfl ?_
                                  refine v_iret X Y dX8_copy_206 (u := (0, f)) ?_ rfl
                                  refine Or.inr ⟨by omega, Or.inr ⟨by omega, Or.inr ⟨by omega, Or.inr ⟨by omega, rfl, rfl, ?_⟩⟩⟩⟩
                                  intro x
                                  have e : k = n := by omega
                                  have q := h2 x
                                  rcases hu with hu | hu
                                  · rw [q]; simp only [hu.1, e, if_true, Int.add_zero]
                                  · rw [q]; simp only [hu.1, e, if_false, Int.sub_self, Int.add_zero, show ¬ (0 : Int) = 1 by omega]
                                · skip
                                  refine v_iload X dX8_copy_150 rfl ?_
                                  refine v_if_eq (tgt := 160) X dX8_copy_152 (by decide) (by omega) (fun c32 => ?_) (fun c32 => ?_)
                                  · skip
                                    refine v_iload X dX8_copy_160 rfl ?_
                                    refine v_iconst X dX8_copy_162 ?_
                                    refine v_isub X dX8_copy_163 ?_
                                    refine v_iload X dX8_copy_164 rfl ?_
                                    refine v_isub X dX8_copy_166 ?_
                                    refine v_istore X dX8_copy_167 (by decide) rfl ?_
                                    dsimp only [List.set]
                                    refine v_aload_n X dX8_copy_169 rfl ?_
                                    refine v_get X (fun _ h => List.mem_cons_of_mem _ (List.mem_append_right _ h)) 0 rfl rfl 4 (by decide) rfl (List.mem_of_getElem? (i := 6) rfl) rfl dX8_copy_170 ?_
                                    refine v_bipush X dX8_copy_173 (by decide) ?_
                                    refine v_iload_n X dX8_copy_175 rfl ?_
                                    refine v_imul X dX8_copy_176 ?_
                                    refine v_iload X dX8_copy_177 rfl ?_
                                    refine v_iadd X dX8_copy_179 ?_
                                    refine v_iload X dX8_copy_180 rfl ?_
                                    refine v_iadd X dX8_copy_182 ?_
                                    refine v_aload_n X dX8_copy_183 rfl ?_
                                    refine v_get X (fun _ h => List.mem_cons_of_mem _ (List.mem_append_right _ h)) 0 rfl rfl 4 (by decide) rfl (List.mem_of_getElem? (i := 6) rfl) rfl dX8_copy_184 ?_
                                    refine v_bipush X dX8_copy_187 (by decide) ?_
                                    refine v_iload_n X dX8_copy_189 rfl ?_
                                    refine v_imul X dX8_copy_190 ?_
                                    refine v_iload_n X dX8_copy_191 rfl ?_
                                    refine v_iadd X dX8_copy_192 ?_
                                    refine v_iload X dX8_copy_193 rfl ?_
                                    refine v_iadd X dX8_copy_195 ?_
                                    refine v_iald X 3 rfl (by omega) (by omega) (by omega) dX8_copy_196 h3 (fun zz ezz lzz uzz => ?_)
                                    refine v_iast X 3 rfl (by omega) (by omega) (by omega) dX8_copy_197 ?_
                                    dsimp only [List.set, wMod]
                                    refine v_iinc X dX8_copy_198 rfl (by decide) rfl ?_
                                    dsimp only [List.set]
                                    refine v_goto (tgt := 143) X dX8_copy_201 (by decide) ?_
                                    refine v_drop 8 ?_
                                    dsimp only [List.set]
                                    exact ih143 _ _ _ (by omega) (by omega) (by
                                        first
                                        | exact cpy_up hu h1 h2 g1 g2 (by omega) ezz
                                        | exact cpy_dn hu h1 h2 g1 g2 (by omega) ezz) (by exact Bd_up h3 (by omega) (by omega)) (by omega)
                                  · skip
                                    refine v_iload X dX8_copy_155 rfl ?_
                                    refine v_goto (tgt := 167) X dX8_copy_157 (by decide) ?_
                                    refine v_istore X dX8_copy_167 (by decide) rfl ?_
                                    dsimp only [List.set]
                                    refine v_aload_n X dX8_copy_169 rfl ?_
                                    refine v_get X (fun _ h => List.mem_cons_of_mem _ (List.mem_append_right _ h)) 0 rfl rfl 4 (by decide) rfl (List.mem_of_getElem? (i := 6) rfl) rfl dX8_copy_170 ?_
                                    refine v_bipush X dX8_copy_173 (by decide) ?_
                                    refine v_iload_n X dX8_copy_175 rfl ?_
                                    refine v_imul X dX8_copy_176 ?_
                                    refine v_iload X dX8_copy_177 rfl ?_
                                    refine v_iadd X dX8_copy_179 ?_
                                    refine v_iload X dX8_copy_180 rfl ?_
                                    refine v_iadd X dX8_copy_182 ?_
                                    refine v_aload_n X dX8_copy_183 rfl ?_
                                    refine v_get X (fun _ h => List.mem_cons_of_mem _ (List.mem_append_right _ h)) 0 rfl rfl 4 (by decide) rfl (List.mem_of_getElem? (i := 6) rfl) rfl dX8_copy_184 ?_
                                    refine v_bipush X dX8_copy_187 (by decide) ?_
                                    refine v_iload_n X dX8_copy_189 rfl ?_
                                    refine v_imul X dX8_copy_190 ?_
                                    refine v_iload_n X dX8_copy_191 rfl ?_
                                    refine v_iadd X dX8_copy_192 ?_
                                    refine v_iload X dX8_copy_193 rfl ?_
                                    refine v_iadd X dX8_copy_195 ?_
                                    refine v_iald X 3 rfl (by omega) (by omega) (by omega) dX8_copy_196 h3 (fun zz ezz lzz uzz => ?_)
                                    refine v_iast X 3 rfl (by omega) (by omega) (by omega) dX8_copy_197 ?_
                                    dsimp only [List.set, wMod]
                                    refine v_iinc X dX8_copy_198 rfl (by decide) rfl ?_
                                    dsimp only [List.set]
                                    refine v_goto (tgt := 143) X dX8_copy_201 (by decide) ?_
                                    refine v_drop 8 ?_
                                    dsimp only [List.set]
                                    exact ih143 _ _ _ (by omega) (by omega) (by
                                        first
                                        | exact cpy_up hu h1 h2 g1 g2 (by omega) ezz
                                        | exact cpy_dn hu h1 h2 g1 g2 (by omega) ezz) (by exact Bd_up h3 (by omega) (by omega)) (by omega)
                            exact L143 _ _ _ _ (by omega) (by omega) (by intro x; rw [if_neg (by split <;> omega)]) (by assumption) (Nat.lt_succ_self _)
                        · skip
                          exfalso; omega
                  · skip
                    refine v_if_gt (tgt := 121) X dX8_copy_100 (by decide) (by decide) (fun hh => ?_) (fun hh => ?_)
                    · skip
                      exfalso; omega
                    · skip
                      refine v_iload X dX8_copy_103 rfl ?_
                      refine v_i2l X dX8_copy_105 (by omega) ?_
                      refine v_iload X dX8_copy_106 rfl ?_
                      refine v_i2l X dX8_copy_108 (by omega) ?_
                      refine v_ladd X dX8_copy_109 ?_
                      refine v_aload_n X dX8_copy_110 rfl ?_
                      refine v_get X (fun _ h => List.mem_cons_of_mem _ (List.mem_append_right _ h)) 0 rfl rfl 3 (by decide) rfl (List.mem_of_getElem? (i := 5) rfl) rfl dX8_copy_111 ?_
                      refine v_iload_n X dX8_copy_114 rfl ?_
                      refine v_iald X 2 rfl (by omega) (by omega) (by omega) dX8_copy_115 hfm (fun z35 ez35 lz35 uz35 => ?_)
                      refine v_i2l X dX8_copy_116 (by omega) ?_
                      refine v_lcmp X dX8_copy_117 (by omega) (by omega) (fun c36 => ?_) (fun c36 => ?_) (fun c36 => ?_)
                      · skip
                        refine v_if_le (tgt := 127) X dX8_copy_118 (by decide) (by decide) (fun hh => ?_) (fun hh => ?_)
                        · skip
                          exfalso; omega
                        · skip
                          refine v_aload_n X dX8_copy_121 rfl ?_
                          refine v_iconst X dX8_copy_122 ?_
                          refine res_F X (run_V X (c_X8_finding (g := g) ) gX8_copy_X8_finding rfl hdX8_finding ⟨(Nat.le_of_ble_eq_true rfl), (Nat.le_of_ble_eq_true rfl)⟩ ⟨(Nat.le_of_ble_eq_true rfl), (Nat.le_of_ble_eq_true rfl)⟩ 0 rfl rfl rfl [0, 1, 2, 3, 4, 5, 6, 7, 8, 9, 10] rfl rfl rfl rfl (by simp [Value.category]) dX8_copy_123) [0, 1, 2, 3, 4, 5, 6, 7, 8, 9, 10] rfl rfl rfl ?_
                          dsimp only [patch, List.set, wMod]
                          refine v_iret X Y dX8_copy_126 (u := (2, fi)) ?_ rfl
                          exact Or.inr ⟨by omega, Or.inr ⟨by omega, Or.inr ⟨by omega, Or.inl ⟨by omega, rfl, rfl⟩⟩⟩⟩
                      · skip
                        refine v_if_le (tgt := 127) X dX8_copy_118 (by decide) (by decide) (fun hh => ?_) (fun hh => ?_)
                        · skip
                          refine v_iload_n X dX8_copy_127 rfl ?_
                          refine v_iload X dX8_copy_128 rfl ?_
                          refine v_icmp_lt (tgt := 137) X dX8_copy_130 (by decide) (by omega) (by omega) (fun c37 => ?_) (fun c37 => ?_)
                          · skip
                            refine v_iconst X dX8_copy_137 ?_
                            refine v_istore X dX8_copy_138 (by decide) rfl ?_
                            dsimp only [List.set]
                            refine v_iconst X dX8_copy_140 ?_
                            refine v_istore X dX8_copy_141 (by decide) rfl ?_
                            dsimp only [List.set]
                            have L143 : ∀ (nf : Nat) (f : Nat → Int) (u : Int) (k : Int) (h1 : 0 ≤ k ∧ k ≤ n) (hu : (u = 1 ∧ j ≤ i) ∨ (u = 0 ∧ i < j)) (h2 : ∀ x : Nat, f x = if b * 40 + j + (if u = 1 then 0 else n - k) ≤ (x : Int) ∧ (x : Int) < b * 40 + j + (if u = 1 then k else n) then fi ((a * 40 + i).toNat + (x - (b * 40 + j).toNat)) else fi x) (h3 : Bd (-2147483648) 2147483647 f) (_ : (n - k).toNat < nf), V g x 0 0 (wMod g A (0) (0) ac td lt ln cu tk sa ti ft fp le lf tr fl fm (f) fc ff fw ftp fk fe fr) [some (.ref (A 0)), some (.int (iI a)), some (.int (iI i)), some (.int (iI b)), some (.int (iI j)), some (.int (iI n)), some (.int (iI u)), some (.int (iI k)), none] 143 [] := by
                              intro nf
                              induction nf with
                              | zero => intro f u k h1 hu h2 h3 hmu; exact absurd hmu (Nat.not_lt_zero _)
                              | succ nf ih143 =>
                                intro f u k h1 hu h2 h3 hmu
                                refine v_iload X dX8_copy_143 rfl ?_
                                refine v_iload X dX8_copy_145 rfl ?_
                                refine v_icmp_ge (tgt := 204) X dX8_copy_147 (by decide) (by omega) (by omega) (fun c38 => ?_) (fun c38 => ?_)
                                · skip
                                  refine v_iload X dX8_copy_204 rfl ?_
                                  refine v_iret X Y dX8_copy_206 (u := (0, f)) ?_ rfl
                                  refine Or.inr ⟨by omega, Or.inr ⟨by omega, Or.inr ⟨by omega, Or.inr ⟨by omega, rfl, rfl, ?_⟩⟩⟩⟩
                                  intro x
                                  have e : k = n := by omega
                                  have q := h2 x
                                  rcases hu with hu | hu
                                  · rw [q]; simp only [hu.1, e, if_true, Int.add_zero]
                                  · rw [q]; simp only [hu.1, e, if_false, Int.sub_self, Int.add_zero, show ¬ (0 : Int) = 1 by omega]
                                · skip
                                  refine v_iload X dX8_copy_150 rfl ?_
                                  refine v_if_eq (tgt := 160) X dX8_copy_152 (by decide) (by omega) (fun c39 => ?_) (fun c39 => ?_)
                                  · skip
                                    refine v_iload X dX8_copy_160 rfl ?_
                                    refine v_iconst X dX8_copy_162 ?_
                                    refine v_isub X dX8_copy_163 ?_
                                    refine v_iload X dX8_copy_164 rfl ?_
                                    refine v_isub X dX8_copy_166 ?_
                                    refine v_istore X dX8_copy_167 (by decide) rfl ?_
                                    dsimp only [List.set]
                                    refine v_aload_n X dX8_copy_169 rfl ?_
                                    refine v_get X (fun _ h => List.mem_cons_of_mem _ (List.mem_append_right _ h)) 0 rfl rfl 4 (by decide) rfl (List.mem_of_getElem? (i := 6) rfl) rfl dX8_copy_170 ?_
                                    refine v_bipush X dX8_copy_173 (by decide) ?_
                                    refine v_iload_n X dX8_copy_175 rfl ?_
                                    refine v_imul X dX8_copy_176 ?_
                                    refine v_iload X dX8_copy_177 rfl ?_
                                    refine v_iadd X dX8_copy_179 ?_
                                    refine v_iload X dX8_copy_180 rfl ?_
                                    refine v_iadd X dX8_copy_182 ?_
                                    refine v_aload_n X dX8_copy_183 rfl ?_
                                    refine v_get X (fun _ h => List.mem_cons_of_mem _ (List.mem_append_right _ h)) 0 rfl rfl 4 (by decide) rfl (List.mem_of_getElem? (i := 6) rfl) rfl dX8_copy_184 ?_
                                    refine v_bipush X dX8_copy_187 (by decide) ?_
                                    refine v_iload_n X dX8_copy_189 rfl ?_
                                    refine v_imul X dX8_copy_190 ?_
                                    refine v_iload_n X dX8_copy_191 rfl ?_
                                    refine v_iadd X dX8_copy_192 ?_
                                    refine v_iload X dX8_copy_193 rfl ?_
                                    refine v_iadd X dX8_copy_195 ?_
                                    refine v_iald X 3 rfl (by omega) (by omega) (by omega) dX8_copy_196 h3 (fun zz ezz lzz uzz => ?_)
                                    refine v_iast X 3 rfl (by omega) (by omega) (by omega) dX8_copy_197 ?_
                                    dsimp only [List.set, wMod]
                                    refine v_iinc X dX8_copy_198 rfl (by decide) rfl ?_
                                    dsimp only [List.set]
                                    refine v_goto (tgt := 143) X dX8_copy_201 (by decide) ?_
                                    refine v_drop 8 ?_
                                    dsimp only [List.set]
                                    exact ih143 _ _ _ (by omega) (by omega) (by
                                        first
                                        | exact cpy_up hu h1 h2 g1 g2 (by omega) ezz
                                        | exact cpy_dn hu h1 h2 g1 g2 (by omega) ezz) (by exact Bd_up h3 (by omega) (by omega)) (by omega)
                                  · skip
                                    refine v_iload X dX8_copy_155 rfl ?_
                                    refine v_goto (tgt := 167) X dX8_copy_157 (by decide) ?_
                                    refine v_istore X dX8_copy_167 (by decide) rfl ?_
                                    dsimp only [List.set]
                                    refine v_aload_n X dX8_copy_169 rfl ?_
                                    refine v_get X (fun _ h => List.mem_cons_of_mem _ (List.mem_append_right _ h)) 0 rfl rfl 4 (by decide) rfl (List.mem_of_getElem? (i := 6) rfl) rfl dX8_copy_170 ?_
                                    refine v_bipush X dX8_copy_173 (by decide) ?_
                                    refine v_iload_n X dX8_copy_175 rfl ?_
                                    refine v_imul X dX8_copy_176 ?_
                                    refine v_iload X dX8_copy_177 rfl ?_
                                    refine v_iadd X dX8_copy_179 ?_
                                    refine v_iload X dX8_copy_180 rfl ?_
                                    refine v_iadd X dX8_copy_182 ?_
                                    refine v_aload_n X dX8_copy_183 rfl ?_
                                    refine v_get X (fun _ h => List.mem_cons_of_mem _ (List.mem_append_right _ h)) 0 rfl rfl 4 (by decide) rfl (List.mem_of_getElem? (i := 6) rfl) rfl dX8_copy_184 ?_
                                    refine v_bipush X dX8_copy_187 (by decide) ?_
                                    refine v_iload_n X dX8_copy_189 rfl ?_
                                    refine v_imul X dX8_copy_190 ?_
                                    refine v_iload_n X dX8_copy_191 rfl ?_
                                    refine v_iadd X dX8_copy_192 ?_
                                    refine v_iload X dX8_copy_193 rfl ?_
                                    refine v_iadd X dX8_copy_195 ?_
                                    refine v_iald X 3 rfl (by omega) (by omega) (by omega) dX8_copy_196 h3 (fun zz ezz lzz uzz => ?_)
                                    refine v_iast X 3 rfl (by omega) (by omega) (by omega) dX8_copy_197 ?_
                                    dsimp only [List.set, wMod]
                                    refine v_iinc X dX8_copy_198 rfl (by decide) rfl ?_
                                    dsimp only [List.set]
                                    refine v_goto (tgt := 143) X dX8_copy_201 (by decide) ?_
                                    refine v_drop 8 ?_
                                    dsimp only [List.set]
                                    exact ih143 _ _ _ (by omega) (by omega) (by
                                        first
                                        | exact cpy_up hu h1 h2 g1 g2 (by omega) ezz
                                        | exact cpy_dn hu h1 h2 g1 g2 (by omega) ezz) (by exact Bd_up h3 (by omega) (by omega)) (by omega)
                            exact L143 _ _ _ _ (by omega) (by omega) (by intro x; rw [if_neg (by split <;> omega)]) (by assumption) (Nat.lt_succ_self _)
                          · skip
                            refine v_iconst X dX8_copy_133 ?_
                            refine v_goto (tgt := 138) X dX8_copy_134 (by decide) ?_
                            refine v_istore X dX8_copy_138 (by decide) rfl ?_
                            dsimp only [List.set]
                            refine v_iconst X dX8_copy_140 ?_
                            refine v_istore X dX8_copy_141 (by decide) rfl ?_
                            dsimp only [List.set]
                            have L143 : ∀ (nf : Nat) (f : Nat → Int) (u : Int) (k : Int) (h1 : 0 ≤ k ∧ k ≤ n) (hu : (u = 1 ∧ j ≤ i) ∨ (u = 0 ∧ i < j)) (h2 : ∀ x : Nat, f x = if b * 40 + j + (if u = 1 then 0 else n - k) ≤ (x : Int) ∧ (x : Int) < b * 40 + j + (if u = 1 then k else n) then fi ((a * 40 + i).toNat + (x - (b * 40 + j).toNat)) else fi x) (h3 : Bd (-2147483648) 2147483647 f) (_ : (n - k).toNat < nf), V g x 0 0 (wMod g A (0) (0) ac td lt ln cu tk sa ti ft fp le lf tr fl fm (f) fc ff fw ftp fk fe fr) [some (.ref (A 0)), some (.int (iI a)), some (.int (iI i)), some (.int (iI b)), some (.int (iI j)), some (.int (iI n)), some (.int (iI u)), some (.int (iI k)), none] 143 [] := by
                              intro nf
                              induction nf with
                              | zero => intro f u k h1 hu h2 h3 hmu; exact absurd hmu (Nat.not_lt_zero _)
                              | succ nf ih143 =>
                                intro f u k h1 hu h2 h3 hmu
                                refine v_iload X dX8_copy_143 rfl ?_
                                refine v_iload X dX8_copy_145 rfl ?_
                                refine v_icmp_ge (tgt := 204) X dX8_copy_147 (by decide) (by omega) (by omega) (fun c42 => ?_) (fun c42 => ?_)
                                · skip
                                  refine v_iload X dX8_copy_204 rfl ?_
                                  refine v_iret X Y dX8_copy_206 (u := (0, f)) ?_ rfl
                                  refine Or.inr ⟨by omega, Or.inr ⟨by omega, Or.inr ⟨by omega, Or.inr ⟨by omega, rfl, rfl, ?_⟩⟩⟩⟩
                                  intro x
                                  have e : k = n := by omega
                                  have q := h2 x
                                  rcases hu with hu | hu
                                  · rw [q]; simp only [hu.1, e, if_true, Int.add_zero]
                                  · rw [q]; simp only [hu.1, e, if_false, Int.sub_self, Int.add_zero, show ¬ (0 : Int) = 1 by omega]
                                · skip
                                  refine v_iload X dX8_copy_150 rfl ?_
                                  refine v_if_eq (tgt := 160) X dX8_copy_152 (by decide) (by omega) (fun c43 => ?_) (fun c43 => ?_)
                                  · skip
                                    refine v_iload X dX8_copy_160 rfl ?_
                                    refine v_iconst X dX8_copy_162 ?_
                                    refine v_isub X dX8_copy_163 ?_
                                    refine v_iload X dX8_copy_164 rfl ?_
                                    refine v_isub X dX8_copy_166 ?_
                                    refine v_istore X dX8_copy_167 (by decide) rfl ?_
                                    dsimp only [List.set]
                                    refine v_aload_n X dX8_copy_169 rfl ?_
                                    refine v_get X (fun _ h => List.mem_cons_of_mem _ (List.mem_append_right _ h)) 0 rfl rfl 4 (by decide) rfl (List.mem_of_getElem? (i := 6) rfl) rfl dX8_copy_170 ?_
                                    refine v_bipush X dX8_copy_173 (by decide) ?_
                                    refine v_iload_n X dX8_copy_175 rfl ?_
                                    refine v_imul X dX8_copy_176 ?_
                                    refine v_iload X dX8_copy_177 rfl ?_
                                    refine v_iadd X dX8_copy_179 ?_
                                    refine v_iload X dX8_copy_180 rfl ?_
                                    refine v_iadd X dX8_copy_182 ?_
                                    refine v_aload_n X dX8_copy_183 rfl ?_
                                    refine v_get X (fun _ h => List.mem_cons_of_mem _ (List.mem_append_right _ h)) 0 rfl rfl 4 (by decide) rfl (List.mem_of_getElem? (i := 6) rfl) rfl dX8_copy_184 ?_
                                    refine v_bipush X dX8_copy_187 (by decide) ?_
                                    refine v_iload_n X dX8_copy_189 rfl ?_
                                    refine v_imul X dX8_copy_190 ?_
                                    refine v_iload_n X dX8_copy_191 rfl ?_
                                    refine v_iadd X dX8_copy_192 ?_
                                    refine v_iload X dX8_copy_193 rfl ?_
                                    refine v_iadd X dX8_copy_195 ?_
                                    refine v_iald X 3 rfl (by omega) (by omega) (by omega) dX8_copy_196 h3 (fun zz ezz lzz uzz => ?_)
                                    refine v_iast X 3 rfl (by omega) (by omega) (by omega) dX8_copy_197 ?_
                                    dsimp only [List.set, wMod]
                                    refine v_iinc X dX8_copy_198 rfl (by decide) rfl ?_
                                    dsimp only [List.set]
                                    refine v_goto (tgt := 143) X dX8_copy_201 (by decide) ?_
                                    refine v_drop 8 ?_
                                    dsimp only [List.set]
                                    exact ih143 _ _ _ (by omega) (by omega) (by
                                        first
                                        | exact cpy_up hu h1 h2 g1 g2 (by omega) ezz
                                        | exact cpy_dn hu h1 h2 g1 g2 (by omega) ezz) (by exact Bd_up h3 (by omega) (by omega)) (by omega)
                                  · skip
                                    refine v_iload X dX8_copy_155 rfl ?_
                                    refine v_goto (tgt := 167) X dX8_copy_157 (by decide) ?_
                                    refine v_istore X dX8_copy_167 (by decide) rfl ?_
                                    dsimp only [List.set]
                                    refine v_aload_n X dX8_copy_169 rfl ?_
                                    refine v_get X (fun _ h => List.mem_cons_of_mem _ (List.mem_append_right _ h)) 0 rfl rfl 4 (by decide) rfl (List.mem_of_getElem? (i := 6) rfl) rfl dX8_copy_170 ?_
                                    refine v_bipush X dX8_copy_173 (by decide) ?_
                                    refine v_iload_n X dX8_copy_175 rfl ?_
                                    refine v_imul X dX8_copy_176 ?_
                                    refine v_iload X dX8_copy_177 rfl ?_
                                    refine v_iadd X dX8_copy_179 ?_
                                    refine v_iload X dX8_copy_180 rfl ?_
                                    refine v_iadd X dX8_copy_182 ?_
                                    refine v_aload_n X dX8_copy_183 rfl ?_
                                    refine v_get X (fun _ h => List.mem_cons_of_mem _ (List.mem_append_right _ h)) 0 rfl rfl 4 (by decide) rfl (List.mem_of_getElem? (i := 6) rfl) rfl dX8_copy_184 ?_
                                    refine v_bipush X dX8_copy_187 (by decide) ?_
                                    refine v_iload_n X dX8_copy_189 rfl ?_
                                    refine v_imul X dX8_copy_190 ?_
                                    refine v_iload_n X dX8_copy_191 rfl ?_
                                    refine v_iadd X dX8_copy_192 ?_
                                    refine v_iload X dX8_copy_193 rfl ?_
                                    refine v_iadd X dX8_copy_195 ?_
                                    refine v_iald X 3 rfl (by omega) (by omega) (by omega) dX8_copy_196 h3 (fun zz ezz lzz uzz => ?_)
                                    refine v_iast X 3 rfl (by omega) (by omega) (by omega) dX8_copy_197 ?_
                                    dsimp only [List.set, wMod]
                                    refine v_iinc X dX8_copy_198 rfl (by decide) rfl ?_
                                    dsimp only [List.set]
                                    refine v_goto (tgt := 143) X dX8_copy_201 (by decide) ?_
                                    refine v_drop 8 ?_
                                    dsimp only [List.set]
                                    exact ih143 _ _ _ (by omega) (by omega) (by
                                        first
                                        | exact cpy_up hu h1 h2 g1 g2 (by omega) ezz
                                        | exact cpy_dn hu h1 h2 g1 g2 (by omega) ezz) (by exact Bd_up h3 (by omega) (by omega)) (by omega)
                            exact L143 _ _ _ _ (by omega) (by omega) (by intro x; rw [if_neg (by split <;> omega)]) (by assumption) (Nat.lt_succ_self _)
                        · skip
                          exfalso; omega
                      · skip
                        refine v_if_le (tgt := 127) X dX8_copy_118 (by decide) (by decide) (fun hh => ?_) (fun hh => ?_)
                        · skip
                          refine v_iload_n X dX8_copy_127 rfl ?_
                          refine v_iload X dX8_copy_128 rfl ?_
                          refine v_icmp_lt (tgt := 137) X dX8_copy_130 (by decide) (by omega) (by omega) (fun c46 => ?_) (fun c46 => ?_)
                          · skip
                            refine v_iconst X dX8_copy_137 ?_
                            refine v_istore X dX8_copy_138 (by decide) rfl ?_
                            dsimp only [List.set]
                            refine v_iconst X dX8_copy_140 ?_
                            refine v_istore X dX8_copy_141 (by decide) rfl ?_
                            dsimp only [List.set]
                            have L143 : ∀ (nf : Nat) (f : Nat → Int) (u : Int) (k : Int) (h1 : 0 ≤ k ∧ k ≤ n) (hu : (u = 1 ∧ j ≤ i) ∨ (u = 0 ∧ i < j)) (h2 : ∀ x : Nat, f x = if b * 40 + j + (if u = 1 then 0 else n - k) ≤ (x : Int) ∧ (x : Int) < b * 40 + j + (if u = 1 then k else n) then fi ((a * 40 + i).toNat + (x - (b * 40 + j).toNat)) else fi x) (h3 : Bd (-2147483648) 2147483647 f) (_ : (n - k).toNat < nf), V g x 0 0 (wMod g A (0) (0) ac td lt ln cu tk sa ti ft fp le lf tr fl fm (f) fc ff fw ftp fk fe fr) [some (.ref (A 0)), some (.int (iI a)), some (.int (iI i)), some (.int (iI b)), some (.int (iI j)), some (.int (iI n)), some (.int (iI u)), some (.int (iI k)), none] 143 [] := by
                              intro nf
                              induction nf with
                              | zero => intro f u k h1 hu h2 h3 hmu; exact absurd hmu (Nat.not_lt_zero _)
                              | succ nf ih143 =>
                                intro f u k h1 hu h2 h3 hmu
                                refine v_iload X dX8_copy_143 rfl ?_
                                refine v_iload X dX8_copy_145 rfl ?_
                                refine v_icmp_ge (tgt := 204) X dX8_copy_147 (by decide) (by omega) (by omega) (fun c47 => ?_) (fun c47 => ?_)
                                · skip
                                  refine v_iload X dX8_copy_204 rfl ?_
                                  refine v_iret X Y dX8_copy_206 (u := (0, f)) ?_ rfl
                                  refine Or.inr ⟨by omega, Or.inr ⟨by omega, Or.inr ⟨by omega, Or.inr ⟨by omega, rfl, rfl, ?_⟩⟩⟩⟩
                                  intro x
                                  have e : k = n := by omega
                                  have q := h2 x
                                  rcases hu with hu | hu
                                  · rw [q]; simp only [hu.1, e, if_true, Int.add_zero]
                                  · rw [q]; simp only [hu.1, e, if_false, Int.sub_self, Int.add_zero, show ¬ (0 : Int) = 1 by omega]
                                · skip
                                  refine v_iload X dX8_copy_150 rfl ?_
                                  refine v_if_eq (tgt := 160) X dX8_copy_152 (by decide) (by omega) (fun c48 => ?_) (fun c48 => ?_)
                                  · skip
                                    refine v_iload X dX8_copy_160 rfl ?_
                                    refine v_iconst X dX8_copy_162 ?_
                                    refine v_isub X dX8_copy_163 ?_
                                    refine v_iload X dX8_copy_164 rfl ?_
                                    refine v_isub X dX8_copy_166 ?_
                                    refine v_istore X dX8_copy_167 (by decide) rfl ?_
                                    dsimp only [List.set]
                                    refine v_aload_n X dX8_copy_169 rfl ?_
                                    refine v_get X (fun _ h => List.mem_cons_of_mem _ (List.mem_append_right _ h)) 0 rfl rfl 4 (by decide) rfl (List.mem_of_getElem? (i := 6) rfl) rfl dX8_copy_170 ?_
                                    refine v_bipush X dX8_copy_173 (by decide) ?_
                                    refine v_iload_n X dX8_copy_175 rfl ?_
                                    refine v_imul X dX8_copy_176 ?_
                                    refine v_iload X dX8_copy_177 rfl ?_
                                    refine v_iadd X dX8_copy_179 ?_
                                    refine v_iload X dX8_copy_180 rfl ?_
                                    refine v_iadd X dX8_copy_182 ?_
                                    refine v_aload_n X dX8_copy_183 rfl ?_
                                    refine v_get X (fun _ h => List.mem_cons_of_mem _ (List.mem_append_right _ h)) 0 rfl rfl 4 (by decide) rfl (List.mem_of_getElem? (i := 6) rfl) rfl dX8_copy_184 ?_
                                    refine v_bipush X dX8_copy_187 (by decide) ?_
                                    refine v_iload_n X dX8_copy_189 rfl ?_
                                    refine v_imul X dX8_copy_190 ?_
                                    refine v_iload_n X dX8_copy_191 rfl ?_
                                    refine v_iadd X dX8_copy_192 ?_
                                    refine v_iload X dX8_copy_193 rfl ?_
                                    refine v_iadd X dX8_copy_195 ?_
                                    refine v_iald X 3 rfl (by omega) (by omega) (by omega) dX8_copy_196 h3 (fun zz ezz lzz uzz => ?_)
                                    refine v_iast X 3 rfl (by omega) (by omega) (by omega) dX8_copy_197 ?_
                                    dsimp only [List.set, wMod]
                                    refine v_iinc X dX8_copy_198 rfl (by decide) rfl ?_
                                    dsimp only [List.set]
                                    refine v_goto (tgt := 143) X dX8_copy_201 (by decide) ?_
                                    refine v_drop 8 ?_
                                    dsimp only [List.set]
                                    exact ih143 _ _ _ (by omega) (by omega) (by
                                        first
                                        | exact cpy_up hu h1 h2 g1 g2 (by omega) ezz
                                        | exact cpy_dn hu h1 h2 g1 g2 (by omega) ezz) (by exact Bd_up h3 (by omega) (by omega)) (by omega)
                                  · skip
                                    refine v_iload X dX8_copy_155 rfl ?_
                                    refine v_goto (tgt := 167) X dX8_copy_157 (by decide) ?_
                                    refine v_istore X dX8_copy_167 (by decide) rfl ?_
                                    dsimp only [List.set]
                                    refine v_aload_n X dX8_copy_169 rfl ?_
                                    refine v_get X (fun _ h => List.mem_cons_of_mem _ (List.mem_append_right _ h)) 0 rfl rfl 4 (by decide) rfl (List.mem_of_getElem? (i := 6) rfl) rfl dX8_copy_170 ?_
                                    refine v_bipush X dX8_copy_173 (by decide) ?_
                                    refine v_iload_n X dX8_copy_175 rfl ?_
                                    refine v_imul X dX8_copy_176 ?_
                                    refine v_iload X dX8_copy_177 rfl ?_
                                    refine v_iadd X dX8_copy_179 ?_
                                    refine v_iload X dX8_copy_180 rfl ?_
                                    refine v_iadd X dX8_copy_182 ?_
                                    refine v_aload_n X dX8_copy_183 rfl ?_
                                    refine v_get X (fun _ h => List.mem_cons_of_mem _ (List.mem_append_right _ h)) 0 rfl rfl 4 (by decide) rfl (List.mem_of_getElem? (i := 6) rfl) rfl dX8_copy_184 ?_
                                    refine v_bipush X dX8_copy_187 (by decide) ?_
                                    refine v_iload_n X dX8_copy_189 rfl ?_
                                    refine v_imul X dX8_copy_190 ?_
                                    refine v_iload_n X dX8_copy_191 rfl ?_
                                    refine v_iadd X dX8_copy_192 ?_
                                    refine v_iload X dX8_copy_193 rfl ?_
                                    refine v_iadd X dX8_copy_195 ?_
                                    refine v_iald X 3 rfl (by omega) (by omega) (by omega) dX8_copy_196 h3 (fun zz ezz lzz uzz => ?_)
                                    refine v_iast X 3 rfl (by omega) (by omega) (by omega) dX8_copy_197 ?_
                                    dsimp only [List.set, wMod]
                                    refine v_iinc X dX8_copy_198 rfl (by decide) rfl ?_
                                    dsimp only [List.set]
                                    refine v_goto (tgt := 143) X dX8_copy_201 (by decide) ?_
                                    refine v_drop 8 ?_
                                    dsimp only [List.set]
                                    exact ih143 _ _ _ (by omega) (by omega) (by
                                        first
                                        | exact cpy_up hu h1 h2 g1 g2 (by omega) ezz
                                        | exact cpy_dn hu h1 h2 g1 g2 (by omega) ezz) (by exact Bd_up h3 (by omega) (by omega)) (by omega)
                            exact L143 _ _ _ _ (by omega) (by omega) (by intro x; rw [if_neg (by split <;> omega)]) (by assumption) (Nat.lt_succ_self _)
                          · skip
                            refine v_iconst X dX8_copy_133 ?_
                            refine v_goto (tgt := 138) X dX8_copy_134 (by decide) ?_
                            refine v_istore X dX8_copy_138 (by decide) rfl ?_
                            dsimp only [List.set]
                            refine v_iconst X dX8_copy_140 ?_
                            refine v_istore X dX8_copy_141 (by decide) rfl ?_
                            dsimp only [List.set]
                            have L143 : ∀ (nf : Nat) (f : Nat → Int) (u : Int) (k : Int) (h1 : 0 ≤ k ∧ k ≤ n) (hu : (u = 1 ∧ j ≤ i) ∨ (u = 0 ∧ i < j)) (h2 : ∀ x : Nat, f x = if b * 40 + j + (if u = 1 then 0 else n - k) ≤ (x : Int) ∧ (x : Int) < b * 40 + j + (if u = 1 then k else n) then fi ((a * 40 + i).toNat + (x - (b * 40 + j).toNat)) else fi x) (h3 : Bd (-2147483648) 2147483647 f) (_ : (n - k).toNat < nf), V g x 0 0 (wMod g A (0) (0) ac td lt ln cu tk sa ti ft fp le lf tr fl fm (f) fc ff fw ftp fk fe fr) [some (.ref (A 0)), some (.int (iI a)), some (.int (iI i)), some (.int (iI b)), some (.int (iI j)), some (.int (iI n)), some (.int (iI u)), some (.int (iI k)), none] 143 [] := by
                              intro nf
                              induction nf with
                              | zero => intro f u k h1 hu h2 h3 hmu; exact absurd hmu (Nat.not_lt_zero _)
                              | succ nf ih143 =>
                                intro f u k h1 hu h2 h3 hmu
                                refine v_iload X dX8_copy_143 rfl ?_
                                refine v_iload X dX8_copy_145 rfl ?_
                                refine v_icmp_ge (tgt := 204) X dX8_copy_147 (by decide) (by omega) (by omega) (fun c51 => ?_) (fun c51 => ?_)
                                · skip
                                  refine v_iload X dX8_copy_204 rfl ?_
                                  refine v_iret X Y dX8_copy_206 (u := (0, f)) ?_ rfl
                                  refine Or.inr ⟨by omega, Or.inr ⟨by omega, Or.inr ⟨by omega, Or.inr ⟨by omega, rfl, rfl, ?_⟩⟩⟩⟩
                                  intro x
                                  have e : k = n := by omega
                                  have q := h2 x
                                  rcases hu with hu | hu
                                  · rw [q]; simp only [hu.1, e, if_true, Int.add_zero]
                                  · rw [q]; simp only [hu.1, e, if_false, Int.sub_self, Int.add_zero, show ¬ (0 : Int) = 1 by omega]
                                · skip
                                  refine v_iload X dX8_copy_150 rfl ?_
                                  refine v_if_eq (tgt := 160) X dX8_copy_152 (by decide) (by omega) (fun c52 => ?_) (fun c52 => ?_)
                                  · skip
                                    refine v_iload X dX8_copy_160 rfl ?_
                                    refine v_iconst X dX8_copy_162 ?_
                                    refine v_isub X dX8_copy_163 ?_
                                    refine v_iload X dX8_copy_164 rfl ?_
                                    refine v_isub X dX8_copy_166 ?_
                                    refine v_istore X dX8_copy_167 (by decide) rfl ?_
                                    dsimp only [List.set]
                                    refine v_aload_n X dX8_copy_169 rfl ?_
                                    refine v_get X (fun _ h => List.mem_cons_of_mem _ (List.mem_append_right _ h)) 0 rfl rfl 4 (by decide) rfl (List.mem_of_getElem? (i := 6) rfl) rfl dX8_copy_170 ?_
                                    refine v_bipush X dX8_copy_173 (by decide) ?_
                                    refine v_iload_n X dX8_copy_175 rfl ?_
                                    refine v_imul X dX8_copy_176 ?_
                                    refine v_iload X dX8_copy_177 rfl ?_
                                    refine v_iadd X dX8_copy_179 ?_
                                    refine v_iload X dX8_copy_180 rfl ?_
                                    refine v_iadd X dX8_copy_182 ?_
                                    refine v_aload_n X dX8_copy_183 rfl ?_
                                    refine v_get X (fun _ h => List.mem_cons_of_mem _ (List.mem_append_right _ h)) 0 rfl rfl 4 (by decide) rfl (List.mem_of_getElem? (i := 6) rfl) rfl dX8_copy_184 ?_
                                    refine v_bipush X dX8_copy_187 (by decide) ?_
                                    refine v_iload_n X dX8_copy_189 rfl ?_
                                    refine v_imul X dX8_copy_190 ?_
                                    refine v_iload_n X dX8_copy_191 rfl ?_
                                    refine v_iadd X dX8_copy_192 ?_
                                    refine v_iload X dX8_copy_193 rfl ?_
                                    refine v_iadd X dX8_copy_195 ?_
                                    refine v_iald X 3 rfl (by omega) (by omega) (by omega) dX8_copy_196 h3 (fun zz ezz lzz uzz => ?_)
                                    refine v_iast X 3 rfl (by omega) (by omega) (by omega) dX8_copy_197 ?_
                                    dsimp only [List.set, wMod]
                                    refine v_iinc X dX8_copy_198 rfl (by decide) rfl ?_
                                    dsimp only [List.set]
                                    refine v_goto (tgt := 143) X dX8_copy_201 (by decide) ?_
                                    refine v_drop 8 ?_
                                    dsimp only [List.set]
                                    exact ih143 _ _ _ (by omega) (by omega) (by
                                        first
                                        | exact cpy_up hu h1 h2 g1 g2 (by omega) ezz
                                        | exact cpy_dn hu h1 h2 g1 g2 (by omega) ezz) (by exact Bd_up h3 (by omega) (by omega)) (by omega)
                                  · skip
                                    refine v_iload X dX8_copy_155 rfl ?_
                                    refine v_goto (tgt := 167) X dX8_copy_157 (by decide) ?_
                                    refine v_istore X dX8_copy_167 (by decide) rfl ?_
                                    dsimp only [List.set]
                                    refine v_aload_n X dX8_copy_169 rfl ?_
                                    refine v_get X (fun _ h => List.mem_cons_of_mem _ (List.mem_append_right _ h)) 0 rfl rfl 4 (by decide) rfl (List.mem_of_getElem? (i := 6) rfl) rfl dX8_copy_170 ?_
                                    refine v_bipush X dX8_copy_173 (by decide) ?_
                                    refine v_iload_n X dX8_copy_175 rfl ?_
                                    refine v_imul X dX8_copy_176 ?_
                                    refine v_iload X dX8_copy_177 rfl ?_
                                    refine v_iadd X dX8_copy_179 ?_
                                    refine v_iload X dX8_copy_180 rfl ?_
                                    refine v_iadd X dX8_copy_182 ?_
                                    refine v_aload_n X dX8_copy_183 rfl ?_
                                    refine v_get X (fun _ h => List.mem_cons_of_mem _ (List.mem_append_right _ h)) 0 rfl rfl 4 (by decide) rfl (List.mem_of_getElem? (i := 6) rfl) rfl dX8_copy_184 ?_
                                    refine v_bipush X dX8_copy_187 (by decide) ?_
                                    refine v_iload_n X dX8_copy_189 rfl ?_
                                    refine v_imul X dX8_copy_190 ?_
                                    refine v_iload_n X dX8_copy_191 rfl ?_
                                    refine v_iadd X dX8_copy_192 ?_
                                    refine v_iload X dX8_copy_193 rfl ?_
                                    refine v_iadd X dX8_copy_195 ?_
                                    refine v_iald X 3 rfl (by omega) (by omega) (by omega) dX8_copy_196 h3 (fun zz ezz lzz uzz => ?_)
                                    refine v_iast X 3 rfl (by omega) (by omega) (by omega) dX8_copy_197 ?_
                                    dsimp only [List.set, wMod]
                                    refine v_iinc X dX8_copy_198 rfl (by decide) rfl ?_
                                    dsimp only [List.set]
                                    refine v_goto (tgt := 143) X dX8_copy_201 (by decide) ?_
                                    refine v_drop 8 ?_
                                    dsimp only [List.set]
                                    exact ih143 _ _ _ (by omega) (by omega) (by
                                        first
                                        | exact cpy_up hu h1 h2 g1 g2 (by omega) ezz
                                        | exact cpy_dn hu h1 h2 g1 g2 (by omega) ezz) (by exact Bd_up h3 (by omega) (by omega)) (by omega)
                            exact L143 _ _ _ _ (by omega) (by omega) (by intro x; rw [if_neg (by split <;> omega)]) (by assumption) (Nat.lt_succ_self _)
                        · skip
                          exfalso; omega
          · skip
            refine v_aload_n X dX8_copy_66 rfl ?_
            refine v_iconst X dX8_copy_67 ?_
            refine res_F X (run_V X (c_X8_finding (g := g) ) gX8_copy_X8_finding rfl hdX8_finding ⟨(Nat.le_of_ble_eq_true rfl), (Nat.le_of_ble_eq_true rfl)⟩ ⟨(Nat.le_of_ble_eq_true rfl), (Nat.le_of_ble_eq_true rfl)⟩ 0 rfl rfl rfl [0, 1, 2, 3, 4, 5, 6, 7, 8, 9, 10] rfl rfl rfl rfl (by simp [Value.category]) dX8_copy_68) [0, 1, 2, 3, 4, 5, 6, 7, 8, 9, 10] rfl rfl rfl ?_
            dsimp only [patch, List.set, wMod]
            refine v_iret X Y dX8_copy_71 (u := (5, fi)) ?_ rfl
            exact Or.inr ⟨by omega, Or.inr ⟨by omega, Or.inl ⟨by omega, rfl, rfl⟩⟩⟩
        · skip
          refine v_aload_n X dX8_copy_45 rfl ?_
          refine v_iconst X dX8_copy_46 ?_
          refine res_F X (run_V X (c_X8_finding (g := g) ) gX8_copy_X8_finding rfl hdX8_finding ⟨(Nat.le_of_ble_eq_true rfl), (Nat.le_of_ble_eq_true rfl)⟩ ⟨(Nat.le_of_ble_eq_true rfl), (Nat.le_of_ble_eq_true rfl)⟩ 0 rfl rfl rfl [0, 1, 2, 3, 4, 5, 6, 7, 8, 9, 10] rfl rfl rfl rfl (by simp [Value.category]) dX8_copy_47) [0, 1, 2, 3, 4, 5, 6, 7, 8, 9, 10] rfl rfl rfl ?_
          dsimp only [patch, List.set, wMod]
          refine v_iret X Y dX8_copy_50 (u := (1, fi)) ?_ rfl
          exact Or.inr ⟨by omega, Or.inl ⟨by omega, rfl, rfl⟩⟩
    · skip
      refine v_ldc X (List.mem_of_getElem? (i := 2) rfl) dX8_copy_19 (n := -1000001) (by decide) ?_
      refine v_iret X Y dX8_copy_21 (u := (sq, fi)) ?_ rfl
      exact Or.inl ⟨by omega, rfl, rfl⟩

theorem hdX7_copy : yX7_copy.cls = RX7 ∧ yX7_copy.cls ≠ "java/lang/invoke/MethodHandle" ∧ yX7_copy.cls ≠ "java/lang/invoke/VarHandle" ∧ (parseMethodDescriptor yX7_copy.desc).map (fun d => d.parameters.length) = some 5 := ⟨rfl, by decide +kernel, by decide +kernel, by decide +kernel⟩
set_option maxHeartbeats 4000000 in
set_option maxRecDepth 100000 in
theorem c_X7_copy {g : Gx} {B : Nat → Nat} {lf fi : Int} {it la le : Nat → Int} {a i b j n : Int} (hit : Bd (-2147483648) 2147483647 it) (hla : Bd (-1) 2 la) (hle : Bd 0 40 le) (ha : R32 a) (hi : R32 i) (hb : R32 b) (hj : R32 j) (hn : R32 n) : CtI (S := Int × (Nat → Int)) g yX7_copy wsX7_copy 4 89 [.ref (B 0), .int (iI a), .int (iI i), .int (iI b), .int (iI j), .int (iI n)] (oAH g B (lf) (fi) :: (wRow g (B 1) (B 11) (B 12) (B 13) it la le)) (fun w u => (¬ ((0 ≤ a ∧ a < 8) ∧ (0 ≤ b ∧ b < 8)) ∧ w = -1000001 ∧ u = (fi, it)) ∨ (((0 ≤ a ∧ a < 8) ∧ (0 ≤ b ∧ b < 8)) ∧ (((la a.toNat = -1 ∨ la b.toNat = -1) ∧ w = -1000011 ∧ u = (1, it)) ∨ ((la a.toNat ≠ -1 ∧ la b.toNat ≠ -1) ∧ ((la a.toNat ≠ la b.toNat ∧ w = -1000015 ∧ u = (5, it)) ∨ (la a.toNat = la b.toNat ∧ ((¬ (0 ≤ i ∧ 0 ≤ n ∧ i + n ≤ le a.toNat ∧ 0 ≤ j ∧ j + n ≤ le b.toNat) ∧ w = -1000012 ∧ u = (2, it)) ∨ ((0 ≤ i ∧ 0 ≤ n ∧ i + n ≤ le a.toNat ∧ 0 ≤ j ∧ j + n ≤ le b.toNat) ∧ w = n ∧ u = (0, cpyI it it (a * 40 + i).toNat (b * 40 + j).toNat n.toNat))))))))) (fun u => oAH g B (lf) (u.1) :: (wRow g (B 1) (B 11) (B 12) (B 13) (u.2) la le)) := by
  refine m_go (cc := cX7_copy) (nL := 6) (by decide +kernel) rfl (Nat.le_of_ble_eq_true rfl) (fun x X Y hnm => ?_)
  refine v_eq (lo2 := [some (.ref (B 0)), some (.int (iI a)), some (.int (iI i)), some (.int (iI b)), some (.int (iI j)), some (.int (iI n))]) rfl rfl rfl rfl ?_
  refine v_iload_n X dX7_copy_0 rfl ?_
  refine res_E X (run_S X (c_X7_isRow (g := g) (by first | assumption | omega)) gX7_copy_X7_isRow rfl hdX7_isRow.2 ⟨(Nat.le_of_ble_eq_true rfl), (Nat.le_of_ble_eq_true rfl)⟩ ⟨(Nat.le_of_ble_eq_true rfl), (Nat.le_of_ble_eq_true rfl)⟩ [] rfl rfl rfl rfl (by simp [Value.category]) dX7_copy_1) [] rfl rfl ?_
  refine v_ifb_eq (tgt := 14) X dX7_copy_4 (by decide) (fun c1 => ?_) (fun c1 => ?_)
  · skip
    refine v_ldc X (List.mem_of_getElem? (i := 1) rfl) dX7_copy_14 (n := -1000001) (by decide) ?_
    refine v_iret X Y dX7_copy_16 (u := (fi, it)) ?_ rfl
    exact Or.inl ⟨by omega, rfl, rfl⟩
  · skip
    refine v_iload_n X dX7_copy_7 rfl ?_
    refine res_E X (run_S X (c_X7_isRow (g := g) (by first | assumption | omega)) gX7_copy_X7_isRow rfl hdX7_isRow.2 ⟨(Nat.le_of_ble_eq_true rfl), (Nat.le_of_ble_eq_true rfl)⟩ ⟨(Nat.le_of_ble_eq_true rfl), (Nat.le_of_ble_eq_true rfl)⟩ [] rfl rfl rfl rfl (by simp [Value.category]) dX7_copy_8) [] rfl rfl ?_
    refine v_ifb_ne (tgt := 17) X dX7_copy_11 (by decide) (fun c2 => ?_) (fun c2 => ?_)
    · skip
      have g1 := hle a.toNat
      have g2 := hle b.toNat
      have g3 : lanI la a = la a.toNat := if_pos (by omega)
      have g4 : lanI la b = la b.toNat := if_pos (by omega)
      have g5 : rchI le a i n = if 0 ≤ i ∧ 0 ≤ n ∧ i ≤ le a.toNat - n then 1 else 0 := rchI_n (by omega)
      have g6 : rchI le b j n = if 0 ≤ j ∧ 0 ≤ n ∧ j ≤ le b.toNat - n then 1 else 0 := rchI_n (by omega)
      have g7 := hla a.toNat
      have g8 := hla b.toNat
      refine v_aload_n X dX7_copy_17 rfl ?_
      refine v_get X (fun _ h => List.mem_cons_of_mem _ (List.mem_append_left _ (List.mem_append_right _ h))) 0 rfl rfl 0 (by decide) rfl (List.mem_of_getElem? (i := 2) rfl) rfl dX7_copy_18 ?_
      refine v_iload_n X dX7_copy_21 rfl ?_
      refine res_E X (run_V X (c_X5_isMissing (g := g) (by first | assumption | omega) (by first | assumption | omega)) gX7_copy_X5_isMissing rfl hdX5_isMissing ⟨(Nat.le_of_ble_eq_true rfl), (Nat.le_of_ble_eq_true rfl)⟩ ⟨(Nat.le_of_ble_eq_true rfl), (Nat.le_of_ble_eq_true rfl)⟩ 1 rfl rfl rfl [1, 2, 3, 4] rfl rfl rfl rfl (by simp [Value.category]) dX7_copy_22) [1, 2, 3, 4] rfl rfl ?_
      refine v_ifb_ne (tgt := 39) X dX7_copy_25 (by decide) (fun c3 => ?_) (fun c3 => ?_)
      · skip
        refine v_aload_n X dX7_copy_39 rfl ?_
        refine v_iconst X dX7_copy_40 ?_
        refine res_F X (run_V X (c_X7_found (g := g) ) gX7_copy_X7_found rfl hdX7_found ⟨(Nat.le_of_ble_eq_true rfl), (Nat.le_of_ble_eq_true rfl)⟩ ⟨(Nat.le_of_ble_eq_true rfl), (Nat.le_of_ble_eq_true rfl)⟩ 0 rfl rfl rfl [0] rfl rfl rfl rfl (by simp [Value.category]) dX7_copy_41) [0] rfl rfl rfl ?_
        dsimp only [patch, List.set, List.cons_append, List.nil_append, oAH, wRow]
        refine v_iret X Y dX7_copy_44 (u := (1, it)) ?_ rfl
        exact Or.inr ⟨by omega, Or.inl ⟨by omega, rfl, rfl⟩⟩
      · skip
        refine v_aload_n X dX7_copy_28 rfl ?_
        refine v_get X (fun _ h => List.mem_cons_of_mem _ (List.mem_append_left _ (List.mem_append_right _ h))) 0 rfl rfl 0 (by decide) rfl (List.mem_of_getElem? (i := 2) rfl) rfl dX7_copy_29 ?_
        refine v_iload_n X dX7_copy_32 rfl ?_
        refine res_E X (run_V X (c_X5_isMissing (g := g) (by first | assumption | omega) (by first | assumption | omega)) gX7_copy_X5_isMissing rfl hdX5_isMissing ⟨(Nat.le_of_ble_eq_true rfl), (Nat.le_of_ble_eq_true rfl)⟩ ⟨(Nat.le_of_ble_eq_true rfl), (Nat.le_of_ble_eq_true rfl)⟩ 1 rfl rfl rfl [1, 2, 3, 4] rfl rfl rfl rfl (by simp [Value.category]) dX7_copy_33) [1, 2, 3, 4] rfl rfl ?_
        refine v_ifb_eq (tgt := 45) X dX7_copy_36 (by decide) (fun c4 => ?_) (fun c4 => ?_)
        · skip
          refine v_aload_n X dX7_copy_45 rfl ?_
          refine v_get X (fun _ h => List.mem_cons_of_mem _ (List.mem_append_left _ (List.mem_append_right _ h))) 0 rfl rfl 0 (by decide) rfl (List.mem_of_getElem? (i := 2) rfl) rfl dX7_copy_46 ?_
          refine v_iload_n X dX7_copy_49 rfl ?_
          refine res_E X (run_V X (c_X5_laneOf (g := g) (by first | assumption | omega) (by first | assumption | omega)) gX7_copy_X5_laneOf rfl hdX5_laneOf ⟨(Nat.le_of_ble_eq_true rfl), (Nat.le_of_ble_eq_true rfl)⟩ ⟨(Nat.le_of_ble_eq_true rfl), (Nat.le_of_ble_eq_true rfl)⟩ 1 rfl rfl rfl [1, 2, 3, 4] rfl rfl rfl rfl (by simp [Value.category]) dX7_copy_50) [1, 2, 3, 4] rfl rfl ?_
          refine v_aload_n X dX7_copy_53 rfl ?_
          refine v_get X (fun _ h => List.mem_cons_of_mem _ (List.mem_append_left _ (List.mem_append_right _ h))) 0 rfl rfl 0 (by decide) rfl (List.mem_of_getElem? (i := 2) rfl) rfl dX7_copy_54 ?_
          refine v_iload_n X dX7_copy_57 rfl ?_
          refine res_E X (run_V X (c_X5_laneOf (g := g) (by first | assumption | omega) (by first | assumption | omega)) gX7_copy_X5_laneOf rfl hdX5_laneOf ⟨(Nat.le_of_ble_eq_true rfl), (Nat.le_of_ble_eq_true rfl)⟩ ⟨(Nat.le_of_ble_eq_true rfl), (Nat.le_of_ble_eq_true rfl)⟩ 1 rfl rfl rfl [1, 2, 3, 4] rfl rfl rfl rfl (by simp [Value.category]) dX7_copy_58) [1, 2, 3, 4] rfl rfl ?_
          refine v_icmp_eq (tgt := 70) X dX7_copy_61 (by decide) (by omega) (by omega) (fun c5 => ?_) (fun c5 => ?_)
          · skip
            refine v_aload_n X dX7_copy_70 rfl ?_
            refine v_get X (fun _ h => List.mem_cons_of_mem _ (List.mem_append_left _ (List.mem_append_right _ h))) 0 rfl rfl 0 (by decide) rfl (List.mem_of_getElem? (i := 2) rfl) rfl dX7_copy_71 ?_
            refine v_iload_n X dX7_copy_74 rfl ?_
            refine v_iload_n X dX7_copy_75 rfl ?_
            refine v_iload X dX7_copy_76 rfl ?_
            refine res_E X (run_V X (c_X5_reaches (g := g) (by first | assumption | omega) (by first | assumption | omega) (by first | assumption | omega) (by first | assumption | omega)) gX7_copy_X5_reaches rfl hdX5_reaches ⟨(Nat.le_of_ble_eq_true rfl), (Nat.le_of_ble_eq_true rfl)⟩ ⟨(Nat.le_of_ble_eq_true rfl), (Nat.le_of_ble_eq_true rfl)⟩ 1 rfl rfl rfl [1, 2, 3, 4] rfl rfl rfl rfl (by simp [Value.category]) dX7_copy_78) [1, 2, 3, 4] rfl rfl ?_
            rw [g5]
            refine v_ifb_eq (tgt := 99) X dX7_copy_81 (by decide) (fun c6 => ?_) (fun c6 => ?_)
            · skip
              refine v_aload_n X dX7_copy_99 rfl ?_
              refine v_iconst X dX7_copy_100 ?_
              refine res_F X (run_V X (c_X7_found (g := g) ) gX7_copy_X7_found rfl hdX7_found ⟨(Nat.le_of_ble_eq_true rfl), (Nat.le_of_ble_eq_true rfl)⟩ ⟨(Nat.le_of_ble_eq_true rfl), (Nat.le_of_ble_eq_true rfl)⟩ 0 rfl rfl rfl [0] rfl rfl rfl rfl (by simp [Value.category]) dX7_copy_101) [0] rfl rfl rfl ?_
              dsimp only [patch, List.set, List.cons_append, List.nil_append, oAH, wRow]
              refine v_iret X Y dX7_copy_104 (u := (2, it)) ?_ rfl
              exact Or.inr ⟨by omega, Or.inr ⟨by omega, Or.inr ⟨by omega, Or.inl ⟨by omega, rfl, rfl⟩⟩⟩⟩
            · skip
              refine v_aload_n X dX7_copy_84 rfl ?_
              refine v_get X (fun _ h => List.mem_cons_of_mem _ (List.mem_append_left _ (List.mem_append_right _ h))) 0 rfl rfl 0 (by decide) rfl (List.mem_of_getElem? (i := 2) rfl) rfl dX7_copy_85 ?_
              refine v_iload_n X dX7_copy_88 rfl ?_
              refine v_iload X dX7_copy_89 rfl ?_
              refine v_iload X dX7_copy_91 rfl ?_
              refine res_E X (run_V X (c_X5_reaches (g := g) (by first | assumption | omega) (by first | assumption | omega) (by first | assumption | omega) (by first | assumption | omega)) gX7_copy_X5_reaches rfl hdX5_reaches ⟨(Nat.le_of_ble_eq_true rfl), (Nat.le_of_ble_eq_true rfl)⟩ ⟨(Nat.le_of_ble_eq_true rfl), (Nat.le_of_ble_eq_true rfl)⟩ 1 rfl rfl rfl [1, 2, 3, 4] rfl rfl rfl rfl (by simp [Value.category]) dX7_copy_93) [1, 2, 3, 4] rfl rfl ?_
              rw [g6]
              refine v_ifb_ne (tgt := 105) X dX7_copy_96 (by decide) (fun c7 => ?_) (fun c7 => ?_)
              · skip
                refine v_aload_n X dX7_copy_105 rfl ?_
                refine v_get X (fun _ h => List.mem_cons_of_mem _ (List.mem_append_left _ (List.mem_append_right _ h))) 0 rfl rfl 0 (by decide) rfl (List.mem_of_getElem? (i := 2) rfl) rfl dX7_copy_106 ?_
                refine v_iload_n X dX7_copy_109 rfl ?_
                refine v_iload_n X dX7_copy_110 rfl ?_
                refine v_iload_n X dX7_copy_111 rfl ?_
                refine v_iload X dX7_copy_112 rfl ?_
                refine v_iload X dX7_copy_114 rfl ?_
                refine res_W X (run_V X (c_X5_move (g := g) (by first | assumption | omega) (by first | assumption | omega) (by first | assumption | omega) (by first | assumption | omega) (by first | assumption | omega) (by first | assumption | omega)) gX7_copy_X5_move rfl hdX5_move ⟨(Nat.le_of_ble_eq_true rfl), (Nat.le_of_ble_eq_true rfl)⟩ ⟨(Nat.le_of_ble_eq_true rfl), (Nat.le_of_ble_eq_true rfl)⟩ 1 rfl rfl rfl [1, 2, 3, 4] rfl rfl rfl rfl (by simp [Value.category]) dX7_copy_116) [1, 2, 3, 4] rfl rfl rfl ?_
                dsimp only [patch, List.set, List.cons_append, List.nil_append, oAH, wRow]
                refine v_aload_n X dX7_copy_119 rfl ?_
                refine v_iload X dX7_copy_120 rfl ?_
                refine res_F X (run_V X (c_X7_fine (g := g) ) gX7_copy_X7_fine rfl hdX7_fine ⟨(Nat.le_of_ble_eq_true rfl), (Nat.le_of_ble_eq_true rfl)⟩ ⟨(Nat.le_of_ble_eq_true rfl), (Nat.le_of_ble_eq_true rfl)⟩ 0 rfl rfl rfl [0] rfl rfl rfl rfl (by simp [Value.category]) dX7_copy_122) [0] rfl rfl rfl ?_
                dsimp only [patch, List.set, List.cons_append, List.nil_append, oAH, wRow]
                refine v_iret X Y dX7_copy_125 (u := (0, cpyI it it (a * 40 + i).toNat (b * 40 + j).toNat n.toNat)) ?_ rfl
                exact Or.inr ⟨by omega, Or.inr ⟨by omega, Or.inr ⟨by omega, Or.inr ⟨by omega, rfl, rfl⟩⟩⟩⟩
              · skip
                refine v_aload_n X dX7_copy_99 rfl ?_
                refine v_iconst X dX7_copy_100 ?_
                refine res_F X (run_V X (c_X7_found (g := g) ) gX7_copy_X7_found rfl hdX7_found ⟨(Nat.le_of_ble_eq_true rfl), (Nat.le_of_ble_eq_true rfl)⟩ ⟨(Nat.le_of_ble_eq_true rfl), (Nat.le_of_ble_eq_true rfl)⟩ 0 rfl rfl rfl [0] rfl rfl rfl rfl (by simp [Value.category]) dX7_copy_101) [0] rfl rfl rfl ?_
                dsimp only [patch, List.set, List.cons_append, List.nil_append, oAH, wRow]
                refine v_iret X Y dX7_copy_104 (u := (2, it)) ?_ rfl
                exact Or.inr ⟨by omega, Or.inr ⟨by omega, Or.inr ⟨by omega, Or.inl ⟨by omega, rfl, rfl⟩⟩⟩⟩
          · skip
            refine v_aload_n X dX7_copy_64 rfl ?_
            refine v_iconst X dX7_copy_65 ?_
            refine res_F X (run_V X (c_X7_found (g := g) ) gX7_copy_X7_found rfl hdX7_found ⟨(Nat.le_of_ble_eq_true rfl), (Nat.le_of_ble_eq_true rfl)⟩ ⟨(Nat.le_of_ble_eq_true rfl), (Nat.le_of_ble_eq_true rfl)⟩ 0 rfl rfl rfl [0] rfl rfl rfl rfl (by simp [Value.category]) dX7_copy_66) [0] rfl rfl rfl ?_
            dsimp only [patch, List.set, List.cons_append, List.nil_append, oAH, wRow]
            refine v_iret X Y dX7_copy_69 (u := (5, it)) ?_ rfl
            exact Or.inr ⟨by omega, Or.inr ⟨by omega, Or.inl ⟨by omega, rfl, rfl⟩⟩⟩
        · skip
          refine v_aload_n X dX7_copy_39 rfl ?_
          refine v_iconst X dX7_copy_40 ?_
          refine res_F X (run_V X (c_X7_found (g := g) ) gX7_copy_X7_found rfl hdX7_found ⟨(Nat.le_of_ble_eq_true rfl), (Nat.le_of_ble_eq_true rfl)⟩ ⟨(Nat.le_of_ble_eq_true rfl), (Nat.le_of_ble_eq_true rfl)⟩ 0 rfl rfl rfl [0] rfl rfl rfl rfl (by simp [Value.category]) dX7_copy_41) [0] rfl rfl rfl ?_
          dsimp only [patch, List.set, List.cons_append, List.nil_append, oAH, wRow]
          refine v_iret X Y dX7_copy_44 (u := (1, it)) ?_ rfl
          exact Or.inr ⟨by omega, Or.inl ⟨by omega, rfl, rfl⟩⟩
    · skip
      refine v_ldc X (List.mem_of_getElem? (i := 1) rfl) dX7_copy_14 (n := -1000001) (by decide) ?_
      refine v_iret X Y dX7_copy_16 (u := (fi, it)) ?_ rfl
      exact Or.inl ⟨by omega, rfl, rfl⟩

theorem hdX8_kind : yX8_kind.cls = RX8 ∧ yX8_kind.cls ≠ "java/lang/invoke/MethodHandle" ∧ yX8_kind.cls ≠ "java/lang/invoke/VarHandle" ∧ (parseMethodDescriptor yX8_kind.desc).map (fun d => d.parameters.length) = some 1 := ⟨rfl, by decide +kernel, by decide +kernel, by decide +kernel⟩
set_option maxHeartbeats 4000000 in
set_option maxRecDepth 100000 in
theorem c_X8_kind {g : Gx} {A : Nat → Nat} {th sq ac td lt ln cu tk sa ti ft fp le lf tr : Int} {fl fm fi fc ff fw ftp fk fe fr : Nat → Int} {h : Int} (hfc : Bd 0 60 fc) (hc1 : 0 ≤ fc 1 ∧ fc 1 ≤ 4) (hh : R32 h) : CtE g yX8_kind wsX8_kind 2 46 [.ref (A 0), .int (iI h)] (wMod g A th sq ac td lt ln cu tk sa ti ft fp le lf tr fl fm fi fc ff fw ftp fk fe fr) (if 0 ≤ h ∧ h < fc 1 then atI 4 (kM fc) h else -1000001) (wMod g A (0) sq ac td lt ln cu tk sa ti ft fp le lf tr fl fm fi fc ff fw ftp fk fe fr) := by
  refine m_go (cc := cX8_kind) (nL := 2) (by decide +kernel) rfl (Nat.le_of_ble_eq_true rfl) (fun x X Y hnm => ?_)
  refine v_eq (lo2 := [some (.ref (A 0)), some (.int (iI h))]) rfl rfl rfl rfl ?_
  refine v_aload_n X dX8_kind_0 rfl ?_
  refine v_iconst X dX8_kind_1 ?_
  refine v_put X (fun _ h => List.mem_cons_of_mem _ (List.mem_append_right _ h)) tyX8 tyX8_ok nmX8 0 rfl rfl 0 (by decide) rfl (List.mem_of_getElem? (i := 1) rfl) rfl rfl rfl (Nat.le_of_ble_eq_true rfl) dX8_kind_2 ?_
  dsimp only [List.set, wMod]
  refine v_aload_n X dX8_kind_5 rfl ?_
  refine v_iload_n X dX8_kind_6 rfl ?_
  refine res_E X (run_V X (c_X8_isHand (g := g) (by first | assumption | omega) (by first | assumption | omega)) gX8_kind_X8_isHand rfl hdX8_isHand ⟨(Nat.le_of_ble_eq_true rfl), (Nat.le_of_ble_eq_true rfl)⟩ ⟨(Nat.le_of_ble_eq_true rfl), (Nat.le_of_ble_eq_true rfl)⟩ 0 rfl rfl rfl [0, 1, 2, 3, 4, 5, 6, 7, 8, 9, 10] rfl rfl rfl rfl (by simp [Value.category]) dX8_kind_7) [0, 1, 2, 3, 4, 5, 6, 7, 8, 9, 10] rfl rfl ?_
  refine v_ifb_eq (tgt := 22) X dX8_kind_10 (by decide) (fun c1 => ?_) (fun c1 => ?_)
  · skip
    refine v_ldc X (List.mem_of_getElem? (i := 2) rfl) dX8_kind_22 (n := -1000001) (by decide) ?_
    exact v_iret X Y dX8_kind_24 (u := ()) (by first | rw [if_pos (by assumption)] | rw [if_neg (by assumption)]) (by rfl)
  · skip
    refine v_aload_n X dX8_kind_13 rfl ?_
    refine v_iload_n X dX8_kind_14 rfl ?_
    refine v_iconst X dX8_kind_15 ?_
    refine res_E X (run_V X (c_X8_of (g := g) (by first | assumption | omega) (by first | assumption | omega) (by first | assumption | omega)) gX8_kind_X8_of rfl hdX8_of ⟨(Nat.le_of_ble_eq_true rfl), (Nat.le_of_ble_eq_true rfl)⟩ ⟨(Nat.le_of_ble_eq_true rfl), (Nat.le_of_ble_eq_true rfl)⟩ 0 rfl rfl rfl [0, 1, 2, 3, 4, 5, 6, 7, 8, 9, 10] rfl rfl rfl rfl (by simp [Value.category]) dX8_kind_16) [0, 1, 2, 3, 4, 5, 6, 7, 8, 9, 10] rfl rfl ?_
    rw [kM_at (by omega)]
    refine v_goto (tgt := 24) X dX8_kind_19 (by decide) ?_
    exact v_iret X Y dX8_kind_24 (u := ()) (by first | rw [if_pos (by assumption)] | rw [if_neg (by assumption)]) (by rfl)

theorem hdX8_as : yX8_as.cls = RX8 ∧ yX8_as.cls ≠ "java/lang/invoke/MethodHandle" ∧ yX8_as.cls ≠ "java/lang/invoke/VarHandle" ∧ (parseMethodDescriptor yX8_as.desc).map (fun d => d.parameters.length) = some 2 := ⟨rfl, by decide +kernel, by decide +kernel, by decide +kernel⟩
set_option maxHeartbeats 4000000 in
set_option maxRecDepth 100000 in
theorem c_X8_as {g : Gx} {A : Nat → Nat} {th sq ac td lt ln cu tk sa ti ft fp le lf tr : Int} {fl fm fi fc ff fw ftp fk fe fr : Nat → Int} {h w : Int} (hfc : Bd 0 60 fc) (hc1 : 0 ≤ fc 1 ∧ fc 1 ≤ 4) (hh : R32 h) (hw : R32 w) : CtI (S := Int) g yX8_as wsX8_as 2 46 [.ref (A 0), .int (iI h), .int (iI w)] (wMod g A th sq ac td lt ln cu tk sa ti ft fp le lf tr fl fm fi fc ff fw ftp fk fe fr) (fun v u => (¬ ((0 ≤ h ∧ h < fc 1) ∧ 0 ≤ w ∧ w ≤ 5) ∧ v = -1000001 ∧ u = sq) ∨ (((0 ≤ h ∧ h < fc 1) ∧ 0 ≤ w ∧ w ≤ 5) ∧ ((okM (atI 4 (kM fc) h) w ∧ v = h ∧ u = 0) ∨ (¬ okM (atI 4 (kM fc) h) w ∧ v = -1000013 ∧ u = 3)))) (fun u => wMod g A (0) (u) ac td lt ln cu tk sa ti ft fp le lf tr fl fm fi fc ff fw ftp fk fe fr) := by
  refine m_go (cc := cX8_as) (nL := 3) (by decide +kernel) rfl (Nat.le_of_ble_eq_true rfl) (fun x X Y hnm => ?_)
  refine v_eq (lo2 := [some (.ref (A 0)), some (.int (iI h)), some (.int (iI w))]) rfl rfl rfl rfl ?_
  refine v_aload_n X dX8_as_0 rfl ?_
  refine v_iconst X dX8_as_1 ?_
  refine v_put X (fun _ h => List.mem_cons_of_mem _ (List.mem_append_right _ h)) tyX8 tyX8_ok nmX8 0 rfl rfl 0 (by decide) rfl (List.mem_of_getElem? (i := 1) rfl) rfl rfl rfl (Nat.le_of_ble_eq_true rfl) dX8_as_2 ?_
  dsimp only [List.set, wMod]
  refine v_aload_n X dX8_as_5 rfl ?_
  refine v_iload_n X dX8_as_6 rfl ?_
  refine res_E X (run_V X (c_X8_isHand (g := g) (by first | assumption | omega) (by first | assumption | omega)) gX8_as_X8_isHand rfl hdX8_isHand ⟨(Nat.le_of_ble_eq_true rfl), (Nat.le_of_ble_eq_true rfl)⟩ ⟨(Nat.le_of_ble_eq_true rfl), (Nat.le_of_ble_eq_true rfl)⟩ 0 rfl rfl rfl [0, 1, 2, 3, 4, 5, 6, 7, 8, 9, 10] rfl rfl rfl rfl (by simp [Value.category]) dX8_as_7) [0, 1, 2, 3, 4, 5, 6, 7, 8, 9, 10] rfl rfl ?_
  refine v_ifb_eq (tgt := 25) X dX8_as_10 (by decide) (fun c1 => ?_) (fun c1 => ?_)
  · skip
    refine v_ldc X (List.mem_of_getElem? (i := 3) rfl) dX8_as_25 (n := -1000001) (by decide) ?_
    refine v_iret X Y dX8_as_27 (u := sq) ?_ rfl
    first | exact Or.inl ⟨by omega, rfl, rfl⟩ | exact Or.inr ⟨by omega, Or.inl ⟨by unfold okM; assumption, rfl, rfl⟩⟩ | exact Or.inr ⟨by omega, Or.inr ⟨by unfold okM; assumption, rfl, rfl⟩⟩
  · skip
    refine v_iload_n X dX8_as_13 rfl ?_
    refine v_i2l X dX8_as_14 (by omega) ?_
    refine v_lconst0 X dX8_as_15 ?_
    refine v_ldc2 X (List.mem_of_getElem? (i := 2) rfl) dX8_as_16 (n := 5) (by decide) ?_
    refine res_E X (run_S X (c_X8_in (g := g) (by first | assumption | omega) (by first | assumption | omega) (by first | assumption | omega)) gX8_as_X8_in rfl hdX8_in.2 ⟨(Nat.le_of_ble_eq_true rfl), (Nat.le_of_ble_eq_true rfl)⟩ ⟨(Nat.le_of_ble_eq_true rfl), (Nat.le_of_ble_eq_true rfl)⟩ [] rfl rfl rfl rfl (by simp [Value.category]) dX8_as_19) [] rfl rfl ?_
    refine v_ifb_ne (tgt := 28) X dX8_as_22 (by decide) (fun c2 => ?_) (fun c2 => ?_)
    · skip
      refine v_aload_n X dX8_as_28 rfl ?_
      refine v_iconst X dX8_as_29 ?_
      refine v_put X (fun _ h => List.mem_cons_of_mem _ (List.mem_append_right _ h)) tyX8 tyX8_ok nmX8 0 rfl rfl 1 (by decide) rfl (List.mem_of_getElem? (i := 4) rfl) rfl rfl rfl (Nat.le_of_ble_eq_true rfl) dX8_as_30 ?_
      dsimp only [List.set, wMod]
      refine v_aload_n X dX8_as_33 rfl ?_
      refine v_iload_n X dX8_as_34 rfl ?_
      refine v_iconst X dX8_as_35 ?_
      refine res_E X (run_V X (c_X8_of (g := g) (by first | assumption | omega) (by first | assumption | omega) (by first | assumption | omega)) gX8_as_X8_of rfl hdX8_of ⟨(Nat.le_of_ble_eq_true rfl), (Nat.le_of_ble_eq_true rfl)⟩ ⟨(Nat.le_of_ble_eq_true rfl), (Nat.le_of_ble_eq_true rfl)⟩ 0 rfl rfl rfl [0, 1, 2, 3, 4, 5, 6, 7, 8, 9, 10] rfl rfl rfl rfl (by simp [Value.category]) dX8_as_36) [0, 1, 2, 3, 4, 5, 6, 7, 8, 9, 10] rfl rfl ?_
      refine v_iload_n X dX8_as_39 rfl ?_
      refine res_E X (run_S X (c_X8_isOf (g := g) (by first | assumption | omega) (by first | assumption | omega)) gX8_as_X8_isOf rfl hdX8_isOf.2 ⟨(Nat.le_of_ble_eq_true rfl), (Nat.le_of_ble_eq_true rfl)⟩ ⟨(Nat.le_of_ble_eq_true rfl), (Nat.le_of_ble_eq_true rfl)⟩ [] rfl rfl rfl rfl (by simp [Value.category]) dX8_as_40) [] rfl rfl ?_
      refine v_ifb_eq (tgt := 50) X dX8_as_43 (by decide) (fun c3 => ?_) (fun c3 => ?_)
      · skip
        refine v_aload_n X dX8_as_50 rfl ?_
        refine v_iconst X dX8_as_51 ?_
        refine res_F X (run_V X (c_X8_finding (g := g) ) gX8_as_X8_finding rfl hdX8_finding ⟨(Nat.le_of_ble_eq_true rfl), (Nat.le_of_ble_eq_true rfl)⟩ ⟨(Nat.le_of_ble_eq_true rfl), (Nat.le_of_ble_eq_true rfl)⟩ 0 rfl rfl rfl [0, 1, 2, 3, 4, 5, 6, 7, 8, 9, 10] rfl rfl rfl rfl (by simp [Value.category]) dX8_as_52) [0, 1, 2, 3, 4, 5, 6, 7, 8, 9, 10] rfl rfl rfl ?_
        dsimp only [patch, List.set, wMod]
        refine v_iret X Y dX8_as_55 (u := sq) ?_ rfl
        first | exact Or.inl ⟨by omega, rfl, rfl⟩ | exact Or.inr ⟨by omega, Or.inl ⟨by unfold okM; assumption, rfl, rfl⟩⟩ | exact Or.inr ⟨by omega, Or.inr ⟨by unfold okM; assumption, rfl, rfl⟩⟩
      · skip
        refine v_iload_n X dX8_as_46 rfl ?_
        refine v_goto (tgt := 55) X dX8_as_47 (by decide) ?_
        refine v_iret X Y dX8_as_55 (u := sq) ?_ rfl
        first | exact Or.inl ⟨by omega, rfl, rfl⟩ | exact Or.inr ⟨by omega, Or.inl ⟨by unfold okM; assumption, rfl, rfl⟩⟩ | exact Or.inr ⟨by omega, Or.inr ⟨by unfold okM; assumption, rfl, rfl⟩⟩
    · skip
      refine v_ldc X (List.mem_of_getElem? (i := 3) rfl) dX8_as_25 (n := -1000001) (by decide) ?_
      refine v_iret X Y dX8_as_27 (u := sq) ?_ rfl
      first | exact Or.inl ⟨by omega, rfl, rfl⟩ | exact Or.inr ⟨by omega, Or.inl ⟨by unfold okM; assumption, rfl, rfl⟩⟩ | exact Or.inr ⟨by omega, Or.inr ⟨by unfold okM; assumption, rfl, rfl⟩⟩

theorem hdX8_fault : yX8_fault.cls = RX8 ∧ yX8_fault.cls ≠ "java/lang/invoke/MethodHandle" ∧ yX8_fault.cls ≠ "java/lang/invoke/VarHandle" ∧ (parseMethodDescriptor yX8_fault.desc).map (fun d => d.parameters.length) = some 0 := ⟨rfl, by decide +kernel, by decide +kernel, by decide +kernel⟩
set_option maxHeartbeats 4000000 in
set_option maxRecDepth 100000 in
theorem c_X8_fault {g : Gx} {A : Nat → Nat} {th sq ac td lt ln cu tk sa ti ft fp le lf tr : Int} {fl fm fi fc ff fw ftp fk fe fr : Nat → Int}   : CtE g yX8_fault wsX8_fault 0 0 [.ref (A 0)] (wMod g A th sq ac td lt ln cu tk sa ti ft fp le lf tr fl fm fi fc ff fw ftp fk fe fr) (lt) (wMod g A (0) sq ac td lt ln cu tk sa ti ft fp le lf tr fl fm fi fc ff fw ftp fk fe fr) := by
  refine m_go (cc := cX8_fault) (nL := 1) (by decide +kernel) rfl (Nat.le_of_ble_eq_true rfl) (fun x X Y hnm => ?_)
  refine v_eq (lo2 := [some (.ref (A 0))]) rfl rfl rfl rfl ?_
  refine v_aload_n X dX8_fault_0 rfl ?_
  refine v_iconst X dX8_fault_1 ?_
  refine v_put X (fun _ h => List.mem_cons_of_mem _ (List.mem_append_right _ h)) tyX8 tyX8_ok nmX8 0 rfl rfl 0 (by decide) rfl (List.mem_of_getElem? (i := 1) rfl) rfl rfl rfl (Nat.le_of_ble_eq_true rfl) dX8_fault_2 ?_
  dsimp only [List.set, wMod]
  refine v_aload_n X dX8_fault_5 rfl ?_
  refine v_get X (fun _ h => List.mem_cons_of_mem _ (List.mem_append_right _ h)) 0 rfl rfl 11 (by decide) rfl (List.mem_of_getElem? (i := 2) rfl) rfl dX8_fault_6 ?_
  exact v_iret X Y dX8_fault_9 (u := ()) (by first | rfl | omega | (split <;> omega) | (simp [*]; done)) (by rfl)

theorem hdX8_status : yX8_status.cls = RX8 ∧ yX8_status.cls ≠ "java/lang/invoke/MethodHandle" ∧ yX8_status.cls ≠ "java/lang/invoke/VarHandle" ∧ (parseMethodDescriptor yX8_status.desc).map (fun d => d.parameters.length) = some 0 := ⟨rfl, by decide +kernel, by decide +kernel, by decide +kernel⟩
set_option maxHeartbeats 4000000 in
set_option maxRecDepth 100000 in
theorem c_X8_status {g : Gx} {A : Nat → Nat} {th sq ac td lt ln cu tk sa ti ft fp le lf tr : Int} {fl fm fi fc ff fw ftp fk fe fr : Nat → Int}   : CtE g yX8_status wsX8_status 0 0 [.ref (A 0)] (wMod g A th sq ac td lt ln cu tk sa ti ft fp le lf tr fl fm fi fc ff fw ftp fk fe fr) (sq) (wMod g A (0) sq ac td lt ln cu tk sa ti ft fp le lf tr fl fm fi fc ff fw ftp fk fe fr) := by
  refine m_go (cc := cX8_status) (nL := 1) (by decide +kernel) rfl (Nat.le_of_ble_eq_true rfl) (fun x X Y hnm => ?_)
  refine v_eq (lo2 := [some (.ref (A 0))]) rfl rfl rfl rfl ?_
  refine v_aload_n X dX8_status_0 rfl ?_
  refine v_iconst X dX8_status_1 ?_
  refine v_put X (fun _ h => List.mem_cons_of_mem _ (List.mem_append_right _ h)) tyX8 tyX8_ok nmX8 0 rfl rfl 0 (by decide) rfl (List.mem_of_getElem? (i := 1) rfl) rfl rfl rfl (Nat.le_of_ble_eq_true rfl) dX8_status_2 ?_
  dsimp only [List.set, wMod]
  refine v_aload_n X dX8_status_5 rfl ?_
  refine v_get X (fun _ h => List.mem_cons_of_mem _ (List.mem_append_right _ h)) 0 rfl rfl 1 (by decide) rfl (List.mem_of_getElem? (i := 2) rfl) rfl dX8_status_6 ?_
  exact v_iret X Y dX8_status_9 (u := ()) (by first | rfl | omega | (split <;> omega) | (simp [*]; done)) (by rfl)

