theorem hdJ9_floorMod_7cf53 : yJ9_floorMod_7cf53.cls = RJ9 ∧ yJ9_floorMod_7cf53.cls ≠ "java/lang/invoke/MethodHandle" ∧ yJ9_floorMod_7cf53.cls ≠ "java/lang/invoke/VarHandle" ∧ (parseMethodDescriptor yJ9_floorMod_7cf53.desc).map (fun d => d.parameters.length) = some 2 := ⟨rfl, by decide +kernel, by decide +kernel, by decide +kernel⟩
set_option maxHeartbeats 4000000 in
set_option maxRecDepth 100000 in
theorem c_J9_floorMod_7cf53 {g : Gx} {a b : Int} (ha : R32 a) (hb : R32 b) (h0 : 0 < b) : CtE g yJ9_floorMod_7cf53 wsJ9_floorMod_7cf53 0 0 [.int (iI a), .int (iI b)] ([]) (a % b) ([]) := by
  refine m_go (cc := cJ9_floorMod_7cf53) (nL := 3) (by decide) rfl (Nat.le_of_ble_eq_true rfl) (fun x X Y hnm => ?_)
  refine v_eq (lo2 := [some (.int (iI a)), some (.int (iI b)), none]) rfl rfl rfl rfl ?_
  have q1 := tmod_emod (x := a) h0
  have q2 := tmod_neg (x := a) h0
  have q3 := iXor_neg ha hb h0
  have q4 := iXor_r a b
  have q5 := Int.tmod_lt_of_pos a h0
  have q6 := Int.lt_tmod_of_pos a h0
  refine v_iload_n X dJ9_floorMod_7cf53_0 rfl ?_
  refine v_iload_n X dJ9_floorMod_7cf53_1 rfl ?_
  refine v_irem X dJ9_floorMod_7cf53_2 (by omega) (by omega) (by omega) ?_
  refine v_istore_n X dJ9_floorMod_7cf53_3 2 rfl (by decide) rfl ?_
  dsimp only [List.set]
  refine v_iload_n X dJ9_floorMod_7cf53_4 rfl ?_
  refine v_iload_n X dJ9_floorMod_7cf53_5 rfl ?_
  refine v_ixor X dJ9_floorMod_7cf53_6 ?_
  refine v_if_ge (tgt := 18) X dJ9_floorMod_7cf53_7 (by decide) (by omega) (fun c1 => ?_) (fun c1 => ?_)
  · skip
    refine v_iload_n X dJ9_floorMod_7cf53_18 rfl ?_
    exact v_iret X Y dJ9_floorMod_7cf53_19 (u := ()) (by rw [q1]; split <;> omega) rfl
  · skip
    refine v_iload_n X dJ9_floorMod_7cf53_10 rfl ?_
    refine v_if_eq (tgt := 18) X dJ9_floorMod_7cf53_11 (by decide) (by omega) (fun c2 => ?_) (fun c2 => ?_)
    · skip
      refine v_iload_n X dJ9_floorMod_7cf53_18 rfl ?_
      exact v_iret X Y dJ9_floorMod_7cf53_19 (u := ()) (by rw [q1]; split <;> omega) rfl
    · skip
      refine v_iload_n X dJ9_floorMod_7cf53_14 rfl ?_
      refine v_iload_n X dJ9_floorMod_7cf53_15 rfl ?_
      refine v_iadd X dJ9_floorMod_7cf53_16 ?_
      exact v_iret X Y dJ9_floorMod_7cf53_17 (u := ()) (by rw [q1]; split <;> omega) rfl

theorem hdX7_rest : yX7_rest.cls = RX7 ∧ yX7_rest.cls ≠ "java/lang/invoke/MethodHandle" ∧ yX7_rest.cls ≠ "java/lang/invoke/VarHandle" ∧ (parseMethodDescriptor yX7_rest.desc).map (fun d => d.parameters.length) = some 2 := ⟨rfl, by decide +kernel, by decide +kernel, by decide +kernel⟩
set_option maxHeartbeats 4000000 in
set_option maxRecDepth 100000 in
theorem c_X7_rest {g : Gx} {n w : Int} (hn : R32 n) (hw : R32 w) : CtE g yX7_rest wsX7_rest 1 22 [.int (iI n), .int (iI w)] ([]) (restI n w) ([]) := by
  refine m_go (cc := cX7_rest) (nL := 2) (by decide) rfl (Nat.le_of_ble_eq_true rfl) (fun x X Y hnm => ?_)
  refine v_eq (lo2 := [some (.int (iI n)), some (.int (iI w))]) rfl rfl rfl rfl ?_
  refine v_iload_n X dX7_rest_0 rfl ?_
  refine v_iconst X dX7_rest_1 ?_
  refine v_icmp_ge (tgt := 9) X dX7_rest_2 (by decide) (by omega) (by omega) (fun c1 => ?_) (fun c1 => ?_)
  · skip
    refine v_iload_n X dX7_rest_9 rfl ?_
    refine v_iload_n X dX7_rest_10 rfl ?_
    refine res_E X (run_S X (c_J9_floorMod_7cf53 (g := g) (by first | assumption | omega) (by first | assumption | omega) (by first | assumption | omega)) gX7_rest_J9_floorMod_7cf53 rfl hdJ9_floorMod_7cf53.2 ⟨(Nat.le_of_ble_eq_true rfl), (Nat.le_of_ble_eq_true rfl)⟩ ⟨(Nat.le_of_ble_eq_true rfl), (Nat.le_of_ble_eq_true rfl)⟩ [] rfl rfl rfl rfl (by simp [Value.category]) dX7_rest_11) [] rfl rfl ?_
    exact v_iret X Y dX7_rest_14 (u := ()) (by unfold restI; split <;> omega) rfl
  · skip
    refine v_iconst X dX7_rest_5 ?_
    refine v_goto (tgt := 14) X dX7_rest_6 (by decide) ?_
    exact v_iret X Y dX7_rest_14 (u := ()) (by unfold restI; split <;> omega) rfl

theorem hdX7_common : yX7_common.cls = RX7 ∧ yX7_common.cls ≠ "java/lang/invoke/MethodHandle" ∧ yX7_common.cls ≠ "java/lang/invoke/VarHandle" ∧ (parseMethodDescriptor yX7_common.desc).map (fun d => d.parameters.length) = some 2 := ⟨rfl, by decide +kernel, by decide +kernel, by decide +kernel⟩
set_option maxHeartbeats 4000000 in
set_option maxRecDepth 100000 in
theorem c_X7_common {g : Gx} {a b : Int} (ha : 0 ≤ a) (ha2 : a ≤ 2147483647) (hb : 0 ≤ b) (hb2 : b ≤ 2147483647) : CtE g yX7_common wsX7_common 0 0 [.int (iI a), .int (iI b)] ([]) ((Int.gcd a b : Int)) ([]) := by
  refine m_go (cc := cX7_common) (nL := 6) (by decide) rfl (Nat.le_of_ble_eq_true rfl) (fun x X Y hnm => ?_)
  refine v_eq (lo2 := [some (.int (iI a)), some (.int (iI b)), none, none, none, none]) rfl rfl rfl rfl ?_
  refine v_iload_n X dX7_common_0 rfl ?_
  refine v_istore_n X dX7_common_1 2 rfl (by decide) rfl ?_
  dsimp only [List.set]
  refine v_iload_n X dX7_common_2 rfl ?_
  refine v_istore_n X dX7_common_3 3 rfl (by decide) rfl ?_
  dsimp only [List.set]
  refine v_iconst X dX7_common_4 ?_
  refine v_istore X dX7_common_5 (by decide) rfl ?_
  dsimp only [List.set]
  have L7 : ∀ (n : Nat) (gr : Int) (ls : Int) (s : Int) (h1 : 0 ≤ gr ∧ gr ≤ 2147483647) (h2 : 0 ≤ ls ∧ ls ≤ 2147483647) (h3 : 0 ≤ s ∧ s ≤ 64) (h4 : PG gr ls s) (h5 : (Int.gcd gr ls : Int) = Int.gcd a b) (_ : (64 - s).toNat < n), V g x 0 0 ([]) [some (.int (iI a)), some (.int (iI b)), some (.int (iI gr)), some (.int (iI ls)), some (.int (iI s)), none] 7 [] := by
    intro n
    induction n with
    | zero => intro gr ls s h1 h2 h3 h4 h5 hmu; exact absurd hmu (Nat.not_lt_zero _)
    | succ n ih7 =>
      intro gr ls s h1 h2 h3 h4 h5 hmu
      refine v_iload X dX7_common_7 rfl ?_
      refine v_bipush X dX7_common_9 (by decide) ?_
      refine v_icmp_ge (tgt := 34) X dX7_common_11 (by decide) (by omega) (by omega) (fun c1 => ?_) (fun c1 => ?_)
      · skip
        refine v_iload_n X dX7_common_34 rfl ?_
        exact v_iret X Y dX7_common_35 (u := ()) (by have e : ls = 0 := by first | omega | (have e9 : s = 64 := by omega
                                          subst e9; exact PG_end h2.1 h4)
    rw [← h5, e, gcd_0 h1.1]) rfl
      · skip
        refine v_iload_n X dX7_common_14 rfl ?_
        refine v_if_le (tgt := 34) X dX7_common_15 (by decide) (by omega) (fun c2 => ?_) (fun c2 => ?_)
        · skip
          refine v_iload_n X dX7_common_34 rfl ?_
          exact v_iret X Y dX7_common_35 (u := ()) (by have e : ls = 0 := by first | omega | (have e9 : s = 64 := by omega
                                          subst e9; exact PG_end h2.1 h4)
    rw [← h5, e, gcd_0 h1.1]) rfl
        · skip
          refine v_iload_n X dX7_common_18 rfl ?_
          refine v_iload_n X dX7_common_19 rfl ?_
          refine v_irem X dX7_common_20 (by omega) (by omega) (by omega) ?_
          have q1 := Int.tmod_lt_of_pos gr (show 0 < ls by omega)
          have q2 := Int.tmod_nonneg ls h1.1
          refine v_istore X dX7_common_21 (by decide) rfl ?_
          dsimp only [List.set]
          refine v_iload_n X dX7_common_23 rfl ?_
          refine v_istore_n X dX7_common_24 2 rfl (by decide) rfl ?_
          dsimp only [List.set]
          refine v_iload X dX7_common_25 rfl ?_
          refine v_istore_n X dX7_common_27 3 rfl (by decide) rfl ?_
          dsimp only [List.set]
          refine v_iinc X dX7_common_28 rfl (by decide) rfl ?_
          dsimp only [List.set]
          refine v_goto (tgt := 7) X dX7_common_31 (by decide) ?_
          refine v_drop 5 ?_
          dsimp only [List.set]
          exact ih7 _ _ _ (by omega) (by omega) (by omega) (by exact PG_step h1.1 h1.2 (by omega) h2.2 h3.1 h4) (by rw [gcd_step h1.1 h2.1]; exact h5) (by omega)
  exact L7 _ _ _ _ (by omega) (by omega) (by omega) (by exact PG_0 _ _) (by rfl) (Nat.lt_succ_self _)

theorem hdX7_part : yX7_part.cls = RX7 ∧ yX7_part.cls ≠ "java/lang/invoke/MethodHandle" ∧ yX7_part.cls ≠ "java/lang/invoke/VarHandle" ∧ (parseMethodDescriptor yX7_part.desc).map (fun d => d.parameters.length) = some 3 := ⟨rfl, by decide +kernel, by decide +kernel, by decide +kernel⟩
set_option maxHeartbeats 4000000 in
set_option maxRecDepth 100000 in
theorem c_X7_part {g : Gx} {a b w : Int} (ha : 0 ≤ a) (ha2 : a ≤ 2147483647) (hb : 0 ≤ b) (hb2 : b ≤ 2147483647) (hw : R32 w) : CtE g yX7_part wsX7_part 1 25 [.int (iI a), .int (iI b), .int (iI w)] ([]) (toldI a b w) ([]) := by
  refine m_go (cc := cX7_part) (nL := 4) (by decide) rfl (Nat.le_of_ble_eq_true rfl) (fun x X Y hnm => ?_)
  refine v_eq (lo2 := [some (.int (iI a)), some (.int (iI b)), some (.int (iI w)), none]) rfl rfl rfl rfl ?_
  have q1 := gcd_le ha hb (show (0:Int) ≤ 2147483647 by omega) ha2 hb2
  have q2 := tdiv_of_nn (b := (Int.gcd a b : Int)) ha
  have q3 := tdiv_of_nn (b := (Int.gcd a b : Int)) hb
  refine v_iload_n X dX7_part_0 rfl ?_
  refine v_iload_n X dX7_part_1 rfl ?_
  refine res_E X (run_S X (c_X7_common (g := g) (by first | assumption | omega) (by first | assumption | omega) (by first | assumption | omega) (by first | assumption | omega)) gX7_part_X7_common rfl hdX7_common.2 ⟨(Nat.le_of_ble_eq_true rfl), (Nat.le_of_ble_eq_true rfl)⟩ ⟨(Nat.le_of_ble_eq_true rfl), (Nat.le_of_ble_eq_true rfl)⟩ [] rfl rfl rfl rfl (by simp [Value.category]) dX7_part_2) [] rfl rfl ?_
  refine v_istore_n X dX7_part_5 3 rfl (by decide) rfl ?_
  dsimp only [List.set]
  refine v_iload_n X dX7_part_6 rfl ?_
  refine v_iconst X dX7_part_7 ?_
  refine v_icmp_ge (tgt := 13) X dX7_part_8 (by decide) (by omega) (by omega) (fun c1 => ?_) (fun c1 => ?_)
  · skip
    refine v_iload_n X dX7_part_13 rfl ?_
    refine v_if_ne (tgt := 23) X dX7_part_14 (by decide) (by omega) (fun c2 => ?_) (fun c2 => ?_)
    · skip
      refine v_iload_n X dX7_part_23 rfl ?_
      refine v_iload_n X dX7_part_24 rfl ?_
      refine v_idiv X dX7_part_25 (by omega) (by omega) (by omega) ?_
      exact v_iret X Y dX7_part_26 (u := ()) (by unfold toldI; split <;> omega) rfl
    · skip
      refine v_iload_n X dX7_part_17 rfl ?_
      refine v_iload_n X dX7_part_18 rfl ?_
      refine v_idiv X dX7_part_19 (by omega) (by omega) (by omega) ?_
      refine v_goto (tgt := 26) X dX7_part_20 (by decide) ?_
      exact v_iret X Y dX7_part_26 (u := ()) (by unfold toldI; split <;> omega) rfl
  · skip
    refine v_iconst X dX7_part_11 ?_
    exact v_iret X Y dX7_part_12 (u := ()) (by have e : ((Int.gcd a b : Nat) : Int) = 0 := by omega
    unfold toldI; rw [e]; split <;> simp) rfl

theorem hdX7_isRow : yX7_isRow.cls = RX7 ∧ yX7_isRow.cls ≠ "java/lang/invoke/MethodHandle" ∧ yX7_isRow.cls ≠ "java/lang/invoke/VarHandle" ∧ (parseMethodDescriptor yX7_isRow.desc).map (fun d => d.parameters.length) = some 1 := ⟨rfl, by decide +kernel, by decide +kernel, by decide +kernel⟩
set_option maxHeartbeats 4000000 in
set_option maxRecDepth 100000 in
theorem c_X7_isRow {g : Gx} {a : Int} (ha : R32 a) : CtE g yX7_isRow wsX7_isRow 0 0 [.int (iI a)] ([]) (if 0 ≤ a ∧ a < 8 then 1 else 0) ([]) := by
  refine m_go (cc := cX7_isRow) (nL := 1) (by decide) rfl (Nat.le_of_ble_eq_true rfl) (fun x X Y hnm => ?_)
  refine v_eq (lo2 := [some (.int (iI a))]) rfl rfl rfl rfl ?_
  refine v_iload_n X dX7_isRow_0 rfl ?_
  refine v_if_lt (tgt := 14) X dX7_isRow_1 (by decide) (by omega) (fun c1 => ?_) (fun c1 => ?_)
  · skip
    refine v_iconst X dX7_isRow_14 ?_
    exact v_zret X Y dX7_isRow_15 (by first | decide | omega) (u := ()) (by first | rfl | omega | (split <;> omega) | (simp [*]; done)) rfl
  · skip
    refine v_iload_n X dX7_isRow_4 rfl ?_
    refine v_bipush X dX7_isRow_5 (by decide) ?_
    refine v_icmp_ge (tgt := 14) X dX7_isRow_7 (by decide) (by omega) (by omega) (fun c2 => ?_) (fun c2 => ?_)
    · skip
      refine v_iconst X dX7_isRow_14 ?_
      exact v_zret X Y dX7_isRow_15 (by first | decide | omega) (u := ()) (by first | rfl | omega | (split <;> omega) | (simp [*]; done)) rfl
    · skip
      refine v_iconst X dX7_isRow_10 ?_
      refine v_goto (tgt := 15) X dX7_isRow_11 (by decide) ?_
      exact v_zret X Y dX7_isRow_15 (by first | decide | omega) (u := ()) (by first | rfl | omega | (split <;> omega) | (simp [*]; done)) rfl

theorem hdX7_isWithin : yX7_isWithin.cls = RX7 ∧ yX7_isWithin.cls ≠ "java/lang/invoke/MethodHandle" ∧ yX7_isWithin.cls ≠ "java/lang/invoke/VarHandle" ∧ (parseMethodDescriptor yX7_isWithin.desc).map (fun d => d.parameters.length) = some 3 := ⟨rfl, by decide +kernel, by decide +kernel, by decide +kernel⟩
set_option maxHeartbeats 4000000 in
set_option maxRecDepth 100000 in
theorem c_X7_isWithin {g : Gx} {v l m : Int} (hv : R32 v) (hl : R32 l) (hm : R32 m) : CtE g yX7_isWithin wsX7_isWithin 0 0 [.int (iI v), .int (iI l), .int (iI m)] ([]) (if l ≤ v ∧ v ≤ m then 1 else 0) ([]) := by
  refine m_go (cc := cX7_isWithin) (nL := 3) (by decide) rfl (Nat.le_of_ble_eq_true rfl) (fun x X Y hnm => ?_)
  refine v_eq (lo2 := [some (.int (iI v)), some (.int (iI l)), some (.int (iI m))]) rfl rfl rfl rfl ?_
  refine v_iload_n X dX7_isWithin_0 rfl ?_
  refine v_iload_n X dX7_isWithin_1 rfl ?_
  refine v_icmp_gt (tgt := 14) X dX7_isWithin_2 (by decide) (by omega) (by omega) (fun c1 => ?_) (fun c1 => ?_)
  · skip
    refine v_iconst X dX7_isWithin_14 ?_
    exact v_zret X Y dX7_isWithin_15 (by first | decide | omega) (u := ()) (by first | rfl | omega | (split <;> omega) | (simp [*]; done)) rfl
  · skip
    refine v_iload_n X dX7_isWithin_5 rfl ?_
    refine v_iload_n X dX7_isWithin_6 rfl ?_
    refine v_icmp_gt (tgt := 14) X dX7_isWithin_7 (by decide) (by omega) (by omega) (fun c2 => ?_) (fun c2 => ?_)
    · skip
      refine v_iconst X dX7_isWithin_14 ?_
      exact v_zret X Y dX7_isWithin_15 (by first | decide | omega) (u := ()) (by first | rfl | omega | (split <;> omega) | (simp [*]; done)) rfl
    · skip
      refine v_iconst X dX7_isWithin_10 ?_
      refine v_goto (tgt := 15) X dX7_isWithin_11 (by decide) ?_
      exact v_zret X Y dX7_isWithin_15 (by first | decide | omega) (u := ()) (by first | rfl | omega | (split <;> omega) | (simp [*]; done)) rfl

theorem hdX7_isMoment : yX7_isMoment.cls = RX7 ∧ yX7_isMoment.cls ≠ "java/lang/invoke/MethodHandle" ∧ yX7_isMoment.cls ≠ "java/lang/invoke/VarHandle" ∧ (parseMethodDescriptor yX7_isMoment.desc).map (fun d => d.parameters.length) = some 2 := ⟨rfl, by decide +kernel, by decide +kernel, by decide +kernel⟩
set_option maxHeartbeats 4000000 in
set_option maxRecDepth 100000 in
theorem c_X7_isMoment {g : Gx} {p q : Int} (hp : R32 p) (hq : R32 q) : CtE g yX7_isMoment wsX7_isMoment 1 22 [.int (iI p), .int (iI q)] ([]) (if 1 ≤ q ∧ q ≤ 9999 ∧ 0 ≤ p ∧ p < q then 1 else 0) ([]) := by
  refine m_go (cc := cX7_isMoment) (nL := 2) (by decide) rfl (Nat.le_of_ble_eq_true rfl) (fun x X Y hnm => ?_)
  refine v_eq (lo2 := [some (.int (iI p)), some (.int (iI q))]) rfl rfl rfl rfl ?_
  refine v_iload_n X dX7_isMoment_0 rfl ?_
  refine v_iconst X dX7_isMoment_1 ?_
  refine v_sipush X dX7_isMoment_2 (by decide) ?_
  refine res_E X (run_S X (c_X7_isWithin (g := g) (by first | assumption | omega) (by first | assumption | omega) (by first | assumption | omega)) gX7_isMoment_X7_isWithin rfl hdX7_isWithin.2 ⟨(Nat.le_of_ble_eq_true rfl), (Nat.le_of_ble_eq_true rfl)⟩ ⟨(Nat.le_of_ble_eq_true rfl), (Nat.le_of_ble_eq_true rfl)⟩ [] rfl rfl rfl rfl (by simp [Value.category]) dX7_isMoment_5) [] rfl rfl ?_
  refine v_if_eq (tgt := 26) X dX7_isMoment_8 (by decide) (by omega) (fun c1 => ?_) (fun c1 => ?_)
  · skip
    refine v_iconst X dX7_isMoment_26 ?_
    exact v_zret X Y dX7_isMoment_27 (by first | decide | omega) (u := ()) (by first | rfl | omega | (split <;> omega) | (simp [*]; done)) rfl
  · skip
    refine v_iload_n X dX7_isMoment_11 rfl ?_
    refine v_iconst X dX7_isMoment_12 ?_
    refine v_iload_n X dX7_isMoment_13 rfl ?_
    refine v_iconst X dX7_isMoment_14 ?_
    refine v_isub X dX7_isMoment_15 ?_
    refine res_E X (run_S X (c_X7_isWithin (g := g) (by first | assumption | omega) (by first | assumption | omega) (by first | assumption | omega)) gX7_isMoment_X7_isWithin rfl hdX7_isWithin.2 ⟨(Nat.le_of_ble_eq_true rfl), (Nat.le_of_ble_eq_true rfl)⟩ ⟨(Nat.le_of_ble_eq_true rfl), (Nat.le_of_ble_eq_true rfl)⟩ [] rfl rfl rfl rfl (by simp [Value.category]) dX7_isMoment_16) [] rfl rfl ?_
    refine v_if_eq (tgt := 26) X dX7_isMoment_19 (by decide) (by omega) (fun c2 => ?_) (fun c2 => ?_)
    · skip
      refine v_iconst X dX7_isMoment_26 ?_
      exact v_zret X Y dX7_isMoment_27 (by first | decide | omega) (u := ()) (by first | rfl | omega | (split <;> omega) | (simp [*]; done)) rfl
    · skip
      refine v_iconst X dX7_isMoment_22 ?_
      refine v_goto (tgt := 27) X dX7_isMoment_23 (by decide) ?_
      exact v_zret X Y dX7_isMoment_27 (by first | decide | omega) (u := ()) (by first | rfl | omega | (split <;> omega) | (simp [*]; done)) rfl

theorem hdX2_isNone : yX2_isNone.cls = RX2 ∧ yX2_isNone.cls ≠ "java/lang/invoke/MethodHandle" ∧ yX2_isNone.cls ≠ "java/lang/invoke/VarHandle" ∧ (parseMethodDescriptor yX2_isNone.desc).map (fun d => d.parameters.length) = some 0 := ⟨rfl, by decide +kernel, by decide +kernel, by decide +kernel⟩
set_option maxHeartbeats 4000000 in
set_option maxRecDepth 100000 in
theorem c_X2_isNone {g : Gx} {a a1 a2 a3 : Nat} {mk cn : Int} {so tu sp : Nat → Int}  (hcn : 0 ≤ cn ∧ cn ≤ 4) : CtE g yX2_isNone wsX2_isNone 0 0 [.ref a] (wClk g a a1 a2 a3 mk cn so tu sp) (if cn = 0 then 1 else 0) (wClk g a a1 a2 a3 mk cn so tu sp) := by
  refine m_go (cc := cX2_isNone) (nL := 1) (by decide) rfl (Nat.le_of_ble_eq_true rfl) (fun x X Y hnm => ?_)
  refine v_eq (lo2 := [some (.ref a)]) rfl rfl rfl rfl ?_
  refine v_aload_n X dX2_isNone_0 rfl ?_
  refine v_get X (fun _ h => List.mem_cons_of_mem _ (List.mem_append_right _ h)) 0 rfl rfl 4 (by decide) rfl (List.mem_of_getElem? (i := 1) rfl) rfl dX2_isNone_1 ?_
  refine v_if_ne (tgt := 11) X dX2_isNone_4 (by decide) (by omega) (fun c1 => ?_) (fun c1 => ?_)
  · skip
    refine v_iconst X dX2_isNone_11 ?_
    exact v_zret X Y dX2_isNone_12 (by first | decide | omega) (u := ()) (by first | rfl | omega | (split <;> omega) | (simp [*]; done)) rfl
  · skip
    refine v_iconst X dX2_isNone_7 ?_
    refine v_goto (tgt := 12) X dX2_isNone_8 (by decide) ?_
    exact v_zret X Y dX2_isNone_12 (by first | decide | omega) (u := ()) (by first | rfl | omega | (split <;> omega) | (simp [*]; done)) rfl

theorem hdX2_has : yX2_has.cls = RX2 ∧ yX2_has.cls ≠ "java/lang/invoke/MethodHandle" ∧ yX2_has.cls ≠ "java/lang/invoke/VarHandle" ∧ (parseMethodDescriptor yX2_has.desc).map (fun d => d.parameters.length) = some 1 := ⟨rfl, by decide +kernel, by decide +kernel, by decide +kernel⟩
set_option maxHeartbeats 4000000 in
set_option maxRecDepth 100000 in
theorem c_X2_has {g : Gx} {a a1 a2 a3 : Nat} {mk cn : Int} {so tu sp : Nat → Int} {h : Int} (hcn : 0 ≤ cn ∧ cn ≤ 4) (hh : R32 h) : CtE g yX2_has wsX2_has 0 0 [.ref a, .int (iI h)] (wClk g a a1 a2 a3 mk cn so tu sp) (if 0 ≤ h ∧ h < cn then 1 else 0) (wClk g a a1 a2 a3 mk cn so tu sp) := by
  refine m_go (cc := cX2_has) (nL := 2) (by decide) rfl (Nat.le_of_ble_eq_true rfl) (fun x X Y hnm => ?_)
  refine v_eq (lo2 := [some (.ref a), some (.int (iI h))]) rfl rfl rfl rfl ?_
  refine v_iload_n X dX2_has_0 rfl ?_
  refine v_if_lt (tgt := 21) X dX2_has_1 (by decide) (by omega) (fun c1 => ?_) (fun c1 => ?_)
  · skip
    refine v_iconst X dX2_has_21 ?_
    exact v_zret X Y dX2_has_22 (by first | decide | omega) (u := ()) (by first | rfl | omega | (split <;> omega) | (simp [*]; done)) rfl
  · skip
    refine v_iload_n X dX2_has_4 rfl ?_
    refine v_aload_n X dX2_has_5 rfl ?_
    refine v_get X (fun _ h => List.mem_cons_of_mem _ (List.mem_append_right _ h)) 0 rfl rfl 4 (by decide) rfl (List.mem_of_getElem? (i := 1) rfl) rfl dX2_has_6 ?_
    refine v_icmp_ge (tgt := 21) X dX2_has_9 (by decide) (by omega) (by omega) (fun c2 => ?_) (fun c2 => ?_)
    · skip
      refine v_iconst X dX2_has_21 ?_
      exact v_zret X Y dX2_has_22 (by first | decide | omega) (u := ()) (by first | rfl | omega | (split <;> omega) | (simp [*]; done)) rfl
    · skip
      refine v_iload_n X dX2_has_12 rfl ?_
      refine v_iconst X dX2_has_13 ?_
      refine v_icmp_ge (tgt := 21) X dX2_has_14 (by decide) (by omega) (by omega) (fun c3 => ?_) (fun c3 => ?_)
      · skip
        refine v_iconst X dX2_has_21 ?_
        exact v_zret X Y dX2_has_22 (by first | decide | omega) (u := ()) (by first | rfl | omega | (split <;> omega) | (simp [*]; done)) rfl
      · skip
        refine v_iconst X dX2_has_17 ?_
        refine v_goto (tgt := 22) X dX2_has_18 (by decide) ?_
        exact v_zret X Y dX2_has_22 (by first | decide | omega) (u := ()) (by first | rfl | omega | (split <;> omega) | (simp [*]; done)) rfl

theorem hdX2_sortOf : yX2_sortOf.cls = RX2 ∧ yX2_sortOf.cls ≠ "java/lang/invoke/MethodHandle" ∧ yX2_sortOf.cls ≠ "java/lang/invoke/VarHandle" ∧ (parseMethodDescriptor yX2_sortOf.desc).map (fun d => d.parameters.length) = some 1 := ⟨rfl, by decide +kernel, by decide +kernel, by decide +kernel⟩
set_option maxHeartbeats 4000000 in
set_option maxRecDepth 100000 in
theorem c_X2_sortOf {g : Gx} {a a1 a2 a3 : Nat} {mk cn : Int} {so tu sp : Nat → Int} {h : Int} (hcn : 0 ≤ cn ∧ cn ≤ 4) (hso : Bd 0 5 so) (hh : R32 h) : CtE g yX2_sortOf wsX2_sortOf 1 21 [.ref a, .int (iI h)] (wClk g a a1 a2 a3 mk cn so tu sp) (atI cn so h) (wClk g a a1 a2 a3 mk cn so tu sp) := by
  refine m_go (cc := cX2_sortOf) (nL := 2) (by decide) rfl (Nat.le_of_ble_eq_true rfl) (fun x X Y hnm => ?_)
  refine v_eq (lo2 := [some (.ref a), some (.int (iI h))]) rfl rfl rfl rfl ?_
  refine v_aload_n X dX2_sortOf_0 rfl ?_
  refine v_iload_n X dX2_sortOf_1 rfl ?_
  refine res_E X (run_V X (c_X2_has (g := g) (by first | assumption | omega) (by first | assumption | omega)) gX2_sortOf_X2_has rfl hdX2_has ⟨(Nat.le_of_ble_eq_true rfl), (Nat.le_of_ble_eq_true rfl)⟩ ⟨(Nat.le_of_ble_eq_true rfl), (Nat.le_of_ble_eq_true rfl)⟩ 0 rfl rfl rfl [0, 1, 2, 3] rfl rfl rfl rfl (by simp [Value.category]) dX2_sortOf_2) [0, 1, 2, 3] rfl rfl ?_
  refine v_if_eq (tgt := 17) X dX2_sortOf_5 (by decide) (by split <;> omega) (fun c1 => ?_) (fun c1 => ?_)
  · skip
    refine v_iconst X dX2_sortOf_17 ?_
    exact v_iret X Y dX2_sortOf_18 (u := ()) (by unfold atI; split <;> omega) rfl
  · skip
    refine v_aload_n X dX2_sortOf_8 rfl ?_
    refine v_get X (fun _ h => List.mem_cons_of_mem _ (List.mem_append_right _ h)) 0 rfl rfl 0 (by decide) rfl (List.mem_of_getElem? (i := 1) rfl) rfl dX2_sortOf_9 ?_
    refine v_iload_n X dX2_sortOf_12 rfl ?_
    refine v_iald X 1 rfl (by omega) (by omega) (by omega) dX2_sortOf_13 hso (fun z2 ez2 lz2 uz2 => ?_)
    refine v_goto (tgt := 18) X dX2_sortOf_14 (by decide) ?_
    exact v_iret X Y dX2_sortOf_18 (u := ()) (by unfold atI; split <;> omega) rfl

theorem hdX2_turnsOf : yX2_turnsOf.cls = RX2 ∧ yX2_turnsOf.cls ≠ "java/lang/invoke/MethodHandle" ∧ yX2_turnsOf.cls ≠ "java/lang/invoke/VarHandle" ∧ (parseMethodDescriptor yX2_turnsOf.desc).map (fun d => d.parameters.length) = some 1 := ⟨rfl, by decide +kernel, by decide +kernel, by decide +kernel⟩
set_option maxHeartbeats 4000000 in
set_option maxRecDepth 100000 in
theorem c_X2_turnsOf {g : Gx} {a a1 a2 a3 : Nat} {mk cn : Int} {so tu sp : Nat → Int} {h : Int} (hcn : 0 ≤ cn ∧ cn ≤ 4) (htu : Bd 0 12 tu) (hh : R32 h) : CtE g yX2_turnsOf wsX2_turnsOf 1 21 [.ref a, .int (iI h)] (wClk g a a1 a2 a3 mk cn so tu sp) (atI cn tu h) (wClk g a a1 a2 a3 mk cn so tu sp) := by
  refine m_go (cc := cX2_turnsOf) (nL := 2) (by decide) rfl (Nat.le_of_ble_eq_true rfl) (fun x X Y hnm => ?_)
  refine v_eq (lo2 := [some (.ref a), some (.int (iI h))]) rfl rfl rfl rfl ?_
  refine v_aload_n X dX2_turnsOf_0 rfl ?_
  refine v_iload_n X dX2_turnsOf_1 rfl ?_
  refine res_E X (run_V X (c_X2_has (g := g) (by first | assumption | omega) (by first | assumption | omega)) gX2_turnsOf_X2_has rfl hdX2_has ⟨(Nat.le_of_ble_eq_true rfl), (Nat.le_of_ble_eq_true rfl)⟩ ⟨(Nat.le_of_ble_eq_true rfl), (Nat.le_of_ble_eq_true rfl)⟩ 0 rfl rfl rfl [0, 1, 2, 3] rfl rfl rfl rfl (by simp [Value.category]) dX2_turnsOf_2) [0, 1, 2, 3] rfl rfl ?_
  refine v_if_eq (tgt := 17) X dX2_turnsOf_5 (by decide) (by split <;> omega) (fun c1 => ?_) (fun c1 => ?_)
  · skip
    refine v_iconst X dX2_turnsOf_17 ?_
    exact v_iret X Y dX2_turnsOf_18 (u := ()) (by unfold atI; split <;> omega) rfl
  · skip
    refine v_aload_n X dX2_turnsOf_8 rfl ?_
    refine v_get X (fun _ h => List.mem_cons_of_mem _ (List.mem_append_right _ h)) 0 rfl rfl 1 (by decide) rfl (List.mem_of_getElem? (i := 1) rfl) rfl dX2_turnsOf_9 ?_
    refine v_iload_n X dX2_turnsOf_12 rfl ?_
    refine v_iald X 2 rfl (by omega) (by omega) (by omega) dX2_turnsOf_13 htu (fun z2 ez2 lz2 uz2 => ?_)
    refine v_goto (tgt := 18) X dX2_turnsOf_14 (by decide) ?_
    exact v_iret X Y dX2_turnsOf_18 (u := ()) (by unfold atI; split <;> omega) rfl

theorem hdX2_slipOf : yX2_slipOf.cls = RX2 ∧ yX2_slipOf.cls ≠ "java/lang/invoke/MethodHandle" ∧ yX2_slipOf.cls ≠ "java/lang/invoke/VarHandle" ∧ (parseMethodDescriptor yX2_slipOf.desc).map (fun d => d.parameters.length) = some 1 := ⟨rfl, by decide +kernel, by decide +kernel, by decide +kernel⟩
set_option maxHeartbeats 4000000 in
set_option maxRecDepth 100000 in
theorem c_X2_slipOf {g : Gx} {a a1 a2 a3 : Nat} {mk cn : Int} {so tu sp : Nat → Int} {h : Int} (hcn : 0 ≤ cn ∧ cn ≤ 4) (hsp : Bd 0 59 sp) (hh : R32 h) : CtE g yX2_slipOf wsX2_slipOf 1 21 [.ref a, .int (iI h)] (wClk g a a1 a2 a3 mk cn so tu sp) (atI cn sp h) (wClk g a a1 a2 a3 mk cn so tu sp) := by
  refine m_go (cc := cX2_slipOf) (nL := 2) (by decide) rfl (Nat.le_of_ble_eq_true rfl) (fun x X Y hnm => ?_)
  refine v_eq (lo2 := [some (.ref a), some (.int (iI h))]) rfl rfl rfl rfl ?_
  refine v_aload_n X dX2_slipOf_0 rfl ?_
  refine v_iload_n X dX2_slipOf_1 rfl ?_
  refine res_E X (run_V X (c_X2_has (g := g) (by first | assumption | omega) (by first | assumption | omega)) gX2_slipOf_X2_has rfl hdX2_has ⟨(Nat.le_of_ble_eq_true rfl), (Nat.le_of_ble_eq_true rfl)⟩ ⟨(Nat.le_of_ble_eq_true rfl), (Nat.le_of_ble_eq_true rfl)⟩ 0 rfl rfl rfl [0, 1, 2, 3] rfl rfl rfl rfl (by simp [Value.category]) dX2_slipOf_2) [0, 1, 2, 3] rfl rfl ?_
  refine v_if_eq (tgt := 17) X dX2_slipOf_5 (by decide) (by split <;> omega) (fun c1 => ?_) (fun c1 => ?_)
  · skip
    refine v_iconst X dX2_slipOf_17 ?_
    exact v_iret X Y dX2_slipOf_18 (u := ()) (by unfold atI; split <;> omega) rfl
  · skip
    refine v_aload_n X dX2_slipOf_8 rfl ?_
    refine v_get X (fun _ h => List.mem_cons_of_mem _ (List.mem_append_right _ h)) 0 rfl rfl 2 (by decide) rfl (List.mem_of_getElem? (i := 1) rfl) rfl dX2_slipOf_9 ?_
    refine v_iload_n X dX2_slipOf_12 rfl ?_
    refine v_iald X 3 rfl (by omega) (by omega) (by omega) dX2_slipOf_13 hsp (fun z2 ez2 lz2 uz2 => ?_)
    refine v_goto (tgt := 18) X dX2_slipOf_14 (by decide) ?_
    exact v_iret X Y dX2_slipOf_18 (u := ()) (by unfold atI; split <;> omega) rfl

theorem hdX2_speedOf : yX2_speedOf.cls = RX2 ∧ yX2_speedOf.cls ≠ "java/lang/invoke/MethodHandle" ∧ yX2_speedOf.cls ≠ "java/lang/invoke/VarHandle" ∧ (parseMethodDescriptor yX2_speedOf.desc).map (fun d => d.parameters.length) = some 1 := ⟨rfl, by decide +kernel, by decide +kernel, by decide +kernel⟩
set_option maxHeartbeats 4000000 in
set_option maxRecDepth 100000 in
theorem c_X2_speedOf {g : Gx} {a a1 a2 a3 : Nat} {mk cn : Int} {so tu sp : Nat → Int} {h : Int} (hcn : 0 ≤ cn ∧ cn ≤ 4) (hso : Bd 0 5 so) (htu : Bd 0 12 tu) (hh : R32 h) : CtE g yX2_speedOf wsX2_speedOf 2 42 [.ref a, .int (iI h)] (wClk g a a1 a2 a3 mk cn so tu sp) (spdI cn so tu h) (wClk g a a1 a2 a3 mk cn so tu sp) := by
  refine m_go (cc := cX2_speedOf) (nL := 3) (by decide) rfl (Nat.le_of_ble_eq_true rfl) (fun x X Y hnm => ?_)
  refine v_eq (lo2 := [some (.ref a), some (.int (iI h)), none]) rfl rfl rfl rfl ?_
  have q1 := atI_bd (cn := cn) (h := h) hso (by omega) (by omega)
  have q2 := atI_bd (cn := cn) (h := h) htu (by omega) (by omega)
  refine v_aload_n X dX2_speedOf_0 rfl ?_
  refine v_iload_n X dX2_speedOf_1 rfl ?_
  refine res_E X (run_V X (c_X2_sortOf (g := g) (by first | assumption | omega) (by first | assumption | omega) (by first | assumption | omega)) gX2_speedOf_X2_sortOf rfl hdX2_sortOf ⟨(Nat.le_of_ble_eq_true rfl), (Nat.le_of_ble_eq_true rfl)⟩ ⟨(Nat.le_of_ble_eq_true rfl), (Nat.le_of_ble_eq_true rfl)⟩ 0 rfl rfl rfl [0, 1, 2, 3] rfl rfl rfl rfl (by simp [Value.category]) dX2_speedOf_2) [0, 1, 2, 3] rfl rfl ?_
  refine v_istore_n X dX2_speedOf_5 2 rfl (by decide) rfl ?_
  dsimp only [List.set]
  refine v_iload_n X dX2_speedOf_6 rfl ?_
  refine v_iconst X dX2_speedOf_7 ?_
  refine v_icmp_ne (tgt := 18) X dX2_speedOf_8 (by decide) (by omega) (by omega) (fun c1 => ?_) (fun c1 => ?_)
  · skip
    refine v_iload_n X dX2_speedOf_18 rfl ?_
    refine v_iconst X dX2_speedOf_19 ?_
    refine v_icmp_ne (tgt := 33) X dX2_speedOf_20 (by decide) (by omega) (by omega) (fun c2 => ?_) (fun c2 => ?_)
    · skip
      refine v_aload_n X dX2_speedOf_33 rfl ?_
      refine v_iload_n X dX2_speedOf_34 rfl ?_
      refine res_E X (run_V X (c_X2_turnsOf (g := g) (by first | assumption | omega) (by first | assumption | omega) (by first | assumption | omega)) gX2_speedOf_X2_turnsOf rfl hdX2_turnsOf ⟨(Nat.le_of_ble_eq_true rfl), (Nat.le_of_ble_eq_true rfl)⟩ ⟨(Nat.le_of_ble_eq_true rfl), (Nat.le_of_ble_eq_true rfl)⟩ 0 rfl rfl rfl [0, 1, 2, 3] rfl rfl rfl rfl (by simp [Value.category]) dX2_speedOf_35) [0, 1, 2, 3] rfl rfl ?_
      exact v_iret X Y dX2_speedOf_38 (u := ()) (by unfold spdI; split <;> first | omega | (split <;> omega)) rfl
    · skip
      refine v_iconst X dX2_speedOf_23 ?_
      refine v_aload_n X dX2_speedOf_24 rfl ?_
      refine v_iload_n X dX2_speedOf_25 rfl ?_
      refine res_E X (run_V X (c_X2_turnsOf (g := g) (by first | assumption | omega) (by first | assumption | omega) (by first | assumption | omega)) gX2_speedOf_X2_turnsOf rfl hdX2_turnsOf ⟨(Nat.le_of_ble_eq_true rfl), (Nat.le_of_ble_eq_true rfl)⟩ ⟨(Nat.le_of_ble_eq_true rfl), (Nat.le_of_ble_eq_true rfl)⟩ 0 rfl rfl rfl [0, 1, 2, 3] rfl rfl rfl rfl (by simp [Value.category]) dX2_speedOf_26) [0, 1, 2, 3] rfl rfl ?_
      refine v_imul X dX2_speedOf_29 ?_
      refine v_goto (tgt := 38) X dX2_speedOf_30 (by decide) ?_
      exact v_iret X Y dX2_speedOf_38 (u := ()) (by unfold spdI; split <;> first | omega | (split <;> omega)) rfl
  · skip
    refine v_aload_n X dX2_speedOf_11 rfl ?_
    refine v_iload_n X dX2_speedOf_12 rfl ?_
    refine res_E X (run_V X (c_X2_turnsOf (g := g) (by first | assumption | omega) (by first | assumption | omega) (by first | assumption | omega)) gX2_speedOf_X2_turnsOf rfl hdX2_turnsOf ⟨(Nat.le_of_ble_eq_true rfl), (Nat.le_of_ble_eq_true rfl)⟩ ⟨(Nat.le_of_ble_eq_true rfl), (Nat.le_of_ble_eq_true rfl)⟩ 0 rfl rfl rfl [0, 1, 2, 3] rfl rfl rfl rfl (by simp [Value.category]) dX2_speedOf_13) [0, 1, 2, 3] rfl rfl ?_
    refine v_ineg X dX2_speedOf_16 ?_
    exact v_iret X Y dX2_speedOf_17 (u := ()) (by unfold spdI; split <;> first | omega | (split <;> omega)) rfl

theorem hdX2_arcBelow : yX2_arcBelow.cls = RX2 ∧ yX2_arcBelow.cls ≠ "java/lang/invoke/MethodHandle" ∧ yX2_arcBelow.cls ≠ "java/lang/invoke/VarHandle" ∧ (parseMethodDescriptor yX2_arcBelow.desc).map (fun d => d.parameters.length) = some 1 := ⟨rfl, by decide +kernel, by decide +kernel, by decide +kernel⟩
set_option maxHeartbeats 4000000 in
set_option maxRecDepth 100000 in
theorem c_X2_arcBelow {g : Gx} {a a1 a2 a3 : Nat} {mk cn : Int} {so tu sp : Nat → Int} {q : Int}  : CtE g yX2_arcBelow wsX2_arcBelow 0 0 [.ref a, .int (iI q)] (wClk g a a1 a2 a3 mk cn so tu sp) (q * mk) (wClk g a a1 a2 a3 mk cn so tu sp) := by
  refine m_go (cc := cX2_arcBelow) (nL := 2) (by decide) rfl (Nat.le_of_ble_eq_true rfl) (fun x X Y hnm => ?_)
  refine v_eq (lo2 := [some (.ref a), some (.int (iI q))]) rfl rfl rfl rfl ?_
  refine v_iload_n X dX2_arcBelow_0 rfl ?_
  refine v_aload_n X dX2_arcBelow_1 rfl ?_
  refine v_get X (fun _ h => List.mem_cons_of_mem _ (List.mem_append_right _ h)) 0 rfl rfl 3 (by decide) rfl (List.mem_of_getElem? (i := 1) rfl) rfl dX2_arcBelow_2 ?_
  refine v_imul X dX2_arcBelow_5 ?_
  exact v_iret X Y dX2_arcBelow_6 (u := ()) (by rfl) rfl

theorem hdX2_arcAbove : yX2_arcAbove.cls = RX2 ∧ yX2_arcAbove.cls ≠ "java/lang/invoke/MethodHandle" ∧ yX2_arcAbove.cls ≠ "java/lang/invoke/VarHandle" ∧ (parseMethodDescriptor yX2_arcAbove.desc).map (fun d => d.parameters.length) = some 3 := ⟨rfl, by decide +kernel, by decide +kernel, by decide +kernel⟩
set_option maxHeartbeats 4000000 in
set_option maxRecDepth 100000 in
theorem c_X2_arcAbove {g : Gx} {a a1 a2 a3 : Nat} {mk cn : Int} {so tu sp : Nat → Int} {h p q : Int} (hcn : 0 ≤ cn ∧ cn ≤ 4) (hso : Bd 0 5 so) (htu : Bd 0 12 tu) (hsp : Bd 0 59 sp) (hmk : 0 ≤ mk ∧ mk ≤ 60) (hh : R32 h) (hp : 0 ≤ p ∧ p ≤ 9999) (hq : 0 ≤ q ∧ q ≤ 9999) : CtE g yX2_arcAbove wsX2_arcAbove 3 64 [.ref a, .int (iI h), .int (iI p), .int (iI q)] (wClk g a a1 a2 a3 mk cn so tu sp) (restI (spdI cn so tu h * p * mk + atI cn sp h * q) (q * mk)) (wClk g a a1 a2 a3 mk cn so tu sp) := by
  refine m_go (cc := cX2_arcAbove) (nL := 4) (by decide) rfl (Nat.le_of_ble_eq_true rfl) (fun x X Y hnm => ?_)
  refine v_eq (lo2 := [some (.ref a), some (.int (iI h)), some (.int (iI p)), some (.int (iI q))]) rfl rfl rfl rfl ?_
  have q1 := spdI_bd (cn := cn) (so := so) (h := h) htu
  have q2 := atI_bd (cn := cn) (h := h) hsp (by omega) (by omega)
  have q3 := mul_bd q1 hp
  have q4 := mul_bd q3 hmk
  have q5 := mul_bd (A := 59) ⟨by omega, q2.2⟩ hq
  have q6 := mul_nn hq hmk
  refine v_aload_n X dX2_arcAbove_0 rfl ?_
  refine v_iload_n X dX2_arcAbove_1 rfl ?_
  refine res_E X (run_V X (c_X2_speedOf (g := g) (by first | assumption | omega) (by first | assumption | omega) (by first | assumption | omega) (by first | assumption | omega)) gX2_arcAbove_X2_speedOf rfl hdX2_speedOf ⟨(Nat.le_of_ble_eq_true rfl), (Nat.le_of_ble_eq_true rfl)⟩ ⟨(Nat.le_of_ble_eq_true rfl), (Nat.le_of_ble_eq_true rfl)⟩ 0 rfl rfl rfl [0, 1, 2, 3] rfl rfl rfl rfl (by simp [Value.category]) dX2_arcAbove_2) [0, 1, 2, 3] rfl rfl ?_
  refine v_iload_n X dX2_arcAbove_5 rfl ?_
  refine v_imul X dX2_arcAbove_6 ?_
  refine v_aload_n X dX2_arcAbove_7 rfl ?_
  refine v_get X (fun _ h => List.mem_cons_of_mem _ (List.mem_append_right _ h)) 0 rfl rfl 3 (by decide) rfl (List.mem_of_getElem? (i := 1) rfl) rfl dX2_arcAbove_8 ?_
  refine v_imul X dX2_arcAbove_11 ?_
  refine v_aload_n X dX2_arcAbove_12 rfl ?_
  refine v_iload_n X dX2_arcAbove_13 rfl ?_
  refine res_E X (run_V X (c_X2_slipOf (g := g) (by first | assumption | omega) (by first | assumption | omega) (by first | assumption | omega)) gX2_arcAbove_X2_slipOf rfl hdX2_slipOf ⟨(Nat.le_of_ble_eq_true rfl), (Nat.le_of_ble_eq_true rfl)⟩ ⟨(Nat.le_of_ble_eq_true rfl), (Nat.le_of_ble_eq_true rfl)⟩ 0 rfl rfl rfl [0, 1, 2, 3] rfl rfl rfl rfl (by simp [Value.category]) dX2_arcAbove_14) [0, 1, 2, 3] rfl rfl ?_
  refine v_iload_n X dX2_arcAbove_17 rfl ?_
  refine v_imul X dX2_arcAbove_18 ?_
  refine v_iadd X dX2_arcAbove_19 ?_
  refine v_aload_n X dX2_arcAbove_20 rfl ?_
  refine v_iload_n X dX2_arcAbove_21 rfl ?_
  refine res_E X (run_V X (c_X2_arcBelow (g := g) ) gX2_arcAbove_X2_arcBelow rfl hdX2_arcBelow ⟨(Nat.le_of_ble_eq_true rfl), (Nat.le_of_ble_eq_true rfl)⟩ ⟨(Nat.le_of_ble_eq_true rfl), (Nat.le_of_ble_eq_true rfl)⟩ 0 rfl rfl rfl [0, 1, 2, 3] rfl rfl rfl rfl (by simp [Value.category]) dX2_arcAbove_22) [0, 1, 2, 3] rfl rfl ?_
  refine res_E X (run_SN X (c_X7_rest (g := g) (by first | assumption | omega) (by first | assumption | omega)) gX2_arcAbove_X7_rest_n48 rfl (List.mem_of_getElem? (i := 10) rfl) (List.mem_of_getElem? (i := 32) rfl) (List.mem_of_getElem? (i := 31) rfl) hdX7_rest.2 ⟨(Nat.le_of_ble_eq_true rfl), (Nat.le_of_ble_eq_true rfl)⟩ ⟨(Nat.le_of_ble_eq_true rfl), (Nat.le_of_ble_eq_true rfl)⟩ [] rfl rfl rfl rfl (by simp [Value.category]) dX2_arcAbove_25) [] rfl rfl ?_
  exact v_iret X Y dX2_arcAbove_28 (u := ()) (by rfl) rfl

