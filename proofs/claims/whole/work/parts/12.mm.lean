theorem hdX8_in : yX8_in.cls = RX8 ∧ yX8_in.cls ≠ "java/lang/invoke/MethodHandle" ∧ yX8_in.cls ≠ "java/lang/invoke/VarHandle" ∧ (parseMethodDescriptor yX8_in.desc).map (fun d => d.parameters.length) = some 3 := ⟨rfl, by decide +kernel, by decide +kernel, by decide +kernel⟩
set_option maxHeartbeats 4000000 in
set_option maxRecDepth 100000 in
theorem c_X8_in {g : Gx} {v l h : Int} (hv : R64 v) (hl : R64 l) (hh : R64 h) : CtE g yX8_in wsX8_in 0 0 [.long (lI v), .long (lI l), .long (lI h)] ([]) (if l ≤ v ∧ v ≤ h then 1 else 0) ([]) := by
  refine m_go (cc := cX8_in) (nL := 6) (by decide +kernel) rfl (Nat.le_of_ble_eq_true rfl) (fun x X Y hnm => ?_)
  refine v_eq (lo2 := [some (.long (lI v)), none, some (.long (lI l)), none, some (.long (lI h)), none]) rfl rfl rfl rfl ?_
  refine v_lload_n X dX8_in_0 rfl ?_
  refine v_lload_n X dX8_in_1 rfl ?_
  refine v_lcmp X dX8_in_2 (by omega) (by omega) (fun c1 => ?_) (fun c1 => ?_) (fun c1 => ?_)
  · skip
    refine v_if_lt (tgt := 17) X dX8_in_3 (by decide) (by decide) (fun hh => ?_) (fun hh => ?_)
    · skip
      exfalso; omega
    · skip
      refine v_lload_n X dX8_in_6 rfl ?_
      refine v_lload X dX8_in_7 rfl ?_
      refine v_lcmp X dX8_in_9 (by omega) (by omega) (fun c2 => ?_) (fun c2 => ?_) (fun c2 => ?_)
      · skip
        refine v_if_gt (tgt := 17) X dX8_in_10 (by decide) (by decide) (fun hh => ?_) (fun hh => ?_)
        · skip
          refine v_iconst X dX8_in_17 ?_
          exact v_zret X Y dX8_in_18 (by first | decide | omega | (split <;> omega)) (u := ()) (by first | rfl | omega | (split <;> omega) | (simp [*]; done)) (by rfl)
        · skip
          exfalso; omega
      · skip
        refine v_if_gt (tgt := 17) X dX8_in_10 (by decide) (by decide) (fun hh => ?_) (fun hh => ?_)
        · skip
          exfalso; omega
        · skip
          refine v_iconst X dX8_in_13 ?_
          refine v_goto (tgt := 18) X dX8_in_14 (by decide) ?_
          exact v_zret X Y dX8_in_18 (by first | decide | omega | (split <;> omega)) (u := ()) (by first | rfl | omega | (split <;> omega) | (simp [*]; done)) (by rfl)
      · skip
        refine v_if_gt (tgt := 17) X dX8_in_10 (by decide) (by decide) (fun hh => ?_) (fun hh => ?_)
        · skip
          exfalso; omega
        · skip
          refine v_iconst X dX8_in_13 ?_
          refine v_goto (tgt := 18) X dX8_in_14 (by decide) ?_
          exact v_zret X Y dX8_in_18 (by first | decide | omega | (split <;> omega)) (u := ()) (by first | rfl | omega | (split <;> omega) | (simp [*]; done)) (by rfl)
  · skip
    refine v_if_lt (tgt := 17) X dX8_in_3 (by decide) (by decide) (fun hh => ?_) (fun hh => ?_)
    · skip
      exfalso; omega
    · skip
      refine v_lload_n X dX8_in_6 rfl ?_
      refine v_lload X dX8_in_7 rfl ?_
      refine v_lcmp X dX8_in_9 (by omega) (by omega) (fun c3 => ?_) (fun c3 => ?_) (fun c3 => ?_)
      · skip
        refine v_if_gt (tgt := 17) X dX8_in_10 (by decide) (by decide) (fun hh => ?_) (fun hh => ?_)
        · skip
          refine v_iconst X dX8_in_17 ?_
          exact v_zret X Y dX8_in_18 (by first | decide | omega | (split <;> omega)) (u := ()) (by first | rfl | omega | (split <;> omega) | (simp [*]; done)) (by rfl)
        · skip
          exfalso; omega
      · skip
        refine v_if_gt (tgt := 17) X dX8_in_10 (by decide) (by decide) (fun hh => ?_) (fun hh => ?_)
        · skip
          exfalso; omega
        · skip
          refine v_iconst X dX8_in_13 ?_
          refine v_goto (tgt := 18) X dX8_in_14 (by decide) ?_
          exact v_zret X Y dX8_in_18 (by first | decide | omega | (split <;> omega)) (u := ()) (by first | rfl | omega | (split <;> omega) | (simp [*]; done)) (by rfl)
      · skip
        refine v_if_gt (tgt := 17) X dX8_in_10 (by decide) (by decide) (fun hh => ?_) (fun hh => ?_)
        · skip
          exfalso; omega
        · skip
          refine v_iconst X dX8_in_13 ?_
          refine v_goto (tgt := 18) X dX8_in_14 (by decide) ?_
          exact v_zret X Y dX8_in_18 (by first | decide | omega | (split <;> omega)) (u := ()) (by first | rfl | omega | (split <;> omega) | (simp [*]; done)) (by rfl)
  · skip
    refine v_if_lt (tgt := 17) X dX8_in_3 (by decide) (by decide) (fun hh => ?_) (fun hh => ?_)
    · skip
      refine v_iconst X dX8_in_17 ?_
      exact v_zret X Y dX8_in_18 (by first | decide | omega | (split <;> omega)) (u := ()) (by first | rfl | omega | (split <;> omega) | (simp [*]; done)) (by rfl)
    · skip
      exfalso; omega

theorem hdX8_isRow : yX8_isRow.cls = RX8 ∧ yX8_isRow.cls ≠ "java/lang/invoke/MethodHandle" ∧ yX8_isRow.cls ≠ "java/lang/invoke/VarHandle" ∧ (parseMethodDescriptor yX8_isRow.desc).map (fun d => d.parameters.length) = some 1 := ⟨rfl, by decide +kernel, by decide +kernel, by decide +kernel⟩
set_option maxHeartbeats 4000000 in
set_option maxRecDepth 100000 in
theorem c_X8_isRow {g : Gx} {a : Int} (ha : R32 a) : CtE g yX8_isRow wsX8_isRow 1 25 [.int (iI a)] ([]) (if 0 ≤ a ∧ a < 8 then 1 else 0) ([]) := by
  refine m_go (cc := cX8_isRow) (nL := 1) (by decide +kernel) rfl (Nat.le_of_ble_eq_true rfl) (fun x X Y hnm => ?_)
  refine v_eq (lo2 := [some (.int (iI a))]) rfl rfl rfl rfl ?_
  refine v_iload_n X dX8_isRow_0 rfl ?_
  refine v_i2l X dX8_isRow_1 (by first | omega | (split <;> omega)) ?_
  refine v_lconst0 X dX8_isRow_2 ?_
  refine v_ldc2 X (List.mem_of_getElem? (i := 1) rfl) dX8_isRow_3 (n := 7) (by decide) ?_
  refine res_E X (run_S X (c_X8_in (g := g) (by first | assumption | omega) (by first | assumption | omega) (by first | assumption | omega)) gX8_isRow_X8_in rfl hdX8_in.2 ⟨(Nat.le_of_ble_eq_true rfl), (Nat.le_of_ble_eq_true rfl)⟩ ⟨(Nat.le_of_ble_eq_true rfl), (Nat.le_of_ble_eq_true rfl)⟩ [] rfl rfl rfl rfl (by simp [Value.category]) dX8_isRow_6) [] rfl rfl ?_
  exact v_zret X Y dX8_isRow_9 (by first | decide | omega | (split <;> omega)) (u := ()) (by split <;> split <;> omega) (by rfl)

theorem hdX8_isLetter : yX8_isLetter.cls = RX8 ∧ yX8_isLetter.cls ≠ "java/lang/invoke/MethodHandle" ∧ yX8_isLetter.cls ≠ "java/lang/invoke/VarHandle" ∧ (parseMethodDescriptor yX8_isLetter.desc).map (fun d => d.parameters.length) = some 1 := ⟨rfl, by decide +kernel, by decide +kernel, by decide +kernel⟩
set_option maxHeartbeats 4000000 in
set_option maxRecDepth 100000 in
theorem c_X8_isLetter {g : Gx} {a : Int} (ha : R32 a) : CtE g yX8_isLetter wsX8_isLetter 0 0 [.int (iI a)] ([]) (if 97 ≤ a ∧ a ≤ 122 then 1 else 0) ([]) := by
  refine m_go (cc := cX8_isLetter) (nL := 1) (by decide +kernel) rfl (Nat.le_of_ble_eq_true rfl) (fun x X Y hnm => ?_)
  refine v_eq (lo2 := [some (.int (iI a))]) rfl rfl rfl rfl ?_
  refine v_iload_n X dX8_isLetter_0 rfl ?_
  refine v_bipush X dX8_isLetter_1 (by decide) ?_
  refine v_icmp_lt (tgt := 16) X dX8_isLetter_3 (by decide) (by omega) (by omega) (fun c1 => ?_) (fun c1 => ?_)
  · skip
    refine v_iconst X dX8_isLetter_16 ?_
    exact v_zret X Y dX8_isLetter_17 (by first | decide | omega | (split <;> omega)) (u := ()) (by first | rfl | omega | (split <;> omega) | (simp [*]; done)) (by rfl)
  · skip
    refine v_iload_n X dX8_isLetter_6 rfl ?_
    refine v_bipush X dX8_isLetter_7 (by decide) ?_
    refine v_icmp_gt (tgt := 16) X dX8_isLetter_9 (by decide) (by omega) (by omega) (fun c2 => ?_) (fun c2 => ?_)
    · skip
      refine v_iconst X dX8_isLetter_16 ?_
      exact v_zret X Y dX8_isLetter_17 (by first | decide | omega | (split <;> omega)) (u := ()) (by first | rfl | omega | (split <;> omega) | (simp [*]; done)) (by rfl)
    · skip
      refine v_iconst X dX8_isLetter_12 ?_
      refine v_goto (tgt := 17) X dX8_isLetter_13 (by decide) ?_
      exact v_zret X Y dX8_isLetter_17 (by first | decide | omega | (split <;> omega)) (u := ()) (by first | rfl | omega | (split <;> omega) | (simp [*]; done)) (by rfl)

theorem hdX8_isFigure : yX8_isFigure.cls = RX8 ∧ yX8_isFigure.cls ≠ "java/lang/invoke/MethodHandle" ∧ yX8_isFigure.cls ≠ "java/lang/invoke/VarHandle" ∧ (parseMethodDescriptor yX8_isFigure.desc).map (fun d => d.parameters.length) = some 1 := ⟨rfl, by decide +kernel, by decide +kernel, by decide +kernel⟩
set_option maxHeartbeats 4000000 in
set_option maxRecDepth 100000 in
theorem c_X8_isFigure {g : Gx} {a : Int} (ha : R32 a) : CtE g yX8_isFigure wsX8_isFigure 0 0 [.int (iI a)] ([]) (if 48 ≤ a ∧ a ≤ 57 then 1 else 0) ([]) := by
  refine m_go (cc := cX8_isFigure) (nL := 1) (by decide +kernel) rfl (Nat.le_of_ble_eq_true rfl) (fun x X Y hnm => ?_)
  refine v_eq (lo2 := [some (.int (iI a))]) rfl rfl rfl rfl ?_
  refine v_iload_n X dX8_isFigure_0 rfl ?_
  refine v_bipush X dX8_isFigure_1 (by decide) ?_
  refine v_icmp_lt (tgt := 16) X dX8_isFigure_3 (by decide) (by omega) (by omega) (fun c1 => ?_) (fun c1 => ?_)
  · skip
    refine v_iconst X dX8_isFigure_16 ?_
    exact v_zret X Y dX8_isFigure_17 (by first | decide | omega | (split <;> omega)) (u := ()) (by first | rfl | omega | (split <;> omega) | (simp [*]; done)) (by rfl)
  · skip
    refine v_iload_n X dX8_isFigure_6 rfl ?_
    refine v_bipush X dX8_isFigure_7 (by decide) ?_
    refine v_icmp_gt (tgt := 16) X dX8_isFigure_9 (by decide) (by omega) (by omega) (fun c2 => ?_) (fun c2 => ?_)
    · skip
      refine v_iconst X dX8_isFigure_16 ?_
      exact v_zret X Y dX8_isFigure_17 (by first | decide | omega | (split <;> omega)) (u := ()) (by first | rfl | omega | (split <;> omega) | (simp [*]; done)) (by rfl)
    · skip
      refine v_iconst X dX8_isFigure_12 ?_
      refine v_goto (tgt := 17) X dX8_isFigure_13 (by decide) ?_
      exact v_zret X Y dX8_isFigure_17 (by first | decide | omega | (split <;> omega)) (u := ()) (by first | rfl | omega | (split <;> omega) | (simp [*]; done)) (by rfl)

theorem hdX8_isMoment : yX8_isMoment.cls = RX8 ∧ yX8_isMoment.cls ≠ "java/lang/invoke/MethodHandle" ∧ yX8_isMoment.cls ≠ "java/lang/invoke/VarHandle" ∧ (parseMethodDescriptor yX8_isMoment.desc).map (fun d => d.parameters.length) = some 2 := ⟨rfl, by decide +kernel, by decide +kernel, by decide +kernel⟩
set_option maxHeartbeats 4000000 in
set_option maxRecDepth 100000 in
theorem c_X8_isMoment {g : Gx} {p q : Int} (hp : R32 p) (hq : R32 q) : CtE g yX8_isMoment wsX8_isMoment 1 25 [.int (iI p), .int (iI q)] ([]) (if 1 ≤ q ∧ q ≤ 9999 ∧ 0 ≤ p ∧ p < q then 1 else 0) ([]) := by
  refine m_go (cc := cX8_isMoment) (nL := 2) (by decide +kernel) rfl (Nat.le_of_ble_eq_true rfl) (fun x X Y hnm => ?_)
  refine v_eq (lo2 := [some (.int (iI p)), some (.int (iI q))]) rfl rfl rfl rfl ?_
  refine v_iload_n X dX8_isMoment_0 rfl ?_
  refine v_i2l X dX8_isMoment_1 (by first | omega | (split <;> omega)) ?_
  refine v_lconst1 X dX8_isMoment_2 ?_
  refine v_ldc2 X (List.mem_of_getElem? (i := 1) rfl) dX8_isMoment_3 (n := 9999) (by decide) ?_
  refine res_E X (run_S X (c_X8_in (g := g) (by first | assumption | omega) (by first | assumption | omega) (by first | assumption | omega)) gX8_isMoment_X8_in rfl hdX8_in.2 ⟨(Nat.le_of_ble_eq_true rfl), (Nat.le_of_ble_eq_true rfl)⟩ ⟨(Nat.le_of_ble_eq_true rfl), (Nat.le_of_ble_eq_true rfl)⟩ [] rfl rfl rfl rfl (by simp [Value.category]) dX8_isMoment_6) [] rfl rfl ?_
  refine v_ifb_eq (tgt := 29) X dX8_isMoment_9 (by decide) (fun c1 => ?_) (fun c1 => ?_)
  · skip
    refine v_iconst X dX8_isMoment_29 ?_
    exact v_zret X Y dX8_isMoment_30 (by first | decide | omega | (split <;> omega)) (u := ()) (by first | rfl | omega | (split <;> omega) | (split <;> split <;> omega)) (by rfl)
  · skip
    refine v_iload_n X dX8_isMoment_12 rfl ?_
    refine v_i2l X dX8_isMoment_13 (by first | omega | (split <;> omega)) ?_
    refine v_lconst0 X dX8_isMoment_14 ?_
    refine v_iload_n X dX8_isMoment_15 rfl ?_
    refine v_iconst X dX8_isMoment_16 ?_
    refine v_isub X dX8_isMoment_17 ?_
    refine v_i2l X dX8_isMoment_18 (by first | omega | (split <;> omega)) ?_
    refine res_E X (run_S X (c_X8_in (g := g) (by first | assumption | omega) (by first | assumption | omega) (by first | assumption | omega)) gX8_isMoment_X8_in rfl hdX8_in.2 ⟨(Nat.le_of_ble_eq_true rfl), (Nat.le_of_ble_eq_true rfl)⟩ ⟨(Nat.le_of_ble_eq_true rfl), (Nat.le_of_ble_eq_true rfl)⟩ [] rfl rfl rfl rfl (by simp [Value.category]) dX8_isMoment_19) [] rfl rfl ?_
    refine v_ifb_eq (tgt := 29) X dX8_isMoment_22 (by decide) (fun c2 => ?_) (fun c2 => ?_)
    · skip
      refine v_iconst X dX8_isMoment_29 ?_
      exact v_zret X Y dX8_isMoment_30 (by first | decide | omega | (split <;> omega)) (u := ()) (by first | rfl | omega | (split <;> omega) | (split <;> split <;> omega)) (by rfl)
    · skip
      refine v_iconst X dX8_isMoment_25 ?_
      refine v_goto (tgt := 30) X dX8_isMoment_26 (by decide) ?_
      exact v_zret X Y dX8_isMoment_30 (by first | decide | omega | (split <;> omega)) (u := ()) (by first | rfl | omega | (split <;> omega) | (split <;> split <;> omega)) (by rfl)

theorem hdX8_size : yX8_size.cls = RX8 ∧ yX8_size.cls ≠ "java/lang/invoke/MethodHandle" ∧ yX8_size.cls ≠ "java/lang/invoke/VarHandle" ∧ (parseMethodDescriptor yX8_size.desc).map (fun d => d.parameters.length) = some 1 := ⟨rfl, by decide +kernel, by decide +kernel, by decide +kernel⟩
set_option maxHeartbeats 4000000 in
set_option maxRecDepth 100000 in
theorem c_X8_size {g : Gx} {v : Int} (hv : -2147483647 ≤ v ∧ v ≤ 2147483647) : CtE g yX8_size wsX8_size 0 0 [.int (iI v)] ([]) (absI v) ([]) := by
  refine m_go (cc := cX8_size) (nL := 1) (by decide +kernel) rfl (Nat.le_of_ble_eq_true rfl) (fun x X Y hnm => ?_)
  refine v_eq (lo2 := [some (.int (iI v))]) rfl rfl rfl rfl ?_
  refine v_iload_n X dX8_size_0 rfl ?_
  refine v_if_ge (tgt := 9) X dX8_size_1 (by decide) (by omega) (fun c1 => ?_) (fun c1 => ?_)
  · skip
    refine v_iload_n X dX8_size_9 rfl ?_
    exact v_iret X Y dX8_size_10 (u := ()) (by unfold absI; split <;> omega) (by rfl)
  · skip
    refine v_iload_n X dX8_size_4 rfl ?_
    refine v_ineg X dX8_size_5 ?_
    refine v_goto (tgt := 10) X dX8_size_6 (by decide) ?_
    exact v_iret X Y dX8_size_10 (u := ()) (by unfold absI; split <;> omega) (by rfl)

theorem hdX8_rest : yX8_rest.cls = RX8 ∧ yX8_rest.cls ≠ "java/lang/invoke/MethodHandle" ∧ yX8_rest.cls ≠ "java/lang/invoke/VarHandle" ∧ (parseMethodDescriptor yX8_rest.desc).map (fun d => d.parameters.length) = some 2 := ⟨rfl, by decide +kernel, by decide +kernel, by decide +kernel⟩
set_option maxHeartbeats 4000000 in
set_option maxRecDepth 100000 in
theorem c_X8_rest {g : Gx} {n w : Int} (hn : R32 n) (hw : R32 w) (h0 : 0 < w) : CtE g yX8_rest wsX8_rest 0 0 [.int (iI n), .int (iI w)] ([]) (restI n w) ([]) := by
  refine m_go (cc := cX8_rest) (nL := 3) (by decide +kernel) rfl (Nat.le_of_ble_eq_true rfl) (fun x X Y hnm => ?_)
  refine v_eq (lo2 := [some (.int (iI n)), some (.int (iI w)), none]) rfl rfl rfl rfl ?_
  have q1 := tmod_emod (x := n) h0
  have q5 := Int.tmod_lt_of_pos n h0
  have q6 := Int.lt_tmod_of_pos n h0
  have q7 : restI n w = n % w := if_neg (by omega)
  refine v_iload_n X dX8_rest_0 rfl ?_
  refine v_iload_n X dX8_rest_1 rfl ?_
  refine v_irem X dX8_rest_2 (by omega) (by omega) (by omega) ?_
  refine v_istore_n X dX8_rest_3 2 rfl (by decide) rfl ?_
  dsimp only [List.set]
  refine v_iload_n X dX8_rest_4 rfl ?_
  refine v_if_ge (tgt := 14) X dX8_rest_5 (by decide) (by omega) (fun c1 => ?_) (fun c1 => ?_)
  · skip
    refine v_iload_n X dX8_rest_14 rfl ?_
    exact v_iret X Y dX8_rest_15 (u := ()) (by rw [q7, q1]; split <;> omega) (by rfl)
  · skip
    refine v_iload_n X dX8_rest_8 rfl ?_
    refine v_iload_n X dX8_rest_9 rfl ?_
    refine v_iadd X dX8_rest_10 ?_
    refine v_goto (tgt := 15) X dX8_rest_11 (by decide) ?_
    exact v_iret X Y dX8_rest_15 (u := ()) (by rw [q7, q1]; split <;> omega) (by rfl)

theorem hdX8_divisor : yX8_divisor.cls = RX8 ∧ yX8_divisor.cls ≠ "java/lang/invoke/MethodHandle" ∧ yX8_divisor.cls ≠ "java/lang/invoke/VarHandle" ∧ (parseMethodDescriptor yX8_divisor.desc).map (fun d => d.parameters.length) = some 2 := ⟨rfl, by decide +kernel, by decide +kernel, by decide +kernel⟩
set_option maxHeartbeats 4000000 in
set_option maxRecDepth 100000 in
theorem c_X8_divisor {g : Gx} {a b : Int} (ha : 0 ≤ a) (ha2 : a ≤ 2147483647) (hb : 0 ≤ b) (hb2 : b ≤ 2147483647) : CtE g yX8_divisor wsX8_divisor 0 0 [.int (iI a), .int (iI b)] ([]) ((Int.gcd a b : Int)) ([]) := by
  refine m_go (cc := cX8_divisor) (nL := 5) (by decide +kernel) rfl (Nat.le_of_ble_eq_true rfl) (fun x X Y hnm => ?_)
  refine v_eq (lo2 := [some (.int (iI a)), some (.int (iI b)), none, none, none]) rfl rfl rfl rfl ?_
  refine v_iload_n X dX8_divisor_0 rfl ?_
  refine v_istore_n X dX8_divisor_1 2 rfl (by decide) rfl ?_
  dsimp only [List.set]
  refine v_iload_n X dX8_divisor_2 rfl ?_
  refine v_istore_n X dX8_divisor_3 3 rfl (by decide) rfl ?_
  dsimp only [List.set]
  have L4 : ∀ (nf : Nat) (gr : Int) (ls : Int) (h1 : 0 ≤ gr ∧ gr ≤ 2147483647) (h2 : 0 ≤ ls ∧ ls ≤ 2147483647) (h5 : (Int.gcd gr ls : Int) = Int.gcd a b) (_ : ls.toNat < nf), V g x 0 0 ([]) [some (.int (iI a)), some (.int (iI b)), some (.int (iI gr)), some (.int (iI ls)), none] 4 [] := by
    intro nf
    induction nf with
    | zero => intro gr ls h1 h2 h5 hmu; exact absurd hmu (Nat.not_lt_zero _)
    | succ nf ih4 =>
      intro gr ls h1 h2 h5 hmu
      refine v_iload_n X dX8_divisor_4 rfl ?_
      refine v_if_eq (tgt := 21) X dX8_divisor_5 (by decide) (by omega) (fun c1 => ?_) (fun c1 => ?_)
      · skip
        refine v_iload_n X dX8_divisor_21 rfl ?_
        exact v_iret X Y dX8_divisor_22 (u := ()) (by
            have e : ls = 0 := by omega
            rw [← h5, e, gcd_0 h1.1]) (by rfl)
      · skip
        refine v_iload_n X dX8_divisor_8 rfl ?_
        refine v_iload_n X dX8_divisor_9 rfl ?_
        refine v_irem X dX8_divisor_10 (by omega) (by omega) (by omega) ?_
        have q1 := Int.tmod_lt_of_pos gr (show 0 < ls by omega)
        have q2 := Int.tmod_nonneg ls h1.1
        refine v_istore X dX8_divisor_11 (by decide) rfl ?_
        dsimp only [List.set]
        refine v_iload_n X dX8_divisor_13 rfl ?_
        refine v_istore_n X dX8_divisor_14 2 rfl (by decide) rfl ?_
        dsimp only [List.set]
        refine v_iload X dX8_divisor_15 rfl ?_
        refine v_istore_n X dX8_divisor_17 3 rfl (by decide) rfl ?_
        dsimp only [List.set]
        refine v_goto (tgt := 4) X dX8_divisor_18 (by decide) ?_
        refine v_drop 4 ?_
        dsimp only [List.set]
        exact ih4 _ _ (by omega) (by omega) (by rw [gcd_step h1.1 h2.1]; exact h5) (by omega)
  exact L4 _ _ _ (by omega) (by omega) (by rfl) (Nat.lt_succ_self _)

theorem hdX8_told : yX8_told.cls = RX8 ∧ yX8_told.cls ≠ "java/lang/invoke/MethodHandle" ∧ yX8_told.cls ≠ "java/lang/invoke/VarHandle" ∧ (parseMethodDescriptor yX8_told.desc).map (fun d => d.parameters.length) = some 3 := ⟨rfl, by decide +kernel, by decide +kernel, by decide +kernel⟩
set_option maxHeartbeats 4000000 in
set_option maxRecDepth 100000 in
theorem c_X8_told {g : Gx} {a b w : Int} (ha : 0 ≤ a) (ha2 : a ≤ 2147483647) (hb : 0 < b) (hb2 : b ≤ 2147483647) (hw : R32 w) : CtE g yX8_told wsX8_told 1 24 [.int (iI a), .int (iI b), .int (iI w)] ([]) (toldI a b w) ([]) := by
  refine m_go (cc := cX8_told) (nL := 3) (by decide +kernel) rfl (Nat.le_of_ble_eq_true rfl) (fun x X Y hnm => ?_)
  refine v_eq (lo2 := [some (.int (iI a)), some (.int (iI b)), some (.int (iI w))]) rfl rfl rfl rfl ?_
  have q1 := gcd_le ha (show 0 ≤ b by omega) (show (0:Int) ≤ 2147483647 by omega) ha2 hb2
  have q2 := tdiv_of_nn (b := (Int.gcd a b : Int)) ha
  have q3 := tdiv_of_nn (a := b) (b := (Int.gcd a b : Int)) (by omega)
  have q4 := gcd_pos (a := a) hb
  refine v_iload_n X dX8_told_0 rfl ?_
  refine v_if_ne (tgt := 8) X dX8_told_1 (by decide) (by omega) (fun c1 => ?_) (fun c1 => ?_)
  · skip
    refine v_iload_n X dX8_told_8 rfl ?_
    refine v_iload_n X dX8_told_9 rfl ?_
    refine v_iload_n X dX8_told_10 rfl ?_
    refine res_E X (run_S X (c_X8_divisor (g := g) (by first | assumption | omega) (by first | assumption | omega) (by first | assumption | omega) (by first | assumption | omega)) gX8_told_X8_divisor rfl hdX8_divisor.2 ⟨(Nat.le_of_ble_eq_true rfl), (Nat.le_of_ble_eq_true rfl)⟩ ⟨(Nat.le_of_ble_eq_true rfl), (Nat.le_of_ble_eq_true rfl)⟩ [] rfl rfl rfl rfl (by simp [Value.category]) dX8_told_11) [] rfl rfl ?_
    refine v_idiv X dX8_told_14 (by omega) (by omega) (by omega) ?_
    exact v_iret X Y dX8_told_15 (u := ()) (by unfold toldI; split <;> omega) (by rfl)
  · skip
    refine v_iload_n X dX8_told_4 rfl ?_
    refine v_goto (tgt := 9) X dX8_told_5 (by decide) ?_
    refine v_iload_n X dX8_told_9 rfl ?_
    refine v_iload_n X dX8_told_10 rfl ?_
    refine res_E X (run_S X (c_X8_divisor (g := g) (by first | assumption | omega) (by first | assumption | omega) (by first | assumption | omega) (by first | assumption | omega)) gX8_told_X8_divisor rfl hdX8_divisor.2 ⟨(Nat.le_of_ble_eq_true rfl), (Nat.le_of_ble_eq_true rfl)⟩ ⟨(Nat.le_of_ble_eq_true rfl), (Nat.le_of_ble_eq_true rfl)⟩ [] rfl rfl rfl rfl (by simp [Value.category]) dX8_told_11) [] rfl rfl ?_
    refine v_idiv X dX8_told_14 (by omega) (by omega) (by omega) ?_
    exact v_iret X Y dX8_told_15 (u := ()) (by unfold toldI; split <;> omega) (by rfl)

theorem hdX8_isOf : yX8_isOf.cls = RX8 ∧ yX8_isOf.cls ≠ "java/lang/invoke/MethodHandle" ∧ yX8_isOf.cls ≠ "java/lang/invoke/VarHandle" ∧ (parseMethodDescriptor yX8_isOf.desc).map (fun d => d.parameters.length) = some 2 := ⟨rfl, by decide +kernel, by decide +kernel, by decide +kernel⟩
set_option maxHeartbeats 4000000 in
set_option maxRecDepth 100000 in
theorem c_X8_isOf {g : Gx} {s t : Int} (hs : R32 s) (ht : R32 t) : CtE g yX8_isOf wsX8_isOf 0 0 [.int (iI s), .int (iI t)] ([]) (if t = 0 ∨ s = t ∨ (t = 1 ∧ s < 4) ∨ (t = 4 ∧ s = 5) then 1 else 0) ([]) := by
  refine m_go (cc := cX8_isOf) (nL := 2) (by decide +kernel) rfl (Nat.le_of_ble_eq_true rfl) (fun x X Y hnm => ?_)
  refine v_eq (lo2 := [some (.int (iI s)), some (.int (iI t))]) rfl rfl rfl rfl ?_
  refine v_iload_n X dX8_isOf_0 rfl ?_
  refine v_if_eq (tgt := 29) X dX8_isOf_1 (by decide) (by omega) (fun c1 => ?_) (fun c1 => ?_)
  · skip
    refine v_iconst X dX8_isOf_29 ?_
    refine v_goto (tgt := 34) X dX8_isOf_30 (by decide) ?_
    exact v_zret X Y dX8_isOf_34 (by first | decide | omega | (split <;> omega)) (u := ()) (by first | rfl | omega | (split <;> omega) | (simp [*]; done)) (by rfl)
  · skip
    refine v_iload_n X dX8_isOf_4 rfl ?_
    refine v_iload_n X dX8_isOf_5 rfl ?_
    refine v_icmp_eq (tgt := 29) X dX8_isOf_6 (by decide) (by omega) (by omega) (fun c2 => ?_) (fun c2 => ?_)
    · skip
      refine v_iconst X dX8_isOf_29 ?_
      refine v_goto (tgt := 34) X dX8_isOf_30 (by decide) ?_
      exact v_zret X Y dX8_isOf_34 (by first | decide | omega | (split <;> omega)) (u := ()) (by first | rfl | omega | (split <;> omega) | (simp [*]; done)) (by rfl)
    · skip
      refine v_iload_n X dX8_isOf_9 rfl ?_
      refine v_iconst X dX8_isOf_10 ?_
      refine v_icmp_ne (tgt := 19) X dX8_isOf_11 (by decide) (by omega) (by omega) (fun c3 => ?_) (fun c3 => ?_)
      · skip
        refine v_iload_n X dX8_isOf_19 rfl ?_
        refine v_iconst X dX8_isOf_20 ?_
        refine v_icmp_ne (tgt := 33) X dX8_isOf_21 (by decide) (by omega) (by omega) (fun c4 => ?_) (fun c4 => ?_)
        · skip
          refine v_iconst X dX8_isOf_33 ?_
          exact v_zret X Y dX8_isOf_34 (by first | decide | omega | (split <;> omega)) (u := ()) (by first | rfl | omega | (split <;> omega) | (simp [*]; done)) (by rfl)
        · skip
          refine v_iload_n X dX8_isOf_24 rfl ?_
          refine v_iconst X dX8_isOf_25 ?_
          refine v_icmp_ne (tgt := 33) X dX8_isOf_26 (by decide) (by omega) (by omega) (fun c5 => ?_) (fun c5 => ?_)
          · skip
            refine v_iconst X dX8_isOf_33 ?_
            exact v_zret X Y dX8_isOf_34 (by first | decide | omega | (split <;> omega)) (u := ()) (by first | rfl | omega | (split <;> omega) | (simp [*]; done)) (by rfl)
          · skip
            refine v_iconst X dX8_isOf_29 ?_
            refine v_goto (tgt := 34) X dX8_isOf_30 (by decide) ?_
            exact v_zret X Y dX8_isOf_34 (by first | decide | omega | (split <;> omega)) (u := ()) (by first | rfl | omega | (split <;> omega) | (simp [*]; done)) (by rfl)
      · skip
        refine v_iload_n X dX8_isOf_14 rfl ?_
        refine v_iconst X dX8_isOf_15 ?_
        refine v_icmp_lt (tgt := 29) X dX8_isOf_16 (by decide) (by omega) (by omega) (fun c6 => ?_) (fun c6 => ?_)
        · skip
          refine v_iconst X dX8_isOf_29 ?_
          refine v_goto (tgt := 34) X dX8_isOf_30 (by decide) ?_
          exact v_zret X Y dX8_isOf_34 (by first | decide | omega | (split <;> omega)) (u := ()) (by first | rfl | omega | (split <;> omega) | (simp [*]; done)) (by rfl)
        · skip
          refine v_iload_n X dX8_isOf_19 rfl ?_
          refine v_iconst X dX8_isOf_20 ?_
          refine v_icmp_ne (tgt := 33) X dX8_isOf_21 (by decide) (by omega) (by omega) (fun c7 => ?_) (fun c7 => ?_)
          · skip
            refine v_iconst X dX8_isOf_33 ?_
            exact v_zret X Y dX8_isOf_34 (by first | decide | omega | (split <;> omega)) (u := ()) (by first | rfl | omega | (split <;> omega) | (simp [*]; done)) (by rfl)
          · skip
            refine v_iload_n X dX8_isOf_24 rfl ?_
            refine v_iconst X dX8_isOf_25 ?_
            refine v_icmp_ne (tgt := 33) X dX8_isOf_26 (by decide) (by omega) (by omega) (fun c8 => ?_) (fun c8 => ?_)
            · skip
              refine v_iconst X dX8_isOf_33 ?_
              exact v_zret X Y dX8_isOf_34 (by first | decide | omega | (split <;> omega)) (u := ()) (by first | rfl | omega | (split <;> omega) | (simp [*]; done)) (by rfl)
            · skip
              refine v_iconst X dX8_isOf_29 ?_
              refine v_goto (tgt := 34) X dX8_isOf_30 (by decide) ?_
              exact v_zret X Y dX8_isOf_34 (by first | decide | omega | (split <;> omega)) (u := ()) (by first | rfl | omega | (split <;> omega) | (simp [*]; done)) (by rfl)

theorem hdX8_isSo : yX8_isSo.cls = RX8 ∧ yX8_isSo.cls ≠ "java/lang/invoke/MethodHandle" ∧ yX8_isSo.cls ≠ "java/lang/invoke/VarHandle" ∧ (parseMethodDescriptor yX8_isSo.desc).map (fun d => d.parameters.length) = some 2 := ⟨rfl, by decide +kernel, by decide +kernel, by decide +kernel⟩
set_option maxHeartbeats 4000000 in
set_option maxRecDepth 100000 in
theorem c_X8_isSo {g : Gx} {p h : Int} (hp : 0 ≤ p ∧ p ≤ 2147483647) (hh : 0 ≤ h ∧ h ≤ 2) : CtE g yX8_isSo wsX8_isSo 0 0 [.int (iI p), .int (iI h)] ([]) (if (h = 0 ∧ p % 4 = 0) ∨ (h = 1 ∧ p % 4 = 2) ∨ (h = 2 ∧ p % 2 = 1) then 1 else 0) ([]) := by
  refine m_go (cc := cX8_isSo) (nL := 2) (by decide +kernel) rfl (Nat.le_of_ble_eq_true rfl) (fun x X Y hnm => ?_)
  refine v_eq (lo2 := [some (.int (iI p)), some (.int (iI h))]) rfl rfl rfl rfl ?_
  have q1 : p.tmod 4 = p % 4 := Int.tmod_eq_emod_of_nonneg hp.1
  have q2 : p.tmod 2 = p % 2 := Int.tmod_eq_emod_of_nonneg hp.1
  refine v_iload_n X dX8_isSo_0 rfl ?_
  refine v_if_ne (tgt := 18) X dX8_isSo_1 (by decide) (by omega) (fun c1 => ?_) (fun c1 => ?_)
  · skip
    refine v_iload_n X dX8_isSo_18 rfl ?_
    refine v_iconst X dX8_isSo_19 ?_
    refine v_icmp_ne (tgt := 38) X dX8_isSo_20 (by decide) (by omega) (by omega) (fun c2 => ?_) (fun c2 => ?_)
    · skip
      refine v_iload_n X dX8_isSo_38 rfl ?_
      refine v_iconst X dX8_isSo_39 ?_
      refine v_irem X dX8_isSo_40 (by omega) (by omega) (by omega) ?_
      refine v_iconst X dX8_isSo_41 ?_
      refine v_icmp_ne (tgt := 49) X dX8_isSo_42 (by decide) (by omega) (by omega) (fun c3 => ?_) (fun c3 => ?_)
      · skip
        refine v_iconst X dX8_isSo_49 ?_
        exact v_zret X Y dX8_isSo_50 (by first | decide | omega | (split <;> omega)) (u := ()) (by first | rfl | omega | (split <;> omega) | (simp [*]; done)) (by rfl)
      · skip
        refine v_iconst X dX8_isSo_45 ?_
        refine v_goto (tgt := 50) X dX8_isSo_46 (by decide) ?_
        exact v_zret X Y dX8_isSo_50 (by first | decide | omega | (split <;> omega)) (u := ()) (by first | rfl | omega | (split <;> omega) | (simp [*]; done)) (by rfl)
    · skip
      refine v_iload_n X dX8_isSo_23 rfl ?_
      refine v_iconst X dX8_isSo_24 ?_
      refine v_irem X dX8_isSo_25 (by omega) (by omega) (by omega) ?_
      refine v_iconst X dX8_isSo_26 ?_
      refine v_icmp_ne (tgt := 34) X dX8_isSo_27 (by decide) (by omega) (by omega) (fun c4 => ?_) (fun c4 => ?_)
      · skip
        refine v_iconst X dX8_isSo_34 ?_
        refine v_goto (tgt := 50) X dX8_isSo_35 (by decide) ?_
        exact v_zret X Y dX8_isSo_50 (by first | decide | omega | (split <;> omega)) (u := ()) (by first | rfl | omega | (split <;> omega) | (simp [*]; done)) (by rfl)
      · skip
        refine v_iconst X dX8_isSo_30 ?_
        refine v_goto (tgt := 50) X dX8_isSo_31 (by decide) ?_
        exact v_zret X Y dX8_isSo_50 (by first | decide | omega | (split <;> omega)) (u := ()) (by first | rfl | omega | (split <;> omega) | (simp [*]; done)) (by rfl)
  · skip
    refine v_iload_n X dX8_isSo_4 rfl ?_
    refine v_iconst X dX8_isSo_5 ?_
    refine v_irem X dX8_isSo_6 (by omega) (by omega) (by omega) ?_
    refine v_if_ne (tgt := 14) X dX8_isSo_7 (by decide) (by omega) (fun c5 => ?_) (fun c5 => ?_)
    · skip
      refine v_iconst X dX8_isSo_14 ?_
      refine v_goto (tgt := 50) X dX8_isSo_15 (by decide) ?_
      exact v_zret X Y dX8_isSo_50 (by first | decide | omega | (split <;> omega)) (u := ()) (by first | rfl | omega | (split <;> omega) | (simp [*]; done)) (by rfl)
    · skip
      refine v_iconst X dX8_isSo_10 ?_
      refine v_goto (tgt := 50) X dX8_isSo_11 (by decide) ?_
      exact v_zret X Y dX8_isSo_50 (by first | decide | omega | (split <;> omega)) (u := ()) (by first | rfl | omega | (split <;> omega) | (simp [*]; done)) (by rfl)

theorem hdX8_kindBy : yX8_kindBy.cls = RX8 ∧ yX8_kindBy.cls ≠ "java/lang/invoke/MethodHandle" ∧ yX8_kindBy.cls ≠ "java/lang/invoke/VarHandle" ∧ (parseMethodDescriptor yX8_kindBy.desc).map (fun d => d.parameters.length) = some 1 := ⟨rfl, by decide +kernel, by decide +kernel, by decide +kernel⟩
set_option maxHeartbeats 4000000 in
set_option maxRecDepth 100000 in
theorem c_X8_kindBy {g : Gx} {w : Int} (hw : R64 w) : CtE g yX8_kindBy wsX8_kindBy 0 0 [.long (lI w)] ([]) (kndI w) ([]) := by
  refine m_go (cc := cX8_kindBy) (nL := 2) (by decide +kernel) rfl (Nat.le_of_ble_eq_true rfl) (fun x X Y hnm => ?_)
  refine v_eq (lo2 := [some (.long (lI w)), none]) rfl rfl rfl rfl ?_
  refine v_lload_n X dX8_kindBy_0 rfl ?_
  refine v_ldc2 X (List.mem_of_getElem? (i := 1) rfl) dX8_kindBy_1 (n := 1752135026) (by decide) ?_
  refine v_lcmp X dX8_kindBy_4 (by omega) (by omega) (fun c1 => ?_) (fun c1 => ?_) (fun c1 => ?_)
  · skip
    refine v_if_ne (tgt := 12) X dX8_kindBy_5 (by decide) (by decide) (fun hh => ?_) (fun hh => ?_)
    · skip
      refine v_lload_n X dX8_kindBy_12 rfl ?_
      refine v_ldc2 X (List.mem_of_getElem? (i := 2) rfl) dX8_kindBy_13 (n := 1836019566) (by decide) ?_
      refine v_lcmp X dX8_kindBy_16 (by omega) (by omega) (fun c2 => ?_) (fun c2 => ?_) (fun c2 => ?_)
      · skip
        refine v_if_ne (tgt := 24) X dX8_kindBy_17 (by decide) (by decide) (fun hh => ?_) (fun hh => ?_)
        · skip
          refine v_lload_n X dX8_kindBy_24 rfl ?_
          refine v_ldc2 X (List.mem_of_getElem? (i := 3) rfl) dX8_kindBy_25 (n := 495924372848) (by decide) ?_
          refine v_lcmp X dX8_kindBy_28 (by omega) (by omega) (fun c3 => ?_) (fun c3 => ?_) (fun c3 => ?_)
          · skip
            refine v_if_ne (tgt := 36) X dX8_kindBy_29 (by decide) (by decide) (fun hh => ?_) (fun hh => ?_)
            · skip
              refine v_lload_n X dX8_kindBy_36 rfl ?_
              refine v_ldc2 X (List.mem_of_getElem? (i := 4) rfl) dX8_kindBy_37 (n := 1650549611) (by decide) ?_
              refine v_lcmp X dX8_kindBy_40 (by omega) (by omega) (fun c4 => ?_) (fun c4 => ?_) (fun c4 => ?_)
              · skip
                refine v_if_ne (tgt := 48) X dX8_kindBy_41 (by decide) (by decide) (fun hh => ?_) (fun hh => ?_)
                · skip
                  refine v_lload_n X dX8_kindBy_48 rfl ?_
                  refine v_ldc2 X (List.mem_of_getElem? (i := 5) rfl) dX8_kindBy_49 (n := 1953064037) (by decide) ?_
                  refine v_lcmp X dX8_kindBy_52 (by omega) (by omega) (fun c5 => ?_) (fun c5 => ?_) (fun c5 => ?_)
                  · skip
                    refine v_if_ne (tgt := 60) X dX8_kindBy_53 (by decide) (by decide) (fun hh => ?_) (fun hh => ?_)
                    · skip
                      refine v_ldc X (List.mem_of_getElem? (i := 6) rfl) dX8_kindBy_60 (n := -1000000) (by decide) ?_
                      exact v_iret X Y dX8_kindBy_62 (u := ()) (by first | (exfalso; omega) | (unfold kndI; repeat (first | rw [if_pos (by omega)] | rw [if_neg (by omega)]))) (by rfl)
                    · skip
                      exfalso; omega
                  · skip
                    refine v_if_ne (tgt := 60) X dX8_kindBy_53 (by decide) (by decide) (fun hh => ?_) (fun hh => ?_)
                    · skip
                      exfalso; omega
                    · skip
                      refine v_iconst X dX8_kindBy_56 ?_
                      refine v_goto (tgt := 62) X dX8_kindBy_57 (by decide) ?_
                      exact v_iret X Y dX8_kindBy_62 (u := ()) (by first | (exfalso; omega) | (unfold kndI; repeat (first | rw [if_pos (by omega)] | rw [if_neg (by omega)]))) (by rfl)
                  · skip
                    refine v_if_ne (tgt := 60) X dX8_kindBy_53 (by decide) (by decide) (fun hh => ?_) (fun hh => ?_)
                    · skip
                      refine v_ldc X (List.mem_of_getElem? (i := 6) rfl) dX8_kindBy_60 (n := -1000000) (by decide) ?_
                      exact v_iret X Y dX8_kindBy_62 (u := ()) (by first | (exfalso; omega) | (unfold kndI; repeat (first | rw [if_pos (by omega)] | rw [if_neg (by omega)]))) (by rfl)
                    · skip
                      exfalso; omega
                · skip
                  exfalso; omega
              · skip
                refine v_if_ne (tgt := 48) X dX8_kindBy_41 (by decide) (by decide) (fun hh => ?_) (fun hh => ?_)
                · skip
                  exfalso; omega
                · skip
                  refine v_iconst X dX8_kindBy_44 ?_
                  refine v_goto (tgt := 62) X dX8_kindBy_45 (by decide) ?_
                  exact v_iret X Y dX8_kindBy_62 (u := ()) (by first | (exfalso; omega) | (unfold kndI; repeat (first | rw [if_pos (by omega)] | rw [if_neg (by omega)]))) (by rfl)
              · skip
                refine v_if_ne (tgt := 48) X dX8_kindBy_41 (by decide) (by decide) (fun hh => ?_) (fun hh => ?_)
                · skip
                  refine v_lload_n X dX8_kindBy_48 rfl ?_
                  refine v_ldc2 X (List.mem_of_getElem? (i := 5) rfl) dX8_kindBy_49 (n := 1953064037) (by decide) ?_
                  refine v_lcmp X dX8_kindBy_52 (by omega) (by omega) (fun c6 => ?_) (fun c6 => ?_) (fun c6 => ?_)
                  · skip
                    refine v_if_ne (tgt := 60) X dX8_kindBy_53 (by decide) (by decide) (fun hh => ?_) (fun hh => ?_)
                    · skip
                      refine v_ldc X (List.mem_of_getElem? (i := 6) rfl) dX8_kindBy_60 (n := -1000000) (by decide) ?_
                      exact v_iret X Y dX8_kindBy_62 (u := ()) (by first | (exfalso; omega) | (unfold kndI; repeat (first | rw [if_pos (by omega)] | rw [if_neg (by omega)]))) (by rfl)
                    · skip
                      exfalso; omega
                  · skip
                    refine v_if_ne (tgt := 60) X dX8_kindBy_53 (by decide) (by decide) (fun hh => ?_) (fun hh => ?_)
                    · skip
                      exfalso; omega
                    · skip
                      refine v_iconst X dX8_kindBy_56 ?_
                      refine v_goto (tgt := 62) X dX8_kindBy_57 (by decide) ?_
                      exact v_iret X Y dX8_kindBy_62 (u := ()) (by first | (exfalso; omega) | (unfold kndI; repeat (first | rw [if_pos (by omega)] | rw [if_neg (by omega)]))) (by rfl)
                  · skip
                    refine v_if_ne (tgt := 60) X dX8_kindBy_53 (by decide) (by decide) (fun hh => ?_) (fun hh => ?_)
                    · skip
                      refine v_ldc X (List.mem_of_getElem? (i := 6) rfl) dX8_kindBy_60 (n := -1000000) (by decide) ?_
                      exact v_iret X Y dX8_kindBy_62 (u := ()) (by first | (exfalso; omega) | (unfold kndI; repeat (first | rw [if_pos (by omega)] | rw [if_neg (by omega)]))) (by rfl)
                    · skip
                      exfalso; omega
                · skip
                  exfalso; omega
            · skip
              exfalso; omega
          · skip
            refine v_if_ne (tgt := 36) X dX8_kindBy_29 (by decide) (by decide) (fun hh => ?_) (fun hh => ?_)
            · skip
              exfalso; omega
            · skip
              refine v_iconst X dX8_kindBy_32 ?_
              refine v_goto (tgt := 62) X dX8_kindBy_33 (by decide) ?_
              exact v_iret X Y dX8_kindBy_62 (u := ()) (by first | (exfalso; omega) | (unfold kndI; repeat (first | rw [if_pos (by omega)] | rw [if_neg (by omega)]))) (by rfl)
          · skip
            refine v_if_ne (tgt := 36) X dX8_kindBy_29 (by decide) (by decide) (fun hh => ?_) (fun hh => ?_)
            · skip
              refine v_lload_n X dX8_kindBy_36 rfl ?_
              refine v_ldc2 X (List.mem_of_getElem? (i := 4) rfl) dX8_kindBy_37 (n := 1650549611) (by decide) ?_
              refine v_lcmp X dX8_kindBy_40 (by omega) (by omega) (fun c7 => ?_) (fun c7 => ?_) (fun c7 => ?_)
              · skip
                refine v_if_ne (tgt := 48) X dX8_kindBy_41 (by decide) (by decide) (fun hh => ?_) (fun hh => ?_)
                · skip
                  refine v_lload_n X dX8_kindBy_48 rfl ?_
                  refine v_ldc2 X (List.mem_of_getElem? (i := 5) rfl) dX8_kindBy_49 (n := 1953064037) (by decide) ?_
                  refine v_lcmp X dX8_kindBy_52 (by omega) (by omega) (fun c8 => ?_) (fun c8 => ?_) (fun c8 => ?_)
                  · skip
                    refine v_if_ne (tgt := 60) X dX8_kindBy_53 (by decide) (by decide) (fun hh => ?_) (fun hh => ?_)
                    · skip
                      refine v_ldc X (List.mem_of_getElem? (i := 6) rfl) dX8_kindBy_60 (n := -1000000) (by decide) ?_
                      exact v_iret X Y dX8_kindBy_62 (u := ()) (by first | (exfalso; omega) | (unfold kndI; repeat (first | rw [if_pos (by omega)] | rw [if_neg (by omega)]))) (by rfl)
                    · skip
                      exfalso; omega
                  · skip
                    refine v_if_ne (tgt := 60) X dX8_kindBy_53 (by decide) (by decide) (fun hh => ?_) (fun hh => ?_)
                    · skip
                      exfalso; omega
                    · skip
                      refine v_iconst X dX8_kindBy_56 ?_
                      refine v_goto (tgt := 62) X dX8_kindBy_57 (by decide) ?_
                      exact v_iret X Y dX8_kindBy_62 (u := ()) (by first | (exfalso; omega) | (unfold kndI; repeat (first | rw [if_pos (by omega)] | rw [if_neg (by omega)]))) (by rfl)
                  · skip
                    refine v_if_ne (tgt := 60) X dX8_kindBy_53 (by decide) (by decide) (fun hh => ?_) (fun hh => ?_)
                    · skip
                      refine v_ldc X (List.mem_of_getElem? (i := 6) rfl) dX8_kindBy_60 (n := -1000000) (by decide) ?_
                      exact v_iret X Y dX8_kindBy_62 (u := ()) (by first | (exfalso; omega) | (unfold kndI; repeat (first | rw [if_pos (by omega)] | rw [if_neg (by omega)]))) (by rfl)
                    · skip
                      exfalso; omega
                · skip
                  exfalso; omega
              · skip
                refine v_if_ne (tgt := 48) X dX8_kindBy_41 (by decide) (by decide) (fun hh => ?_) (fun hh => ?_)
                · skip
                  exfalso; omega
                · skip
                  refine v_iconst X dX8_kindBy_44 ?_
                  refine v_goto (tgt := 62) X dX8_kindBy_45 (by decide) ?_
                  exact v_iret X Y dX8_kindBy_62 (u := ()) (by first | (exfalso; omega) | (unfold kndI; repeat (first | rw [if_pos (by omega)] | rw [if_neg (by omega)]))) (by rfl)
              · skip
                refine v_if_ne (tgt := 48) X dX8_kindBy_41 (by decide) (by decide) (fun hh => ?_) (fun hh => ?_)
                · skip
                  refine v_lload_n X dX8_kindBy_48 rfl ?_
                  refine v_ldc2 X (List.mem_of_getElem? (i := 5) rfl) dX8_kindBy_49 (n := 1953064037) (by decide) ?_
                  refine v_lcmp X dX8_kindBy_52 (by omega) (by omega) (fun c9 => ?_) (fun c9 => ?_) (fun c9 => ?_)
                  · skip
                    refine v_if_ne (tgt := 60) X dX8_kindBy_53 (by decide) (by decide) (fun hh => ?_) (fun hh => ?_)
                    · skip
                      refine v_ldc X (List.mem_of_getElem? (i := 6) rfl) dX8_kindBy_60 (n := -1000000) (by decide) ?_
                      exact v_iret X Y dX8_kindBy_62 (u := ()) (by first | (exfalso; omega) | (unfold kndI; repeat (first | rw [if_pos (by omega)] | rw [if_neg (by omega)]))) (by rfl)
                    · skip
                      exfalso; omega
                  · skip
                    refine v_if_ne (tgt := 60) X dX8_kindBy_53 (by decide) (by decide) (fun hh => ?_) (fun hh => ?_)
                    · skip
                      exfalso; omega
                    · skip
                      refine v_iconst X dX8_kindBy_56 ?_
                      refine v_goto (tgt := 62) X dX8_kindBy_57 (by decide) ?_
                      exact v_iret X Y dX8_kindBy_62 (u := ()) (by first | (exfalso; omega) | (unfold kndI; repeat (first | rw [if_pos (by omega)] | rw [if_neg (by omega)]))) (by rfl)
                  · skip
                    refine v_if_ne (tgt := 60) X dX8_kindBy_53 (by decide) (by decide) (fun hh => ?_) (fun hh => ?_)
                    · skip
                      refine v_ldc X (List.mem_of_getElem? (i := 6) rfl) dX8_kindBy_60 (n := -1000000) (by decide) ?_
                      exact v_iret X Y dX8_kindBy_62 (u := ()) (by first | (exfalso; omega) | (unfold kndI; repeat (first | rw [if_pos (by omega)] | rw [if_neg (by omega)]))) (by rfl)
                    · skip
                      exfalso; omega
                · skip
                  exfalso; omega
            · skip
              exfalso; omega
        · skip
          exfalso; omega
      · skip
        refine v_if_ne (tgt := 24) X dX8_kindBy_17 (by decide) (by decide) (fun hh => ?_) (fun hh => ?_)
        · skip
          exfalso; omega
        · skip
          refine v_iconst X dX8_kindBy_20 ?_
          refine v_goto (tgt := 62) X dX8_kindBy_21 (by decide) ?_
          exact v_iret X Y dX8_kindBy_62 (u := ()) (by first | (exfalso; omega) | (unfold kndI; repeat (first | rw [if_pos (by omega)] | rw [if_neg (by omega)]))) (by rfl)
      · skip
        refine v_if_ne (tgt := 24) X dX8_kindBy_17 (by decide) (by decide) (fun hh => ?_) (fun hh => ?_)
        · skip
          refine v_lload_n X dX8_kindBy_24 rfl ?_
          refine v_ldc2 X (List.mem_of_getElem? (i := 3) rfl) dX8_kindBy_25 (n := 495924372848) (by decide) ?_
          refine v_lcmp X dX8_kindBy_28 (by omega) (by omega) (fun c10 => ?_) (fun c10 => ?_) (fun c10 => ?_)
          · skip
            refine v_if_ne (tgt := 36) X dX8_kindBy_29 (by decide) (by decide) (fun hh => ?_) (fun hh => ?_)
            · skip
              refine v_lload_n X dX8_kindBy_36 rfl ?_
              refine v_ldc2 X (List.mem_of_getElem? (i := 4) rfl) dX8_kindBy_37 (n := 1650549611) (by decide) ?_
              refine v_lcmp X dX8_kindBy_40 (by omega) (by omega) (fun c11 => ?_) (fun c11 => ?_) (fun c11 => ?_)
              · skip
                refine v_if_ne (tgt := 48) X dX8_kindBy_41 (by decide) (by decide) (fun hh => ?_) (fun hh => ?_)
                · skip
                  refine v_lload_n X dX8_kindBy_48 rfl ?_
                  refine v_ldc2 X (List.mem_of_getElem? (i := 5) rfl) dX8_kindBy_49 (n := 1953064037) (by decide) ?_
                  refine v_lcmp X dX8_kindBy_52 (by omega) (by omega) (fun c12 => ?_) (fun c12 => ?_) (fun c12 => ?_)
                  · skip
                    refine v_if_ne (tgt := 60) X dX8_kindBy_53 (by decide) (by decide) (fun hh => ?_) (fun hh => ?_)
                    · skip
                      refine v_ldc X (List.mem_of_getElem? (i := 6) rfl) dX8_kindBy_60 (n := -1000000) (by decide) ?_
                      exact v_iret X Y dX8_kindBy_62 (u := ()) (by first | (exfalso; omega) | (unfold kndI; repeat (first | rw [if_pos (by omega)] | rw [if_neg (by omega)]))) (by rfl)
                    · skip
                      exfalso; omega
                  · skip
                    refine v_if_ne (tgt := 60) X dX8_kindBy_53 (by decide) (by decide) (fun hh => ?_) (fun hh => ?_)
                    · skip
                      exfalso; omega
                    · skip
                      refine v_iconst X dX8_kindBy_56 ?_
                      refine v_goto (tgt := 62) X dX8_kindBy_57 (by decide) ?_
                      exact v_iret X Y dX8_kindBy_62 (u := ()) (by first | (exfalso; omega) | (unfold kndI; repeat (first | rw [if_pos (by omega)] | rw [if_neg (by omega)]))) (by rfl)
                  · skip
                    refine v_if_ne (tgt := 60) X dX8_kindBy_53 (by decide) (by decide) (fun hh => ?_) (fun hh => ?_)
                    · skip
                      refine v_ldc X (List.mem_of_getElem? (i := 6) rfl) dX8_kindBy_60 (n := -1000000) (by decide) ?_
                      exact v_iret X Y dX8_kindBy_62 (u := ()) (by first | (exfalso; omega) | (unfold kndI; repeat (first | rw [if_pos (by omega)] | rw [if_neg (by omega)]))) (by rfl)
                    · skip
                      exfalso; omega
                · skip
                  exfalso; omega
              · skip
                refine v_if_ne (tgt := 48) X dX8_kindBy_41 (by decide) (by decide) (fun hh => ?_) (fun hh => ?_)
                · skip
                  exfalso; omega
                · skip
                  refine v_iconst X dX8_kindBy_44 ?_
                  refine v_goto (tgt := 62) X dX8_kindBy_45 (by decide) ?_
                  exact v_iret X Y dX8_kindBy_62 (u := ()) (by first | (exfalso; omega) | (unfold kndI; repeat (first | rw [if_pos (by omega)] | rw [if_neg (by omega)]))) (by rfl)
              · skip
                refine v_if_ne (tgt := 48) X dX8_kindBy_41 (by decide) (by decide) (fun hh => ?_) (fun hh => ?_)
                · skip
                  refine v_lload_n X dX8_kindBy_48 rfl ?_
                  refine v_ldc2 X (List.mem_of_getElem? (i := 5) rfl) dX8_kindBy_49 (n := 1953064037) (by decide) ?_
                  refine v_lcmp X dX8_kindBy_52 (by omega) (by omega) (fun c13 => ?_) (fun c13 => ?_) (fun c13 => ?_)
                  · skip
                    refine v_if_ne (tgt := 60) X dX8_kindBy_53 (by decide) (by decide) (fun hh => ?_) (fun hh => ?_)
                    · skip
                      refine v_ldc X (List.mem_of_getElem? (i := 6) rfl) dX8_kindBy_60 (n := -1000000) (by decide) ?_
                      exact v_iret X Y dX8_kindBy_62 (u := ()) (by first | (exfalso; omega) | (unfold kndI; repeat (first | rw [if_pos (by omega)] | rw [if_neg (by omega)]))) (by rfl)
                    · skip
                      exfalso; omega
                  · skip
                    refine v_if_ne (tgt := 60) X dX8_kindBy_53 (by decide) (by decide) (fun hh => ?_) (fun hh => ?_)
                    · skip
                      exfalso; omega
                    · skip
                      refine v_iconst X dX8_kindBy_56 ?_
                      refine v_goto (tgt := 62) X dX8_kindBy_57 (by decide) ?_
                      exact v_iret X Y dX8_kindBy_62 (u := ()) (by first | (exfalso; omega) | (unfold kndI; repeat (first | rw [if_pos (by omega)] | rw [if_neg (by omega)]))) (by rfl)
                  · skip
                    refine v_if_ne (tgt := 60) X dX8_kindBy_53 (by decide) (by decide) (fun hh => ?_) (fun hh => ?_)
                    · skip
                      refine v_ldc X (List.mem_of_getElem? (i := 6) rfl) dX8_kindBy_60 (n := -1000000) (by decide) ?_
                      exact v_iret X Y dX8_kindBy_62 (u := ()) (by first | (exfalso; omega) | (unfold kndI; repeat (first | rw [if_pos (by omega)] | rw [if_neg (by omega)]))) (by rfl)
                    · skip
                      exfalso; omega
                · skip
                  exfalso; omega
            · skip
              exfalso; omega
          · skip
            refine v_if_ne (tgt := 36) X dX8_kindBy_29 (by decide) (by decide) (fun hh => ?_) (fun hh => ?_)
            · skip
              exfalso; omega
            · skip
              refine v_iconst X dX8_kindBy_32 ?_
              refine v_goto (tgt := 62) X dX8_kindBy_33 (by decide) ?_
              exact v_iret X Y dX8_kindBy_62 (u := ()) (by first | (exfalso; omega) | (unfold kndI; repeat (first | rw [if_pos (by omega)] | rw [if_neg (by omega)]))) (by rfl)
          · skip
            refine v_if_ne (tgt := 36) X dX8_kindBy_29 (by decide) (by decide) (fun hh => ?_) (fun hh => ?_)
            · skip
              refine v_lload_n X dX8_kindBy_36 rfl ?_
              refine v_ldc2 X (List.mem_of_getElem? (i := 4) rfl) dX8_kindBy_37 (n := 1650549611) (by decide) ?_
              refine v_lcmp X dX8_kindBy_40 (by omega) (by omega) (fun c14 => ?_) (fun c14 => ?_) (fun c14 => ?_)
              · skip
                refine v_if_ne (tgt := 48) X dX8_kindBy_41 (by decide) (by decide) (fun hh => ?_) (fun hh => ?_)
                · skip
                  refine v_lload_n X dX8_kindBy_48 rfl ?_
                  refine v_ldc2 X (List.mem_of_getElem? (i := 5) rfl) dX8_kindBy_49 (n := 1953064037) (by decide) ?_
                  refine v_lcmp X dX8_kindBy_52 (by omega) (by omega) (fun c15 => ?_) (fun c15 => ?_) (fun c15 => ?_)
                  · skip
                    refine v_if_ne (tgt := 60) X dX8_kindBy_53 (by decide) (by decide) (fun hh => ?_) (fun hh => ?_)
                    · skip
                      refine v_ldc X (List.mem_of_getElem? (i := 6) rfl) dX8_kindBy_60 (n := -1000000) (by decide) ?_
                      exact v_iret X Y dX8_kindBy_62 (u := ()) (by first | (exfalso; omega) | (unfold kndI; repeat (first | rw [if_pos (by omega)] | rw [if_neg (by omega)]))) (by rfl)
                    · skip
                      exfalso; omega
                  · skip
                    refine v_if_ne (tgt := 60) X dX8_kindBy_53 (by decide) (by decide) (fun hh => ?_) (fun hh => ?_)
                    · skip
                      exfalso; omega
                    · skip
                      refine v_iconst X dX8_kindBy_56 ?_
                      refine v_goto (tgt := 62) X dX8_kindBy_57 (by decide) ?_
                      exact v_iret X Y dX8_kindBy_62 (u := ()) (by first | (exfalso; omega) | (unfold kndI; repeat (first | rw [if_pos (by omega)] | rw [if_neg (by omega)]))) (by rfl)
                  · skip
                    refine v_if_ne (tgt := 60) X dX8_kindBy_53 (by decide) (by decide) (fun hh => ?_) (fun hh => ?_)
                    · skip
                      refine v_ldc X (List.mem_of_getElem? (i := 6) rfl) dX8_kindBy_60 (n := -1000000) (by decide) ?_
                      exact v_iret X Y dX8_kindBy_62 (u := ()) (by first | (exfalso; omega) | (unfold kndI; repeat (first | rw [if_pos (by omega)] | rw [if_neg (by omega)]))) (by rfl)
                    · skip
                      exfalso; omega
                · skip
                  exfalso; omega
              · skip
                refine v_if_ne (tgt := 48) X dX8_kindBy_41 (by decide) (by decide) (fun hh => ?_) (fun hh => ?_)
                · skip
                  exfalso; omega
                · skip
                  refine v_iconst X dX8_kindBy_44 ?_
                  refine v_goto (tgt := 62) X dX8_kindBy_45 (by decide) ?_
                  exact v_iret X Y dX8_kindBy_62 (u := ()) (by first | (exfalso; omega) | (unfold kndI; repeat (first | rw [if_pos (by omega)] | rw [if_neg (by omega)]))) (by rfl)
              · skip
                refine v_if_ne (tgt := 48) X dX8_kindBy_41 (by decide) (by decide) (fun hh => ?_) (fun hh => ?_)
                · skip
                  refine v_lload_n X dX8_kindBy_48 rfl ?_
                  refine v_ldc2 X (List.mem_of_getElem? (i := 5) rfl) dX8_kindBy_49 (n := 1953064037) (by decide) ?_
                  refine v_lcmp X dX8_kindBy_52 (by omega) (by omega) (fun c16 => ?_) (fun c16 => ?_) (fun c16 => ?_)
                  · skip
                    refine v_if_ne (tgt := 60) X dX8_kindBy_53 (by decide) (by decide) (fun hh => ?_) (fun hh => ?_)
                    · skip
                      refine v_ldc X (List.mem_of_getElem? (i := 6) rfl) dX8_kindBy_60 (n := -1000000) (by decide) ?_
                      exact v_iret X Y dX8_kindBy_62 (u := ()) (by first | (exfalso; omega) | (unfold kndI; repeat (first | rw [if_pos (by omega)] | rw [if_neg (by omega)]))) (by rfl)
                    · skip
                      exfalso; omega
                  · skip
                    refine v_if_ne (tgt := 60) X dX8_kindBy_53 (by decide) (by decide) (fun hh => ?_) (fun hh => ?_)
                    · skip
                      exfalso; omega
                    · skip
                      refine v_iconst X dX8_kindBy_56 ?_
                      refine v_goto (tgt := 62) X dX8_kindBy_57 (by decide) ?_
                      exact v_iret X Y dX8_kindBy_62 (u := ()) (by first | (exfalso; omega) | (unfold kndI; repeat (first | rw [if_pos (by omega)] | rw [if_neg (by omega)]))) (by rfl)
                  · skip
                    refine v_if_ne (tgt := 60) X dX8_kindBy_53 (by decide) (by decide) (fun hh => ?_) (fun hh => ?_)
                    · skip
                      refine v_ldc X (List.mem_of_getElem? (i := 6) rfl) dX8_kindBy_60 (n := -1000000) (by decide) ?_
                      exact v_iret X Y dX8_kindBy_62 (u := ()) (by first | (exfalso; omega) | (unfold kndI; repeat (first | rw [if_pos (by omega)] | rw [if_neg (by omega)]))) (by rfl)
                    · skip
                      exfalso; omega
                · skip
                  exfalso; omega
            · skip
              exfalso; omega
        · skip
          exfalso; omega
    · skip
      exfalso; omega
  · skip
    refine v_if_ne (tgt := 12) X dX8_kindBy_5 (by decide) (by decide) (fun hh => ?_) (fun hh => ?_)
    · skip
      exfalso; omega
    · skip
      refine v_iconst X dX8_kindBy_8 ?_
      refine v_goto (tgt := 62) X dX8_kindBy_9 (by decide) ?_
      exact v_iret X Y dX8_kindBy_62 (u := ()) (by first | (exfalso; omega) | (unfold kndI; repeat (first | rw [if_pos (by omega)] | rw [if_neg (by omega)]))) (by rfl)
  · skip
    refine v_if_ne (tgt := 12) X dX8_kindBy_5 (by decide) (by decide) (fun hh => ?_) (fun hh => ?_)
    · skip
      refine v_lload_n X dX8_kindBy_12 rfl ?_
      refine v_ldc2 X (List.mem_of_getElem? (i := 2) rfl) dX8_kindBy_13 (n := 1836019566) (by decide) ?_
      refine v_lcmp X dX8_kindBy_16 (by omega) (by omega) (fun c17 => ?_) (fun c17 => ?_) (fun c17 => ?_)
      · skip
        refine v_if_ne (tgt := 24) X dX8_kindBy_17 (by decide) (by decide) (fun hh => ?_) (fun hh => ?_)
        · skip
          refine v_lload_n X dX8_kindBy_24 rfl ?_
          refine v_ldc2 X (List.mem_of_getElem? (i := 3) rfl) dX8_kindBy_25 (n := 495924372848) (by decide) ?_
          refine v_lcmp X dX8_kindBy_28 (by omega) (by omega) (fun c18 => ?_) (fun c18 => ?_) (fun c18 => ?_)
          · skip
            refine v_if_ne (tgt := 36) X dX8_kindBy_29 (by decide) (by decide) (fun hh => ?_) (fun hh => ?_)
            · skip
              refine v_lload_n X dX8_kindBy_36 rfl ?_
              refine v_ldc2 X (List.mem_of_getElem? (i := 4) rfl) dX8_kindBy_37 (n := 1650549611) (by decide) ?_
              refine v_lcmp X dX8_kindBy_40 (by omega) (by omega) (fun c19 => ?_) (fun c19 => ?_) (fun c19 => ?_)
              · skip
                refine v_if_ne (tgt := 48) X dX8_kindBy_41 (by decide) (by decide) (fun hh => ?_) (fun hh => ?_)
                · skip
                  refine v_lload_n X dX8_kindBy_48 rfl ?_
                  refine v_ldc2 X (List.mem_of_getElem? (i := 5) rfl) dX8_kindBy_49 (n := 1953064037) (by decide) ?_
                  refine v_lcmp X dX8_kindBy_52 (by omega) (by omega) (fun c20 => ?_) (fun c20 => ?_) (fun c20 => ?_)
                  · skip
                    refine v_if_ne (tgt := 60) X dX8_kindBy_53 (by decide) (by decide) (fun hh => ?_) (fun hh => ?_)
                    · skip
                      refine v_ldc X (List.mem_of_getElem? (i := 6) rfl) dX8_kindBy_60 (n := -1000000) (by decide) ?_
                      exact v_iret X Y dX8_kindBy_62 (u := ()) (by first | (exfalso; omega) | (unfold kndI; repeat (first | rw [if_pos (by omega)] | rw [if_neg (by omega)]))) (by rfl)
                    · skip
                      exfalso; omega
                  · skip
                    refine v_if_ne (tgt := 60) X dX8_kindBy_53 (by decide) (by decide) (fun hh => ?_) (fun hh => ?_)
                    · skip
                      exfalso; omega
                    · skip
                      refine v_iconst X dX8_kindBy_56 ?_
                      refine v_goto (tgt := 62) X dX8_kindBy_57 (by decide) ?_
                      exact v_iret X Y dX8_kindBy_62 (u := ()) (by first | (exfalso; omega) | (unfold kndI; repeat (first | rw [if_pos (by omega)] | rw [if_neg (by omega)]))) (by rfl)
                  · skip
                    refine v_if_ne (tgt := 60) X dX8_kindBy_53 (by decide) (by decide) (fun hh => ?_) (fun hh => ?_)
                    · skip
                      refine v_ldc X (List.mem_of_getElem? (i := 6) rfl) dX8_kindBy_60 (n := -1000000) (by decide) ?_
                      exact v_iret X Y dX8_kindBy_62 (u := ()) (by first | (exfalso; omega) | (unfold kndI; repeat (first | rw [if_pos (by omega)] | rw [if_neg (by omega)]))) (by rfl)
                    · skip
                      exfalso; omega
                · skip
                  exfalso; omega
              · skip
                refine v_if_ne (tgt := 48) X dX8_kindBy_41 (by decide) (by decide) (fun hh => ?_) (fun hh => ?_)
                · skip
                  exfalso; omega
                · skip
                  refine v_iconst X dX8_kindBy_44 ?_
                  refine v_goto (tgt := 62) X dX8_kindBy_45 (by decide) ?_
                  exact v_iret X Y dX8_kindBy_62 (u := ()) (by first | (exfalso; omega) | (unfold kndI; repeat (first | rw [if_pos (by omega)] | rw [if_neg (by omega)]))) (by rfl)
              · skip
                refine v_if_ne (tgt := 48) X dX8_kindBy_41 (by decide) (by decide) (fun hh => ?_) (fun hh => ?_)
                · skip
                  refine v_lload_n X dX8_kindBy_48 rfl ?_
                  refine v_ldc2 X (List.mem_of_getElem? (i := 5) rfl) dX8_kindBy_49 (n := 1953064037) (by decide) ?_
                  refine v_lcmp X dX8_kindBy_52 (by omega) (by omega) (fun c21 => ?_) (fun c21 => ?_) (fun c21 => ?_)
                  · skip
                    refine v_if_ne (tgt := 60) X dX8_kindBy_53 (by decide) (by decide) (fun hh => ?_) (fun hh => ?_)
                    · skip
                      refine v_ldc X (List.mem_of_getElem? (i := 6) rfl) dX8_kindBy_60 (n := -1000000) (by decide) ?_
                      exact v_iret X Y dX8_kindBy_62 (u := ()) (by first | (exfalso; omega) | (unfold kndI; repeat (first | rw [if_pos (by omega)] | rw [if_neg (by omega)]))) (by rfl)
                    · skip
                      exfalso; omega
                  · skip
                    refine v_if_ne (tgt := 60) X dX8_kindBy_53 (by decide) (by decide) (fun hh => ?_) (fun hh => ?_)
                    · skip
                      exfalso; omega
                    · skip
                      refine v_iconst X dX8_kindBy_56 ?_
                      refine v_goto (tgt := 62) X dX8_kindBy_57 (by decide) ?_
                      exact v_iret X Y dX8_kindBy_62 (u := ()) (by first | (exfalso; omega) | (unfold kndI; repeat (first | rw [if_pos (by omega)] | rw [if_neg (by omega)]))) (by rfl)
                  · skip
                    refine v_if_ne (tgt := 60) X dX8_kindBy_53 (by decide) (by decide) (fun hh => ?_) (fun hh => ?_)
                    · skip
                      refine v_ldc X (List.mem_of_getElem? (i := 6) rfl) dX8_kindBy_60 (n := -1000000) (by decide) ?_
                      exact v_iret X Y dX8_kindBy_62 (u := ()) (by first | (exfalso; omega) | (unfold kndI; repeat (first | rw [if_pos (by omega)] | rw [if_neg (by omega)]))) (by rfl)
                    · skip
                      exfalso; omega
                · skip
                  exfalso; omega
            · skip
              exfalso; omega
          · skip
            refine v_if_ne (tgt := 36) X dX8_kindBy_29 (by decide) (by decide) (fun hh => ?_) (fun hh => ?_)
            · skip
              exfalso; omega
            · skip
              refine v_iconst X dX8_kindBy_32 ?_
              refine v_goto (tgt := 62) X dX8_kindBy_33 (by decide) ?_
              exact v_iret X Y dX8_kindBy_62 (u := ()) (by first | (exfalso; omega) | (unfold kndI; repeat (first | rw [if_pos (by omega)] | rw [if_neg (by omega)]))) (by rfl)
          · skip
            refine v_if_ne (tgt := 36) X dX8_kindBy_29 (by decide) (by decide) (fun hh => ?_) (fun hh => ?_)
            · skip
              refine v_lload_n X dX8_kindBy_36 rfl ?_
              refine v_ldc2 X (List.mem_of_getElem? (i := 4) rfl) dX8_kindBy_37 (n := 1650549611) (by decide) ?_
              refine v_lcmp X dX8_kindBy_40 (by omega) (by omega) (fun c22 => ?_) (fun c22 => ?_) (fun c22 => ?_)
              · skip
                refine v_if_ne (tgt := 48) X dX8_kindBy_41 (by decide) (by decide) (fun hh => ?_) (fun hh => ?_)
                · skip
                  refine v_lload_n X dX8_kindBy_48 rfl ?_
                  refine v_ldc2 X (List.mem_of_getElem? (i := 5) rfl) dX8_kindBy_49 (n := 1953064037) (by decide) ?_
                  refine v_lcmp X dX8_kindBy_52 (by omega) (by omega) (fun c23 => ?_) (fun c23 => ?_) (fun c23 => ?_)
                  · skip
                    refine v_if_ne (tgt := 60) X dX8_kindBy_53 (by decide) (by decide) (fun hh => ?_) (fun hh => ?_)
                    · skip
                      refine v_ldc X (List.mem_of_getElem? (i := 6) rfl) dX8_kindBy_60 (n := -1000000) (by decide) ?_
                      exact v_iret X Y dX8_kindBy_62 (u := ()) (by first | (exfalso; omega) | (unfold kndI; repeat (first | rw [if_pos (by omega)] | rw [if_neg (by omega)]))) (by rfl)
                    · skip
                      exfalso; omega
                  · skip
                    refine v_if_ne (tgt := 60) X dX8_kindBy_53 (by decide) (by decide) (fun hh => ?_) (fun hh => ?_)
                    · skip
                      exfalso; omega
                    · skip
                      refine v_iconst X dX8_kindBy_56 ?_
                      refine v_goto (tgt := 62) X dX8_kindBy_57 (by decide) ?_
                      exact v_iret X Y dX8_kindBy_62 (u := ()) (by first | (exfalso; omega) | (unfold kndI; repeat (first | rw [if_pos (by omega)] | rw [if_neg (by omega)]))) (by rfl)
                  · skip
                    refine v_if_ne (tgt := 60) X dX8_kindBy_53 (by decide) (by decide) (fun hh => ?_) (fun hh => ?_)
                    · skip
                      refine v_ldc X (List.mem_of_getElem? (i := 6) rfl) dX8_kindBy_60 (n := -1000000) (by decide) ?_
                      exact v_iret X Y dX8_kindBy_62 (u := ()) (by first | (exfalso; omega) | (unfold kndI; repeat (first | rw [if_pos (by omega)] | rw [if_neg (by omega)]))) (by rfl)
                    · skip
                      exfalso; omega
                · skip
                  exfalso; omega
              · skip
                refine v_if_ne (tgt := 48) X dX8_kindBy_41 (by decide) (by decide) (fun hh => ?_) (fun hh => ?_)
                · skip
                  exfalso; omega
                · skip
                  refine v_iconst X dX8_kindBy_44 ?_
                  refine v_goto (tgt := 62) X dX8_kindBy_45 (by decide) ?_
                  exact v_iret X Y dX8_kindBy_62 (u := ()) (by first | (exfalso; omega) | (unfold kndI; repeat (first | rw [if_pos (by omega)] | rw [if_neg (by omega)]))) (by rfl)
              · skip
                refine v_if_ne (tgt := 48) X dX8_kindBy_41 (by decide) (by decide) (fun hh => ?_) (fun hh => ?_)
                · skip
                  refine v_lload_n X dX8_kindBy_48 rfl ?_
                  refine v_ldc2 X (List.mem_of_getElem? (i := 5) rfl) dX8_kindBy_49 (n := 1953064037) (by decide) ?_
                  refine v_lcmp X dX8_kindBy_52 (by omega) (by omega) (fun c24 => ?_) (fun c24 => ?_) (fun c24 => ?_)
                  · skip
                    refine v_if_ne (tgt := 60) X dX8_kindBy_53 (by decide) (by decide) (fun hh => ?_) (fun hh => ?_)
                    · skip
                      refine v_ldc X (List.mem_of_getElem? (i := 6) rfl) dX8_kindBy_60 (n := -1000000) (by decide) ?_
                      exact v_iret X Y dX8_kindBy_62 (u := ()) (by first | (exfalso; omega) | (unfold kndI; repeat (first | rw [if_pos (by omega)] | rw [if_neg (by omega)]))) (by rfl)
                    · skip
                      exfalso; omega
                  · skip
                    refine v_if_ne (tgt := 60) X dX8_kindBy_53 (by decide) (by decide) (fun hh => ?_) (fun hh => ?_)
                    · skip
                      exfalso; omega
                    · skip
                      refine v_iconst X dX8_kindBy_56 ?_
                      refine v_goto (tgt := 62) X dX8_kindBy_57 (by decide) ?_
                      exact v_iret X Y dX8_kindBy_62 (u := ()) (by first | (exfalso; omega) | (unfold kndI; repeat (first | rw [if_pos (by omega)] | rw [if_neg (by omega)]))) (by rfl)
                  · skip
                    refine v_if_ne (tgt := 60) X dX8_kindBy_53 (by decide) (by decide) (fun hh => ?_) (fun hh => ?_)
                    · skip
                      refine v_ldc X (List.mem_of_getElem? (i := 6) rfl) dX8_kindBy_60 (n := -1000000) (by decide) ?_
                      exact v_iret X Y dX8_kindBy_62 (u := ()) (by first | (exfalso; omega) | (unfold kndI; repeat (first | rw [if_pos (by omega)] | rw [if_neg (by omega)]))) (by rfl)
                    · skip
                      exfalso; omega
                · skip
                  exfalso; omega
            · skip
              exfalso; omega
        · skip
          exfalso; omega
      · skip
        refine v_if_ne (tgt := 24) X dX8_kindBy_17 (by decide) (by decide) (fun hh => ?_) (fun hh => ?_)
        · skip
          exfalso; omega
        · skip
          refine v_iconst X dX8_kindBy_20 ?_
          refine v_goto (tgt := 62) X dX8_kindBy_21 (by decide) ?_
          exact v_iret X Y dX8_kindBy_62 (u := ()) (by first | (exfalso; omega) | (unfold kndI; repeat (first | rw [if_pos (by omega)] | rw [if_neg (by omega)]))) (by rfl)
      · skip
        refine v_if_ne (tgt := 24) X dX8_kindBy_17 (by decide) (by decide) (fun hh => ?_) (fun hh => ?_)
        · skip
          refine v_lload_n X dX8_kindBy_24 rfl ?_
          refine v_ldc2 X (List.mem_of_getElem? (i := 3) rfl) dX8_kindBy_25 (n := 495924372848) (by decide) ?_
          refine v_lcmp X dX8_kindBy_28 (by omega) (by omega) (fun c25 => ?_) (fun c25 => ?_) (fun c25 => ?_)
          · skip
            refine v_if_ne (tgt := 36) X dX8_kindBy_29 (by decide) (by decide) (fun hh => ?_) (fun hh => ?_)
            · skip
              refine v_lload_n X dX8_kindBy_36 rfl ?_
              refine v_ldc2 X (List.mem_of_getElem? (i := 4) rfl) dX8_kindBy_37 (n := 1650549611) (by decide) ?_
              refine v_lcmp X dX8_kindBy_40 (by omega) (by omega) (fun c26 => ?_) (fun c26 => ?_) (fun c26 => ?_)
              · skip
                refine v_if_ne (tgt := 48) X dX8_kindBy_41 (by decide) (by decide) (fun hh => ?_) (fun hh => ?_)
                · skip
                  refine v_lload_n X dX8_kindBy_48 rfl ?_
                  refine v_ldc2 X (List.mem_of_getElem? (i := 5) rfl) dX8_kindBy_49 (n := 1953064037) (by decide) ?_
                  refine v_lcmp X dX8_kindBy_52 (by omega) (by omega) (fun c27 => ?_) (fun c27 => ?_) (fun c27 => ?_)
                  · skip
                    refine v_if_ne (tgt := 60) X dX8_kindBy_53 (by decide) (by decide) (fun hh => ?_) (fun hh => ?_)
                    · skip
                      refine v_ldc X (List.mem_of_getElem? (i := 6) rfl) dX8_kindBy_60 (n := -1000000) (by decide) ?_
                      exact v_iret X Y dX8_kindBy_62 (u := ()) (by first | (exfalso; omega) | (unfold kndI; repeat (first | rw [if_pos (by omega)] | rw [if_neg (by omega)]))) (by rfl)
                    · skip
                      exfalso; omega
                  · skip
                    refine v_if_ne (tgt := 60) X dX8_kindBy_53 (by decide) (by decide) (fun hh => ?_) (fun hh => ?_)
                    · skip
                      exfalso; omega
                    · skip
                      refine v_iconst X dX8_kindBy_56 ?_
                      refine v_goto (tgt := 62) X dX8_kindBy_57 (by decide) ?_
                      exact v_iret X Y dX8_kindBy_62 (u := ()) (by first | (exfalso; omega) | (unfold kndI; repeat (first | rw [if_pos (by omega)] | rw [if_neg (by omega)]))) (by rfl)
                  · skip
                    refine v_if_ne (tgt := 60) X dX8_kindBy_53 (by decide) (by decide) (fun hh => ?_) (fun hh => ?_)
                    · skip
                      refine v_ldc X (List.mem_of_getElem? (i := 6) rfl) dX8_kindBy_60 (n := -1000000) (by decide) ?_
                      exact v_iret X Y dX8_kindBy_62 (u := ()) (by first | (exfalso; omega) | (unfold kndI; repeat (first | rw [if_pos (by omega)] | rw [if_neg (by omega)]))) (by rfl)
                    · skip
                      exfalso; omega
                · skip
                  exfalso; omega
              · skip
                refine v_if_ne (tgt := 48) X dX8_kindBy_41 (by decide) (by decide) (fun hh => ?_) (fun hh => ?_)
                · skip
                  exfalso; omega
                · skip
                  refine v_iconst X dX8_kindBy_44 ?_
                  refine v_goto (tgt := 62) X dX8_kindBy_45 (by decide) ?_
                  exact v_iret X Y dX8_kindBy_62 (u := ()) (by first | (exfalso; omega) | (unfold kndI; repeat (first | rw [if_pos (by omega)] | rw [if_neg (by omega)]))) (by rfl)
              · skip
                refine v_if_ne (tgt := 48) X dX8_kindBy_41 (by decide) (by decide) (fun hh => ?_) (fun hh => ?_)
                · skip
                  refine v_lload_n X dX8_kindBy_48 rfl ?_
                  refine v_ldc2 X (List.mem_of_getElem? (i := 5) rfl) dX8_kindBy_49 (n := 1953064037) (by decide) ?_
                  refine v_lcmp X dX8_kindBy_52 (by omega) (by omega) (fun c28 => ?_) (fun c28 => ?_) (fun c28 => ?_)
                  · skip
                    refine v_if_ne (tgt := 60) X dX8_kindBy_53 (by decide) (by decide) (fun hh => ?_) (fun hh => ?_)
                    · skip
                      refine v_ldc X (List.mem_of_getElem? (i := 6) rfl) dX8_kindBy_60 (n := -1000000) (by decide) ?_
                      exact v_iret X Y dX8_kindBy_62 (u := ()) (by first | (exfalso; omega) | (unfold kndI; repeat (first | rw [if_pos (by omega)] | rw [if_neg (by omega)]))) (by rfl)
                    · skip
                      exfalso; omega
                  · skip
                    refine v_if_ne (tgt := 60) X dX8_kindBy_53 (by decide) (by decide) (fun hh => ?_) (fun hh => ?_)
                    · skip
                      exfalso; omega
                    · skip
                      refine v_iconst X dX8_kindBy_56 ?_
                      refine v_goto (tgt := 62) X dX8_kindBy_57 (by decide) ?_
                      exact v_iret X Y dX8_kindBy_62 (u := ()) (by first | (exfalso; omega) | (unfold kndI; repeat (first | rw [if_pos (by omega)] | rw [if_neg (by omega)]))) (by rfl)
                  · skip
                    refine v_if_ne (tgt := 60) X dX8_kindBy_53 (by decide) (by decide) (fun hh => ?_) (fun hh => ?_)
                    · skip
                      refine v_ldc X (List.mem_of_getElem? (i := 6) rfl) dX8_kindBy_60 (n := -1000000) (by decide) ?_
                      exact v_iret X Y dX8_kindBy_62 (u := ()) (by first | (exfalso; omega) | (unfold kndI; repeat (first | rw [if_pos (by omega)] | rw [if_neg (by omega)]))) (by rfl)
                    · skip
                      exfalso; omega
                · skip
                  exfalso; omega
            · skip
              exfalso; omega
          · skip
            refine v_if_ne (tgt := 36) X dX8_kindBy_29 (by decide) (by decide) (fun hh => ?_) (fun hh => ?_)
            · skip
              exfalso; omega
            · skip
              refine v_iconst X dX8_kindBy_32 ?_
              refine v_goto (tgt := 62) X dX8_kindBy_33 (by decide) ?_
              exact v_iret X Y dX8_kindBy_62 (u := ()) (by first | (exfalso; omega) | (unfold kndI; repeat (first | rw [if_pos (by omega)] | rw [if_neg (by omega)]))) (by rfl)
          · skip
            refine v_if_ne (tgt := 36) X dX8_kindBy_29 (by decide) (by decide) (fun hh => ?_) (fun hh => ?_)
            · skip
              refine v_lload_n X dX8_kindBy_36 rfl ?_
              refine v_ldc2 X (List.mem_of_getElem? (i := 4) rfl) dX8_kindBy_37 (n := 1650549611) (by decide) ?_
              refine v_lcmp X dX8_kindBy_40 (by omega) (by omega) (fun c29 => ?_) (fun c29 => ?_) (fun c29 => ?_)
              · skip
                refine v_if_ne (tgt := 48) X dX8_kindBy_41 (by decide) (by decide) (fun hh => ?_) (fun hh => ?_)
                · skip
                  refine v_lload_n X dX8_kindBy_48 rfl ?_
                  refine v_ldc2 X (List.mem_of_getElem? (i := 5) rfl) dX8_kindBy_49 (n := 1953064037) (by decide) ?_
                  refine v_lcmp X dX8_kindBy_52 (by omega) (by omega) (fun c30 => ?_) (fun c30 => ?_) (fun c30 => ?_)
                  · skip
                    refine v_if_ne (tgt := 60) X dX8_kindBy_53 (by decide) (by decide) (fun hh => ?_) (fun hh => ?_)
                    · skip
                      refine v_ldc X (List.mem_of_getElem? (i := 6) rfl) dX8_kindBy_60 (n := -1000000) (by decide) ?_
                      exact v_iret X Y dX8_kindBy_62 (u := ()) (by first | (exfalso; omega) | (unfold kndI; repeat (first | rw [if_pos (by omega)] | rw [if_neg (by omega)]))) (by rfl)
                    · skip
                      exfalso; omega
                  · skip
                    refine v_if_ne (tgt := 60) X dX8_kindBy_53 (by decide) (by decide) (fun hh => ?_) (fun hh => ?_)
                    · skip
                      exfalso; omega
                    · skip
                      refine v_iconst X dX8_kindBy_56 ?_
                      refine v_goto (tgt := 62) X dX8_kindBy_57 (by decide) ?_
                      exact v_iret X Y dX8_kindBy_62 (u := ()) (by first | (exfalso; omega) | (unfold kndI; repeat (first | rw [if_pos (by omega)] | rw [if_neg (by omega)]))) (by rfl)
                  · skip
                    refine v_if_ne (tgt := 60) X dX8_kindBy_53 (by decide) (by decide) (fun hh => ?_) (fun hh => ?_)
                    · skip
                      refine v_ldc X (List.mem_of_getElem? (i := 6) rfl) dX8_kindBy_60 (n := -1000000) (by decide) ?_
                      exact v_iret X Y dX8_kindBy_62 (u := ()) (by first | (exfalso; omega) | (unfold kndI; repeat (first | rw [if_pos (by omega)] | rw [if_neg (by omega)]))) (by rfl)
                    · skip
                      exfalso; omega
                · skip
                  exfalso; omega
              · skip
                refine v_if_ne (tgt := 48) X dX8_kindBy_41 (by decide) (by decide) (fun hh => ?_) (fun hh => ?_)
                · skip
                  exfalso; omega
                · skip
                  refine v_iconst X dX8_kindBy_44 ?_
                  refine v_goto (tgt := 62) X dX8_kindBy_45 (by decide) ?_
                  exact v_iret X Y dX8_kindBy_62 (u := ()) (by first | (exfalso; omega) | (unfold kndI; repeat (first | rw [if_pos (by omega)] | rw [if_neg (by omega)]))) (by rfl)
              · skip
                refine v_if_ne (tgt := 48) X dX8_kindBy_41 (by decide) (by decide) (fun hh => ?_) (fun hh => ?_)
                · skip
                  refine v_lload_n X dX8_kindBy_48 rfl ?_
                  refine v_ldc2 X (List.mem_of_getElem? (i := 5) rfl) dX8_kindBy_49 (n := 1953064037) (by decide) ?_
                  refine v_lcmp X dX8_kindBy_52 (by omega) (by omega) (fun c31 => ?_) (fun c31 => ?_) (fun c31 => ?_)
                  · skip
                    refine v_if_ne (tgt := 60) X dX8_kindBy_53 (by decide) (by decide) (fun hh => ?_) (fun hh => ?_)
                    · skip
                      refine v_ldc X (List.mem_of_getElem? (i := 6) rfl) dX8_kindBy_60 (n := -1000000) (by decide) ?_
                      exact v_iret X Y dX8_kindBy_62 (u := ()) (by first | (exfalso; omega) | (unfold kndI; repeat (first | rw [if_pos (by omega)] | rw [if_neg (by omega)]))) (by rfl)
                    · skip
                      exfalso; omega
                  · skip
                    refine v_if_ne (tgt := 60) X dX8_kindBy_53 (by decide) (by decide) (fun hh => ?_) (fun hh => ?_)
                    · skip
                      exfalso; omega
                    · skip
                      refine v_iconst X dX8_kindBy_56 ?_
                      refine v_goto (tgt := 62) X dX8_kindBy_57 (by decide) ?_
                      exact v_iret X Y dX8_kindBy_62 (u := ()) (by first | (exfalso; omega) | (unfold kndI; repeat (first | rw [if_pos (by omega)] | rw [if_neg (by omega)]))) (by rfl)
                  · skip
                    refine v_if_ne (tgt := 60) X dX8_kindBy_53 (by decide) (by decide) (fun hh => ?_) (fun hh => ?_)
                    · skip
                      refine v_ldc X (List.mem_of_getElem? (i := 6) rfl) dX8_kindBy_60 (n := -1000000) (by decide) ?_
                      exact v_iret X Y dX8_kindBy_62 (u := ()) (by first | (exfalso; omega) | (unfold kndI; repeat (first | rw [if_pos (by omega)] | rw [if_neg (by omega)]))) (by rfl)
                    · skip
                      exfalso; omega
                · skip
                  exfalso; omega
            · skip
              exfalso; omega
        · skip
          exfalso; omega
    · skip
      exfalso; omega

theorem hdX8_finding : yX8_finding.cls = RX8 ∧ yX8_finding.cls ≠ "java/lang/invoke/MethodHandle" ∧ yX8_finding.cls ≠ "java/lang/invoke/VarHandle" ∧ (parseMethodDescriptor yX8_finding.desc).map (fun d => d.parameters.length) = some 1 := ⟨rfl, by decide +kernel, by decide +kernel, by decide +kernel⟩
set_option maxHeartbeats 4000000 in
set_option maxRecDepth 100000 in
theorem c_X8_finding {g : Gx} {A : Nat → Nat} {th sq ac td lt ln cu tk sa ti ft fp le lf tr : Int} {fl fm fi fc ff fw ftp fk fe fr : Nat → Int} {n : Int}  : CtE g yX8_finding wsX8_finding 0 0 [.ref (A 0), .int (iI n)] (wMod g A th sq ac td lt ln cu tk sa ti ft fp le lf tr fl fm fi fc ff fw ftp fk fe fr) (-1000010 - n) (wMod g A th (n) ac td lt ln cu tk sa ti ft fp le lf tr fl fm fi fc ff fw ftp fk fe fr) := by
  refine m_go (cc := cX8_finding) (nL := 2) (by decide +kernel) rfl (Nat.le_of_ble_eq_true rfl) (fun x X Y hnm => ?_)
  refine v_eq (lo2 := [some (.ref (A 0)), some (.int (iI n))]) rfl rfl rfl rfl ?_
  refine v_aload_n X dX8_finding_0 rfl ?_
  refine v_iload_n X dX8_finding_1 rfl ?_
  refine v_put X (fun _ h => List.mem_cons_of_mem _ (List.mem_append_right _ h)) tyX8 tyX8_ok nmX8 0 rfl rfl 1 (by decide) rfl (List.mem_of_getElem? (i := 1) rfl) rfl rfl rfl (Nat.le_of_ble_eq_true rfl) dX8_finding_2 ?_
  dsimp only [List.set, wMod]
  refine v_ldc X (List.mem_of_getElem? (i := 2) rfl) dX8_finding_5 (n := -1000010) (by decide) ?_
  refine v_iload_n X dX8_finding_7 rfl ?_
  refine v_isub X dX8_finding_8 ?_
  exact v_iret X Y dX8_finding_9 (u := ()) (by first | rfl | omega | (split <;> omega) | (simp [*]; done)) (by rfl)

theorem hdX8_row : yX8_row.cls = RX8 ∧ yX8_row.cls ≠ "java/lang/invoke/MethodHandle" ∧ yX8_row.cls ≠ "java/lang/invoke/VarHandle" ∧ (parseMethodDescriptor yX8_row.desc).map (fun d => d.parameters.length) = some 3 := ⟨rfl, by decide +kernel, by decide +kernel, by decide +kernel⟩
set_option maxHeartbeats 4000000 in
set_option maxRecDepth 100000 in
theorem c_X8_row {g : Gx} {A : Nat → Nat} {th sq ac td lt ln cu tk sa ti ft fp le lf tr : Int} {fl fm fi fc ff fw ftp fk fe fr : Nat → Int} {r l n : Int} (hr : R32 r) (hl : R32 l) (hn : R32 n) : CtI (S := Int × (Nat → Int) × (Nat → Int) × (Nat → Int)) g yX8_row wsX8_row 2 45 [.ref (A 0), .int (iI r), .int (iI l), .int (iI n)] (wMod g A th sq ac td lt ln cu tk sa ti ft fp le lf tr fl fm fi fc ff fw ftp fk fe fr) (fun v u => (¬ (0 ≤ r ∧ r < 8 ∧ 0 ≤ l ∧ l ≤ 2 ∧ n ≤ 40) ∧ v = -1000001 ∧ u = (sq, fl, fm, fi)) ∨ ((0 ≤ r ∧ r < 8 ∧ 0 ≤ l ∧ l ≤ 2 ∧ n < 0) ∧ v = -1000014 ∧ u = (4, fl, fm, fi)) ∨ ((0 ≤ r ∧ r < 8 ∧ 0 ≤ l ∧ l ≤ 2 ∧ 0 ≤ n ∧ n ≤ 40) ∧ v = n ∧ u.1 = 0 ∧ u.2.1 = updI fl r.toNat l ∧ u.2.2.1 = updI fm r.toNat n ∧ ∀ j : Nat, u.2.2.2 j = if r * 40 ≤ (j : Int) ∧ (j : Int) < r * 40 + 40 then 0 else fi j)) (fun u => wMod g A 0 u.1 ac td lt ln cu tk sa ti ft fp le lf tr u.2.1 u.2.2.1 u.2.2.2 fc ff fw ftp fk fe fr) := by
  refine m_go (cc := cX8_row) (nL := 5) (by decide +kernel) rfl (Nat.le_of_ble_eq_true rfl) (fun x X Y hnm => ?_)
  refine v_eq (lo2 := [some (.ref (A 0)), some (.int (iI r)), some (.int (iI l)), some (.int (iI n)), none]) rfl rfl rfl rfl ?_
  refine v_aload_n X dX8_row_0 rfl ?_
  refine v_iconst X dX8_row_1 ?_
  refine v_put X (fun _ h => List.mem_cons_of_mem _ (List.mem_append_right _ h)) tyX8 tyX8_ok nmX8 0 rfl rfl 0 (by decide) rfl (List.mem_of_getElem? (i := 1) rfl) rfl rfl rfl (Nat.le_of_ble_eq_true rfl) dX8_row_2 ?_
  dsimp only [List.set, wMod]
  refine v_iload_n X dX8_row_5 rfl ?_
  refine res_E X (run_S X (c_X8_isRow (g := g) (by first | assumption | omega)) gX8_row_X8_isRow rfl hdX8_isRow.2 ⟨(Nat.le_of_ble_eq_true rfl), (Nat.le_of_ble_eq_true rfl)⟩ ⟨(Nat.le_of_ble_eq_true rfl), (Nat.le_of_ble_eq_true rfl)⟩ [] rfl rfl rfl rfl (by simp [Value.category]) dX8_row_6) [] rfl rfl ?_
  refine v_ifb_eq (tgt := 30) X dX8_row_9 (by decide) (fun c1 => ?_) (fun c1 => ?_)
  · skip
    refine v_ldc X (List.mem_of_getElem? (i := 3) rfl) dX8_row_30 (n := -1000001) (by decide) ?_
    refine v_iret X Y dX8_row_32 (u := (sq, fl, fm, fi)) ?_ (by rfl)
    exact Or.inl ⟨by omega, rfl, rfl⟩
  · skip
    refine v_iload_n X dX8_row_12 rfl ?_
    refine v_i2l X dX8_row_13 (by first | omega | (split <;> omega)) ?_
    refine v_lconst0 X dX8_row_14 ?_
    refine v_ldc2 X (List.mem_of_getElem? (i := 2) rfl) dX8_row_15 (n := 2) (by decide) ?_
    refine res_E X (run_S X (c_X8_in (g := g) (by first | assumption | omega) (by first | assumption | omega) (by first | assumption | omega)) gX8_row_X8_in rfl hdX8_in.2 ⟨(Nat.le_of_ble_eq_true rfl), (Nat.le_of_ble_eq_true rfl)⟩ ⟨(Nat.le_of_ble_eq_true rfl), (Nat.le_of_ble_eq_true rfl)⟩ [] rfl rfl rfl rfl (by simp [Value.category]) dX8_row_18) [] rfl rfl ?_
    refine v_ifb_eq (tgt := 30) X dX8_row_21 (by decide) (fun c2 => ?_) (fun c2 => ?_)
    · skip
      refine v_ldc X (List.mem_of_getElem? (i := 3) rfl) dX8_row_30 (n := -1000001) (by decide) ?_
      refine v_iret X Y dX8_row_32 (u := (sq, fl, fm, fi)) ?_ (by rfl)
      exact Or.inl ⟨by omega, rfl, rfl⟩
    · skip
      refine v_iload_n X dX8_row_24 rfl ?_
      refine v_bipush X dX8_row_25 (by decide) ?_
      refine v_icmp_le (tgt := 33) X dX8_row_27 (by decide) (by first | omega | (split <;> omega)) (by first | omega | (split <;> omega)) (fun c3 => ?_) (fun c3 => ?_)
      · skip
        refine v_aload_n X dX8_row_33 rfl ?_
        refine v_iconst X dX8_row_34 ?_
        refine v_put X (fun _ h => List.mem_cons_of_mem _ (List.mem_append_right _ h)) tyX8 tyX8_ok nmX8 0 rfl rfl 1 (by decide) rfl (List.mem_of_getElem? (i := 4) rfl) rfl rfl rfl (Nat.le_of_ble_eq_true rfl) dX8_row_35 ?_
        dsimp only [List.set, wMod]
        refine v_iload_n X dX8_row_38 rfl ?_
        refine v_if_ge (tgt := 48) X dX8_row_39 (by decide) (by first | omega | (split <;> omega)) (fun c4 => ?_) (fun c4 => ?_)
        · skip
          refine v_aload_n X dX8_row_48 rfl ?_
          refine v_get X (fun _ h => List.mem_cons_of_mem _ (List.mem_append_right _ h)) 0 rfl rfl 2 (by decide) rfl (List.mem_of_getElem? (i := 5) rfl) rfl dX8_row_49 ?_
          refine v_iload_n X dX8_row_52 rfl ?_
          refine v_iload_n X dX8_row_53 rfl ?_
          refine v_iast X 1 rfl (by first | omega | (split <;> omega)) (by first | omega | (split <;> omega)) (by first | omega | (split <;> omega)) dX8_row_54 ?_
          dsimp only [List.set, wMod]
          refine v_aload_n X dX8_row_55 rfl ?_
          refine v_get X (fun _ h => List.mem_cons_of_mem _ (List.mem_append_right _ h)) 0 rfl rfl 3 (by decide) rfl (List.mem_of_getElem? (i := 6) rfl) rfl dX8_row_56 ?_
          refine v_iload_n X dX8_row_59 rfl ?_
          refine v_iload_n X dX8_row_60 rfl ?_
          refine v_iast X 2 rfl (by first | omega | (split <;> omega)) (by first | omega | (split <;> omega)) (by first | omega | (split <;> omega)) dX8_row_61 ?_
          dsimp only [List.set, wMod]
          refine v_iconst X dX8_row_62 ?_
          refine v_istore X dX8_row_63 (by decide) rfl ?_
          dsimp only [List.set]
          have L65 : ∀ (nf : Nat) (f : Nat → Int) (i : Int) (h1 : 0 ≤ i ∧ i ≤ 40) (h2 : ∀ j : Nat, f j = (if r * 40 ≤ (j : Int) ∧ (j : Int) < r * 40 + i then 0 else fi j)) (h3 : 0 ≤ r ∧ r < 8) (_ : (40 - i).toNat < nf), V g x 0 0 (wMod g A (0) (0) ac td lt ln cu tk sa ti ft fp le lf tr (updI fl r.toNat l) (updI fm r.toNat n) (f) fc ff fw ftp fk fe fr) [some (.ref (A 0)), some (.int (iI r)), some (.int (iI l)), some (.int (iI n)), some (.int (iI i))] 65 [] := by
            intro nf
            induction nf with
            | zero => intro f i h1 h2 h3 hmu; exact absurd hmu (Nat.not_lt_zero _)
            | succ nf ih65 =>
              intro f i h1 h2 h3 hmu
              refine v_iload X dX8_row_65 rfl ?_
              refine v_bipush X dX8_row_67 (by decide) ?_
              refine v_icmp_ge (tgt := 91) X dX8_row_69 (by decide) (by first | omega | (split <;> omega)) (by first | omega | (split <;> omega)) (fun c5 => ?_) (fun c5 => ?_)
              · skip
                refine v_iload_n X dX8_row_91 rfl ?_
                refine v_iret X Y dX8_row_92 (u := (0, updI fl r.toNat l, updI fm r.toNat n, f)) ?_ (by rfl)
                refine Or.inr (Or.inr ⟨by omega, rfl, rfl, rfl, rfl, ?_⟩)
                have e : i = 40 := by omega
                intro j; have q := h2 j; rw [e] at q; exact q
              · skip
                refine v_aload_n X dX8_row_72 rfl ?_
                refine v_get X (fun _ h => List.mem_cons_of_mem _ (List.mem_append_right _ h)) 0 rfl rfl 4 (by decide) rfl (List.mem_of_getElem? (i := 7) rfl) rfl dX8_row_73 ?_
                refine v_bipush X dX8_row_76 (by decide) ?_
                refine v_iload_n X dX8_row_78 rfl ?_
                refine v_imul X dX8_row_79 ?_
                refine v_iload X dX8_row_80 rfl ?_
                refine v_iadd X dX8_row_82 ?_
                refine v_iconst X dX8_row_83 ?_
                refine v_iast X 3 rfl (by first | omega | (split <;> omega)) (by first | omega | (split <;> omega)) (by first | omega | (split <;> omega)) dX8_row_84 ?_
                dsimp only [List.set, wMod]
                refine v_iinc X dX8_row_85 rfl (by decide) rfl ?_
                dsimp only [List.set]
                refine v_goto (tgt := 65) X dX8_row_88 (by decide) ?_
                exact ih65 _ _ (by omega) (by intro j; rw [updI_e, h2 j]; split <;> split <;> (first | rfl | (split <;> first | rfl | omega) | omega)) (by omega) (by omega)
          exact L65 _ _ _ (by omega) (by intro j; rw [if_neg (by omega)]) (by omega) (Nat.lt_succ_self _)
        · skip
          refine v_aload_n X dX8_row_42 rfl ?_
          refine v_iconst X dX8_row_43 ?_
          refine res_F X (run_V X (c_X8_finding (g := g) ) gX8_row_X8_finding rfl hdX8_finding ⟨(Nat.le_of_ble_eq_true rfl), (Nat.le_of_ble_eq_true rfl)⟩ ⟨(Nat.le_of_ble_eq_true rfl), (Nat.le_of_ble_eq_true rfl)⟩ 0 rfl rfl rfl [0, 1, 2, 3, 4, 5, 6, 7, 8, 9, 10] rfl rfl rfl rfl (by simp [Value.category]) dX8_row_44) [0, 1, 2, 3, 4, 5, 6, 7, 8, 9, 10] rfl rfl rfl ?_
          dsimp only [patch, List.set, wMod]
          refine v_iret X Y dX8_row_47 (u := (4, fl, fm, fi)) ?_ (by rfl)
          exact Or.inr (Or.inl ⟨by omega, rfl, rfl⟩)
      · skip
        refine v_ldc X (List.mem_of_getElem? (i := 3) rfl) dX8_row_30 (n := -1000001) (by decide) ?_
        refine v_iret X Y dX8_row_32 (u := (sq, fl, fm, fi)) ?_ (by rfl)
        exact Or.inl ⟨by omega, rfl, rfl⟩

theorem hdX8_isThere : yX8_isThere.cls = RX8 ∧ yX8_isThere.cls ≠ "java/lang/invoke/MethodHandle" ∧ yX8_isThere.cls ≠ "java/lang/invoke/VarHandle" ∧ (parseMethodDescriptor yX8_isThere.desc).map (fun d => d.parameters.length) = some 0 := ⟨rfl, by decide +kernel, by decide +kernel, by decide +kernel⟩
set_option maxHeartbeats 4000000 in
set_option maxRecDepth 100000 in
theorem c_X8_isThere {g : Gx} {A : Nat → Nat} {th sq ac td lt ln cu tk sa ti ft fp le lf tr : Int} {fl fm fi fc ff fw ftp fk fe fr : Nat → Int}  (hfc : Bd 0 60 fc) : CtE g yX8_isThere wsX8_isThere 0 0 [.ref (A 0)] (wMod g A th sq ac td lt ln cu tk sa ti ft fp le lf tr fl fm fi fc ff fw ftp fk fe fr) (if 0 < fc 0 then 1 else 0) (wMod g A th sq ac td lt ln cu tk sa ti ft fp le lf tr fl fm fi fc ff fw ftp fk fe fr) := by
  refine m_go (cc := cX8_isThere) (nL := 1) (by decide +kernel) rfl (Nat.le_of_ble_eq_true rfl) (fun x X Y hnm => ?_)
  refine v_eq (lo2 := [some (.ref (A 0))]) rfl rfl rfl rfl ?_
  have q0 := hfc 0
  refine v_aload_n X dX8_isThere_0 rfl ?_
  refine v_get X (fun _ h => List.mem_cons_of_mem _ (List.mem_append_right _ h)) 0 rfl rfl 5 (by decide) rfl (List.mem_of_getElem? (i := 1) rfl) rfl dX8_isThere_1 ?_
  refine v_iconst X dX8_isThere_4 ?_
  refine v_iald X 4 rfl (by omega) (by omega) (by omega) dX8_isThere_5 hfc (fun z0 ez0 lz0 uz0 => ?_)
  rw [show z0 = fc 0 from ez0]
  refine v_if_le (tgt := 13) X dX8_isThere_6 (by decide) (by omega) (fun c2 => ?_) (fun c2 => ?_)
  · skip
    refine v_iconst X dX8_isThere_13 ?_
    exact v_zret X Y dX8_isThere_14 (by first | decide | omega | (split <;> omega)) (u := ()) (by first | rw [if_pos (by assumption)] | rw [if_neg (by omega)]) (by rfl)
  · skip
    refine v_iconst X dX8_isThere_9 ?_
    refine v_goto (tgt := 14) X dX8_isThere_10 (by decide) ?_
    exact v_zret X Y dX8_isThere_14 (by first | decide | omega | (split <;> omega)) (u := ()) (by first | rw [if_pos (by assumption)] | rw [if_neg (by omega)]) (by rfl)

theorem hdX8_isHand : yX8_isHand.cls = RX8 ∧ yX8_isHand.cls ≠ "java/lang/invoke/MethodHandle" ∧ yX8_isHand.cls ≠ "java/lang/invoke/VarHandle" ∧ (parseMethodDescriptor yX8_isHand.desc).map (fun d => d.parameters.length) = some 1 := ⟨rfl, by decide +kernel, by decide +kernel, by decide +kernel⟩
set_option maxHeartbeats 4000000 in
set_option maxRecDepth 100000 in
theorem c_X8_isHand {g : Gx} {A : Nat → Nat} {th sq ac td lt ln cu tk sa ti ft fp le lf tr : Int} {fl fm fi fc ff fw ftp fk fe fr : Nat → Int} {h : Int} (hfc : Bd 0 60 fc) (hh : R32 h) : CtE g yX8_isHand wsX8_isHand 1 25 [.ref (A 0), .int (iI h)] (wMod g A th sq ac td lt ln cu tk sa ti ft fp le lf tr fl fm fi fc ff fw ftp fk fe fr) (if 0 ≤ h ∧ h < fc 1 then 1 else 0) (wMod g A th sq ac td lt ln cu tk sa ti ft fp le lf tr fl fm fi fc ff fw ftp fk fe fr) := by
  refine m_go (cc := cX8_isHand) (nL := 2) (by decide +kernel) rfl (Nat.le_of_ble_eq_true rfl) (fun x X Y hnm => ?_)
  refine v_eq (lo2 := [some (.ref (A 0)), some (.int (iI h))]) rfl rfl rfl rfl ?_
  have q0 := hfc 1
  refine v_iload_n X dX8_isHand_0 rfl ?_
  refine v_i2l X dX8_isHand_1 (by first | omega | (split <;> omega)) ?_
  refine v_lconst0 X dX8_isHand_2 ?_
  refine v_aload_n X dX8_isHand_3 rfl ?_
  refine v_get X (fun _ h => List.mem_cons_of_mem _ (List.mem_append_right _ h)) 0 rfl rfl 5 (by decide) rfl (List.mem_of_getElem? (i := 1) rfl) rfl dX8_isHand_4 ?_
  refine v_iconst X dX8_isHand_7 ?_
  refine v_iald X 4 rfl (by first | omega | (split <;> omega)) (by first | omega | (split <;> omega)) (by first | omega | (split <;> omega)) dX8_isHand_8 hfc (fun z0 ez0 lz0 uz0 => ?_)
  rw [show z0 = fc 1 from ez0]
  refine v_iconst X dX8_isHand_9 ?_
  refine v_isub X dX8_isHand_10 ?_
  refine v_i2l X dX8_isHand_11 (by first | omega | (split <;> omega)) ?_
  refine res_E X (run_S X (c_X8_in (g := g) (by first | assumption | omega) (by first | assumption | omega) (by first | assumption | omega)) gX8_isHand_X8_in rfl hdX8_in.2 ⟨(Nat.le_of_ble_eq_true rfl), (Nat.le_of_ble_eq_true rfl)⟩ ⟨(Nat.le_of_ble_eq_true rfl), (Nat.le_of_ble_eq_true rfl)⟩ [] rfl rfl rfl rfl (by simp [Value.category]) dX8_isHand_12) [] rfl rfl ?_
  exact v_zret X Y dX8_isHand_15 (by first | decide | omega | (split <;> omega)) (u := ()) (by split <;> split <;> omega) (by rfl)

theorem hdX8_areTwo : yX8_areTwo.cls = RX8 ∧ yX8_areTwo.cls ≠ "java/lang/invoke/MethodHandle" ∧ yX8_areTwo.cls ≠ "java/lang/invoke/VarHandle" ∧ (parseMethodDescriptor yX8_areTwo.desc).map (fun d => d.parameters.length) = some 2 := ⟨rfl, by decide +kernel, by decide +kernel, by decide +kernel⟩
set_option maxHeartbeats 4000000 in
set_option maxRecDepth 100000 in
theorem c_X8_areTwo {g : Gx} {A : Nat → Nat} {th sq ac td lt ln cu tk sa ti ft fp le lf tr : Int} {fl fm fi fc ff fw ftp fk fe fr : Nat → Int} {a b : Int} (hfc : Bd 0 60 fc) (ha : R32 a) (hb : R32 b) : CtE g yX8_areTwo wsX8_areTwo 2 46 [.ref (A 0), .int (iI a), .int (iI b)] (wMod g A th sq ac td lt ln cu tk sa ti ft fp le lf tr fl fm fi fc ff fw ftp fk fe fr) (if (0 ≤ a ∧ a < fc 1) ∧ (0 ≤ b ∧ b < fc 1) ∧ a ≠ b then 1 else 0) (wMod g A th sq ac td lt ln cu tk sa ti ft fp le lf tr fl fm fi fc ff fw ftp fk fe fr) := by
  refine m_go (cc := cX8_areTwo) (nL := 3) (by decide +kernel) rfl (Nat.le_of_ble_eq_true rfl) (fun x X Y hnm => ?_)
  refine v_eq (lo2 := [some (.ref (A 0)), some (.int (iI a)), some (.int (iI b))]) rfl rfl rfl rfl ?_
  refine v_aload_n X dX8_areTwo_0 rfl ?_
  refine v_iload_n X dX8_areTwo_1 rfl ?_
  refine res_E X (run_V X (c_X8_isHand (g := g) (by first | assumption | omega) (by first | assumption | omega)) gX8_areTwo_X8_isHand rfl hdX8_isHand ⟨(Nat.le_of_ble_eq_true rfl), (Nat.le_of_ble_eq_true rfl)⟩ ⟨(Nat.le_of_ble_eq_true rfl), (Nat.le_of_ble_eq_true rfl)⟩ 0 rfl rfl rfl [0, 1, 2, 3, 4, 5, 6, 7, 8, 9, 10] rfl rfl rfl rfl (by simp [Value.category]) dX8_areTwo_2) [0, 1, 2, 3, 4, 5, 6, 7, 8, 9, 10] rfl rfl ?_
  refine v_ifb_eq (tgt := 25) X dX8_areTwo_5 (by decide) (fun c1 => ?_) (fun c1 => ?_)
  · skip
    refine v_iconst X dX8_areTwo_25 ?_
    exact v_zret X Y dX8_areTwo_26 (by first | decide | omega | (split <;> omega)) (u := ()) (by first | rfl | omega | (split <;> omega) | (split <;> split <;> omega)) (by rfl)
  · skip
    refine v_aload_n X dX8_areTwo_8 rfl ?_
    refine v_iload_n X dX8_areTwo_9 rfl ?_
    refine res_E X (run_V X (c_X8_isHand (g := g) (by first | assumption | omega) (by first | assumption | omega)) gX8_areTwo_X8_isHand rfl hdX8_isHand ⟨(Nat.le_of_ble_eq_true rfl), (Nat.le_of_ble_eq_true rfl)⟩ ⟨(Nat.le_of_ble_eq_true rfl), (Nat.le_of_ble_eq_true rfl)⟩ 0 rfl rfl rfl [0, 1, 2, 3, 4, 5, 6, 7, 8, 9, 10] rfl rfl rfl rfl (by simp [Value.category]) dX8_areTwo_10) [0, 1, 2, 3, 4, 5, 6, 7, 8, 9, 10] rfl rfl ?_
    refine v_ifb_eq (tgt := 25) X dX8_areTwo_13 (by decide) (fun c2 => ?_) (fun c2 => ?_)
    · skip
      refine v_iconst X dX8_areTwo_25 ?_
      exact v_zret X Y dX8_areTwo_26 (by first | decide | omega | (split <;> omega)) (u := ()) (by first | rfl | omega | (split <;> omega) | (split <;> split <;> omega)) (by rfl)
    · skip
      refine v_iload_n X dX8_areTwo_16 rfl ?_
      refine v_iload_n X dX8_areTwo_17 rfl ?_
      refine v_icmp_eq (tgt := 25) X dX8_areTwo_18 (by decide) (by first | omega | (split <;> omega)) (by first | omega | (split <;> omega)) (fun c3 => ?_) (fun c3 => ?_)
      · skip
        refine v_iconst X dX8_areTwo_25 ?_
        exact v_zret X Y dX8_areTwo_26 (by first | decide | omega | (split <;> omega)) (u := ()) (by first | rfl | omega | (split <;> omega) | (split <;> split <;> omega)) (by rfl)
      · skip
        refine v_iconst X dX8_areTwo_21 ?_
        refine v_goto (tgt := 26) X dX8_areTwo_22 (by decide) ?_
        exact v_zret X Y dX8_areTwo_26 (by first | decide | omega | (split <;> omega)) (u := ()) (by first | rfl | omega | (split <;> omega) | (split <;> split <;> omega)) (by rfl)

theorem hdX8_of : yX8_of.cls = RX8 ∧ yX8_of.cls ≠ "java/lang/invoke/MethodHandle" ∧ yX8_of.cls ≠ "java/lang/invoke/VarHandle" ∧ (parseMethodDescriptor yX8_of.desc).map (fun d => d.parameters.length) = some 2 := ⟨rfl, by decide +kernel, by decide +kernel, by decide +kernel⟩
set_option maxHeartbeats 4000000 in
set_option maxRecDepth 100000 in
theorem c_X8_of {g : Gx} {A : Nat → Nat} {th sq ac td lt ln cu tk sa ti ft fp le lf tr : Int} {fl fm fi fc ff fw ftp fk fe fr : Nat → Int} {h w : Int} (hfc : Bd 0 60 fc) (hh : 0 ≤ h ∧ h ≤ 3) (hw : 0 ≤ w ∧ w ≤ 2) : CtE g yX8_of wsX8_of 0 0 [.ref (A 0), .int (iI h), .int (iI w)] (wMod g A th sq ac td lt ln cu tk sa ti ft fp le lf tr fl fm fi fc ff fw ftp fk fe fr) (fc (2 + 3 * h + w).toNat) (wMod g A th sq ac td lt ln cu tk sa ti ft fp le lf tr fl fm fi fc ff fw ftp fk fe fr) := by
  refine m_go (cc := cX8_of) (nL := 3) (by decide +kernel) rfl (Nat.le_of_ble_eq_true rfl) (fun x X Y hnm => ?_)
  refine v_eq (lo2 := [some (.ref (A 0)), some (.int (iI h)), some (.int (iI w))]) rfl rfl rfl rfl ?_
  refine v_aload_n X dX8_of_0 rfl ?_
  refine v_get X (fun _ h => List.mem_cons_of_mem _ (List.mem_append_right _ h)) 0 rfl rfl 5 (by decide) rfl (List.mem_of_getElem? (i := 1) rfl) rfl dX8_of_1 ?_
  refine v_iconst X dX8_of_4 ?_
  refine v_iconst X dX8_of_5 ?_
  refine v_iload_n X dX8_of_6 rfl ?_
  refine v_imul X dX8_of_7 ?_
  refine v_iadd X dX8_of_8 ?_
  refine v_iload_n X dX8_of_9 rfl ?_
  refine v_iadd X dX8_of_10 ?_
  refine v_iald X 4 rfl (by omega) (by omega) (by omega) dX8_of_11 hfc (fun z1 ez1 lz1 uz1 => ?_)
  exact v_iret X Y dX8_of_12 (u := ()) (by first | rfl | omega | (split <;> omega) | (simp [*]; done)) (by rfl)

theorem hdX8_speed : yX8_speed.cls = RX8 ∧ yX8_speed.cls ≠ "java/lang/invoke/MethodHandle" ∧ yX8_speed.cls ≠ "java/lang/invoke/VarHandle" ∧ (parseMethodDescriptor yX8_speed.desc).map (fun d => d.parameters.length) = some 1 := ⟨rfl, by decide +kernel, by decide +kernel, by decide +kernel⟩
set_option maxHeartbeats 4000000 in
set_option maxRecDepth 100000 in
theorem c_X8_speed {g : Gx} {A : Nat → Nat} {th sq ac td lt ln cu tk sa ti ft fp le lf tr : Int} {fl fm fi fc ff fw ftp fk fe fr : Nat → Int} {h : Int} (hfc : Bd 0 60 fc) (ht3 : Bd 0 12 (tM fc)) (hh : 0 ≤ h ∧ h ≤ 3) : CtE g yX8_speed wsX8_speed 1 22 [.ref (A 0), .int (iI h)] (wMod g A th sq ac td lt ln cu tk sa ti ft fp le lf tr fl fm fi fc ff fw ftp fk fe fr) (spdM fc h) (wMod g A th sq ac td lt ln cu tk sa ti ft fp le lf tr fl fm fi fc ff fw ftp fk fe fr) := by
  refine m_go (cc := cX8_speed) (nL := 2) (by decide +kernel) rfl (Nat.le_of_ble_eq_true rfl) (fun x X Y hnm => ?_)
  refine v_eq (lo2 := [some (.ref (A 0)), some (.int (iI h))]) rfl rfl rfl rfl ?_
  have q1 := hfc (2 + 3 * h + 0).toNat
  have q2 := hfc (2 + 3 * h + 1).toNat
  have f1 : fc (2 + 3 * h + 0).toNat = atI 4 (kM fc) h := kM_at hh
  have f2 : fc (2 + 3 * h + 1).toNat = atI 4 (tM fc) h := tM_at hh
  refine v_aload_n X dX8_speed_0 rfl ?_
  refine v_iload_n X dX8_speed_1 rfl ?_
  refine v_iconst X dX8_speed_2 ?_
  refine res_E X (run_V X (c_X8_of (g := g) (by first | assumption | omega) (by first | assumption | omega) (by first | assumption | omega)) gX8_speed_X8_of rfl hdX8_of ⟨(Nat.le_of_ble_eq_true rfl), (Nat.le_of_ble_eq_true rfl)⟩ ⟨(Nat.le_of_ble_eq_true rfl), (Nat.le_of_ble_eq_true rfl)⟩ 0 rfl rfl rfl [0, 1, 2, 3, 4, 5, 6, 7, 8, 9, 10] rfl rfl rfl rfl (by simp [Value.category]) dX8_speed_3) [0, 1, 2, 3, 4, 5, 6, 7, 8, 9, 10] rfl rfl ?_
  refine v_iconst X dX8_speed_6 ?_
  refine v_icmp_ne (tgt := 20) X dX8_speed_7 (by decide) (by omega) (by omega) (fun c1 => ?_) (fun c1 => ?_)
  · skip
    refine v_aload_n X dX8_speed_20 rfl ?_
    refine v_iload_n X dX8_speed_21 rfl ?_
    refine v_iconst X dX8_speed_22 ?_
    refine res_E X (run_V X (c_X8_of (g := g) (by first | assumption | omega) (by first | assumption | omega) (by first | assumption | omega)) gX8_speed_X8_of rfl hdX8_of ⟨(Nat.le_of_ble_eq_true rfl), (Nat.le_of_ble_eq_true rfl)⟩ ⟨(Nat.le_of_ble_eq_true rfl), (Nat.le_of_ble_eq_true rfl)⟩ 0 rfl rfl rfl [0, 1, 2, 3, 4, 5, 6, 7, 8, 9, 10] rfl rfl rfl rfl (by simp [Value.category]) dX8_speed_23) [0, 1, 2, 3, 4, 5, 6, 7, 8, 9, 10] rfl rfl ?_
    refine v_iconst X dX8_speed_26 ?_
    refine v_icmp_ne (tgt := 41) X dX8_speed_27 (by decide) (by omega) (by omega) (fun c2 => ?_) (fun c2 => ?_)
    · skip
      refine v_aload_n X dX8_speed_41 rfl ?_
      refine v_iload_n X dX8_speed_42 rfl ?_
      refine v_iconst X dX8_speed_43 ?_
      refine res_E X (run_V X (c_X8_of (g := g) (by first | assumption | omega) (by first | assumption | omega) (by first | assumption | omega)) gX8_speed_X8_of rfl hdX8_of ⟨(Nat.le_of_ble_eq_true rfl), (Nat.le_of_ble_eq_true rfl)⟩ ⟨(Nat.le_of_ble_eq_true rfl), (Nat.le_of_ble_eq_true rfl)⟩ 0 rfl rfl rfl [0, 1, 2, 3, 4, 5, 6, 7, 8, 9, 10] rfl rfl rfl rfl (by simp [Value.category]) dX8_speed_44) [0, 1, 2, 3, 4, 5, 6, 7, 8, 9, 10] rfl rfl ?_
      exact v_iret X Y dX8_speed_47 (u := ()) (by unfold spdM spdI; rw [← f1, ← f2]; first | rw [if_pos (by assumption)] | (rw [if_neg (by assumption)]; first | rw [if_pos (by assumption)] | rw [if_neg (by assumption)])) (by rfl)
    · skip
      refine v_iconst X dX8_speed_30 ?_
      refine v_aload_n X dX8_speed_31 rfl ?_
      refine v_iload_n X dX8_speed_32 rfl ?_
      refine v_iconst X dX8_speed_33 ?_
      refine res_E X (run_V X (c_X8_of (g := g) (by first | assumption | omega) (by first | assumption | omega) (by first | assumption | omega)) gX8_speed_X8_of rfl hdX8_of ⟨(Nat.le_of_ble_eq_true rfl), (Nat.le_of_ble_eq_true rfl)⟩ ⟨(Nat.le_of_ble_eq_true rfl), (Nat.le_of_ble_eq_true rfl)⟩ 0 rfl rfl rfl [0, 1, 2, 3, 4, 5, 6, 7, 8, 9, 10] rfl rfl rfl rfl (by simp [Value.category]) dX8_speed_34) [0, 1, 2, 3, 4, 5, 6, 7, 8, 9, 10] rfl rfl ?_
      refine v_imul X dX8_speed_37 ?_
      refine v_goto (tgt := 47) X dX8_speed_38 (by decide) ?_
      exact v_iret X Y dX8_speed_47 (u := ()) (by unfold spdM spdI; rw [← f1, ← f2]; first | rw [if_pos (by assumption)] | (rw [if_neg (by assumption)]; first | rw [if_pos (by assumption)] | rw [if_neg (by assumption)])) (by rfl)
  · skip
    refine v_aload_n X dX8_speed_10 rfl ?_
    refine v_iload_n X dX8_speed_11 rfl ?_
    refine v_iconst X dX8_speed_12 ?_
    refine res_E X (run_V X (c_X8_of (g := g) (by first | assumption | omega) (by first | assumption | omega) (by first | assumption | omega)) gX8_speed_X8_of rfl hdX8_of ⟨(Nat.le_of_ble_eq_true rfl), (Nat.le_of_ble_eq_true rfl)⟩ ⟨(Nat.le_of_ble_eq_true rfl), (Nat.le_of_ble_eq_true rfl)⟩ 0 rfl rfl rfl [0, 1, 2, 3, 4, 5, 6, 7, 8, 9, 10] rfl rfl rfl rfl (by simp [Value.category]) dX8_speed_13) [0, 1, 2, 3, 4, 5, 6, 7, 8, 9, 10] rfl rfl ?_
    refine v_ineg X dX8_speed_16 ?_
    refine v_goto (tgt := 47) X dX8_speed_17 (by decide) ?_
    exact v_iret X Y dX8_speed_47 (u := ()) (by unfold spdM spdI; rw [← f1, ← f2]; first | rw [if_pos (by assumption)] | (rw [if_neg (by assumption)]; first | rw [if_pos (by assumption)] | rw [if_neg (by assumption)])) (by rfl)

theorem hdX8_hand : yX8_hand.cls = RX8 ∧ yX8_hand.cls ≠ "java/lang/invoke/MethodHandle" ∧ yX8_hand.cls ≠ "java/lang/invoke/VarHandle" ∧ (parseMethodDescriptor yX8_hand.desc).map (fun d => d.parameters.length) = some 2 := ⟨rfl, by decide +kernel, by decide +kernel, by decide +kernel⟩
set_option maxHeartbeats 4000000 in
set_option maxRecDepth 100000 in
theorem c_X8_hand {g : Gx} {A : Nat → Nat} {th sq ac td lt ln cu tk sa ti ft fp le lf tr : Int} {fl fm fi fc ff fw ftp fk fe fr : Nat → Int} {h w : Int} (hfc : Bd 0 60 fc) (hc1 : 0 ≤ fc 1 ∧ fc 1 ≤ 4) (ht3 : Bd 0 12 (tM fc)) (hh : R32 h) (hw : R32 w) : CtE g yX8_hand wsX8_hand 2 46 [.ref (A 0), .int (iI h), .int (iI w)] (wMod g A th sq ac td lt ln cu tk sa ti ft fp le lf tr fl fm fi fc ff fw ftp fk fe fr) (if (0 ≤ h ∧ h < fc 1) ∧ 0 ≤ w ∧ w ≤ 2 then (if w = 0 then atI 4 (tM fc) h else if w = 1 then spdM fc h else atI 4 (sM fc) h) else -1000001) (wMod g A (0) sq ac td lt ln cu tk sa ti ft fp le lf tr fl fm fi fc ff fw ftp fk fe fr) := by
  refine m_go (cc := cX8_hand) (nL := 3) (by decide +kernel) rfl (Nat.le_of_ble_eq_true rfl) (fun x X Y hnm => ?_)
  refine v_eq (lo2 := [some (.ref (A 0)), some (.int (iI h)), some (.int (iI w))]) rfl rfl rfl rfl ?_
  refine v_aload_n X dX8_hand_0 rfl ?_
  refine v_iconst X dX8_hand_1 ?_
  refine v_put X (fun _ h => List.mem_cons_of_mem _ (List.mem_append_right _ h)) tyX8 tyX8_ok nmX8 0 rfl rfl 0 (by decide) rfl (List.mem_of_getElem? (i := 1) rfl) rfl rfl rfl (Nat.le_of_ble_eq_true rfl) dX8_hand_2 ?_
  dsimp only [List.set, wMod]
  refine v_aload_n X dX8_hand_5 rfl ?_
  refine v_iload_n X dX8_hand_6 rfl ?_
  refine res_E X (run_V X (c_X8_isHand (g := g) (by first | assumption | omega) (by first | assumption | omega)) gX8_hand_X8_isHand rfl hdX8_isHand ⟨(Nat.le_of_ble_eq_true rfl), (Nat.le_of_ble_eq_true rfl)⟩ ⟨(Nat.le_of_ble_eq_true rfl), (Nat.le_of_ble_eq_true rfl)⟩ 0 rfl rfl rfl [0, 1, 2, 3, 4, 5, 6, 7, 8, 9, 10] rfl rfl rfl rfl (by simp [Value.category]) dX8_hand_7) [0, 1, 2, 3, 4, 5, 6, 7, 8, 9, 10] rfl rfl ?_
  refine v_ifb_eq (tgt := 25) X dX8_hand_10 (by decide) (fun c1 => ?_) (fun c1 => ?_)
  · skip
    refine v_ldc X (List.mem_of_getElem? (i := 3) rfl) dX8_hand_25 (n := -1000001) (by decide) ?_
    exact v_iret X Y dX8_hand_27 (u := ()) (by rw [if_neg (by omega)]) (by rfl)
  · skip
    refine v_iload_n X dX8_hand_13 rfl ?_
    refine v_i2l X dX8_hand_14 (by first | omega | (split <;> omega)) ?_
    refine v_lconst0 X dX8_hand_15 ?_
    refine v_ldc2 X (List.mem_of_getElem? (i := 2) rfl) dX8_hand_16 (n := 2) (by decide) ?_
    refine res_E X (run_S X (c_X8_in (g := g) (by first | assumption | omega) (by first | assumption | omega) (by first | assumption | omega)) gX8_hand_X8_in rfl hdX8_in.2 ⟨(Nat.le_of_ble_eq_true rfl), (Nat.le_of_ble_eq_true rfl)⟩ ⟨(Nat.le_of_ble_eq_true rfl), (Nat.le_of_ble_eq_true rfl)⟩ [] rfl rfl rfl rfl (by simp [Value.category]) dX8_hand_19) [] rfl rfl ?_
    refine v_ifb_ne (tgt := 28) X dX8_hand_22 (by decide) (fun c2 => ?_) (fun c2 => ?_)
    · skip
      refine v_iload_n X dX8_hand_28 rfl ?_
      refine v_if_ne (tgt := 41) X dX8_hand_29 (by decide) (by first | omega | (split <;> omega)) (fun c3 => ?_) (fun c3 => ?_)
      · skip
        refine v_iload_n X dX8_hand_41 rfl ?_
        refine v_iconst X dX8_hand_42 ?_
        refine v_icmp_ne (tgt := 54) X dX8_hand_43 (by decide) (by first | omega | (split <;> omega)) (by first | omega | (split <;> omega)) (fun c4 => ?_) (fun c4 => ?_)
        · skip
          refine v_aload_n X dX8_hand_54 rfl ?_
          refine v_iload_n X dX8_hand_55 rfl ?_
          refine v_iconst X dX8_hand_56 ?_
          refine res_E X (run_V X (c_X8_of (g := g) (by first | assumption | omega) (by omega) (by first | assumption | omega)) gX8_hand_X8_of rfl hdX8_of ⟨(Nat.le_of_ble_eq_true rfl), (Nat.le_of_ble_eq_true rfl)⟩ ⟨(Nat.le_of_ble_eq_true rfl), (Nat.le_of_ble_eq_true rfl)⟩ 0 rfl rfl rfl [0, 1, 2, 3, 4, 5, 6, 7, 8, 9, 10] rfl rfl rfl rfl (by simp [Value.category]) dX8_hand_57) [0, 1, 2, 3, 4, 5, 6, 7, 8, 9, 10] rfl rfl ?_
          rw [sM_at (fc := fc) (h := h) (by omega)]
          exact v_iret X Y dX8_hand_60 (u := ()) (by rw [if_pos (by omega)]; first | rw [if_pos (by assumption)] | (rw [if_neg (by assumption)]; first | rw [if_pos (by assumption)] | rw [if_neg (by omega)])) (by rfl)
        · skip
          refine v_aload_n X dX8_hand_46 rfl ?_
          refine v_iload_n X dX8_hand_47 rfl ?_
          refine res_E X (run_V X (c_X8_speed (g := g) (by first | assumption | omega) (by first | assumption | omega) (by omega)) gX8_hand_X8_speed rfl hdX8_speed ⟨(Nat.le_of_ble_eq_true rfl), (Nat.le_of_ble_eq_true rfl)⟩ ⟨(Nat.le_of_ble_eq_true rfl), (Nat.le_of_ble_eq_true rfl)⟩ 0 rfl rfl rfl [0, 1, 2, 3, 4, 5, 6, 7, 8, 9, 10] rfl rfl rfl rfl (by simp [Value.category]) dX8_hand_48) [0, 1, 2, 3, 4, 5, 6, 7, 8, 9, 10] rfl rfl ?_
          refine v_goto (tgt := 60) X dX8_hand_51 (by decide) ?_
          exact v_iret X Y dX8_hand_60 (u := ()) (by rw [if_pos (by omega)]; first | rw [if_pos (by assumption)] | (rw [if_neg (by assumption)]; first | rw [if_pos (by assumption)] | rw [if_neg (by omega)])) (by rfl)
      · skip
        refine v_aload_n X dX8_hand_32 rfl ?_
        refine v_iload_n X dX8_hand_33 rfl ?_
        refine v_iconst X dX8_hand_34 ?_
        refine res_E X (run_V X (c_X8_of (g := g) (by first | assumption | omega) (by omega) (by first | assumption | omega)) gX8_hand_X8_of rfl hdX8_of ⟨(Nat.le_of_ble_eq_true rfl), (Nat.le_of_ble_eq_true rfl)⟩ ⟨(Nat.le_of_ble_eq_true rfl), (Nat.le_of_ble_eq_true rfl)⟩ 0 rfl rfl rfl [0, 1, 2, 3, 4, 5, 6, 7, 8, 9, 10] rfl rfl rfl rfl (by simp [Value.category]) dX8_hand_35) [0, 1, 2, 3, 4, 5, 6, 7, 8, 9, 10] rfl rfl ?_
        rw [tM_at (fc := fc) (h := h) (by omega)]
        refine v_goto (tgt := 60) X dX8_hand_38 (by decide) ?_
        exact v_iret X Y dX8_hand_60 (u := ()) (by rw [if_pos (by omega)]; first | rw [if_pos (by assumption)] | (rw [if_neg (by assumption)]; first | rw [if_pos (by assumption)] | rw [if_neg (by omega)])) (by rfl)
    · skip
      refine v_ldc X (List.mem_of_getElem? (i := 3) rfl) dX8_hand_25 (n := -1000001) (by decide) ?_
      exact v_iret X Y dX8_hand_27 (u := ()) (by rw [if_neg (by omega)]) (by rfl)

theorem hdX8_arc : yX8_arc.cls = RX8 ∧ yX8_arc.cls ≠ "java/lang/invoke/MethodHandle" ∧ yX8_arc.cls ≠ "java/lang/invoke/VarHandle" ∧ (parseMethodDescriptor yX8_arc.desc).map (fun d => d.parameters.length) = some 3 := ⟨rfl, by decide +kernel, by decide +kernel, by decide +kernel⟩
set_option maxHeartbeats 4000000 in
set_option maxRecDepth 100000 in
theorem c_X8_arc {g : Gx} {A : Nat → Nat} {th sq ac td lt ln cu tk sa ti ft fp le lf tr : Int} {fl fm fi fc ff fw ftp fk fe fr : Nat → Int} {h p q : Int} (hfc : Bd 0 60 fc) (hc1 : 0 ≤ fc 1 ∧ fc 1 ≤ 4) (ht3 : Bd 0 12 (tM fc)) (hh : 0 ≤ h ∧ h ≤ 3) (hp : 0 ≤ p ∧ p ≤ 9999) (hq : 1 ≤ q ∧ q ≤ 9999) (h0 : 0 < fc 0) : CtE g yX8_arc wsX8_arc 2 43 [.ref (A 0), .int (iI h), .int (iI p), .int (iI q)] (wMod g A th sq ac td lt ln cu tk sa ti ft fp le lf tr fl fm fi fc ff fw ftp fk fe fr) (arcM fc h p q) (wMod g A th sq ac td lt ln cu tk sa ti ft fp le lf tr fl fm fi fc ff fw ftp fk fe fr) := by
  refine m_go (cc := cX8_arc) (nL := 4) (by decide +kernel) rfl (Nat.le_of_ble_eq_true rfl) (fun x X Y hnm => ?_)
  refine v_eq (lo2 := [some (.ref (A 0)), some (.int (iI h)), some (.int (iI p)), some (.int (iI q))]) rfl rfl rfl rfl ?_
  have q1 := spdM_bd (fc := fc) (h := h) ht3
  have q0 := hfc 0
  have qz := hfc (2 + 3 * h + 2).toNat
  have f1 := sM_at (fc := fc) hh
  have q3 := mul_bd q1 hp
  have q4 := mul_bd q3 q0
  have q5 := mul_nn qz (show 0 ≤ q ∧ q ≤ 9999 by omega)
  have q6 := mul_nn (show 0 ≤ q ∧ q ≤ 9999 by omega) q0
  have q7 := Int.mul_pos (show 0 < q by omega) h0
  refine v_aload_n X dX8_arc_0 rfl ?_
  refine v_iload_n X dX8_arc_1 rfl ?_
  refine res_E X (run_V X (c_X8_speed (g := g) (by first | assumption | omega) (by first | assumption | omega) (by first | assumption | omega)) gX8_arc_X8_speed rfl hdX8_speed ⟨(Nat.le_of_ble_eq_true rfl), (Nat.le_of_ble_eq_true rfl)⟩ ⟨(Nat.le_of_ble_eq_true rfl), (Nat.le_of_ble_eq_true rfl)⟩ 0 rfl rfl rfl [0, 1, 2, 3, 4, 5, 6, 7, 8, 9, 10] rfl rfl rfl rfl (by simp [Value.category]) dX8_arc_2) [0, 1, 2, 3, 4, 5, 6, 7, 8, 9, 10] rfl rfl ?_
  refine v_iload_n X dX8_arc_5 rfl ?_
  refine v_imul X dX8_arc_6 ?_
  refine v_aload_n X dX8_arc_7 rfl ?_
  refine v_get X (fun _ h => List.mem_cons_of_mem _ (List.mem_append_right _ h)) 0 rfl rfl 5 (by decide) rfl (List.mem_of_getElem? (i := 1) rfl) rfl dX8_arc_8 ?_
  refine v_iconst X dX8_arc_11 ?_
  refine v_iald X 4 rfl (by omega) (by omega) (by omega) dX8_arc_12 hfc (fun z1 ez1 lz1 uz1 => ?_)
  rw [show z1 = fc 0 from ez1]
  refine v_imul X dX8_arc_13 ?_
  refine v_aload_n X dX8_arc_14 rfl ?_
  refine v_iload_n X dX8_arc_15 rfl ?_
  refine v_iconst X dX8_arc_16 ?_
  refine res_E X (run_V X (c_X8_of (g := g) (by first | assumption | omega) (by first | assumption | omega) (by first | assumption | omega)) gX8_arc_X8_of rfl hdX8_of ⟨(Nat.le_of_ble_eq_true rfl), (Nat.le_of_ble_eq_true rfl)⟩ ⟨(Nat.le_of_ble_eq_true rfl), (Nat.le_of_ble_eq_true rfl)⟩ 0 rfl rfl rfl [0, 1, 2, 3, 4, 5, 6, 7, 8, 9, 10] rfl rfl rfl rfl (by simp [Value.category]) dX8_arc_17) [0, 1, 2, 3, 4, 5, 6, 7, 8, 9, 10] rfl rfl ?_
  refine v_iload_n X dX8_arc_20 rfl ?_
  refine v_imul X dX8_arc_21 ?_
  refine v_iadd X dX8_arc_22 ?_
  refine v_iload_n X dX8_arc_23 rfl ?_
  refine v_aload_n X dX8_arc_24 rfl ?_
  refine v_get X (fun _ h => List.mem_cons_of_mem _ (List.mem_append_right _ h)) 0 rfl rfl 5 (by decide) rfl (List.mem_of_getElem? (i := 1) rfl) rfl dX8_arc_25 ?_
  refine v_iconst X dX8_arc_28 ?_
  refine v_iald X 4 rfl (by omega) (by omega) (by omega) dX8_arc_29 hfc (fun z2 ez2 lz2 uz2 => ?_)
  rw [show z2 = fc 0 from ez2]
  refine v_imul X dX8_arc_30 ?_
  refine res_E X (run_S X (c_X8_rest (g := g) (by first | assumption | omega) (by first | assumption | omega) (by first | assumption | omega)) gX8_arc_X8_rest rfl hdX8_rest.2 ⟨(Nat.le_of_ble_eq_true rfl), (Nat.le_of_ble_eq_true rfl)⟩ ⟨(Nat.le_of_ble_eq_true rfl), (Nat.le_of_ble_eq_true rfl)⟩ [] rfl rfl rfl rfl (by simp [Value.category]) dX8_arc_31) [] rfl rfl ?_
  exact v_iret X Y dX8_arc_34 (u := ()) (by unfold arcM; rw [← f1]) (by rfl)

theorem hdX8_points : yX8_points.cls = RX8 ∧ yX8_points.cls ≠ "java/lang/invoke/MethodHandle" ∧ yX8_points.cls ≠ "java/lang/invoke/VarHandle" ∧ (parseMethodDescriptor yX8_points.desc).map (fun d => d.parameters.length) = some 4 := ⟨rfl, by decide +kernel, by decide +kernel, by decide +kernel⟩
set_option maxHeartbeats 4000000 in
set_option maxRecDepth 100000 in
theorem c_X8_points {g : Gx} {A : Nat → Nat} {th sq ac td lt ln cu tk sa ti ft fp le lf tr : Int} {fl fm fi fc ff fw ftp fk fe fr : Nat → Int} {h p q w : Int} (hfc : Bd 0 60 fc) (hc1 : 0 ≤ fc 1 ∧ fc 1 ≤ 4) (ht3 : Bd 0 12 (tM fc)) (h0 : 0 < fc 1 → 0 < fc 0) (hh : R32 h) (hp : R32 p) (hq : R32 q) (hw : R32 w) : CtE g yX8_points wsX8_points 3 66 [.ref (A 0), .int (iI h), .int (iI p), .int (iI q), .int (iI w)] (wMod g A th sq ac td lt ln cu tk sa ti ft fp le lf tr fl fm fi fc ff fw ftp fk fe fr) (if (0 ≤ h ∧ h < fc 1) ∧ (1 ≤ q ∧ q ≤ 9999 ∧ 0 ≤ p ∧ p < q) ∧ 0 ≤ w ∧ w ≤ 1 then toldI (arcM fc h p q) (q * fc 0) w else -1000001) (wMod g A (0) sq ac td lt ln cu tk sa ti ft fp le lf tr fl fm fi fc ff fw ftp fk fe fr) := by
  refine m_go (cc := cX8_points) (nL := 5) (by decide +kernel) rfl (Nat.le_of_ble_eq_true rfl) (fun x X Y hnm => ?_)
  refine v_eq (lo2 := [some (.ref (A 0)), some (.int (iI h)), some (.int (iI p)), some (.int (iI q)), some (.int (iI w))]) rfl rfl rfl rfl ?_
  refine v_aload_n X dX8_points_0 rfl ?_
  refine v_iconst X dX8_points_1 ?_
  refine v_put X (fun _ h => List.mem_cons_of_mem _ (List.mem_append_right _ h)) tyX8 tyX8_ok nmX8 0 rfl rfl 0 (by decide) rfl (List.mem_of_getElem? (i := 1) rfl) rfl rfl rfl (Nat.le_of_ble_eq_true rfl) dX8_points_2 ?_
  dsimp only [List.set, wMod]
  refine v_aload_n X dX8_points_5 rfl ?_
  refine v_iload_n X dX8_points_6 rfl ?_
  refine res_E X (run_V X (c_X8_isHand (g := g) (by first | assumption | omega) (by first | assumption | omega)) gX8_points_X8_isHand rfl hdX8_isHand ⟨(Nat.le_of_ble_eq_true rfl), (Nat.le_of_ble_eq_true rfl)⟩ ⟨(Nat.le_of_ble_eq_true rfl), (Nat.le_of_ble_eq_true rfl)⟩ 0 rfl rfl rfl [0, 1, 2, 3, 4, 5, 6, 7, 8, 9, 10] rfl rfl rfl rfl (by simp [Value.category]) dX8_points_7) [0, 1, 2, 3, 4, 5, 6, 7, 8, 9, 10] rfl rfl ?_
  refine v_ifb_eq (tgt := 32) X dX8_points_10 (by decide) (fun c1 => ?_) (fun c1 => ?_)
  · skip
    refine v_ldc X (List.mem_of_getElem? (i := 2) rfl) dX8_points_32 (n := -1000001) (by decide) ?_
    exact v_iret X Y dX8_points_34 (u := ()) (by rw [if_neg (by omega)]) (by rfl)
  · skip
    refine v_iload_n X dX8_points_13 rfl ?_
    refine v_iload_n X dX8_points_14 rfl ?_
    refine res_E X (run_S X (c_X8_isMoment (g := g) (by first | assumption | omega) (by first | assumption | omega)) gX8_points_X8_isMoment rfl hdX8_isMoment.2 ⟨(Nat.le_of_ble_eq_true rfl), (Nat.le_of_ble_eq_true rfl)⟩ ⟨(Nat.le_of_ble_eq_true rfl), (Nat.le_of_ble_eq_true rfl)⟩ [] rfl rfl rfl rfl (by simp [Value.category]) dX8_points_15) [] rfl rfl ?_
    refine v_ifb_eq (tgt := 32) X dX8_points_18 (by decide) (fun c2 => ?_) (fun c2 => ?_)
    · skip
      refine v_ldc X (List.mem_of_getElem? (i := 2) rfl) dX8_points_32 (n := -1000001) (by decide) ?_
      exact v_iret X Y dX8_points_34 (u := ()) (by rw [if_neg (by omega)]) (by rfl)
    · skip
      refine v_iload X dX8_points_21 rfl ?_
      refine v_i2l X dX8_points_23 (by first | omega | (split <;> omega)) ?_
      refine v_lconst0 X dX8_points_24 ?_
      refine v_lconst1 X dX8_points_25 ?_
      refine res_E X (run_S X (c_X8_in (g := g) (by first | assumption | omega) (by first | assumption | omega) (by first | assumption | omega)) gX8_points_X8_in rfl hdX8_in.2 ⟨(Nat.le_of_ble_eq_true rfl), (Nat.le_of_ble_eq_true rfl)⟩ ⟨(Nat.le_of_ble_eq_true rfl), (Nat.le_of_ble_eq_true rfl)⟩ [] rfl rfl rfl rfl (by simp [Value.category]) dX8_points_26) [] rfl rfl ?_
      refine v_ifb_ne (tgt := 35) X dX8_points_29 (by decide) (fun c3 => ?_) (fun c3 => ?_)
      · skip
        refine v_aload_n X dX8_points_35 rfl ?_
        refine v_iload_n X dX8_points_36 rfl ?_
        refine v_iload_n X dX8_points_37 rfl ?_
        refine v_iload_n X dX8_points_38 rfl ?_
        have g1 : (0 ≤ h ∧ h < fc 1) ∧ (1 ≤ q ∧ q ≤ 9999 ∧ 0 ≤ p ∧ p < q) ∧ 0 ≤ w ∧ w ≤ 1 := (by omega)
        have q0 := hfc 0
        have q6 := mul_nn (show 0 ≤ q ∧ q ≤ 9999 by omega) q0
        have q7 := Int.mul_pos (show 0 < q by omega) (show 0 < fc 0 by omega)
        have q8 := arcM_bd (fc := fc) (h := h) (p := p) (q := q) q6.2
        refine res_E X (run_V X (c_X8_arc (g := g) (by first | assumption | omega) (by first | assumption | omega) (by first | assumption | omega) (by first | assumption | omega) (by first | assumption | omega) (by first | assumption | omega) (by first | assumption | omega)) gX8_points_X8_arc rfl hdX8_arc ⟨(Nat.le_of_ble_eq_true rfl), (Nat.le_of_ble_eq_true rfl)⟩ ⟨(Nat.le_of_ble_eq_true rfl), (Nat.le_of_ble_eq_true rfl)⟩ 0 rfl rfl rfl [0, 1, 2, 3, 4, 5, 6, 7, 8, 9, 10] rfl rfl rfl rfl (by simp [Value.category]) dX8_points_39) [0, 1, 2, 3, 4, 5, 6, 7, 8, 9, 10] rfl rfl ?_
        refine v_iload_n X dX8_points_42 rfl ?_
        refine v_aload_n X dX8_points_43 rfl ?_
        refine v_get X (fun _ h => List.mem_cons_of_mem _ (List.mem_append_right _ h)) 0 rfl rfl 5 (by decide) rfl (List.mem_of_getElem? (i := 3) rfl) rfl dX8_points_44 ?_
        refine v_iconst X dX8_points_47 ?_
        refine v_iald X 4 rfl (by first | omega | (split <;> omega)) (by first | omega | (split <;> omega)) (by first | omega | (split <;> omega)) dX8_points_48 hfc (fun z2 ez2 lz2 uz2 => ?_)
        rw [show z2 = fc 0 from ez2]
        refine v_imul X dX8_points_49 ?_
        refine v_iload X dX8_points_50 rfl ?_
        refine res_E X (run_S X (c_X8_told (g := g) (by first | assumption | omega) (by first | assumption | omega) (by first | assumption | omega) (by first | assumption | omega) (by first | assumption | omega)) gX8_points_X8_told rfl hdX8_told.2 ⟨(Nat.le_of_ble_eq_true rfl), (Nat.le_of_ble_eq_true rfl)⟩ ⟨(Nat.le_of_ble_eq_true rfl), (Nat.le_of_ble_eq_true rfl)⟩ [] rfl rfl rfl rfl (by simp [Value.category]) dX8_points_52) [] rfl rfl ?_
        exact v_iret X Y dX8_points_55 (u := ()) (by rw [if_pos g1]) (by rfl)
      · skip
        refine v_ldc X (List.mem_of_getElem? (i := 2) rfl) dX8_points_32 (n := -1000001) (by decide) ?_
        exact v_iret X Y dX8_points_34 (u := ()) (by rw [if_neg (by omega)]) (by rfl)

theorem hdX8_partsOf : yX8_partsOf.cls = RX8 ∧ yX8_partsOf.cls ≠ "java/lang/invoke/MethodHandle" ∧ yX8_partsOf.cls ≠ "java/lang/invoke/VarHandle" ∧ (parseMethodDescriptor yX8_partsOf.desc).map (fun d => d.parameters.length) = some 2 := ⟨rfl, by decide +kernel, by decide +kernel, by decide +kernel⟩
set_option maxHeartbeats 4000000 in
set_option maxRecDepth 100000 in
theorem c_X8_partsOf {g : Gx} {A : Nat → Nat} {th sq ac td lt ln cu tk sa ti ft fp le lf tr : Int} {fl fm fi fc ff fw ftp fk fe fr : Nat → Int} {a b : Int} (hfc : Bd 0 60 fc) (hc1 : 0 ≤ fc 1 ∧ fc 1 ≤ 4) (ht3 : Bd 0 12 (tM fc)) (ha : 0 ≤ a ∧ a ≤ 3) (hb : 0 ≤ b ∧ b ≤ 3) : CtE g yX8_partsOf wsX8_partsOf 2 43 [.ref (A 0), .int (iI a), .int (iI b)] (wMod g A th sq ac td lt ln cu tk sa ti ft fp le lf tr fl fm fi fc ff fw ftp fk fe fr) (whoI (spdM fc a) (spdM fc b)) (wMod g A th sq ac td lt ln cu tk sa ti ft fp le lf tr fl fm fi fc ff fw ftp fk fe fr) := by
  refine m_go (cc := cX8_partsOf) (nL := 3) (by decide +kernel) rfl (Nat.le_of_ble_eq_true rfl) (fun x X Y hnm => ?_)
  refine v_eq (lo2 := [some (.ref (A 0)), some (.int (iI a)), some (.int (iI b))]) rfl rfl rfl rfl ?_
  have m1 := sq_bd (spdM_bd (fc := fc) (h := a) ht3)
  have m2 := sq_bd (spdM_bd (fc := fc) (h := b) ht3)
  refine v_aload_n X dX8_partsOf_0 rfl ?_
  refine v_iload_n X dX8_partsOf_1 rfl ?_
  refine res_E X (run_V X (c_X8_speed (g := g) (by first | assumption | omega) (by first | assumption | omega) (by first | assumption | omega)) gX8_partsOf_X8_speed rfl hdX8_speed ⟨(Nat.le_of_ble_eq_true rfl), (Nat.le_of_ble_eq_true rfl)⟩ ⟨(Nat.le_of_ble_eq_true rfl), (Nat.le_of_ble_eq_true rfl)⟩ 0 rfl rfl rfl [0, 1, 2, 3, 4, 5, 6, 7, 8, 9, 10] rfl rfl rfl rfl (by simp [Value.category]) dX8_partsOf_2) [0, 1, 2, 3, 4, 5, 6, 7, 8, 9, 10] rfl rfl ?_
  refine v_aload_n X dX8_partsOf_5 rfl ?_
  refine v_iload_n X dX8_partsOf_6 rfl ?_
  refine res_E X (run_V X (c_X8_speed (g := g) (by first | assumption | omega) (by first | assumption | omega) (by first | assumption | omega)) gX8_partsOf_X8_speed rfl hdX8_speed ⟨(Nat.le_of_ble_eq_true rfl), (Nat.le_of_ble_eq_true rfl)⟩ ⟨(Nat.le_of_ble_eq_true rfl), (Nat.le_of_ble_eq_true rfl)⟩ 0 rfl rfl rfl [0, 1, 2, 3, 4, 5, 6, 7, 8, 9, 10] rfl rfl rfl rfl (by simp [Value.category]) dX8_partsOf_7) [0, 1, 2, 3, 4, 5, 6, 7, 8, 9, 10] rfl rfl ?_
  refine v_imul X dX8_partsOf_10 ?_
  refine v_aload_n X dX8_partsOf_11 rfl ?_
  refine v_iload_n X dX8_partsOf_12 rfl ?_
  refine res_E X (run_V X (c_X8_speed (g := g) (by first | assumption | omega) (by first | assumption | omega) (by first | assumption | omega)) gX8_partsOf_X8_speed rfl hdX8_speed ⟨(Nat.le_of_ble_eq_true rfl), (Nat.le_of_ble_eq_true rfl)⟩ ⟨(Nat.le_of_ble_eq_true rfl), (Nat.le_of_ble_eq_true rfl)⟩ 0 rfl rfl rfl [0, 1, 2, 3, 4, 5, 6, 7, 8, 9, 10] rfl rfl rfl rfl (by simp [Value.category]) dX8_partsOf_13) [0, 1, 2, 3, 4, 5, 6, 7, 8, 9, 10] rfl rfl ?_
  refine v_aload_n X dX8_partsOf_16 rfl ?_
  refine v_iload_n X dX8_partsOf_17 rfl ?_
  refine res_E X (run_V X (c_X8_speed (g := g) (by first | assumption | omega) (by first | assumption | omega) (by first | assumption | omega)) gX8_partsOf_X8_speed rfl hdX8_speed ⟨(Nat.le_of_ble_eq_true rfl), (Nat.le_of_ble_eq_true rfl)⟩ ⟨(Nat.le_of_ble_eq_true rfl), (Nat.le_of_ble_eq_true rfl)⟩ 0 rfl rfl rfl [0, 1, 2, 3, 4, 5, 6, 7, 8, 9, 10] rfl rfl rfl rfl (by simp [Value.category]) dX8_partsOf_18) [0, 1, 2, 3, 4, 5, 6, 7, 8, 9, 10] rfl rfl ?_
  refine v_imul X dX8_partsOf_21 ?_
  refine v_isub X dX8_partsOf_22 ?_
  refine res_E X (run_S X (c_X8_size (g := g) (by first | assumption | omega)) gX8_partsOf_X8_size rfl hdX8_size.2 ⟨(Nat.le_of_ble_eq_true rfl), (Nat.le_of_ble_eq_true rfl)⟩ ⟨(Nat.le_of_ble_eq_true rfl), (Nat.le_of_ble_eq_true rfl)⟩ [] rfl rfl rfl rfl (by simp [Value.category]) dX8_partsOf_23) [] rfl rfl ?_
  exact v_iret X Y dX8_partsOf_26 (u := ()) (by rfl) (by rfl)

theorem hdX8_otherOf : yX8_otherOf.cls = RX8 ∧ yX8_otherOf.cls ≠ "java/lang/invoke/MethodHandle" ∧ yX8_otherOf.cls ≠ "java/lang/invoke/VarHandle" ∧ (parseMethodDescriptor yX8_otherOf.desc).map (fun d => d.parameters.length) = some 3 := ⟨rfl, by decide +kernel, by decide +kernel, by decide +kernel⟩
set_option maxHeartbeats 4000000 in
set_option maxRecDepth 100000 in
theorem c_X8_otherOf {g : Gx} {A : Nat → Nat} {th sq ac td lt ln cu tk sa ti ft fp le lf tr : Int} {fl fm fi fc ff fw ftp fk fe fr : Nat → Int} {a b k : Int} (hfc : Bd 0 60 fc) (hc1 : 0 ≤ fc 1 ∧ fc 1 ≤ 4) (ht3 : Bd 0 12 (tM fc)) (ha : 0 ≤ a ∧ a ≤ 3) (hb : 0 ≤ b ∧ b ≤ 3) (hk : 0 ≤ k ∧ k ≤ 576) : CtE g yX8_otherOf wsX8_otherOf 3 65 [.ref (A 0), .int (iI a), .int (iI b), .int (iI k)] (wMod g A th sq ac td lt ln cu tk sa ti ft fp le lf tr fl fm fi fc ff fw ftp fk fe fr) (othM (spdM fc a) (spdM fc b) k) (wMod g A th sq ac td lt ln cu tk sa ti ft fp le lf tr fl fm fi fc ff fw ftp fk fe fr) := by
  refine m_go (cc := cX8_otherOf) (nL := 8) (by decide +kernel) rfl (Nat.le_of_ble_eq_true rfl) (fun x X Y hnm => ?_)
  refine v_eq (lo2 := [some (.ref (A 0)), some (.int (iI a)), some (.int (iI b)), some (.int (iI k)), none, none, none, none]) rfl rfl rfl rfl ?_
  have q1 := spdM_bd (fc := fc) (h := a) ht3
  have q2 := spdM_bd (fc := fc) (h := b) ht3
  have q3 := whoI_bd q1 q2
  have q4 := mul_bd q1 hk
  have q5 := mul_bd q2 hk
  refine v_aload_n X dX8_otherOf_0 rfl ?_
  refine v_iload_n X dX8_otherOf_1 rfl ?_
  refine v_iload_n X dX8_otherOf_2 rfl ?_
  refine res_E X (run_V X (c_X8_partsOf (g := g) (by first | assumption | omega) (by first | assumption | omega) (by first | assumption | omega) (by first | assumption | omega) (by first | assumption | omega)) gX8_otherOf_X8_partsOf rfl hdX8_partsOf ⟨(Nat.le_of_ble_eq_true rfl), (Nat.le_of_ble_eq_true rfl)⟩ ⟨(Nat.le_of_ble_eq_true rfl), (Nat.le_of_ble_eq_true rfl)⟩ 0 rfl rfl rfl [0, 1, 2, 3, 4, 5, 6, 7, 8, 9, 10] rfl rfl rfl rfl (by simp [Value.category]) dX8_otherOf_3) [0, 1, 2, 3, 4, 5, 6, 7, 8, 9, 10] rfl rfl ?_
  refine v_istore X dX8_otherOf_6 (by decide) rfl ?_
  dsimp only [List.set]
  refine v_iconst X dX8_otherOf_8 ?_
  refine v_istore X dX8_otherOf_9 (by decide) rfl ?_
  dsimp only [List.set]
  have L11 : ∀ (nf : Nat) (y : Int) (h1 : 0 ≤ y ∧ y ≤ whoI (spdM fc a) (spdM fc b)) (h2 : othM (spdM fc a) (spdM fc b) k = othS (othQ (spdM fc a) (spdM fc b) (whoI (spdM fc a) (spdM fc b)) k) (whoI (spdM fc a) (spdM fc b) - y).toNat y) (_ : (whoI (spdM fc a) (spdM fc b) - y).toNat < nf), V g x 0 0 (wMod g A th sq ac td lt ln cu tk sa ti ft fp le lf tr fl fm fi fc ff fw ftp fk fe fr) [some (.ref (A 0)), some (.int (iI a)), some (.int (iI b)), some (.int (iI k)), some (.int (iI (whoI (spdM fc a) (spdM fc b)))), some (.int (iI y)), none, none] 11 [] := by
    intro nf
    induction nf with
    | zero => intro y h1 h2 hmu; exact absurd hmu (Nat.not_lt_zero _)
    | succ nf ih11 =>
      intro y h1 h2 hmu
      refine v_iload X dX8_otherOf_11 rfl ?_
      refine v_iload X dX8_otherOf_13 rfl ?_
      refine v_icmp_ge (tgt := 101) X dX8_otherOf_15 (by decide) (by omega) (by omega) (fun c1 => ?_) (fun c1 => ?_)
      · skip
        refine v_ldc X (List.mem_of_getElem? (i := 1) rfl) dX8_otherOf_101 (n := -1000000) (by decide) ?_
        exact v_iret X Y dX8_otherOf_103 (u := ()) (by rw [h2, show (whoI (spdM fc a) (spdM fc b) - y).toNat = 0 by omega]; rfl) (by rfl)
      · skip
        have q6 := mul_bd q1 (show 0 ≤ y ∧ y ≤ 576 by omega)
        have q7 := mul_bd q2 (show 0 ≤ y ∧ y ≤ 576 by omega)
        refine v_aload_n X dX8_otherOf_18 rfl ?_
        refine v_iload_n X dX8_otherOf_19 rfl ?_
        refine res_E X (run_V X (c_X8_speed (g := g) (by first | assumption | omega) (by first | assumption | omega) (by first | assumption | omega)) gX8_otherOf_X8_speed rfl hdX8_speed ⟨(Nat.le_of_ble_eq_true rfl), (Nat.le_of_ble_eq_true rfl)⟩ ⟨(Nat.le_of_ble_eq_true rfl), (Nat.le_of_ble_eq_true rfl)⟩ 0 rfl rfl rfl [0, 1, 2, 3, 4, 5, 6, 7, 8, 9, 10] rfl rfl rfl rfl (by simp [Value.category]) dX8_otherOf_20) [0, 1, 2, 3, 4, 5, 6, 7, 8, 9, 10] rfl rfl ?_
        refine v_iload_n X dX8_otherOf_23 rfl ?_
        refine v_imul X dX8_otherOf_24 ?_
        refine v_aload_n X dX8_otherOf_25 rfl ?_
        refine v_iload_n X dX8_otherOf_26 rfl ?_
        refine res_E X (run_V X (c_X8_speed (g := g) (by first | assumption | omega) (by first | assumption | omega) (by first | assumption | omega)) gX8_otherOf_X8_speed rfl hdX8_speed ⟨(Nat.le_of_ble_eq_true rfl), (Nat.le_of_ble_eq_true rfl)⟩ ⟨(Nat.le_of_ble_eq_true rfl), (Nat.le_of_ble_eq_true rfl)⟩ 0 rfl rfl rfl [0, 1, 2, 3, 4, 5, 6, 7, 8, 9, 10] rfl rfl rfl rfl (by simp [Value.category]) dX8_otherOf_27) [0, 1, 2, 3, 4, 5, 6, 7, 8, 9, 10] rfl rfl ?_
        refine v_iload X dX8_otherOf_30 rfl ?_
        refine v_imul X dX8_otherOf_32 ?_
        refine v_isub X dX8_otherOf_33 ?_
        refine v_iload X dX8_otherOf_34 rfl ?_
        refine v_irem X dX8_otherOf_36 (by omega) (by omega) (by omega) ?_
        refine v_if_ne (tgt := 44) X dX8_otherOf_37 (by decide) (by exact tmod_r (by omega)) (fun c2 => ?_) (fun c2 => ?_)
        · skip
          refine v_iconst X dX8_otherOf_44 ?_
          refine v_istore X dX8_otherOf_45 (by decide) rfl ?_
          dsimp only [List.set]
          refine v_aload_n X dX8_otherOf_47 rfl ?_
          refine v_iload_n X dX8_otherOf_48 rfl ?_
          refine res_E X (run_V X (c_X8_speed (g := g) (by first | assumption | omega) (by first | assumption | omega) (by first | assumption | omega)) gX8_otherOf_X8_speed rfl hdX8_speed ⟨(Nat.le_of_ble_eq_true rfl), (Nat.le_of_ble_eq_true rfl)⟩ ⟨(Nat.le_of_ble_eq_true rfl), (Nat.le_of_ble_eq_true rfl)⟩ 0 rfl rfl rfl [0, 1, 2, 3, 4, 5, 6, 7, 8, 9, 10] rfl rfl rfl rfl (by simp [Value.category]) dX8_otherOf_49) [0, 1, 2, 3, 4, 5, 6, 7, 8, 9, 10] rfl rfl ?_
          refine v_iload_n X dX8_otherOf_52 rfl ?_
          refine v_imul X dX8_otherOf_53 ?_
          refine v_aload_n X dX8_otherOf_54 rfl ?_
          refine v_iload_n X dX8_otherOf_55 rfl ?_
          refine res_E X (run_V X (c_X8_speed (g := g) (by first | assumption | omega) (by first | assumption | omega) (by first | assumption | omega)) gX8_otherOf_X8_speed rfl hdX8_speed ⟨(Nat.le_of_ble_eq_true rfl), (Nat.le_of_ble_eq_true rfl)⟩ ⟨(Nat.le_of_ble_eq_true rfl), (Nat.le_of_ble_eq_true rfl)⟩ 0 rfl rfl rfl [0, 1, 2, 3, 4, 5, 6, 7, 8, 9, 10] rfl rfl rfl rfl (by simp [Value.category]) dX8_otherOf_56) [0, 1, 2, 3, 4, 5, 6, 7, 8, 9, 10] rfl rfl ?_
          refine v_iload X dX8_otherOf_59 rfl ?_
          refine v_imul X dX8_otherOf_61 ?_
          refine v_isub X dX8_otherOf_62 ?_
          refine v_iload X dX8_otherOf_63 rfl ?_
          refine v_irem X dX8_otherOf_65 (by omega) (by omega) (by omega) ?_
          refine v_if_ne (tgt := 73) X dX8_otherOf_66 (by decide) (by exact tmod_r (by omega)) (fun c3 => ?_) (fun c3 => ?_)
          · skip
            refine v_iconst X dX8_otherOf_73 ?_
            refine v_istore X dX8_otherOf_74 (by decide) rfl ?_
            dsimp only [List.set]
            refine v_iload X dX8_otherOf_76 rfl ?_
            refine v_iload_n X dX8_otherOf_78 rfl ?_
            refine v_icmp_eq (tgt := 95) X dX8_otherOf_79 (by decide) (by omega) (by omega) (fun c4 => ?_) (fun c4 => ?_)
            · skip
              refine v_iinc X dX8_otherOf_95 rfl (by decide) rfl ?_
              dsimp only [List.set]
              refine v_goto (tgt := 11) X dX8_otherOf_98 (by decide) ?_
              refine v_drop 6 ?_
              dsimp only [List.set]
              refine v_drop 7 ?_
              dsimp only [List.set]
              exact ih11 _ (by omega) (by rw [h2, othS_s (by omega), if_neg (by unfold othQ; rw [decide_eq_true_eq]; omega)]) (by omega)
            · skip
              refine v_iload X dX8_otherOf_82 rfl ?_
              refine v_if_eq (tgt := 95) X dX8_otherOf_84 (by decide) (by omega) (fun c5 => ?_) (fun c5 => ?_)
              · skip
                refine v_iinc X dX8_otherOf_95 rfl (by decide) rfl ?_
                dsimp only [List.set]
                refine v_goto (tgt := 11) X dX8_otherOf_98 (by decide) ?_
                refine v_drop 6 ?_
                dsimp only [List.set]
                refine v_drop 7 ?_
                dsimp only [List.set]
                exact ih11 _ (by omega) (by rw [h2, othS_s (by omega), if_neg (by unfold othQ; rw [decide_eq_true_eq]; omega)]) (by omega)
              · skip
                refine v_iload X dX8_otherOf_87 rfl ?_
                refine v_if_eq (tgt := 95) X dX8_otherOf_89 (by decide) (by omega) (fun c6 => ?_) (fun c6 => ?_)
                · skip
                  refine v_iinc X dX8_otherOf_95 rfl (by decide) rfl ?_
                  dsimp only [List.set]
                  refine v_goto (tgt := 11) X dX8_otherOf_98 (by decide) ?_
                  refine v_drop 6 ?_
                  dsimp only [List.set]
                  refine v_drop 7 ?_
                  dsimp only [List.set]
                  exact ih11 _ (by omega) (by rw [h2, othS_s (by omega), if_neg (by unfold othQ; rw [decide_eq_true_eq]; omega)]) (by omega)
                · skip
                  refine v_iload X dX8_otherOf_92 rfl ?_
                  exact v_iret X Y dX8_otherOf_94 (u := ()) (by rw [h2, othS_s (by omega), if_pos (by unfold othQ; rw [decide_eq_true_eq]; omega)]) (by rfl)
          · skip
            refine v_iconst X dX8_otherOf_69 ?_
            refine v_goto (tgt := 74) X dX8_otherOf_70 (by decide) ?_
            refine v_istore X dX8_otherOf_74 (by decide) rfl ?_
            dsimp only [List.set]
            refine v_iload X dX8_otherOf_76 rfl ?_
            refine v_iload_n X dX8_otherOf_78 rfl ?_
            refine v_icmp_eq (tgt := 95) X dX8_otherOf_79 (by decide) (by omega) (by omega) (fun c7 => ?_) (fun c7 => ?_)
            · skip
              refine v_iinc X dX8_otherOf_95 rfl (by decide) rfl ?_
              dsimp only [List.set]
              refine v_goto (tgt := 11) X dX8_otherOf_98 (by decide) ?_
              refine v_drop 6 ?_
              dsimp only [List.set]
              refine v_drop 7 ?_
              dsimp only [List.set]
              exact ih11 _ (by omega) (by rw [h2, othS_s (by omega), if_neg (by unfold othQ; rw [decide_eq_true_eq]; omega)]) (by omega)
            · skip
              refine v_iload X dX8_otherOf_82 rfl ?_
              refine v_if_eq (tgt := 95) X dX8_otherOf_84 (by decide) (by omega) (fun c8 => ?_) (fun c8 => ?_)
              · skip
                refine v_iinc X dX8_otherOf_95 rfl (by decide) rfl ?_
                dsimp only [List.set]
                refine v_goto (tgt := 11) X dX8_otherOf_98 (by decide) ?_
                refine v_drop 6 ?_
                dsimp only [List.set]
                refine v_drop 7 ?_
                dsimp only [List.set]
                exact ih11 _ (by omega) (by rw [h2, othS_s (by omega), if_neg (by unfold othQ; rw [decide_eq_true_eq]; omega)]) (by omega)
              · skip
                refine v_iload X dX8_otherOf_87 rfl ?_
                refine v_if_eq (tgt := 95) X dX8_otherOf_89 (by decide) (by omega) (fun c9 => ?_) (fun c9 => ?_)
                · skip
                  refine v_iinc X dX8_otherOf_95 rfl (by decide) rfl ?_
                  dsimp only [List.set]
                  refine v_goto (tgt := 11) X dX8_otherOf_98 (by decide) ?_
                  refine v_drop 6 ?_
                  dsimp only [List.set]
                  refine v_drop 7 ?_
                  dsimp only [List.set]
                  exact ih11 _ (by omega) (by rw [h2, othS_s (by omega), if_neg (by unfold othQ; rw [decide_eq_true_eq]; omega)]) (by omega)
                · skip
                  refine v_iload X dX8_otherOf_92 rfl ?_
                  exact v_iret X Y dX8_otherOf_94 (u := ()) (by rw [h2, othS_s (by omega), if_pos (by unfold othQ; rw [decide_eq_true_eq]; omega)]) (by rfl)
        · skip
          refine v_iconst X dX8_otherOf_40 ?_
          refine v_goto (tgt := 45) X dX8_otherOf_41 (by decide) ?_
          refine v_istore X dX8_otherOf_45 (by decide) rfl ?_
          dsimp only [List.set]
          refine v_aload_n X dX8_otherOf_47 rfl ?_
          refine v_iload_n X dX8_otherOf_48 rfl ?_
          refine res_E X (run_V X (c_X8_speed (g := g) (by first | assumption | omega) (by first | assumption | omega) (by first | assumption | omega)) gX8_otherOf_X8_speed rfl hdX8_speed ⟨(Nat.le_of_ble_eq_true rfl), (Nat.le_of_ble_eq_true rfl)⟩ ⟨(Nat.le_of_ble_eq_true rfl), (Nat.le_of_ble_eq_true rfl)⟩ 0 rfl rfl rfl [0, 1, 2, 3, 4, 5, 6, 7, 8, 9, 10] rfl rfl rfl rfl (by simp [Value.category]) dX8_otherOf_49) [0, 1, 2, 3, 4, 5, 6, 7, 8, 9, 10] rfl rfl ?_
          refine v_iload_n X dX8_otherOf_52 rfl ?_
          refine v_imul X dX8_otherOf_53 ?_
          refine v_aload_n X dX8_otherOf_54 rfl ?_
          refine v_iload_n X dX8_otherOf_55 rfl ?_
          refine res_E X (run_V X (c_X8_speed (g := g) (by first | assumption | omega) (by first | assumption | omega) (by first | assumption | omega)) gX8_otherOf_X8_speed rfl hdX8_speed ⟨(Nat.le_of_ble_eq_true rfl), (Nat.le_of_ble_eq_true rfl)⟩ ⟨(Nat.le_of_ble_eq_true rfl), (Nat.le_of_ble_eq_true rfl)⟩ 0 rfl rfl rfl [0, 1, 2, 3, 4, 5, 6, 7, 8, 9, 10] rfl rfl rfl rfl (by simp [Value.category]) dX8_otherOf_56) [0, 1, 2, 3, 4, 5, 6, 7, 8, 9, 10] rfl rfl ?_
          refine v_iload X dX8_otherOf_59 rfl ?_
          refine v_imul X dX8_otherOf_61 ?_
          refine v_isub X dX8_otherOf_62 ?_
          refine v_iload X dX8_otherOf_63 rfl ?_
          refine v_irem X dX8_otherOf_65 (by omega) (by omega) (by omega) ?_
          refine v_if_ne (tgt := 73) X dX8_otherOf_66 (by decide) (by exact tmod_r (by omega)) (fun c10 => ?_) (fun c10 => ?_)
          · skip
            refine v_iconst X dX8_otherOf_73 ?_
            refine v_istore X dX8_otherOf_74 (by decide) rfl ?_
            dsimp only [List.set]
            refine v_iload X dX8_otherOf_76 rfl ?_
            refine v_iload_n X dX8_otherOf_78 rfl ?_
            refine v_icmp_eq (tgt := 95) X dX8_otherOf_79 (by decide) (by omega) (by omega) (fun c11 => ?_) (fun c11 => ?_)
            · skip
              refine v_iinc X dX8_otherOf_95 rfl (by decide) rfl ?_
              dsimp only [List.set]
              refine v_goto (tgt := 11) X dX8_otherOf_98 (by decide) ?_
              refine v_drop 6 ?_
              dsimp only [List.set]
              refine v_drop 7 ?_
              dsimp only [List.set]
              exact ih11 _ (by omega) (by rw [h2, othS_s (by omega), if_neg (by unfold othQ; rw [decide_eq_true_eq]; omega)]) (by omega)
            · skip
              refine v_iload X dX8_otherOf_82 rfl ?_
              refine v_if_eq (tgt := 95) X dX8_otherOf_84 (by decide) (by omega) (fun c12 => ?_) (fun c12 => ?_)
              · skip
                refine v_iinc X dX8_otherOf_95 rfl (by decide) rfl ?_
                dsimp only [List.set]
                refine v_goto (tgt := 11) X dX8_otherOf_98 (by decide) ?_
                refine v_drop 6 ?_
                dsimp only [List.set]
                refine v_drop 7 ?_
                dsimp only [List.set]
                exact ih11 _ (by omega) (by rw [h2, othS_s (by omega), if_neg (by unfold othQ; rw [decide_eq_true_eq]; omega)]) (by omega)
              · skip
                refine v_iload X dX8_otherOf_87 rfl ?_
                refine v_if_eq (tgt := 95) X dX8_otherOf_89 (by decide) (by omega) (fun c13 => ?_) (fun c13 => ?_)
                · skip
                  refine v_iinc X dX8_otherOf_95 rfl (by decide) rfl ?_
                  dsimp only [List.set]
                  refine v_goto (tgt := 11) X dX8_otherOf_98 (by decide) ?_
                  refine v_drop 6 ?_
                  dsimp only [List.set]
                  refine v_drop 7 ?_
                  dsimp only [List.set]
                  exact ih11 _ (by omega) (by rw [h2, othS_s (by omega), if_neg (by unfold othQ; rw [decide_eq_true_eq]; omega)]) (by omega)
                · skip
                  refine v_iload X dX8_otherOf_92 rfl ?_
                  exact v_iret X Y dX8_otherOf_94 (u := ()) (by rw [h2, othS_s (by omega), if_pos (by unfold othQ; rw [decide_eq_true_eq]; omega)]) (by rfl)
          · skip
            refine v_iconst X dX8_otherOf_69 ?_
            refine v_goto (tgt := 74) X dX8_otherOf_70 (by decide) ?_
            refine v_istore X dX8_otherOf_74 (by decide) rfl ?_
            dsimp only [List.set]
            refine v_iload X dX8_otherOf_76 rfl ?_
            refine v_iload_n X dX8_otherOf_78 rfl ?_
            refine v_icmp_eq (tgt := 95) X dX8_otherOf_79 (by decide) (by omega) (by omega) (fun c14 => ?_) (fun c14 => ?_)
            · skip
              refine v_iinc X dX8_otherOf_95 rfl (by decide) rfl ?_
              dsimp only [List.set]
              refine v_goto (tgt := 11) X dX8_otherOf_98 (by decide) ?_
              refine v_drop 6 ?_
              dsimp only [List.set]
              refine v_drop 7 ?_
              dsimp only [List.set]
              exact ih11 _ (by omega) (by rw [h2, othS_s (by omega), if_neg (by unfold othQ; rw [decide_eq_true_eq]; omega)]) (by omega)
            · skip
              refine v_iload X dX8_otherOf_82 rfl ?_
              refine v_if_eq (tgt := 95) X dX8_otherOf_84 (by decide) (by omega) (fun c15 => ?_) (fun c15 => ?_)
              · skip
                refine v_iinc X dX8_otherOf_95 rfl (by decide) rfl ?_
                dsimp only [List.set]
                refine v_goto (tgt := 11) X dX8_otherOf_98 (by decide) ?_
                refine v_drop 6 ?_
                dsimp only [List.set]
                refine v_drop 7 ?_
                dsimp only [List.set]
                exact ih11 _ (by omega) (by rw [h2, othS_s (by omega), if_neg (by unfold othQ; rw [decide_eq_true_eq]; omega)]) (by omega)
              · skip
                refine v_iload X dX8_otherOf_87 rfl ?_
                refine v_if_eq (tgt := 95) X dX8_otherOf_89 (by decide) (by omega) (fun c16 => ?_) (fun c16 => ?_)
                · skip
                  refine v_iinc X dX8_otherOf_95 rfl (by decide) rfl ?_
                  dsimp only [List.set]
                  refine v_goto (tgt := 11) X dX8_otherOf_98 (by decide) ?_
                  refine v_drop 6 ?_
                  dsimp only [List.set]
                  refine v_drop 7 ?_
                  dsimp only [List.set]
                  exact ih11 _ (by omega) (by rw [h2, othS_s (by omega), if_neg (by unfold othQ; rw [decide_eq_true_eq]; omega)]) (by omega)
                · skip
                  refine v_iload X dX8_otherOf_92 rfl ?_
                  exact v_iret X Y dX8_otherOf_94 (u := ()) (by rw [h2, othS_s (by omega), if_pos (by unfold othQ; rw [decide_eq_true_eq]; omega)]) (by rfl)
  exact L11 _ _ (by omega) (by rw [Int.sub_zero]; rfl) (Nat.lt_succ_self _)

theorem hdX8_doubts : yX8_doubts.cls = RX8 ∧ yX8_doubts.cls ≠ "java/lang/invoke/MethodHandle" ∧ yX8_doubts.cls ≠ "java/lang/invoke/VarHandle" ∧ (parseMethodDescriptor yX8_doubts.desc).map (fun d => d.parameters.length) = some 2 := ⟨rfl, by decide +kernel, by decide +kernel, by decide +kernel⟩
set_option maxHeartbeats 4000000 in
set_option maxRecDepth 100000 in
theorem c_X8_doubts {g : Gx} {A : Nat → Nat} {th sq ac td lt ln cu tk sa ti ft fp le lf tr : Int} {fl fm fi fc ff fw ftp fk fe fr : Nat → Int} {a b : Int} (hfc : Bd 0 60 fc) (hc1 : 0 ≤ fc 1 ∧ fc 1 ≤ 4) (ht3 : Bd 0 12 (tM fc)) (ha : R32 a) (hb : R32 b) : CtE g yX8_doubts wsX8_doubts 4 92 [.ref (A 0), .int (iI a), .int (iI b)] (wMod g A th sq ac td lt ln cu tk sa ti ft fp le lf tr fl fm fi fc ff fw ftp fk fe fr) (if (0 ≤ a ∧ a < fc 1) ∧ (0 ≤ b ∧ b < fc 1) ∧ a ≠ b then (if whoI (spdM fc a) (spdM fc b) = 0 then -1000000 else cntN (fun k => decide (othM (spdM fc a) (spdM fc b) k ≠ -1000000)) (whoI (spdM fc a) (spdM fc b)).toNat) else -1000001) (wMod g A (0) sq ac td lt ln cu tk sa ti ft fp le lf tr fl fm fi fc ff fw ftp fk fe fr) := by
  refine m_go (cc := cX8_doubts) (nL := 6) (by decide +kernel) rfl (Nat.le_of_ble_eq_true rfl) (fun x X Y hnm => ?_)
  refine v_eq (lo2 := [some (.ref (A 0)), some (.int (iI a)), some (.int (iI b)), none, none, none]) rfl rfl rfl rfl ?_
  have q1 := spdM_bd (fc := fc) (h := a) ht3
  have q2 := spdM_bd (fc := fc) (h := b) ht3
  have q3 := whoI_bd q1 q2
  have qm := fun (i : Int) => othM_bd (x := i) q3
  refine v_aload_n X dX8_doubts_0 rfl ?_
  refine v_iconst X dX8_doubts_1 ?_
  refine v_put X (fun _ h => List.mem_cons_of_mem _ (List.mem_append_right _ h)) tyX8 tyX8_ok nmX8 0 rfl rfl 0 (by decide) rfl (List.mem_of_getElem? (i := 1) rfl) rfl rfl rfl (Nat.le_of_ble_eq_true rfl) dX8_doubts_2 ?_
  dsimp only [List.set, wMod]
  refine v_aload_n X dX8_doubts_5 rfl ?_
  refine v_iload_n X dX8_doubts_6 rfl ?_
  refine v_iload_n X dX8_doubts_7 rfl ?_
  refine res_E X (run_V X (c_X8_areTwo (g := g) (by first | assumption | omega) (by first | assumption | omega) (by first | assumption | omega)) gX8_doubts_X8_areTwo rfl hdX8_areTwo ⟨(Nat.le_of_ble_eq_true rfl), (Nat.le_of_ble_eq_true rfl)⟩ ⟨(Nat.le_of_ble_eq_true rfl), (Nat.le_of_ble_eq_true rfl)⟩ 0 rfl rfl rfl [0, 1, 2, 3, 4, 5, 6, 7, 8, 9, 10] rfl rfl rfl rfl (by simp [Value.category]) dX8_doubts_8) [0, 1, 2, 3, 4, 5, 6, 7, 8, 9, 10] rfl rfl ?_
  refine v_ifb_ne (tgt := 17) X dX8_doubts_11 (by decide) (fun c1 => ?_) (fun c1 => ?_)
  · skip
    refine v_aload_n X dX8_doubts_17 rfl ?_
    refine v_iload_n X dX8_doubts_18 rfl ?_
    refine v_iload_n X dX8_doubts_19 rfl ?_
    have g1 : (0 ≤ a ∧ a < fc 1) ∧ (0 ≤ b ∧ b < fc 1) ∧ a ≠ b := (by omega)
    refine res_E X (run_V X (c_X8_partsOf (g := g) (by first | assumption | omega) (by first | assumption | omega) (by first | assumption | omega) (by first | assumption | omega) (by first | assumption | omega)) gX8_doubts_X8_partsOf rfl hdX8_partsOf ⟨(Nat.le_of_ble_eq_true rfl), (Nat.le_of_ble_eq_true rfl)⟩ ⟨(Nat.le_of_ble_eq_true rfl), (Nat.le_of_ble_eq_true rfl)⟩ 0 rfl rfl rfl [0, 1, 2, 3, 4, 5, 6, 7, 8, 9, 10] rfl rfl rfl rfl (by simp [Value.category]) dX8_doubts_20) [0, 1, 2, 3, 4, 5, 6, 7, 8, 9, 10] rfl rfl ?_
    refine v_istore_n X dX8_doubts_23 3 rfl (by decide) rfl ?_
    dsimp only [List.set]
    refine v_iconst X dX8_doubts_24 ?_
    refine v_istore X dX8_doubts_25 (by decide) rfl ?_
    dsimp only [List.set]
    refine v_iconst X dX8_doubts_27 ?_
    refine v_istore X dX8_doubts_28 (by decide) rfl ?_
    dsimp only [List.set]
    have L30 : ∀ (nf : Nat) (n : Int) (k : Int) (h1 : 0 ≤ k ∧ k ≤ whoI (spdM fc a) (spdM fc b)) (h2 : n = cntN (fun k => decide (othM (spdM fc a) (spdM fc b) k ≠ -1000000)) k.toNat) (h3 : 0 ≤ n ∧ n ≤ k) (_ : (whoI (spdM fc a) (spdM fc b) - k).toNat < nf), V g x 0 0 (wMod g A (0) sq ac td lt ln cu tk sa ti ft fp le lf tr fl fm fi fc ff fw ftp fk fe fr) [some (.ref (A 0)), some (.int (iI a)), some (.int (iI b)), some (.int (iI (whoI (spdM fc a) (spdM fc b)))), some (.int (iI n)), some (.int (iI k))] 30 [] := by
      intro nf
      induction nf with
      | zero => intro n k h1 h2 h3 hmu; exact absurd hmu (Nat.not_lt_zero _)
      | succ nf ih30 =>
        intro n k h1 h2 h3 hmu
        refine v_iload X dX8_doubts_30 rfl ?_
        refine v_iload_n X dX8_doubts_32 rfl ?_
        refine v_icmp_ge (tgt := 65) X dX8_doubts_33 (by decide) (by first | omega | (split <;> omega)) (by first | omega | (split <;> omega)) (fun c2 => ?_) (fun c2 => ?_)
        · skip
          refine v_iload_n X dX8_doubts_65 rfl ?_
          refine v_if_ne (tgt := 74) X dX8_doubts_66 (by decide) (by first | omega | (split <;> omega)) (fun c3 => ?_) (fun c3 => ?_)
          · skip
            refine v_iload X dX8_doubts_74 rfl ?_
            exact v_iret X Y dX8_doubts_76 (u := ()) (by
                rw [if_pos g1]; have e : k = whoI (spdM fc a) (spdM fc b) := by omega
                first | rw [if_pos (by assumption)] | rw [if_neg (by assumption), h2, e]) (by rfl)
          · skip
            refine v_ldc X (List.mem_of_getElem? (i := 3) rfl) dX8_doubts_69 (n := -1000000) (by decide) ?_
            refine v_goto (tgt := 76) X dX8_doubts_71 (by decide) ?_
            exact v_iret X Y dX8_doubts_76 (u := ()) (by
                rw [if_pos g1]; have e : k = whoI (spdM fc a) (spdM fc b) := by omega
                first | rw [if_pos (by assumption)] | rw [if_neg (by assumption), h2, e]) (by rfl)
        · skip
          refine v_iload X dX8_doubts_36 rfl ?_
          refine v_aload_n X dX8_doubts_38 rfl ?_
          refine v_iload_n X dX8_doubts_39 rfl ?_
          refine v_iload_n X dX8_doubts_40 rfl ?_
          refine v_iload X dX8_doubts_41 rfl ?_
          refine res_E X (run_V X (c_X8_otherOf (g := g) (by first | assumption | omega) (by first | assumption | omega) (by first | assumption | omega) (by first | assumption | omega) (by first | assumption | omega) (by first | assumption | omega)) gX8_doubts_X8_otherOf rfl hdX8_otherOf ⟨(Nat.le_of_ble_eq_true rfl), (Nat.le_of_ble_eq_true rfl)⟩ ⟨(Nat.le_of_ble_eq_true rfl), (Nat.le_of_ble_eq_true rfl)⟩ 0 rfl rfl rfl [0, 1, 2, 3, 4, 5, 6, 7, 8, 9, 10] rfl rfl rfl rfl (by simp [Value.category]) dX8_doubts_43) [0, 1, 2, 3, 4, 5, 6, 7, 8, 9, 10] rfl rfl ?_
          refine v_ldc X (List.mem_of_getElem? (i := 3) rfl) dX8_doubts_46 (n := -1000000) (by decide) ?_
          refine v_icmp_eq (tgt := 55) X dX8_doubts_48 (by decide) (by have := qm k; omega) (by omega) (fun c4 => ?_) (fun c4 => ?_)
          · skip
            refine v_iconst X dX8_doubts_55 ?_
            refine v_iadd X dX8_doubts_56 ?_
            refine v_istore X dX8_doubts_57 (by decide) rfl ?_
            dsimp only [List.set]
            refine v_iinc X dX8_doubts_59 rfl (by decide) rfl ?_
            dsimp only [List.set]
            refine v_goto (tgt := 30) X dX8_doubts_62 (by decide) ?_
            exact ih30 _ _ (by omega) (by rw [cntN_s h1.1]; simp only [decide_eq_true_eq]; rw [show ((k.toNat : Nat) : Int) = k by omega]; split <;> omega) (by omega) (by omega)
          · skip
            refine v_iconst X dX8_doubts_51 ?_
            refine v_goto (tgt := 56) X dX8_doubts_52 (by decide) ?_
            refine v_iadd X dX8_doubts_56 ?_
            refine v_istore X dX8_doubts_57 (by decide) rfl ?_
            dsimp only [List.set]
            refine v_iinc X dX8_doubts_59 rfl (by decide) rfl ?_
            dsimp only [List.set]
            refine v_goto (tgt := 30) X dX8_doubts_62 (by decide) ?_
            exact ih30 _ _ (by omega) (by rw [cntN_s h1.1]; simp only [decide_eq_true_eq]; rw [show ((k.toNat : Nat) : Int) = k by omega]; split <;> omega) (by omega) (by omega)
    exact L30 _ _ _ (by omega) (by rfl) (by omega) (Nat.lt_succ_self _)
  · skip
    refine v_ldc X (List.mem_of_getElem? (i := 2) rfl) dX8_doubts_14 (n := -1000001) (by decide) ?_
    exact v_iret X Y dX8_doubts_16 (u := ()) (by rw [if_neg (by omega)]) (by rfl)

theorem hdX8_doubt : yX8_doubt.cls = RX8 ∧ yX8_doubt.cls ≠ "java/lang/invoke/MethodHandle" ∧ yX8_doubt.cls ≠ "java/lang/invoke/VarHandle" ∧ (parseMethodDescriptor yX8_doubt.desc).map (fun d => d.parameters.length) = some 4 := ⟨rfl, by decide +kernel, by decide +kernel, by decide +kernel⟩
set_option maxHeartbeats 4000000 in
set_option maxRecDepth 100000 in
theorem c_X8_doubt {g : Gx} {A : Nat → Nat} {th sq ac td lt ln cu tk sa ti ft fp le lf tr : Int} {fl fm fi fc ff fw ftp fk fe fr : Nat → Int} {a b i w : Int} (hfc : Bd 0 60 fc) (hc1 : 0 ≤ fc 1 ∧ fc 1 ≤ 4) (ht3 : Bd 0 12 (tM fc)) (ha : R32 a) (hb : R32 b) (hi : R32 i) (hw : R32 w) : CtI (S := Unit) g yX8_doubt wsX8_doubt 4 92 [.ref (A 0), .int (iI a), .int (iI b), .int (iI i), .int (iI w)] (wMod g A th sq ac td lt ln cu tk sa ti ft fp le lf tr fl fm fi fc ff fw ftp fk fe fr) (fun v _ => (¬ (((0 ≤ a ∧ a < fc 1) ∧ (0 ≤ b ∧ b < fc 1) ∧ a ≠ b) ∧ 0 ≤ i ∧ 0 ≤ w ∧ w ≤ 3) ∧ v = -1000001) ∨ ((((0 ≤ a ∧ a < fc 1) ∧ (0 ≤ b ∧ b < fc 1) ∧ a ≠ b) ∧ 0 ≤ i ∧ 0 ≤ w ∧ w ≤ 3) ∧ ((∃ k : Int, 0 ≤ k ∧ k < whoI (spdM fc a) (spdM fc b) ∧ othM (spdM fc a) (spdM fc b) k ≠ -1000000 ∧ cntN (fun k => decide (othM (spdM fc a) (spdM fc b) k ≠ -1000000)) k.toNat = i ∧ v = (if w < 2 then toldI k (whoI (spdM fc a) (spdM fc b)) w else toldI (othM (spdM fc a) (spdM fc b) k) (whoI (spdM fc a) (spdM fc b)) (w - 2))) ∨ (cntN (fun k => decide (othM (spdM fc a) (spdM fc b) k ≠ -1000000)) (whoI (spdM fc a) (spdM fc b)).toNat ≤ i ∧ v = -1000000)))) (fun _ => wMod g A (0) sq ac td lt ln cu tk sa ti ft fp le lf tr fl fm fi fc ff fw ftp fk fe fr) := by
  refine m_go (cc := cX8_doubt) (nL := 9) (by decide +kernel) rfl (Nat.le_of_ble_eq_true rfl) (fun x X Y hnm => ?_)
  refine v_eq (lo2 := [some (.ref (A 0)), some (.int (iI a)), some (.int (iI b)), some (.int (iI i)), some (.int (iI w)), none, none, none, none]) rfl rfl rfl rfl ?_
  have q1 := spdM_bd (fc := fc) (h := a) ht3
  have q2 := spdM_bd (fc := fc) (h := b) ht3
  have q3 := whoI_bd q1 q2
  have qm := fun (i : Int) => othM_bd (x := i) q3
  refine v_aload_n X dX8_doubt_0 rfl ?_
  refine v_iconst X dX8_doubt_1 ?_
  refine v_put X (fun _ h => List.mem_cons_of_mem _ (List.mem_append_right _ h)) tyX8 tyX8_ok nmX8 0 rfl rfl 0 (by decide) rfl (List.mem_of_getElem? (i := 1) rfl) rfl rfl rfl (Nat.le_of_ble_eq_true rfl) dX8_doubt_2 ?_
  dsimp only [List.set, wMod]
  refine v_aload_n X dX8_doubt_5 rfl ?_
  refine v_iload_n X dX8_doubt_6 rfl ?_
  refine v_iload_n X dX8_doubt_7 rfl ?_
  refine res_E X (run_V X (c_X8_areTwo (g := g) (by first | assumption | omega) (by first | assumption | omega) (by first | assumption | omega)) gX8_doubt_X8_areTwo rfl hdX8_areTwo ⟨(Nat.le_of_ble_eq_true rfl), (Nat.le_of_ble_eq_true rfl)⟩ ⟨(Nat.le_of_ble_eq_true rfl), (Nat.le_of_ble_eq_true rfl)⟩ 0 rfl rfl rfl [0, 1, 2, 3, 4, 5, 6, 7, 8, 9, 10] rfl rfl rfl rfl (by simp [Value.category]) dX8_doubt_8) [0, 1, 2, 3, 4, 5, 6, 7, 8, 9, 10] rfl rfl ?_
  refine v_ifb_eq (tgt := 31) X dX8_doubt_11 (by decide) (fun c1 => ?_) (fun c1 => ?_)
  · skip
    refine v_ldc X (List.mem_of_getElem? (i := 3) rfl) dX8_doubt_31 (n := -1000001) (by decide) ?_
    refine v_iret X Y dX8_doubt_33 (u := ()) ?_ (by rfl)
    exact Or.inl ⟨(by omega), rfl⟩
  · skip
    refine v_iload_n X dX8_doubt_14 rfl ?_
    refine v_if_lt (tgt := 31) X dX8_doubt_15 (by decide) (by first | omega | (split <;> omega)) (fun c2 => ?_) (fun c2 => ?_)
    · skip
      refine v_ldc X (List.mem_of_getElem? (i := 3) rfl) dX8_doubt_31 (n := -1000001) (by decide) ?_
      refine v_iret X Y dX8_doubt_33 (u := ()) ?_ (by rfl)
      exact Or.inl ⟨(by omega), rfl⟩
    · skip
      refine v_iload X dX8_doubt_18 rfl ?_
      refine v_i2l X dX8_doubt_20 (by first | omega | (split <;> omega)) ?_
      refine v_lconst0 X dX8_doubt_21 ?_
      refine v_ldc2 X (List.mem_of_getElem? (i := 2) rfl) dX8_doubt_22 (n := 3) (by decide) ?_
      refine res_E X (run_S X (c_X8_in (g := g) (by first | assumption | omega) (by first | assumption | omega) (by first | assumption | omega)) gX8_doubt_X8_in rfl hdX8_in.2 ⟨(Nat.le_of_ble_eq_true rfl), (Nat.le_of_ble_eq_true rfl)⟩ ⟨(Nat.le_of_ble_eq_true rfl), (Nat.le_of_ble_eq_true rfl)⟩ [] rfl rfl rfl rfl (by simp [Value.category]) dX8_doubt_25) [] rfl rfl ?_
      refine v_ifb_ne (tgt := 34) X dX8_doubt_28 (by decide) (fun c3 => ?_) (fun c3 => ?_)
      · skip
        refine v_aload_n X dX8_doubt_34 rfl ?_
        refine v_iload_n X dX8_doubt_35 rfl ?_
        refine v_iload_n X dX8_doubt_36 rfl ?_
        have g1 : ((0 ≤ a ∧ a < fc 1) ∧ (0 ≤ b ∧ b < fc 1) ∧ a ≠ b) ∧ 0 ≤ i ∧ 0 ≤ w ∧ w ≤ 3 := (by omega)
        refine res_E X (run_V X (c_X8_partsOf (g := g) (by first | assumption | omega) (by first | assumption | omega) (by first | assumption | omega) (by first | assumption | omega) (by first | assumption | omega)) gX8_doubt_X8_partsOf rfl hdX8_partsOf ⟨(Nat.le_of_ble_eq_true rfl), (Nat.le_of_ble_eq_true rfl)⟩ ⟨(Nat.le_of_ble_eq_true rfl), (Nat.le_of_ble_eq_true rfl)⟩ 0 rfl rfl rfl [0, 1, 2, 3, 4, 5, 6, 7, 8, 9, 10] rfl rfl rfl rfl (by simp [Value.category]) dX8_doubt_37) [0, 1, 2, 3, 4, 5, 6, 7, 8, 9, 10] rfl rfl ?_
        refine v_istore X dX8_doubt_40 (by decide) rfl ?_
        dsimp only [List.set]
        refine v_iload_n X dX8_doubt_42 rfl ?_
        refine v_istore X dX8_doubt_43 (by decide) rfl ?_
        dsimp only [List.set]
        refine v_iconst X dX8_doubt_45 ?_
        refine v_istore X dX8_doubt_46 (by decide) rfl ?_
        dsimp only [List.set]
        have L48 : ∀ (nf : Nat) (l : Int) (k : Int) (h1 : 0 ≤ k ∧ k ≤ whoI (spdM fc a) (spdM fc b)) (h2 : i - l = cntN (fun k => decide (othM (spdM fc a) (spdM fc b) k ≠ -1000000)) k.toNat) (h3 : 0 ≤ l ∧ l ≤ i) (_ : (whoI (spdM fc a) (spdM fc b) - k).toNat < nf), V g x 0 0 (wMod g A (0) sq ac td lt ln cu tk sa ti ft fp le lf tr fl fm fi fc ff fw ftp fk fe fr) [some (.ref (A 0)), some (.int (iI a)), some (.int (iI b)), some (.int (iI i)), some (.int (iI w)), some (.int (iI (whoI (spdM fc a) (spdM fc b)))), some (.int (iI l)), some (.int (iI k)), none] 48 [] := by
          intro nf
          induction nf with
          | zero => intro l k h1 h2 h3 hmu; exact absurd hmu (Nat.not_lt_zero _)
          | succ nf ih48 =>
            intro l k h1 h2 h3 hmu
            refine v_iload X dX8_doubt_48 rfl ?_
            refine v_iload X dX8_doubt_50 rfl ?_
            refine v_icmp_ge (tgt := 130) X dX8_doubt_52 (by decide) (by first | omega | (split <;> omega)) (by first | omega | (split <;> omega)) (fun c4 => ?_) (fun c4 => ?_)
            · skip
              refine v_ldc X (List.mem_of_getElem? (i := 4) rfl) dX8_doubt_130 (n := -1000000) (by decide) ?_
              refine v_iret X Y dX8_doubt_132 (u := ()) ?_ (by rfl)
              have e : k = whoI (spdM fc a) (spdM fc b) := by omega
              exact Or.inr ⟨g1, Or.inr ⟨by rw [← e]; omega, rfl⟩⟩
            · skip
              refine v_aload_n X dX8_doubt_55 rfl ?_
              refine v_iload_n X dX8_doubt_56 rfl ?_
              refine v_iload_n X dX8_doubt_57 rfl ?_
              refine v_iload X dX8_doubt_58 rfl ?_
              refine res_E X (run_V X (c_X8_otherOf (g := g) (by first | assumption | omega) (by first | assumption | omega) (by first | assumption | omega) (by first | assumption | omega) (by first | assumption | omega) (by first | assumption | omega)) gX8_doubt_X8_otherOf rfl hdX8_otherOf ⟨(Nat.le_of_ble_eq_true rfl), (Nat.le_of_ble_eq_true rfl)⟩ ⟨(Nat.le_of_ble_eq_true rfl), (Nat.le_of_ble_eq_true rfl)⟩ 0 rfl rfl rfl [0, 1, 2, 3, 4, 5, 6, 7, 8, 9, 10] rfl rfl rfl rfl (by simp [Value.category]) dX8_doubt_60) [0, 1, 2, 3, 4, 5, 6, 7, 8, 9, 10] rfl rfl ?_
              have q9 := qm k
              refine v_istore X dX8_doubt_63 (by decide) rfl ?_
              dsimp only [List.set]
              refine v_iload X dX8_doubt_65 rfl ?_
              refine v_ldc X (List.mem_of_getElem? (i := 4) rfl) dX8_doubt_67 (n := -1000000) (by decide) ?_
              refine v_icmp_eq (tgt := 107) X dX8_doubt_69 (by decide) (by have := qm k; omega) (by first | omega | (split <;> omega)) (fun c5 => ?_) (fun c5 => ?_)
              · skip
                refine v_iload X dX8_doubt_107 rfl ?_
                refine v_iload X dX8_doubt_109 rfl ?_
                refine v_ldc X (List.mem_of_getElem? (i := 4) rfl) dX8_doubt_111 (n := -1000000) (by decide) ?_
                refine v_icmp_eq (tgt := 120) X dX8_doubt_113 (by decide) (by have := qm k; omega) (by first | omega | (split <;> omega)) (fun c6 => ?_) (fun c6 => ?_)
                · skip
                  refine v_iconst X dX8_doubt_120 ?_
                  refine v_isub X dX8_doubt_121 ?_
                  refine v_istore X dX8_doubt_122 (by decide) rfl ?_
                  dsimp only [List.set]
                  refine v_iinc X dX8_doubt_124 rfl (by decide) rfl ?_
                  dsimp only [List.set]
                  refine v_goto (tgt := 48) X dX8_doubt_127 (by decide) ?_
                  refine v_drop 8 ?_
                  dsimp only [List.set]
                  exact ih48 _ _ (by omega) (by rw [cntN_s h1.1]; simp only [decide_eq_true_eq]; rw [show ((k.toNat : Nat) : Int) = k by omega]; split <;> omega) (by omega) (by omega)
                · skip
                  refine v_iconst X dX8_doubt_116 ?_
                  refine v_goto (tgt := 121) X dX8_doubt_117 (by decide) ?_
                  refine v_isub X dX8_doubt_121 ?_
                  refine v_istore X dX8_doubt_122 (by decide) rfl ?_
                  dsimp only [List.set]
                  refine v_iinc X dX8_doubt_124 rfl (by decide) rfl ?_
                  dsimp only [List.set]
                  refine v_goto (tgt := 48) X dX8_doubt_127 (by decide) ?_
                  refine v_drop 8 ?_
                  dsimp only [List.set]
                  exact ih48 _ _ (by omega) (by rw [cntN_s h1.1]; simp only [decide_eq_true_eq]; rw [show ((k.toNat : Nat) : Int) = k by omega]; split <;> omega) (by omega) (by omega)
              · skip
                refine v_iload X dX8_doubt_72 rfl ?_
                refine v_if_ne (tgt := 107) X dX8_doubt_74 (by decide) (by first | omega | (split <;> omega)) (fun c7 => ?_) (fun c7 => ?_)
                · skip
                  refine v_iload X dX8_doubt_107 rfl ?_
                  refine v_iload X dX8_doubt_109 rfl ?_
                  refine v_ldc X (List.mem_of_getElem? (i := 4) rfl) dX8_doubt_111 (n := -1000000) (by decide) ?_
                  refine v_icmp_eq (tgt := 120) X dX8_doubt_113 (by decide) (by have := qm k; omega) (by first | omega | (split <;> omega)) (fun c8 => ?_) (fun c8 => ?_)
                  · skip
                    refine v_iconst X dX8_doubt_120 ?_
                    refine v_isub X dX8_doubt_121 ?_
                    refine v_istore X dX8_doubt_122 (by decide) rfl ?_
                    dsimp only [List.set]
                    refine v_iinc X dX8_doubt_124 rfl (by decide) rfl ?_
                    dsimp only [List.set]
                    refine v_goto (tgt := 48) X dX8_doubt_127 (by decide) ?_
                    refine v_drop 8 ?_
                    dsimp only [List.set]
                    exact ih48 _ _ (by omega) (by rw [cntN_s h1.1]; simp only [decide_eq_true_eq]; rw [show ((k.toNat : Nat) : Int) = k by omega]; split <;> omega) (by omega) (by omega)
                  · skip
                    refine v_iconst X dX8_doubt_116 ?_
                    refine v_goto (tgt := 121) X dX8_doubt_117 (by decide) ?_
                    refine v_isub X dX8_doubt_121 ?_
                    refine v_istore X dX8_doubt_122 (by decide) rfl ?_
                    dsimp only [List.set]
                    refine v_iinc X dX8_doubt_124 rfl (by decide) rfl ?_
                    dsimp only [List.set]
                    refine v_goto (tgt := 48) X dX8_doubt_127 (by decide) ?_
                    refine v_drop 8 ?_
                    dsimp only [List.set]
                    exact ih48 _ _ (by omega) (by rw [cntN_s h1.1]; simp only [decide_eq_true_eq]; rw [show ((k.toNat : Nat) : Int) = k by omega]; split <;> omega) (by omega) (by omega)
                · skip
                  refine v_iload X dX8_doubt_77 rfl ?_
                  refine v_iconst X dX8_doubt_79 ?_
                  refine v_icmp_ge (tgt := 95) X dX8_doubt_80 (by decide) (by first | omega | (split <;> omega)) (by first | omega | (split <;> omega)) (fun c9 => ?_) (fun c9 => ?_)
                  · skip
                    refine v_iload X dX8_doubt_95 rfl ?_
                    refine v_iload X dX8_doubt_97 rfl ?_
                    refine v_iload X dX8_doubt_99 rfl ?_
                    refine v_iconst X dX8_doubt_101 ?_
                    refine v_isub X dX8_doubt_102 ?_
                    refine res_E X (run_S X (c_X8_told (g := g) (by first | assumption | omega) (by first | assumption | omega) (by first | assumption | omega) (by first | assumption | omega) (by first | assumption | omega)) gX8_doubt_X8_told rfl hdX8_told.2 ⟨(Nat.le_of_ble_eq_true rfl), (Nat.le_of_ble_eq_true rfl)⟩ ⟨(Nat.le_of_ble_eq_true rfl), (Nat.le_of_ble_eq_true rfl)⟩ [] rfl rfl rfl rfl (by simp [Value.category]) dX8_doubt_103) [] rfl rfl ?_
                    refine v_iret X Y dX8_doubt_106 (u := ()) ?_ (by rfl)
                    exact Or.inr ⟨g1, Or.inl ⟨k, h1.1, by omega, by omega, by omega, by first | rw [if_pos (by assumption)] | rw [if_neg (by omega)]⟩⟩
                  · skip
                    refine v_iload X dX8_doubt_83 rfl ?_
                    refine v_iload X dX8_doubt_85 rfl ?_
                    refine v_iload X dX8_doubt_87 rfl ?_
                    refine res_E X (run_S X (c_X8_told (g := g) (by first | assumption | omega) (by first | assumption | omega) (by first | assumption | omega) (by first | assumption | omega) (by first | assumption | omega)) gX8_doubt_X8_told rfl hdX8_told.2 ⟨(Nat.le_of_ble_eq_true rfl), (Nat.le_of_ble_eq_true rfl)⟩ ⟨(Nat.le_of_ble_eq_true rfl), (Nat.le_of_ble_eq_true rfl)⟩ [] rfl rfl rfl rfl (by simp [Value.category]) dX8_doubt_89) [] rfl rfl ?_
                    refine v_goto (tgt := 106) X dX8_doubt_92 (by decide) ?_
                    refine v_iret X Y dX8_doubt_106 (u := ()) ?_ (by rfl)
                    exact Or.inr ⟨g1, Or.inl ⟨k, h1.1, by omega, by omega, by omega, by first | rw [if_pos (by assumption)] | rw [if_neg (by omega)]⟩⟩
        exact L48 _ _ _ (by omega) (by rw [Int.sub_self]; rfl) (by omega) (Nat.lt_succ_self _)
      · skip
        refine v_ldc X (List.mem_of_getElem? (i := 3) rfl) dX8_doubt_31 (n := -1000001) (by decide) ?_
        refine v_iret X Y dX8_doubt_33 (u := ()) ?_ (by rfl)
        exact Or.inl ⟨(by omega), rfl⟩

theorem hdX8_isDoubt : yX8_isDoubt.cls = RX8 ∧ yX8_isDoubt.cls ≠ "java/lang/invoke/MethodHandle" ∧ yX8_isDoubt.cls ≠ "java/lang/invoke/VarHandle" ∧ (parseMethodDescriptor yX8_isDoubt.desc).map (fun d => d.parameters.length) = some 4 := ⟨rfl, by decide +kernel, by decide +kernel, by decide +kernel⟩
set_option maxHeartbeats 4000000 in
set_option maxRecDepth 100000 in
theorem c_X8_isDoubt {g : Gx} {A : Nat → Nat} {th sq ac td lt ln cu tk sa ti ft fp le lf tr : Int} {fl fm fi fc ff fw ftp fk fe fr : Nat → Int} {a b p q : Int} (hfc : Bd 0 60 fc) (hc1 : 0 ≤ fc 1 ∧ fc 1 ≤ 4) (ht3 : Bd 0 12 (tM fc)) (ha : R32 a) (hb : R32 b) (hp : R32 p) (hq : R32 q) : CtE g yX8_isDoubt wsX8_isDoubt 4 92 [.ref (A 0), .int (iI a), .int (iI b), .int (iI p), .int (iI q)] (wMod g A th sq ac td lt ln cu tk sa ti ft fp le lf tr fl fm fi fc ff fw ftp fk fe fr) (if ((0 ≤ a ∧ a < fc 1) ∧ (0 ≤ b ∧ b < fc 1) ∧ a ≠ b) ∧ (1 ≤ q ∧ q ≤ 9999 ∧ 0 ≤ p ∧ p < q) then (if whoI (spdM fc a) (spdM fc b) = 0 then -1000000 else if (p * whoI (spdM fc a) (spdM fc b)) % q = 0 ∧ othM (spdM fc a) (spdM fc b) (p * whoI (spdM fc a) (spdM fc b) / q) ≠ -1000000 then 1 else 0) else -1000001) (wMod g A (0) sq ac td lt ln cu tk sa ti ft fp le lf tr fl fm fi fc ff fw ftp fk fe fr) := by
  refine m_go (cc := cX8_isDoubt) (nL := 6) (by decide +kernel) rfl (Nat.le_of_ble_eq_true rfl) (fun x X Y hnm => ?_)
  refine v_eq (lo2 := [some (.ref (A 0)), some (.int (iI a)), some (.int (iI b)), some (.int (iI p)), some (.int (iI q)), none]) rfl rfl rfl rfl ?_
  have q1 := spdM_bd (fc := fc) (h := a) ht3
  have q2 := spdM_bd (fc := fc) (h := b) ht3
  have q3 := whoI_bd q1 q2
  have qm := fun (i : Int) => othM_bd (x := i) q3
  refine v_aload_n X dX8_isDoubt_0 rfl ?_
  refine v_iconst X dX8_isDoubt_1 ?_
  refine v_put X (fun _ h => List.mem_cons_of_mem _ (List.mem_append_right _ h)) tyX8 tyX8_ok nmX8 0 rfl rfl 0 (by decide) rfl (List.mem_of_getElem? (i := 1) rfl) rfl rfl rfl (Nat.le_of_ble_eq_true rfl) dX8_isDoubt_2 ?_
  dsimp only [List.set, wMod]
  refine v_aload_n X dX8_isDoubt_5 rfl ?_
  refine v_iload_n X dX8_isDoubt_6 rfl ?_
  refine v_iload_n X dX8_isDoubt_7 rfl ?_
  refine res_E X (run_V X (c_X8_areTwo (g := g) (by first | assumption | omega) (by first | assumption | omega) (by first | assumption | omega)) gX8_isDoubt_X8_areTwo rfl hdX8_areTwo ⟨(Nat.le_of_ble_eq_true rfl), (Nat.le_of_ble_eq_true rfl)⟩ ⟨(Nat.le_of_ble_eq_true rfl), (Nat.le_of_ble_eq_true rfl)⟩ 0 rfl rfl rfl [0, 1, 2, 3, 4, 5, 6, 7, 8, 9, 10] rfl rfl rfl rfl (by simp [Value.category]) dX8_isDoubt_8) [0, 1, 2, 3, 4, 5, 6, 7, 8, 9, 10] rfl rfl ?_
  refine v_ifb_eq (tgt := 23) X dX8_isDoubt_11 (by decide) (fun c1 => ?_) (fun c1 => ?_)
  · skip
    refine v_ldc X (List.mem_of_getElem? (i := 2) rfl) dX8_isDoubt_23 (n := -1000001) (by decide) ?_
    exact v_iret X Y dX8_isDoubt_25 (u := ()) (by rw [if_neg (by omega)]) (by rfl)
  · skip
    refine v_iload_n X dX8_isDoubt_14 rfl ?_
    refine v_iload X dX8_isDoubt_15 rfl ?_
    refine res_E X (run_S X (c_X8_isMoment (g := g) (by first | assumption | omega) (by first | assumption | omega)) gX8_isDoubt_X8_isMoment rfl hdX8_isMoment.2 ⟨(Nat.le_of_ble_eq_true rfl), (Nat.le_of_ble_eq_true rfl)⟩ ⟨(Nat.le_of_ble_eq_true rfl), (Nat.le_of_ble_eq_true rfl)⟩ [] rfl rfl rfl rfl (by simp [Value.category]) dX8_isDoubt_17) [] rfl rfl ?_
    refine v_ifb_ne (tgt := 26) X dX8_isDoubt_20 (by decide) (fun c2 => ?_) (fun c2 => ?_)
    · skip
      refine v_aload_n X dX8_isDoubt_26 rfl ?_
      refine v_iload_n X dX8_isDoubt_27 rfl ?_
      refine v_iload_n X dX8_isDoubt_28 rfl ?_
      have g1 : ((0 ≤ a ∧ a < fc 1) ∧ (0 ≤ b ∧ b < fc 1) ∧ a ≠ b) ∧ (1 ≤ q ∧ q ≤ 9999 ∧ 0 ≤ p ∧ p < q) := (by omega)
      have m1 := mul_nn (show 0 ≤ p ∧ p ≤ 9998 by omega) q3
      have m2 : (p * whoI (spdM fc a) (spdM fc b)).tmod q = (p * whoI (spdM fc a) (spdM fc b)) % q := Int.tmod_eq_emod_of_nonneg m1.1
      have m3 : (p * whoI (spdM fc a) (spdM fc b)).tdiv q = p * whoI (spdM fc a) (spdM fc b) / q := tdiv_of_nn m1.1
      have m4 : 0 ≤ p * whoI (spdM fc a) (spdM fc b) / q := Int.ediv_nonneg m1.1 (by omega)
      have m5 : p * whoI (spdM fc a) (spdM fc b) / q ≤ whoI (spdM fc a) (spdM fc b) := Int.ediv_le_of_le_mul (by omega) (by rw [Int.mul_comm]; exact Int.mul_le_mul_of_nonneg_left (by omega) q3.1)
      have m6 := Int.emod_nonneg (p * whoI (spdM fc a) (spdM fc b)) (show q ≠ 0 by omega)
      have m7 := Int.emod_lt_of_pos (p * whoI (spdM fc a) (spdM fc b)) (show 0 < q by omega)
      have m8 := qm (p * whoI (spdM fc a) (spdM fc b) / q)
      refine res_E X (run_V X (c_X8_partsOf (g := g) (by first | assumption | omega) (by first | assumption | omega) (by first | assumption | omega) (by first | assumption | omega) (by first | assumption | omega)) gX8_isDoubt_X8_partsOf rfl hdX8_partsOf ⟨(Nat.le_of_ble_eq_true rfl), (Nat.le_of_ble_eq_true rfl)⟩ ⟨(Nat.le_of_ble_eq_true rfl), (Nat.le_of_ble_eq_true rfl)⟩ 0 rfl rfl rfl [0, 1, 2, 3, 4, 5, 6, 7, 8, 9, 10] rfl rfl rfl rfl (by simp [Value.category]) dX8_isDoubt_29) [0, 1, 2, 3, 4, 5, 6, 7, 8, 9, 10] rfl rfl ?_
      refine v_istore X dX8_isDoubt_32 (by decide) rfl ?_
      dsimp only [List.set]
      refine v_iload X dX8_isDoubt_34 rfl ?_
      refine v_if_ne (tgt := 42) X dX8_isDoubt_36 (by decide) (by first | omega | (split <;> omega)) (fun c3 => ?_) (fun c3 => ?_)
      · skip
        refine v_iload_n X dX8_isDoubt_42 rfl ?_
        refine v_iload X dX8_isDoubt_43 rfl ?_
        refine v_imul X dX8_isDoubt_45 ?_
        refine v_iload X dX8_isDoubt_46 rfl ?_
        refine v_irem X dX8_isDoubt_48 (by first | omega | (split <;> omega)) (by first | omega | (split <;> omega)) (by first | omega | (split <;> omega)) ?_
        rw [m2]
        refine v_if_ne (tgt := 74) X dX8_isDoubt_49 (by decide) (by first | omega | (split <;> omega)) (fun c4 => ?_) (fun c4 => ?_)
        · skip
          refine v_iconst X dX8_isDoubt_74 ?_
          exact v_iret X Y dX8_isDoubt_75 (u := ()) (by rw [if_pos g1, if_neg (by assumption)]; split <;> omega) (by rfl)
        · skip
          refine v_aload_n X dX8_isDoubt_52 rfl ?_
          refine v_iload_n X dX8_isDoubt_53 rfl ?_
          refine v_iload_n X dX8_isDoubt_54 rfl ?_
          refine v_iload_n X dX8_isDoubt_55 rfl ?_
          refine v_iload X dX8_isDoubt_56 rfl ?_
          refine v_imul X dX8_isDoubt_58 ?_
          refine v_iload X dX8_isDoubt_59 rfl ?_
          refine v_idiv X dX8_isDoubt_61 (by first | omega | (split <;> omega)) (by first | omega | (split <;> omega)) (by first | omega | (split <;> omega)) ?_
          rw [m3]
          refine res_E X (run_V X (c_X8_otherOf (g := g) (by first | assumption | omega) (by first | assumption | omega) (by first | assumption | omega) (by first | assumption | omega) (by first | assumption | omega) (by first | assumption | omega)) gX8_isDoubt_X8_otherOf rfl hdX8_otherOf ⟨(Nat.le_of_ble_eq_true rfl), (Nat.le_of_ble_eq_true rfl)⟩ ⟨(Nat.le_of_ble_eq_true rfl), (Nat.le_of_ble_eq_true rfl)⟩ 0 rfl rfl rfl [0, 1, 2, 3, 4, 5, 6, 7, 8, 9, 10] rfl rfl rfl rfl (by simp [Value.category]) dX8_isDoubt_62) [0, 1, 2, 3, 4, 5, 6, 7, 8, 9, 10] rfl rfl ?_
          refine v_ldc X (List.mem_of_getElem? (i := 3) rfl) dX8_isDoubt_65 (n := -1000000) (by decide) ?_
          refine v_icmp_eq (tgt := 74) X dX8_isDoubt_67 (by decide) (by omega) (by first | omega | (split <;> omega)) (fun c5 => ?_) (fun c5 => ?_)
          · skip
            refine v_iconst X dX8_isDoubt_74 ?_
            exact v_iret X Y dX8_isDoubt_75 (u := ()) (by rw [if_pos g1, if_neg (by assumption)]; split <;> omega) (by rfl)
          · skip
            refine v_iconst X dX8_isDoubt_70 ?_
            refine v_goto (tgt := 75) X dX8_isDoubt_71 (by decide) ?_
            exact v_iret X Y dX8_isDoubt_75 (u := ()) (by rw [if_pos g1, if_neg (by assumption)]; split <;> omega) (by rfl)
      · skip
        refine v_ldc X (List.mem_of_getElem? (i := 3) rfl) dX8_isDoubt_39 (n := -1000000) (by decide) ?_
        exact v_iret X Y dX8_isDoubt_41 (u := ()) (by rw [if_pos g1, if_pos (by assumption)]) (by rfl)
    · skip
      refine v_ldc X (List.mem_of_getElem? (i := 2) rfl) dX8_isDoubt_23 (n := -1000001) (by decide) ?_
      exact v_iret X Y dX8_isDoubt_25 (u := ()) (by rw [if_neg (by omega)]) (by rfl)

theorem hdX8_often : yX8_often.cls = RX8 ∧ yX8_often.cls ≠ "java/lang/invoke/MethodHandle" ∧ yX8_often.cls ≠ "java/lang/invoke/VarHandle" ∧ (parseMethodDescriptor yX8_often.desc).map (fun d => d.parameters.length) = some 3 := ⟨rfl, by decide +kernel, by decide +kernel, by decide +kernel⟩
set_option maxHeartbeats 4000000 in
set_option maxRecDepth 100000 in
theorem c_X8_often {g : Gx} {A : Nat → Nat} {th sq ac td lt ln cu tk sa ti ft fp le lf tr : Int} {fl fm fi fc ff fw ftp fk fe fr : Nat → Int} {a b w : Int} (hfc : Bd 0 60 fc) (hc1 : 0 ≤ fc 1 ∧ fc 1 ≤ 4) (ht3 : Bd 0 12 (tM fc)) (ha : R32 a) (hb : R32 b) (hw : R32 w) : CtE g yX8_often wsX8_often 3 68 [.ref (A 0), .int (iI a), .int (iI b), .int (iI w)] (wMod g A th sq ac td lt ln cu tk sa ti ft fp le lf tr fl fm fi fc ff fw ftp fk fe fr) (if ((0 ≤ a ∧ a < fc 1) ∧ (0 ≤ b ∧ b < fc 1) ∧ a ≠ b) ∧ 0 ≤ w ∧ w ≤ 2 then (if absI (spdM fc a - spdM fc b) = 0 then -1000000 else if w = 2 then 2 * absI (spdM fc a - spdM fc b) else absI (spdM fc a - spdM fc b)) else -1000001) (wMod g A (0) sq ac td lt ln cu tk sa ti ft fp le lf tr fl fm fi fc ff fw ftp fk fe fr) := by
  refine m_go (cc := cX8_often) (nL := 5) (by decide +kernel) rfl (Nat.le_of_ble_eq_true rfl) (fun x X Y hnm => ?_)
  refine v_eq (lo2 := [some (.ref (A 0)), some (.int (iI a)), some (.int (iI b)), some (.int (iI w)), none]) rfl rfl rfl rfl ?_
  have q1 := spdM_bd (fc := fc) (h := a) ht3
  have q2 := spdM_bd (fc := fc) (h := b) ht3
  have q3 := whoI_bd q1 q2
  have qm := fun (i : Int) => othM_bd (x := i) q3
  have q5 := absI_bd (a := spdM fc a - spdM fc b) (M := 48) (by omega)
  refine v_aload_n X dX8_often_0 rfl ?_
  refine v_iconst X dX8_often_1 ?_
  refine v_put X (fun _ h => List.mem_cons_of_mem _ (List.mem_append_right _ h)) tyX8 tyX8_ok nmX8 0 rfl rfl 0 (by decide) rfl (List.mem_of_getElem? (i := 1) rfl) rfl rfl rfl (Nat.le_of_ble_eq_true rfl) dX8_often_2 ?_
  dsimp only [List.set, wMod]
  refine v_aload_n X dX8_often_5 rfl ?_
  refine v_iload_n X dX8_often_6 rfl ?_
  refine v_iload_n X dX8_often_7 rfl ?_
  refine res_E X (run_V X (c_X8_areTwo (g := g) (by first | assumption | omega) (by first | assumption | omega) (by first | assumption | omega)) gX8_often_X8_areTwo rfl hdX8_areTwo ⟨(Nat.le_of_ble_eq_true rfl), (Nat.le_of_ble_eq_true rfl)⟩ ⟨(Nat.le_of_ble_eq_true rfl), (Nat.le_of_ble_eq_true rfl)⟩ 0 rfl rfl rfl [0, 1, 2, 3, 4, 5, 6, 7, 8, 9, 10] rfl rfl rfl rfl (by simp [Value.category]) dX8_often_8) [0, 1, 2, 3, 4, 5, 6, 7, 8, 9, 10] rfl rfl ?_
  refine v_ifb_eq (tgt := 26) X dX8_often_11 (by decide) (fun c1 => ?_) (fun c1 => ?_)
  · skip
    refine v_ldc X (List.mem_of_getElem? (i := 3) rfl) dX8_often_26 (n := -1000001) (by decide) ?_
    exact v_iret X Y dX8_often_28 (u := ()) (by rw [if_neg (by omega)]) (by rfl)
  · skip
    refine v_iload_n X dX8_often_14 rfl ?_
    refine v_i2l X dX8_often_15 (by first | omega | (split <;> omega)) ?_
    refine v_lconst0 X dX8_often_16 ?_
    refine v_ldc2 X (List.mem_of_getElem? (i := 2) rfl) dX8_often_17 (n := 2) (by decide) ?_
    refine res_E X (run_S X (c_X8_in (g := g) (by first | assumption | omega) (by first | assumption | omega) (by first | assumption | omega)) gX8_often_X8_in rfl hdX8_in.2 ⟨(Nat.le_of_ble_eq_true rfl), (Nat.le_of_ble_eq_true rfl)⟩ ⟨(Nat.le_of_ble_eq_true rfl), (Nat.le_of_ble_eq_true rfl)⟩ [] rfl rfl rfl rfl (by simp [Value.category]) dX8_often_20) [] rfl rfl ?_
    refine v_ifb_ne (tgt := 29) X dX8_often_23 (by decide) (fun c2 => ?_) (fun c2 => ?_)
    · skip
      refine v_aload_n X dX8_often_29 rfl ?_
      refine v_iload_n X dX8_often_30 rfl ?_
      have g1 : ((0 ≤ a ∧ a < fc 1) ∧ (0 ≤ b ∧ b < fc 1) ∧ a ≠ b) ∧ 0 ≤ w ∧ w ≤ 2 := (by omega)
      refine res_E X (run_V X (c_X8_speed (g := g) (by first | assumption | omega) (by first | assumption | omega) (by first | assumption | omega)) gX8_often_X8_speed rfl hdX8_speed ⟨(Nat.le_of_ble_eq_true rfl), (Nat.le_of_ble_eq_true rfl)⟩ ⟨(Nat.le_of_ble_eq_true rfl), (Nat.le_of_ble_eq_true rfl)⟩ 0 rfl rfl rfl [0, 1, 2, 3, 4, 5, 6, 7, 8, 9, 10] rfl rfl rfl rfl (by simp [Value.category]) dX8_often_31) [0, 1, 2, 3, 4, 5, 6, 7, 8, 9, 10] rfl rfl ?_
      refine v_aload_n X dX8_often_34 rfl ?_
      refine v_iload_n X dX8_often_35 rfl ?_
      refine res_E X (run_V X (c_X8_speed (g := g) (by first | assumption | omega) (by first | assumption | omega) (by first | assumption | omega)) gX8_often_X8_speed rfl hdX8_speed ⟨(Nat.le_of_ble_eq_true rfl), (Nat.le_of_ble_eq_true rfl)⟩ ⟨(Nat.le_of_ble_eq_true rfl), (Nat.le_of_ble_eq_true rfl)⟩ 0 rfl rfl rfl [0, 1, 2, 3, 4, 5, 6, 7, 8, 9, 10] rfl rfl rfl rfl (by simp [Value.category]) dX8_often_36) [0, 1, 2, 3, 4, 5, 6, 7, 8, 9, 10] rfl rfl ?_
      refine v_isub X dX8_often_39 ?_
      refine res_E X (run_S X (c_X8_size (g := g) (by first | assumption | omega)) gX8_often_X8_size rfl hdX8_size.2 ⟨(Nat.le_of_ble_eq_true rfl), (Nat.le_of_ble_eq_true rfl)⟩ ⟨(Nat.le_of_ble_eq_true rfl), (Nat.le_of_ble_eq_true rfl)⟩ [] rfl rfl rfl rfl (by simp [Value.category]) dX8_often_40) [] rfl rfl ?_
      refine v_istore X dX8_often_43 (by decide) rfl ?_
      dsimp only [List.set]
      refine v_iload X dX8_often_45 rfl ?_
      refine v_if_ne (tgt := 55) X dX8_often_47 (by decide) (by first | omega | (split <;> omega)) (fun c3 => ?_) (fun c3 => ?_)
      · skip
        refine v_iload_n X dX8_often_55 rfl ?_
        refine v_iconst X dX8_often_56 ?_
        refine v_icmp_ne (tgt := 67) X dX8_often_57 (by decide) (by first | omega | (split <;> omega)) (by first | omega | (split <;> omega)) (fun c4 => ?_) (fun c4 => ?_)
        · skip
          refine v_iload X dX8_often_67 rfl ?_
          exact v_iret X Y dX8_often_69 (u := ()) (by rw [if_pos g1]; first | rw [if_pos (by assumption)] | (rw [if_neg (by assumption)]; first | rw [if_pos (by assumption)] | rw [if_neg (by assumption)])) (by rfl)
        · skip
          refine v_iconst X dX8_often_60 ?_
          refine v_iload X dX8_often_61 rfl ?_
          refine v_imul X dX8_often_63 ?_
          refine v_goto (tgt := 69) X dX8_often_64 (by decide) ?_
          exact v_iret X Y dX8_often_69 (u := ()) (by rw [if_pos g1]; first | rw [if_pos (by assumption)] | (rw [if_neg (by assumption)]; first | rw [if_pos (by assumption)] | rw [if_neg (by assumption)])) (by rfl)
      · skip
        refine v_ldc X (List.mem_of_getElem? (i := 4) rfl) dX8_often_50 (n := -1000000) (by decide) ?_
        refine v_goto (tgt := 69) X dX8_often_52 (by decide) ?_
        exact v_iret X Y dX8_often_69 (u := ()) (by rw [if_pos g1]; first | rw [if_pos (by assumption)] | (rw [if_neg (by assumption)]; first | rw [if_pos (by assumption)] | rw [if_neg (by assumption)])) (by rfl)
    · skip
      refine v_ldc X (List.mem_of_getElem? (i := 3) rfl) dX8_often_26 (n := -1000001) (by decide) ?_
      exact v_iret X Y dX8_often_28 (u := ()) (by rw [if_neg (by omega)]) (by rfl)

theorem hdX8_next : yX8_next.cls = RX8 ∧ yX8_next.cls ≠ "java/lang/invoke/MethodHandle" ∧ yX8_next.cls ≠ "java/lang/invoke/VarHandle" ∧ (parseMethodDescriptor yX8_next.desc).map (fun d => d.parameters.length) = some 6 := ⟨rfl, by decide +kernel, by decide +kernel, by decide +kernel⟩
set_option maxHeartbeats 4000000 in
set_option maxRecDepth 100000 in
theorem c_X8_next {g : Gx} {A : Nat → Nat} {th sq ac td lt ln cu tk sa ti ft fp le lf tr : Int} {fl fm fi fc ff fw ftp fk fe fr : Nat → Int} {a b h p q w : Int} (hfc : Bd 0 60 fc) (hc1 : 0 ≤ fc 1 ∧ fc 1 ≤ 4) (ht3 : Bd 0 12 (tM fc)) (ha : R32 a) (hb : R32 b) (hh : R32 h) (hp : R32 p) (hq : R32 q) (hw : R32 w) : CtI (S := Unit) g yX8_next wsX8_next 3 68 [.ref (A 0), .int (iI a), .int (iI b), .int (iI h), .int (iI p), .int (iI q), .int (iI w)] (wMod g A th sq ac td lt ln cu tk sa ti ft fp le lf tr fl fm fi fc ff fw ftp fk fe fr) (fun v _ => (¬ (((0 ≤ a ∧ a < fc 1) ∧ (0 ≤ b ∧ b < fc 1) ∧ a ≠ b) ∧ (0 ≤ h ∧ h ≤ 2) ∧ (1 ≤ q ∧ q ≤ 9999 ∧ 0 ≤ p ∧ p < q) ∧ 0 ≤ w ∧ w ≤ 1) ∧ v = -1000001) ∨ ((((0 ≤ a ∧ a < fc 1) ∧ (0 ≤ b ∧ b < fc 1) ∧ a ≠ b) ∧ (0 ≤ h ∧ h ≤ 2) ∧ (1 ≤ q ∧ q ≤ 9999 ∧ 0 ≤ p ∧ p < q) ∧ 0 ≤ w ∧ w ≤ 1) ∧ ((absI (spdM fc a - spdM fc b) = 0 ∧ v = -1000000) ∨ (absI (spdM fc a - spdM fc b) ≠ 0 ∧ ((nxM (absI (spdM fc a - spdM fc b)) h p q = -1 ∧ v = -1000000) ∨ (0 ≤ nxM (absI (spdM fc a - spdM fc b)) h p q ∧ v = toldI (nxM (absI (spdM fc a - spdM fc b)) h p q) (4 * absI (spdM fc a - spdM fc b)) w)))))) (fun _ => wMod g A (0) sq ac td lt ln cu tk sa ti ft fp le lf tr fl fm fi fc ff fw ftp fk fe fr) := by
  refine m_go (cc := cX8_next) (nL := 11) (by decide +kernel) rfl (Nat.le_of_ble_eq_true rfl) (fun x X Y hnm => ?_)
  refine v_eq (lo2 := [some (.ref (A 0)), some (.int (iI a)), some (.int (iI b)), some (.int (iI h)), some (.int (iI p)), some (.int (iI q)), some (.int (iI w)), none, none, none, none]) rfl rfl rfl rfl ?_
  have q1 := spdM_bd (fc := fc) (h := a) ht3
  have q2 := spdM_bd (fc := fc) (h := b) ht3
  have q3 := whoI_bd q1 q2
  have qm := fun (i : Int) => othM_bd (x := i) q3
  have q5 := absI_bd (a := spdM fc a - spdM fc b) (M := 48) (by omega)
  refine v_aload_n X dX8_next_0 rfl ?_
  refine v_iconst X dX8_next_1 ?_
  refine v_put X (fun _ h => List.mem_cons_of_mem _ (List.mem_append_right _ h)) tyX8 tyX8_ok nmX8 0 rfl rfl 0 (by decide) rfl (List.mem_of_getElem? (i := 1) rfl) rfl rfl rfl (Nat.le_of_ble_eq_true rfl) dX8_next_2 ?_
  dsimp only [List.set, wMod]
  refine v_aload_n X dX8_next_5 rfl ?_
  refine v_iload_n X dX8_next_6 rfl ?_
  refine v_iload_n X dX8_next_7 rfl ?_
  refine res_E X (run_V X (c_X8_areTwo (g := g) (by first | assumption | omega) (by first | assumption | omega) (by first | assumption | omega)) gX8_next_X8_areTwo rfl hdX8_areTwo ⟨(Nat.le_of_ble_eq_true rfl), (Nat.le_of_ble_eq_true rfl)⟩ ⟨(Nat.le_of_ble_eq_true rfl), (Nat.le_of_ble_eq_true rfl)⟩ 0 rfl rfl rfl [0, 1, 2, 3, 4, 5, 6, 7, 8, 9, 10] rfl rfl rfl rfl (by simp [Value.category]) dX8_next_8) [0, 1, 2, 3, 4, 5, 6, 7, 8, 9, 10] rfl rfl ?_
  refine v_ifb_eq (tgt := 47) X dX8_next_11 (by decide) (fun c1 => ?_) (fun c1 => ?_)
  · skip
    refine v_ldc X (List.mem_of_getElem? (i := 3) rfl) dX8_next_47 (n := -1000001) (by decide) ?_
    refine v_iret X Y dX8_next_49 (u := ()) ?_ (by rfl)
    exact Or.inl ⟨(by omega), rfl⟩
  · skip
    refine v_iload_n X dX8_next_14 rfl ?_
    refine v_i2l X dX8_next_15 (by first | omega | (split <;> omega)) ?_
    refine v_lconst0 X dX8_next_16 ?_
    refine v_ldc2 X (List.mem_of_getElem? (i := 2) rfl) dX8_next_17 (n := 2) (by decide) ?_
    refine res_E X (run_S X (c_X8_in (g := g) (by first | assumption | omega) (by first | assumption | omega) (by first | assumption | omega)) gX8_next_X8_in rfl hdX8_in.2 ⟨(Nat.le_of_ble_eq_true rfl), (Nat.le_of_ble_eq_true rfl)⟩ ⟨(Nat.le_of_ble_eq_true rfl), (Nat.le_of_ble_eq_true rfl)⟩ [] rfl rfl rfl rfl (by simp [Value.category]) dX8_next_20) [] rfl rfl ?_
    refine v_ifb_eq (tgt := 47) X dX8_next_23 (by decide) (fun c2 => ?_) (fun c2 => ?_)
    · skip
      refine v_ldc X (List.mem_of_getElem? (i := 3) rfl) dX8_next_47 (n := -1000001) (by decide) ?_
      refine v_iret X Y dX8_next_49 (u := ()) ?_ (by rfl)
      exact Or.inl ⟨(by omega), rfl⟩
    · skip
      refine v_iload X dX8_next_26 rfl ?_
      refine v_iload X dX8_next_28 rfl ?_
      refine res_E X (run_S X (c_X8_isMoment (g := g) (by first | assumption | omega) (by first | assumption | omega)) gX8_next_X8_isMoment rfl hdX8_isMoment.2 ⟨(Nat.le_of_ble_eq_true rfl), (Nat.le_of_ble_eq_true rfl)⟩ ⟨(Nat.le_of_ble_eq_true rfl), (Nat.le_of_ble_eq_true rfl)⟩ [] rfl rfl rfl rfl (by simp [Value.category]) dX8_next_30) [] rfl rfl ?_
      refine v_ifb_eq (tgt := 47) X dX8_next_33 (by decide) (fun c3 => ?_) (fun c3 => ?_)
      · skip
        refine v_ldc X (List.mem_of_getElem? (i := 3) rfl) dX8_next_47 (n := -1000001) (by decide) ?_
        refine v_iret X Y dX8_next_49 (u := ()) ?_ (by rfl)
        exact Or.inl ⟨(by omega), rfl⟩
      · skip
        refine v_iload X dX8_next_36 rfl ?_
        refine v_i2l X dX8_next_38 (by first | omega | (split <;> omega)) ?_
        refine v_lconst0 X dX8_next_39 ?_
        refine v_lconst1 X dX8_next_40 ?_
        refine res_E X (run_S X (c_X8_in (g := g) (by first | assumption | omega) (by first | assumption | omega) (by first | assumption | omega)) gX8_next_X8_in rfl hdX8_in.2 ⟨(Nat.le_of_ble_eq_true rfl), (Nat.le_of_ble_eq_true rfl)⟩ ⟨(Nat.le_of_ble_eq_true rfl), (Nat.le_of_ble_eq_true rfl)⟩ [] rfl rfl rfl rfl (by simp [Value.category]) dX8_next_41) [] rfl rfl ?_
        refine v_ifb_ne (tgt := 50) X dX8_next_44 (by decide) (fun c4 => ?_) (fun c4 => ?_)
        · skip
          refine v_iconst X dX8_next_50 ?_
          refine v_aload_n X dX8_next_51 rfl ?_
          refine v_iload_n X dX8_next_52 rfl ?_
          have g1 : ((0 ≤ a ∧ a < fc 1) ∧ (0 ≤ b ∧ b < fc 1) ∧ a ≠ b) ∧ (0 ≤ h ∧ h ≤ 2) ∧ (1 ≤ q ∧ q ≤ 9999 ∧ 0 ≤ p ∧ p < q) ∧ 0 ≤ w ∧ w ≤ 1 := (by omega)
          refine res_E X (run_V X (c_X8_speed (g := g) (by first | assumption | omega) (by first | assumption | omega) (by first | assumption | omega)) gX8_next_X8_speed rfl hdX8_speed ⟨(Nat.le_of_ble_eq_true rfl), (Nat.le_of_ble_eq_true rfl)⟩ ⟨(Nat.le_of_ble_eq_true rfl), (Nat.le_of_ble_eq_true rfl)⟩ 0 rfl rfl rfl [0, 1, 2, 3, 4, 5, 6, 7, 8, 9, 10] rfl rfl rfl rfl (by simp [Value.category]) dX8_next_53) [0, 1, 2, 3, 4, 5, 6, 7, 8, 9, 10] rfl rfl ?_
          refine v_aload_n X dX8_next_56 rfl ?_
          refine v_iload_n X dX8_next_57 rfl ?_
          refine res_E X (run_V X (c_X8_speed (g := g) (by first | assumption | omega) (by first | assumption | omega) (by first | assumption | omega)) gX8_next_X8_speed rfl hdX8_speed ⟨(Nat.le_of_ble_eq_true rfl), (Nat.le_of_ble_eq_true rfl)⟩ ⟨(Nat.le_of_ble_eq_true rfl), (Nat.le_of_ble_eq_true rfl)⟩ 0 rfl rfl rfl [0, 1, 2, 3, 4, 5, 6, 7, 8, 9, 10] rfl rfl rfl rfl (by simp [Value.category]) dX8_next_58) [0, 1, 2, 3, 4, 5, 6, 7, 8, 9, 10] rfl rfl ?_
          refine v_isub X dX8_next_61 ?_
          refine res_E X (run_S X (c_X8_size (g := g) (by first | assumption | omega)) gX8_next_X8_size rfl hdX8_size.2 ⟨(Nat.le_of_ble_eq_true rfl), (Nat.le_of_ble_eq_true rfl)⟩ ⟨(Nat.le_of_ble_eq_true rfl), (Nat.le_of_ble_eq_true rfl)⟩ [] rfl rfl rfl rfl (by simp [Value.category]) dX8_next_62) [] rfl rfl ?_
          refine v_imul X dX8_next_65 ?_
          refine v_istore X dX8_next_66 (by decide) rfl ?_
          dsimp only [List.set]
          refine v_iload X dX8_next_68 rfl ?_
          refine v_if_ne (tgt := 76) X dX8_next_70 (by decide) (by first | omega | (split <;> omega)) (fun c5 => ?_) (fun c5 => ?_)
          · skip
            refine v_iload X dX8_next_76 rfl ?_
            have m1 := mul_nn (show 0 ≤ p ∧ p ≤ 9998 by omega) (show 0 ≤ 4 * absI (spdM fc a - spdM fc b) ∧ 4 * absI (spdM fc a - spdM fc b) ≤ 192 by omega)
            have m2 : (p * (4 * absI (spdM fc a - spdM fc b)) + q - 1).tdiv q = (p * (4 * absI (spdM fc a - spdM fc b)) + q - 1) / q := tdiv_of_nn (by omega)
            have m3 : 0 ≤ (p * (4 * absI (spdM fc a - spdM fc b)) + q - 1) / q := Int.ediv_nonneg (by omega) (by omega)
            have m4 : (p * (4 * absI (spdM fc a - spdM fc b)) + q - 1) / q ≤ p * (4 * absI (spdM fc a - spdM fc b)) + q - 1 := Int.ediv_le_self _ (by omega)
            refine v_iload X dX8_next_78 rfl ?_
            refine v_imul X dX8_next_80 ?_
            refine v_iload X dX8_next_81 rfl ?_
            refine v_iadd X dX8_next_83 ?_
            refine v_iconst X dX8_next_84 ?_
            refine v_isub X dX8_next_85 ?_
            refine v_iload X dX8_next_86 rfl ?_
            refine v_idiv X dX8_next_88 (by first | omega | (split <;> omega)) (by first | omega | (split <;> omega)) (by first | omega | (split <;> omega)) ?_
            rw [m2]
            refine v_istore X dX8_next_89 (by decide) rfl ?_
            dsimp only [List.set]
            refine v_iconst X dX8_next_91 ?_
            refine v_istore X dX8_next_92 (by decide) rfl ?_
            dsimp only [List.set]
            have L94 : ∀ (nf : Nat) (k : Int) (h1 : 0 ≤ k ∧ k ≤ 4 * absI (spdM fc a - spdM fc b)) (h2 : nxM (absI (spdM fc a - spdM fc b)) h p q = nxS (isS h) (4 * absI (spdM fc a - spdM fc b)) (4 * absI (spdM fc a - spdM fc b) - k).toNat ((p * (4 * absI (spdM fc a - spdM fc b)) + q - 1) / q + k)) (_ : (4 * absI (spdM fc a - spdM fc b) - k).toNat < nf), V g x 0 0 (wMod g A (0) sq ac td lt ln cu tk sa ti ft fp le lf tr fl fm fi fc ff fw ftp fk fe fr) [some (.ref (A 0)), some (.int (iI a)), some (.int (iI b)), some (.int (iI h)), some (.int (iI p)), some (.int (iI q)), some (.int (iI w)), some (.int (iI (4 * absI (spdM fc a - spdM fc b)))), some (.int (iI ((p * (4 * absI (spdM fc a - spdM fc b)) + q - 1) / q))), some (.int (iI k)), none] 94 [] := by
              intro nf
              induction nf with
              | zero => intro k h1 h2 hmu; exact absurd hmu (Nat.not_lt_zero _)
              | succ nf ih94 =>
                intro k h1 h2 hmu
                refine v_iload X dX8_next_94 rfl ?_
                refine v_iload X dX8_next_96 rfl ?_
                refine v_icmp_ge (tgt := 136) X dX8_next_98 (by decide) (by first | omega | (split <;> omega)) (by first | omega | (split <;> omega)) (fun c6 => ?_) (fun c6 => ?_)
                · skip
                  refine v_ldc X (List.mem_of_getElem? (i := 4) rfl) dX8_next_136 (n := -1000000) (by decide) ?_
                  refine v_iret X Y dX8_next_138 (u := ()) ?_ (by rfl)
                  have e : nxM (absI (spdM fc a - spdM fc b)) h p q = -1 := by rw [h2, show (4 * absI (spdM fc a - spdM fc b) - k).toNat = 0 by omega]; rfl
                  exact Or.inr ⟨g1, Or.inr ⟨by omega, Or.inl ⟨e, rfl⟩⟩⟩
                · skip
                  refine v_iload X dX8_next_101 rfl ?_
                  refine v_iload X dX8_next_103 rfl ?_
                  refine v_iadd X dX8_next_105 ?_
                  refine v_iload X dX8_next_106 rfl ?_
                  refine v_irem X dX8_next_108 (by first | omega | (split <;> omega)) (by first | omega | (split <;> omega)) (by first | omega | (split <;> omega)) ?_
                  have m5 := Int.tmod_nonneg (4 * absI (spdM fc a - spdM fc b)) (show 0 ≤ (p * (4 * absI (spdM fc a - spdM fc b)) + q - 1) / q + k by omega)
                  have m6 := Int.tmod_lt_of_pos ((p * (4 * absI (spdM fc a - spdM fc b)) + q - 1) / q + k) (show 0 < 4 * absI (spdM fc a - spdM fc b) by omega)
                  refine v_istore X dX8_next_109 (by decide) rfl ?_
                  dsimp only [List.set]
                  refine v_iload X dX8_next_111 rfl ?_
                  refine v_iload_n X dX8_next_113 rfl ?_
                  refine res_E X (run_S X (c_X8_isSo (g := g) (by first | assumption | omega) (by first | assumption | omega)) gX8_next_X8_isSo rfl hdX8_isSo.2 ⟨(Nat.le_of_ble_eq_true rfl), (Nat.le_of_ble_eq_true rfl)⟩ ⟨(Nat.le_of_ble_eq_true rfl), (Nat.le_of_ble_eq_true rfl)⟩ [] rfl rfl rfl rfl (by simp [Value.category]) dX8_next_114) [] rfl rfl ?_
                  refine v_ifb_eq (tgt := 130) X dX8_next_117 (by decide) (fun c7 => ?_) (fun c7 => ?_)
                  · skip
                    refine v_iinc X dX8_next_130 rfl (by decide) rfl ?_
                    dsimp only [List.set]
                    refine v_goto (tgt := 94) X dX8_next_133 (by decide) ?_
                    refine v_drop 10 ?_
                    dsimp only [List.set]
                    exact ih94 _ (by omega) (by rw [h2, nxS_s (by omega), if_neg (by unfold isS; rw [decide_eq_true_eq]; omega)]) (by omega)
                  · skip
                    refine v_iload X dX8_next_120 rfl ?_
                    refine v_iload X dX8_next_122 rfl ?_
                    refine v_iload X dX8_next_124 rfl ?_
                    refine res_E X (run_S X (c_X8_told (g := g) (by first | assumption | omega) (by first | assumption | omega) (by first | assumption | omega) (by first | assumption | omega) (by first | assumption | omega)) gX8_next_X8_told rfl hdX8_told.2 ⟨(Nat.le_of_ble_eq_true rfl), (Nat.le_of_ble_eq_true rfl)⟩ ⟨(Nat.le_of_ble_eq_true rfl), (Nat.le_of_ble_eq_true rfl)⟩ [] rfl rfl rfl rfl (by simp [Value.category]) dX8_next_126) [] rfl rfl ?_
                    refine v_iret X Y dX8_next_129 (u := ()) ?_ (by rfl)
                    have e : nxM (absI (spdM fc a - spdM fc b)) h p q = ((p * (4 * absI (spdM fc a - spdM fc b)) + q - 1) / q + k).tmod (4 * absI (spdM fc a - spdM fc b)) := by rw [h2, nxS_s (by omega), if_pos (by unfold isS; rw [decide_eq_true_eq]; omega)]
                    exact Or.inr ⟨g1, Or.inr ⟨by omega, Or.inr ⟨by rw [e]; exact m5, by rw [e]⟩⟩⟩
            exact L94 _ _ (by omega) (by unfold nxM; rw [Int.sub_zero, Int.add_zero]) (Nat.lt_succ_self _)
          · skip
            refine v_ldc X (List.mem_of_getElem? (i := 4) rfl) dX8_next_73 (n := -1000000) (by decide) ?_
            refine v_iret X Y dX8_next_75 (u := ()) ?_ (by rfl)
            exact Or.inr ⟨g1, Or.inl ⟨by omega, rfl⟩⟩
        · skip
          refine v_ldc X (List.mem_of_getElem? (i := 3) rfl) dX8_next_47 (n := -1000001) (by decide) ?_
          refine v_iret X Y dX8_next_49 (u := ()) ?_ (by rfl)
          exact Or.inl ⟨(by omega), rfl⟩

theorem hdX8_all : yX8_all.cls = RX8 ∧ yX8_all.cls ≠ "java/lang/invoke/MethodHandle" ∧ yX8_all.cls ≠ "java/lang/invoke/VarHandle" ∧ (parseMethodDescriptor yX8_all.desc).map (fun d => d.parameters.length) = some 0 := ⟨rfl, by decide +kernel, by decide +kernel, by decide +kernel⟩
set_option maxHeartbeats 4000000 in
set_option maxRecDepth 100000 in
theorem c_X8_all {g : Gx} {A : Nat → Nat} {th sq ac td lt ln cu tk sa ti ft fp le lf tr : Int} {fl fm fi fc ff fw ftp fk fe fr : Nat → Int}  (hfc : Bd 0 60 fc) (hc1 : 0 ≤ fc 1 ∧ fc 1 ≤ 4) (ht3 : Bd 0 12 (tM fc)) : CtE g yX8_all wsX8_all 2 43 [.ref (A 0)] (wMod g A th sq ac td lt ln cu tk sa ti ft fp le lf tr fl fm fi fc ff fw ftp fk fe fr) (if 0 < fc 0 then (if allM fc = 0 then -1000000 else allM fc) else -1000002) (wMod g A (0) sq ac td lt ln cu tk sa ti ft fp le lf tr fl fm fi fc ff fw ftp fk fe fr) := by
  refine m_go (cc := cX8_all) (nL := 3) (by decide +kernel) rfl (Nat.le_of_ble_eq_true rfl) (fun x X Y hnm => ?_)
  refine v_eq (lo2 := [some (.ref (A 0)), none, none]) rfl rfl rfl rfl ?_
  have q0 := hfc 0
  have qa := fun (i : Int) => absI_bd (a := spdM fc i - spdM fc 0) (M := 48) (by have := spdM_bd (fc := fc) (h := i) ht3; have := spdM_bd (fc := fc) (h := 0) ht3; omega)
  have qg := gcdN_bd (f := fun j => absI (spdM fc ((j : Int) + 1) - spdM fc 0)) (M := 48) (fun j => qa _)
  refine v_aload_n X dX8_all_0 rfl ?_
  refine v_iconst X dX8_all_1 ?_
  refine v_put X (fun _ h => List.mem_cons_of_mem _ (List.mem_append_right _ h)) tyX8 tyX8_ok nmX8 0 rfl rfl 0 (by decide) rfl (List.mem_of_getElem? (i := 1) rfl) rfl rfl rfl (Nat.le_of_ble_eq_true rfl) dX8_all_2 ?_
  dsimp only [List.set, wMod]
  refine v_aload_n X dX8_all_5 rfl ?_
  refine res_E X (run_V X (c_X8_isThere (g := g) (by first | assumption | omega)) gX8_all_X8_isThere rfl hdX8_isThere ⟨(Nat.le_of_ble_eq_true rfl), (Nat.le_of_ble_eq_true rfl)⟩ ⟨(Nat.le_of_ble_eq_true rfl), (Nat.le_of_ble_eq_true rfl)⟩ 0 rfl rfl rfl [0, 1, 2, 3, 4, 5, 6, 7, 8, 9, 10] rfl rfl rfl rfl (by simp [Value.category]) dX8_all_6) [0, 1, 2, 3, 4, 5, 6, 7, 8, 9, 10] rfl rfl ?_
  refine v_ifb_ne (tgt := 15) X dX8_all_9 (by decide) (fun c1 => ?_) (fun c1 => ?_)
  · skip
    refine v_iconst X dX8_all_15 ?_
    refine v_istore_n X dX8_all_16 1 rfl (by decide) rfl ?_
    dsimp only [List.set]
    refine v_iconst X dX8_all_17 ?_
    refine v_istore_n X dX8_all_18 2 rfl (by decide) rfl ?_
    dsimp only [List.set]
    have L19 : ∀ (nf : Nat) (n : Int) (h : Int) (h1 : 1 ≤ h ∧ (h ≤ fc 1 ∨ h = 1)) (h2 : n = gcdN (fun j => absI (spdM fc ((j : Int) + 1) - spdM fc 0)) (h - 1).toNat) (h3 : 0 ≤ n ∧ n ≤ 48) (_ : (fc 1 + 1 - h).toNat < nf), V g x 0 0 (wMod g A (0) sq ac td lt ln cu tk sa ti ft fp le lf tr fl fm fi fc ff fw ftp fk fe fr) [some (.ref (A 0)), some (.int (iI n)), some (.int (iI h))] 19 [] := by
      intro nf
      induction nf with
      | zero => intro n h h1 h2 h3 hmu; exact absurd hmu (Nat.not_lt_zero _)
      | succ nf ih19 =>
        intro n h h1 h2 h3 hmu
        refine v_iload_n X dX8_all_19 rfl ?_
        refine v_aload_n X dX8_all_20 rfl ?_
        refine v_get X (fun _ h => List.mem_cons_of_mem _ (List.mem_append_right _ h)) 0 rfl rfl 5 (by decide) rfl (List.mem_of_getElem? (i := 3) rfl) rfl dX8_all_21 ?_
        refine v_iconst X dX8_all_24 ?_
        refine v_iald X 4 rfl (by first | omega | (split <;> omega)) (by first | omega | (split <;> omega)) (by first | omega | (split <;> omega)) dX8_all_25 hfc (fun z1 ez1 lz1 uz1 => ?_)
        rw [show z1 = fc 1 from ez1]
        refine v_icmp_ge (tgt := 54) X dX8_all_26 (by decide) (by first | omega | (split <;> omega)) (by first | omega | (split <;> omega)) (fun c3 => ?_) (fun c3 => ?_)
        · skip
          refine v_iload_n X dX8_all_54 rfl ?_
          refine v_if_ne (tgt := 63) X dX8_all_55 (by decide) (by first | omega | (split <;> omega)) (fun c4 => ?_) (fun c4 => ?_)
          · skip
            refine v_iload_n X dX8_all_63 rfl ?_
            exact v_iret X Y dX8_all_64 (u := ()) (by
                have e : allM fc = n := by unfold allM; rw [h2, show (h - 1).toNat = (fc 1 - 1).toNat by omega]
                rw [if_pos (by omega), e]; first | rw [if_pos (by assumption)] | rw [if_neg (by assumption)]) (by rfl)
          · skip
            refine v_ldc X (List.mem_of_getElem? (i := 4) rfl) dX8_all_58 (n := -1000000) (by decide) ?_
            refine v_goto (tgt := 64) X dX8_all_60 (by decide) ?_
            exact v_iret X Y dX8_all_64 (u := ()) (by
                have e : allM fc = n := by unfold allM; rw [h2, show (h - 1).toNat = (fc 1 - 1).toNat by omega]
                rw [if_pos (by omega), e]; first | rw [if_pos (by assumption)] | rw [if_neg (by assumption)]) (by rfl)
        · skip
          refine v_iload_n X dX8_all_29 rfl ?_
          refine v_aload_n X dX8_all_30 rfl ?_
          refine v_iload_n X dX8_all_31 rfl ?_
          have q8 := spdM_bd (fc := fc) (h := h) ht3
          have q9 := spdM_bd (fc := fc) (h := 0) ht3
          have q7 := qa h
          refine res_E X (run_V X (c_X8_speed (g := g) (by first | assumption | omega) (by first | assumption | omega) (by first | assumption | omega)) gX8_all_X8_speed rfl hdX8_speed ⟨(Nat.le_of_ble_eq_true rfl), (Nat.le_of_ble_eq_true rfl)⟩ ⟨(Nat.le_of_ble_eq_true rfl), (Nat.le_of_ble_eq_true rfl)⟩ 0 rfl rfl rfl [0, 1, 2, 3, 4, 5, 6, 7, 8, 9, 10] rfl rfl rfl rfl (by simp [Value.category]) dX8_all_32) [0, 1, 2, 3, 4, 5, 6, 7, 8, 9, 10] rfl rfl ?_
          refine v_aload_n X dX8_all_35 rfl ?_
          refine v_iconst X dX8_all_36 ?_
          refine res_E X (run_V X (c_X8_speed (g := g) (by first | assumption | omega) (by first | assumption | omega) (by first | assumption | omega)) gX8_all_X8_speed rfl hdX8_speed ⟨(Nat.le_of_ble_eq_true rfl), (Nat.le_of_ble_eq_true rfl)⟩ ⟨(Nat.le_of_ble_eq_true rfl), (Nat.le_of_ble_eq_true rfl)⟩ 0 rfl rfl rfl [0, 1, 2, 3, 4, 5, 6, 7, 8, 9, 10] rfl rfl rfl rfl (by simp [Value.category]) dX8_all_37) [0, 1, 2, 3, 4, 5, 6, 7, 8, 9, 10] rfl rfl ?_
          refine v_isub X dX8_all_40 ?_
          refine res_E X (run_S X (c_X8_size (g := g) (by first | assumption | omega)) gX8_all_X8_size rfl hdX8_size.2 ⟨(Nat.le_of_ble_eq_true rfl), (Nat.le_of_ble_eq_true rfl)⟩ ⟨(Nat.le_of_ble_eq_true rfl), (Nat.le_of_ble_eq_true rfl)⟩ [] rfl rfl rfl rfl (by simp [Value.category]) dX8_all_41) [] rfl rfl ?_
          refine res_E X (run_S X (c_X8_divisor (g := g) (by first | assumption | omega) (by first | assumption | omega) (by first | assumption | omega) (by first | assumption | omega)) gX8_all_X8_divisor rfl hdX8_divisor.2 ⟨(Nat.le_of_ble_eq_true rfl), (Nat.le_of_ble_eq_true rfl)⟩ ⟨(Nat.le_of_ble_eq_true rfl), (Nat.le_of_ble_eq_true rfl)⟩ [] rfl rfl rfl rfl (by simp [Value.category]) dX8_all_44) [] rfl rfl ?_
          refine v_istore_n X dX8_all_47 1 rfl (by decide) rfl ?_
          dsimp only [List.set]
          refine v_iinc X dX8_all_48 rfl (by decide) rfl ?_
          dsimp only [List.set]
          refine v_goto (tgt := 19) X dX8_all_51 (by decide) ?_
          exact ih19 _ _ (by omega) (by rw [show (h + 1 - 1).toNat = (h - 1).toNat + 1 by omega]; simp only [gcdN]; rw [← h2, show (((h - 1).toNat : Nat) : Int) + 1 = h by omega]) (by first | omega | (have q7 := qg (h + 1 - 1).toNat; rw [show (h + 1 - 1).toNat = (h - 1).toNat + 1 by omega] at q7; simp only [gcdN] at q7; rw [← h2, show (((h - 1).toNat : Nat) : Int) + 1 = h by omega] at q7; exact q7)) (by omega)
    exact L19 _ _ _ (by omega) (by rfl) (by first | omega | (have q7 := qg (h + 1 - 1).toNat; rw [show (h + 1 - 1).toNat = (h - 1).toNat + 1 by omega] at q7; simp only [gcdN] at q7; rw [← h2, show (((h - 1).toNat : Nat) : Int) + 1 = h by omega] at q7; exact q7)) (Nat.lt_succ_self _)
  · skip
    refine v_ldc X (List.mem_of_getElem? (i := 2) rfl) dX8_all_12 (n := -1000002) (by decide) ?_
    exact v_iret X Y dX8_all_14 (u := ()) (by rw [if_neg (by omega)]) (by rfl)

