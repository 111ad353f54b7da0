theorem hdX8_in : yX8_in.cls = RX8 ∧ yX8_in.cls ≠ "java/lang/invoke/MethodHandle" ∧ yX8_in.cls ≠ "java/lang/invoke/VarHandle" ∧ (parseMethodDescriptor yX8_in.desc).map (fun d => d.parameters.length) = some 3 := ⟨rfl, by decide +kernel, by decide +kernel, by decide +kernel⟩
set_option maxHeartbeats 4000000 in
set_option maxRecDepth 100000 in
theorem c_X8_in {g : Gx} {v l h : Int} (hv : R64 v) (hl : R64 l) (hh : R64 h) : CtE g yX8_in wsX8_in 0 0 [.long (lI v), .long (lI l), .long (lI h)] ([]) (if l ≤ v ∧ v ≤ h then 1 else 0) ([]) := by
  refine m_go (cc := cX8_in) (nL := 6) (by decide +kernel) rfl (Nat.le_of_ble_eq_true rfl) (fun x X Y hnm => ?_)
  refine v_eq (lo2 := [some (.long (lI v)), none, some (.long (lI l)), none, some (.long (lI h)), none]) rfl rfl rfl rfl ?_
  refine v_lload_n X dX8_in_0 rfl ?_
  refine v_lload_n X dX8_in_1 rfl ?_
  refine v_lcmp X dX8_in_2 (by omega) (by omega) (fun c1 => ?_) (fun c1 => ?_) (fun c1 => ?_)
  · skip
    refine v_if_lt (tgt := 17) X dX8_in_3 (by decide) (by decide) (fun hh => ?_) (fun hh => ?_)
    · skip
      exfalso; omega
    · skip
      refine v_lload_n X dX8_in_6 rfl ?_
      refine v_lload X dX8_in_7 rfl ?_
      refine v_lcmp X dX8_in_9 (by omega) (by omega) (fun c2 => ?_) (fun c2 => ?_) (fun c2 => ?_)
      · skip
        refine v_if_gt (tgt := 17) X dX8_in_10 (by decide) (by decide) (fun hh => ?_) (fun hh => ?_)
        · skip
          refine v_iconst X dX8_in_17 ?_
          exact v_zret X Y dX8_in_18 (by first | decide | omega | (split <;> omega)) (u := ()) (by first | rfl | omega | (split <;> omega) | (simp [*]; done)) (by rfl)
        · skip
          exfalso; omega
      · skip
        refine v_if_gt (tgt := 17) X dX8_in_10 (by decide) (by decide) (fun hh => ?_) (fun hh => ?_)
        · skip
          exfalso; omega
        · skip
          refine v_iconst X dX8_in_13 ?_
          refine v_goto (tgt := 18) X dX8_in_14 (by decide) ?_
          exact v_zret X Y dX8_in_18 (by first | decide | omega | (split <;> omega)) (u := ()) (by first | rfl | omega | (split <;> omega) | (simp [*]; done)) (by rfl)
      · skip
        refine v_if_gt (tgt := 17) X dX8_in_10 (by decide) (by decide) (fun hh => ?_) (fun hh => ?_)
        · skip
          exfalso; omega
        · skip
          refine v_iconst X dX8_in_13 ?_
          refine v_goto (tgt := 18) X dX8_in_14 (by decide) ?_
          exact v_zret X Y dX8_in_18 (by first | decide | omega | (split <;> omega)) (u := ()) (by first | rfl | omega | (split <;> omega) | (simp [*]; done)) (by rfl)
  · skip
    refine v_if_lt (tgt := 17) X dX8_in_3 (by decide) (by decide) (fun hh => ?_) (fun hh => ?_)
    · skip
      exfalso; omega
    · skip
      refine v_lload_n X dX8_in_6 rfl ?_
      refine v_lload X dX8_in_7 rfl ?_
      refine v_lcmp X dX8_in_9 (by omega) (by omega) (fun c3 => ?_) (fun c3 => ?_) (fun c3 => ?_)
      · skip
        refine v_if_gt (tgt := 17) X dX8_in_10 (by decide) (by decide) (fun hh => ?_) (fun hh => ?_)
        · skip
          refine v_iconst X dX8_in_17 ?_
          exact v_zret X Y dX8_in_18 (by first | decide | omega | (split <;> omega)) (u := ()) (by first | rfl | omega | (split <;> omega) | (simp [*]; done)) (by rfl)
        · skip
          exfalso; omega
      · skip
        refine v_if_gt (tgt := 17) X dX8_in_10 (by decide) (by decide) (fun hh => ?_) (fun hh => ?_)
        · skip
          exfalso; omega
        · skip
          refine v_iconst X dX8_in_13 ?_
          refine v_goto (tgt := 18) X dX8_in_14 (by decide) ?_
          exact v_zret X Y dX8_in_18 (by first | decide | omega | (split <;> omega)) (u := ()) (by first | rfl | omega | (split <;> omega) | (simp [*]; done)) (by rfl)
      · skip
        refine v_if_gt (tgt := 17) X dX8_in_10 (by decide) (by decide) (fun hh => ?_) (fun hh => ?_)
        · skip
          exfalso; omega
        · skip
          refine v_iconst X dX8_in_13 ?_
          refine v_goto (tgt := 18) X dX8_in_14 (by decide) ?_
          exact v_zret X Y dX8_in_18 (by first | decide | omega | (split <;> omega)) (u := ()) (by first | rfl | omega | (split <;> omega) | (simp [*]; done)) (by rfl)
  · skip
    refine v_if_lt (tgt := 17) X dX8_in_3 (by decide) (by decide) (fun hh => ?_) (fun hh => ?_)
    · skip
      refine v_iconst X dX8_in_17 ?_
      exact v_zret X Y dX8_in_18 (by first | decide | omega | (split <;> omega)) (u := ()) (by first | rfl | omega | (split <;> omega) | (simp [*]; done)) (by rfl)
    · skip
      exfalso; omega

theorem hdX8_isRow : yX8_isRow.cls = RX8 ∧ yX8_isRow.cls ≠ "java/lang/invoke/MethodHandle" ∧ yX8_isRow.cls ≠ "java/lang/invoke/VarHandle" ∧ (parseMethodDescriptor yX8_isRow.desc).map (fun d => d.parameters.length) = some 1 := ⟨rfl, by decide +kernel, by decide +kernel, by decide +kernel⟩
set_option maxHeartbeats 4000000 in
set_option maxRecDepth 100000 in
theorem c_X8_isRow {g : Gx} {a : Int} (ha : R32 a) : CtE g yX8_isRow wsX8_isRow 1 25 [.int (iI a)] ([]) (if 0 ≤ a ∧ a < 8 then 1 else 0) ([]) := by
  refine m_go (cc := cX8_isRow) (nL := 1) (by decide +kernel) rfl (Nat.le_of_ble_eq_true rfl) (fun x X Y hnm => ?_)
  refine v_eq (lo2 := [some (.int (iI a))]) rfl rfl rfl rfl ?_
  refine v_iload_n X dX8_isRow_0 rfl ?_
  refine v_i2l X dX8_isRow_1 (by first | omega | (split <;> omega)) ?_
  refine v_lconst0 X dX8_isRow_2 ?_
  refine v_ldc2 X (List.mem_of_getElem? (i := 1) rfl) dX8_isRow_3 (n := 7) (by decide) ?_
  refine res_E X (run_S X (c_X8_in (g := g) (by first | assumption | omega) (by first | assumption | omega) (by first | assumption | omega)) gX8_isRow_X8_in rfl hdX8_in.2 ⟨(Nat.le_of_ble_eq_true rfl), (Nat.le_of_ble_eq_true rfl)⟩ ⟨(Nat.le_of_ble_eq_true rfl), (Nat.le_of_ble_eq_true rfl)⟩ [] rfl rfl rfl rfl (by simp [Value.category]) dX8_isRow_6) [] rfl rfl ?_
  exact v_zret X Y dX8_isRow_9 (by first | decide | omega | (split <;> omega)) (u := ()) (by split <;> split <;> omega) (by rfl)

theorem hdX8_isLetter : yX8_isLetter.cls = RX8 ∧ yX8_isLetter.cls ≠ "java/lang/invoke/MethodHandle" ∧ yX8_isLetter.cls ≠ "java/lang/invoke/VarHandle" ∧ (parseMethodDescriptor yX8_isLetter.desc).map (fun d => d.parameters.length) = some 1 := ⟨rfl, by decide +kernel, by decide +kernel, by decide +kernel⟩
set_option maxHeartbeats 4000000 in
set_option maxRecDepth 100000 in
theorem c_X8_isLetter {g : Gx} {a : Int} (ha : R32 a) : CtE g yX8_isLetter wsX8_isLetter 0 0 [.int (iI a)] ([]) (if 97 ≤ a ∧ a ≤ 122 then 1 else 0) ([]) := by
  refine m_go (cc := cX8_isLetter) (nL := 1) (by decide +kernel) rfl (Nat.le_of_ble_eq_true rfl) (fun x X Y hnm => ?_)
  refine v_eq (lo2 := [some (.int (iI a))]) rfl rfl rfl rfl ?_
  refine v_iload_n X dX8_isLetter_0 rfl ?_
  refine v_bipush X dX8_isLetter_1 (by decide) ?_
  refine v_icmp_lt (tgt := 16) X dX8_isLetter_3 (by decide) (by omega) (by omega) (fun c1 => ?_) (fun c1 => ?_)
  · skip
    refine v_iconst X dX8_isLetter_16 ?_
    exact v_zret X Y dX8_isLetter_17 (by first | decide | omega | (split <;> omega)) (u := ()) (by first | rfl | omega | (split <;> omega) | (simp [*]; done)) (by rfl)
  · skip
    refine v_iload_n X dX8_isLetter_6 rfl ?_
    refine v_bipush X dX8_isLetter_7 (by decide) ?_
    refine v_icmp_gt (tgt := 16) X dX8_isLetter_9 (by decide) (by omega) (by omega) (fun c2 => ?_) (fun c2 => ?_)
    · skip
      refine v_iconst X dX8_isLetter_16 ?_
      exact v_zret X Y dX8_isLetter_17 (by first | decide | omega | (split <;> omega)) (u := ()) (by first | rfl | omega | (split <;> omega) | (simp [*]; done)) (by rfl)
    · skip
      refine v_iconst X dX8_isLetter_12 ?_
      refine v_goto (tgt := 17) X dX8_isLetter_13 (by decide) ?_
      exact v_zret X Y dX8_isLetter_17 (by first | decide | omega | (split <;> omega)) (u := ()) (by first | rfl | omega | (split <;> omega) | (simp [*]; done)) (by rfl)

theorem hdX8_isFigure : yX8_isFigure.cls = RX8 ∧ yX8_isFigure.cls ≠ "java/lang/invoke/MethodHandle" ∧ yX8_isFigure.cls ≠ "java/lang/invoke/VarHandle" ∧ (parseMethodDescriptor yX8_isFigure.desc).map (fun d => d.parameters.length) = some 1 := ⟨rfl, by decide +kernel, by decide +kernel, by decide +kernel⟩
set_option maxHeartbeats 4000000 in
set_option maxRecDepth 100000 in
theorem c_X8_isFigure {g : Gx} {a : Int} (ha : R32 a) : CtE g yX8_isFigure wsX8_isFigure 0 0 [.int (iI a)] ([]) (if 48 ≤ a ∧ a ≤ 57 then 1 else 0) ([]) := by
  refine m_go (cc := cX8_isFigure) (nL := 1) (by decide +kernel) rfl (Nat.le_of_ble_eq_true rfl) (fun x X Y hnm => ?_)
  refine v_eq (lo2 := [some (.int (iI a))]) rfl rfl rfl rfl ?_
  refine v_iload_n X dX8_isFigure_0 rfl ?_
  refine v_bipush X dX8_isFigure_1 (by decide) ?_
  refine v_icmp_lt (tgt := 16) X dX8_isFigure_3 (by decide) (by omega) (by omega) (fun c1 => ?_) (fun c1 => ?_)
  · skip
    refine v_iconst X dX8_isFigure_16 ?_
    exact v_zret X Y dX8_isFigure_17 (by first | decide | omega | (split <;> omega)) (u := ()) (by first | rfl | omega | (split <;> omega) | (simp [*]; done)) (by rfl)
  · skip
    refine v_iload_n X dX8_isFigure_6 rfl ?_
    refine v_bipush X dX8_isFigure_7 (by decide) ?_
    refine v_icmp_gt (tgt := 16) X dX8_isFigure_9 (by decide) (by omega) (by omega) (fun c2 => ?_) (fun c2 => ?_)
    · skip
      refine v_iconst X dX8_isFigure_16 ?_
      exact v_zret X Y dX8_isFigure_17 (by first | decide | omega | (split <;> omega)) (u := ()) (by first | rfl | omega | (split <;> omega) | (simp [*]; done)) (by rfl)
    · skip
      refine v_iconst X dX8_isFigure_12 ?_
      refine v_goto (tgt := 17) X dX8_isFigure_13 (by decide) ?_
      exact v_zret X Y dX8_isFigure_17 (by first | decide | omega | (split <;> omega)) (u := ()) (by first | rfl | omega | (split <;> omega) | (simp [*]; done)) (by rfl)

theorem hdX8_isMoment : yX8_isMoment.cls = RX8 ∧ yX8_isMoment.cls ≠ "java/lang/invoke/MethodHandle" ∧ yX8_isMoment.cls ≠ "java/lang/invoke/VarHandle" ∧ (parseMethodDescriptor yX8_isMoment.desc).map (fun d => d.parameters.length) = some 2 := ⟨rfl, by decide +kernel, by decide +kernel, by decide +kernel⟩
set_option maxHeartbeats 4000000 in
set_option maxRecDepth 100000 in
theorem c_X8_isMoment {g : Gx} {p q : Int} (hp : R32 p) (hq : R32 q) : CtE g yX8_isMoment wsX8_isMoment 1 25 [.int (iI p), .int (iI q)] ([]) (if 1 ≤ q ∧ q ≤ 9999 ∧ 0 ≤ p ∧ p < q then 1 else 0) ([]) := by
  refine m_go (cc := cX8_isMoment) (nL := 2) (by decide +kernel) rfl (Nat.le_of_ble_eq_true rfl) (fun x X Y hnm => ?_)
  refine v_eq (lo2 := [some (.int (iI p)), some (.int (iI q))]) rfl rfl rfl rfl ?_
  refine v_iload_n X dX8_isMoment_0 rfl ?_
  refine v_i2l X dX8_isMoment_1 (by first | omega | (split <;> omega)) ?_
  refine v_lconst1 X dX8_isMoment_2 ?_
  refine v_ldc2 X (List.mem_of_getElem? (i := 1) rfl) dX8_isMoment_3 (n := 9999) (by decide) ?_
  refine res_E X (run_S X (c_X8_in (g := g) (by first | assumption | omega) (by first | assumption | omega) (by first | assumption | omega)) gX8_isMoment_X8_in rfl hdX8_in.2 ⟨(Nat.le_of_ble_eq_true rfl), (Nat.le_of_ble_eq_true rfl)⟩ ⟨(Nat.le_of_ble_eq_true rfl), (Nat.le_of_ble_eq_true rfl)⟩ [] rfl rfl rfl rfl (by simp [Value.category]) dX8_isMoment_6) [] rfl rfl ?_
  refine v_ifb_eq (tgt := 29) X dX8_isMoment_9 (by decide) (fun c1 => ?_) (fun c1 => ?_)
  · skip
    refine v_iconst X dX8_isMoment_29 ?_
    exact v_zret X Y dX8_isMoment_30 (by first | decide | omega | (split <;> omega)) (u := ()) (by first | rfl | omega | (split <;> omega) | (split <;> split <;> omega)) (by rfl)
  · skip
    refine v_iload_n X dX8_isMoment_12 rfl ?_
    refine v_i2l X dX8_isMoment_13 (by first | omega | (split <;> omega)) ?_
    refine v_lconst0 X dX8_isMoment_14 ?_
    refine v_iload_n X dX8_isMoment_15 rfl ?_
    refine v_iconst X dX8_isMoment_16 ?_
    refine v_isub X dX8_isMoment_17 ?_
    refine v_i2l X dX8_isMoment_18 (by first | omega | (split <;> omega)) ?_
    refine res_E X (run_S X (c_X8_in (g := g) (by first | assumption | omega) (by first | assumption | omega) (by first | assumption | omega)) gX8_isMoment_X8_in rfl hdX8_in.2 ⟨(Nat.le_of_ble_eq_true rfl), (Nat.le_of_ble_eq_true rfl)⟩ ⟨(Nat.le_of_ble_eq_true rfl), (Nat.le_of_ble_eq_true rfl)⟩ [] rfl rfl rfl rfl (by simp [Value.category]) dX8_isMoment_19) [] rfl rfl ?_
    refine v_ifb_eq (tgt := 29) X dX8_isMoment_22 (by decide) (fun c2 => ?_) (fun c2 => ?_)
    · skip
      refine v_iconst X dX8_isMoment_29 ?_
      exact v_zret X Y dX8_isMoment_30 (by first | decide | omega | (split <;> omega)) (u := ()) (by first | rfl | omega | (split <;> omega) | (split <;> split <;> omega)) (by rfl)
    · skip
      refine v_iconst X dX8_isMoment_25 ?_
      refine v_goto (tgt := 30) X dX8_isMoment_26 (by decide) ?_
      exact v_zret X Y dX8_isMoment_30 (by first | decide | omega | (split <;> omega)) (u := ()) (by first | rfl | omega | (split <;> omega) | (split <;> split <;> omega)) (by rfl)

theorem hdX8_size : yX8_size.cls = RX8 ∧ yX8_size.cls ≠ "java/lang/invoke/MethodHandle" ∧ yX8_size.cls ≠ "java/lang/invoke/VarHandle" ∧ (parseMethodDescriptor yX8_size.desc).map (fun d => d.parameters.length) = some 1 := ⟨rfl, by decide +kernel, by decide +kernel, by decide +kernel⟩
set_option maxHeartbeats 4000000 in
set_option maxRecDepth 100000 in
theorem c_X8_size {g : Gx} {v : Int} (hv : -2147483647 ≤ v ∧ v ≤ 2147483647) : CtE g yX8_size wsX8_size 0 0 [.int (iI v)] ([]) (absI v) ([]) := by
  refine m_go (cc := cX8_size) (nL := 1) (by decide +kernel) rfl (Nat.le_of_ble_eq_true rfl) (fun x X Y hnm => ?_)
  refine v_eq (lo2 := [some (.int (iI v))]) rfl rfl rfl rfl ?_
  refine v_iload_n X dX8_size_0 rfl ?_
  refine v_if_ge (tgt := 9) X dX8_size_1 (by decide) (by omega) (fun c1 => ?_) (fun c1 => ?_)
  · skip
    refine v_iload_n X dX8_size_9 rfl ?_
    exact v_iret X Y dX8_size_10 (u := ()) (by unfold absI; split <;> omega) (by rfl)
  · skip
    refine v_iload_n X dX8_size_4 rfl ?_
    refine v_ineg X dX8_size_5 ?_
    refine v_goto (tgt := 10) X dX8_size_6 (by decide) ?_
    exact v_iret X Y dX8_size_10 (u := ()) (by unfold absI; split <;> omega) (by rfl)

theorem hdX8_rest : yX8_rest.cls = RX8 ∧ yX8_rest.cls ≠ "java/lang/invoke/MethodHandle" ∧ yX8_rest.cls ≠ "java/lang/invoke/VarHandle" ∧ (parseMethodDescriptor yX8_rest.desc).map (fun d => d.parameters.length) = some 2 := ⟨rfl, by decide +kernel, by decide +kernel, by decide +kernel⟩
set_option maxHeartbeats 4000000 in
set_option maxRecDepth 100000 in
theorem c_X8_rest {g : Gx} {n w : Int} (hn : R32 n) (hw : R32 w) (h0 : 0 < w) : CtE g yX8_rest wsX8_rest 0 0 [.int (iI n), .int (iI w)] ([]) (restI n w) ([]) := by
  refine m_go (cc := cX8_rest) (nL := 3) (by decide +kernel) rfl (Nat.le_of_ble_eq_true rfl) (fun x X Y hnm => ?_)
  refine v_eq (lo2 := [some (.int (iI n)), some (.int (iI w)), none]) rfl rfl rfl rfl ?_
  have q1 := tmod_emod (x := n) h0
  have q5 := Int.tmod_lt_of_pos n h0
  have q6 := Int.lt_tmod_of_pos n h0
  have q7 : restI n w = n % w := if_neg (by omega)
  refine v_iload_n X dX8_rest_0 rfl ?_
  refine v_iload_n X dX8_rest_1 rfl ?_
  refine v_irem X dX8_rest_2 (by omega) (by omega) (by omega) ?_
  refine v_istore_n X dX8_rest_3 2 rfl (by decide) rfl ?_
  dsimp only [List.set]
  refine v_iload_n X dX8_rest_4 rfl ?_
  refine v_if_ge (tgt := 14) X dX8_rest_5 (by decide) (by omega) (fun c1 => ?_) (fun c1 => ?_)
  · skip
    refine v_iload_n X dX8_rest_14 rfl ?_
    exact v_iret X Y dX8_rest_15 (u := ()) (by rw [q7, q1]; split <;> omega) (by rfl)
  · skip
    refine v_iload_n X dX8_rest_8 rfl ?_
    refine v_iload_n X dX8_rest_9 rfl ?_
    refine v_iadd X dX8_rest_10 ?_
    refine v_goto (tgt := 15) X dX8_rest_11 (by decide) ?_
    exact v_iret X Y dX8_rest_15 (u := ()) (by rw [q7, q1]; split <;> omega) (by rfl)

theorem hdX8_divisor : yX8_divisor.cls = RX8 ∧ yX8_divisor.cls ≠ "java/lang/invoke/MethodHandle" ∧ yX8_divisor.cls ≠ "java/lang/invoke/VarHandle" ∧ (parseMethodDescriptor yX8_divisor.desc).map (fun d => d.parameters.length) = some 2 := ⟨rfl, by decide +kernel, by decide +kernel, by decide +kernel⟩
set_option maxHeartbeats 4000000 in
set_option maxRecDepth 100000 in
theorem c_X8_divisor {g : Gx} {a b : Int} (ha : 0 ≤ a) (ha2 : a ≤ 2147483647) (hb : 0 ≤ b) (hb2 : b ≤ 2147483647) : CtE g yX8_divisor wsX8_divisor 0 0 [.int (iI a), .int (iI b)] ([]) ((Int.gcd a b : Int)) ([]) := by
  refine m_go (cc := cX8_divisor) (nL := 5) (by decide +kernel) rfl (Nat.le_of_ble_eq_true rfl) (fun x X Y hnm => ?_)
  refine v_eq (lo2 := [some (.int (iI a)), some (.int (iI b)), none, none, none]) rfl rfl rfl rfl ?_
  refine v_iload_n X dX8_divisor_0 rfl ?_
  refine v_istore_n X dX8_divisor_1 2 rfl (by decide) rfl ?_
  dsimp only [List.set]
  refine v_iload_n X dX8_divisor_2 rfl ?_
  refine v_istore_n X dX8_divisor_3 3 rfl (by decide) rfl ?_
  dsimp only [List.set]
  have L4 : ∀ (nf : Nat) (gr : Int) (ls : Int) (h1 : 0 ≤ gr ∧ gr ≤ 2147483647) (h2 : 0 ≤ ls ∧ ls ≤ 2147483647) (h5 : (Int.gcd gr ls : Int) = Int.gcd a b) (_ : ls.toNat < nf), V g x 0 0 ([]) [some (.int (iI a)), some (.int (iI b)), some (.int (iI gr)), some (.int (iI ls)), none] 4 [] := by
    intro nf
    induction nf with
    | zero => intro gr ls h1 h2 h5 hmu; exact absurd hmu (Nat.not_lt_zero _)
    | succ nf ih4 =>
      intro gr ls h1 h2 h5 hmu
      refine v_iload_n X dX8_divisor_4 rfl ?_
      refine v_if_eq (tgt := 21) X dX8_divisor_5 (by decide) (by omega) (fun c1 => ?_) (fun c1 => ?_)
      · skip
        refine v_iload_n X dX8_divisor_21 rfl ?_
        exact v_iret X Y dX8_divisor_22 (u := ()) (by
            have e : ls = 0 := by omega
            rw [← h5, e, gcd_0 h1.1]) (by rfl)
      · skip
        refine v_iload_n X dX8_divisor_8 rfl ?_
        refine v_iload_n X dX8_divisor_9 rfl ?_
        refine v_irem X dX8_divisor_10 (by omega) (by omega) (by omega) ?_
        have q1 := Int.tmod_lt_of_pos gr (show 0 < ls by omega)
        have q2 := Int.tmod_nonneg ls h1.1
        refine v_istore X dX8_divisor_11 (by decide) rfl ?_
        dsimp only [List.set]
        refine v_iload_n X dX8_divisor_13 rfl ?_
        refine v_istore_n X dX8_divisor_14 2 rfl (by decide) rfl ?_
        dsimp only [List.set]
        refine v_iload X dX8_divisor_15 rfl ?_
        refine v_istore_n X dX8_divisor_17 3 rfl (by decide) rfl ?_
        dsimp only [List.set]
        refine v_goto (tgt := 4) X dX8_divisor_18 (by decide) ?_
        refine v_drop 4 ?_
        dsimp only [List.set]
        exact ih4 _ _ (by omega) (by omega) (by rw [gcd_step h1.1 h2.1]; exact h5) (by omega)
  exact L4 _ _ _ (by omega) (by omega) (by rfl) (Nat.lt_succ_self _)

theorem hdX8_told : yX8_told.cls = RX8 ∧ yX8_told.cls ≠ "java/lang/invoke/MethodHandle" ∧ yX8_told.cls ≠ "java/lang/invoke/VarHandle" ∧ (parseMethodDescriptor yX8_told.desc).map (fun d => d.parameters.length) = some 3 := ⟨rfl, by decide +kernel, by decide +kernel, by decide +kernel⟩
set_option maxHeartbeats 4000000 in
set_option maxRecDepth 100000 in
theorem c_X8_told {g : Gx} {a b w : Int} (ha : 0 ≤ a) (ha2 : a ≤ 2147483647) (hb : 0 < b) (hb2 : b ≤ 2147483647) (hw : R32 w) : CtE g yX8_told wsX8_told 1 24 [.int (iI a), .int (iI b), .int (iI w)] ([]) (toldI a b w) ([]) := by
  refine m_go (cc := cX8_told) (nL := 3) (by decide +kernel) rfl (Nat.le_of_ble_eq_true rfl) (fun x X Y hnm => ?_)
  refine v_eq (lo2 := [some (.int (iI a)), some (.int (iI b)), some (.int (iI w))]) rfl rfl rfl rfl ?_
  have q1 := gcd_le ha (show 0 ≤ b by omega) (show (0:Int) ≤ 2147483647 by omega) ha2 hb2
  have q2 := tdiv_of_nn (b := (Int.gcd a b : Int)) ha
  have q3 := tdiv_of_nn (a := b) (b := (Int.gcd a b : Int)) (by omega)
  have q4 := gcd_pos (a := a) hb
  refine v_iload_n X dX8_told_0 rfl ?_
  refine v_if_ne (tgt := 8) X dX8_told_1 (by decide) (by omega) (fun c1 => ?_) (fun c1 => ?_)
  · skip
    refine v_iload_n X dX8_told_8 rfl ?_
    refine v_iload_n X dX8_told_9 rfl ?_
    refine v_iload_n X dX8_told_10 rfl ?_
    refine res_E X (run_S X (c_X8_divisor (g := g) (by first | assumption | omega) (by first | assumption | omega) (by first | assumption | omega) (by first | assumption | omega)) gX8_told_X8_divisor rfl hdX8_divisor.2 ⟨(Nat.le_of_ble_eq_true rfl), (Nat.le_of_ble_eq_true rfl)⟩ ⟨(Nat.le_of_ble_eq_true rfl), (Nat.le_of_ble_eq_true rfl)⟩ [] rfl rfl rfl rfl (by simp [Value.category]) dX8_told_11) [] rfl rfl ?_
    refine v_idiv X dX8_told_14 (by omega) (by omega) (by omega) ?_
    exact v_iret X Y dX8_told_15 (u := ()) (by unfold toldI; split <;> omega) (by rfl)
  · skip
    refine v_iload_n X dX8_told_4 rfl ?_
    refine v_goto (tgt := 9) X dX8_told_5 (by decide) ?_
    refine v_iload_n X dX8_told_9 rfl ?_
    refine v_iload_n X dX8_told_10 rfl ?_
    refine res_E X (run_S X (c_X8_divisor (g := g) (by first | assumption | omega) (by first | assumption | omega) (by first | assumption | omega) (by first | assumption | omega)) gX8_told_X8_divisor rfl hdX8_divisor.2 ⟨(Nat.le_of_ble_eq_true rfl), (Nat.le_of_ble_eq_true rfl)⟩ ⟨(Nat.le_of_ble_eq_true rfl), (Nat.le_of_ble_eq_true rfl)⟩ [] rfl rfl rfl rfl (by simp [Value.category]) dX8_told_11) [] rfl rfl ?_
    refine v_idiv X dX8_told_14 (by omega) (by omega) (by omega) ?_
    exact v_iret X Y dX8_told_15 (u := ()) (by unfold toldI; split <;> omega) (by rfl)

theorem hdX8_isOf : yX8_isOf.cls = RX8 ∧ yX8_isOf.cls ≠ "java/lang/invoke/MethodHandle" ∧ yX8_isOf.cls ≠ "java/lang/invoke/VarHandle" ∧ (parseMethodDescriptor yX8_isOf.desc).map (fun d => d.parameters.length) = some 2 := ⟨rfl, by decide +kernel, by decide +kernel, by decide +kernel⟩
set_option maxHeartbeats 4000000 in
set_option maxRecDepth 100000 in
theorem c_X8_isOf {g : Gx} {s t : Int} (hs : R32 s) (ht : R32 t) : CtE g yX8_isOf wsX8_isOf 0 0 [.int (iI s), .int (iI t)] ([]) (if t = 0 ∨ s = t ∨ (t = 1 ∧ s < 4) ∨ (t = 4 ∧ s = 5) then 1 else 0) ([]) := by
  refine m_go (cc := cX8_isOf) (nL := 2) (by decide +kernel) rfl (Nat.le_of_ble_eq_true rfl) (fun x X Y hnm => ?_)
  refine v_eq (lo2 := [some (.int (iI s)), some (.int (iI t))]) rfl rfl rfl rfl ?_
  refine v_iload_n X dX8_isOf_0 rfl ?_
  refine v_if_eq (tgt := 29) X dX8_isOf_1 (by decide) (by omega) (fun c1 => ?_) (fun c1 => ?_)
  · skip
    refine v_iconst X dX8_isOf_29 ?_
    refine v_goto (tgt := 34) X dX8_isOf_30 (by decide) ?_
    exact v_zret X Y dX8_isOf_34 (by first | decide | omega | (split <;> omega)) (u := ()) (by first | rfl | omega | (split <;> omega) | (simp [*]; done)) (by rfl)
  · skip
    refine v_iload_n X dX8_isOf_4 rfl ?_
    refine v_iload_n X dX8_isOf_5 rfl ?_
    refine v_icmp_eq (tgt := 29) X dX8_isOf_6 (by decide) (by omega) (by omega) (fun c2 => ?_) (fun c2 => ?_)
    · skip
      refine v_iconst X dX8_isOf_29 ?_
      refine v_goto (tgt := 34) X dX8_isOf_30 (by decide) ?_
      exact v_zret X Y dX8_isOf_34 (by first | decide | omega | (split <;> omega)) (u := ()) (by first | rfl | omega | (split <;> omega) | (simp [*]; done)) (by rfl)
    · skip
      refine v_iload_n X dX8_isOf_9 rfl ?_
      refine v_iconst X dX8_isOf_10 ?_
      refine v_icmp_ne (tgt := 19) X dX8_isOf_11 (by decide) (by omega) (by omega) (fun c3 => ?_) (fun c3 => ?_)
      · skip
        refine v_iload_n X dX8_isOf_19 rfl ?_
        refine v_iconst X dX8_isOf_20 ?_
        refine v_icmp_ne (tgt := 33) X dX8_isOf_21 (by decide) (by omega) (by omega) (fun c4 => ?_) (fun c4 => ?_)
        · skip
          refine v_iconst X dX8_isOf_33 ?_
          exact v_zret X Y dX8_isOf_34 (by first | decide | omega | (split <;> omega)) (u := ()) (by first | rfl | omega | (split <;> omega) | (simp [*]; done)) (by rfl)
        · skip
          refine v_iload_n X dX8_isOf_24 rfl ?_
          refine v_iconst X dX8_isOf_25 ?_
          refine v_icmp_ne (tgt := 33) X dX8_isOf_26 (by decide) (by omega) (by omega) (fun c5 => ?_) (fun c5 => ?_)
          · skip
            refine v_iconst X dX8_isOf_33 ?_
            exact v_zret X Y dX8_isOf_34 (by first | decide | omega | (split <;> omega)) (u := ()) (by first | rfl | omega | (split <;> omega) | (simp [*]; done)) (by rfl)
          · skip
            refine v_iconst X dX8_isOf_29 ?_
            refine v_goto (tgt := 34) X dX8_isOf_30 (by decide) ?_
            exact v_zret X Y dX8_isOf_34 (by first | decide | omega | (split <;> omega)) (u := ()) (by first | rfl | omega | (split <;> omega) | (simp [*]; done)) (by rfl)
      · skip
        refine v_iload_n X dX8_isOf_14 rfl ?_
        refine v_iconst X dX8_isOf_15 ?_
        refine v_icmp_lt (tgt := 29) X dX8_isOf_16 (by decide) (by omega) (by omega) (fun c6 => ?_) (fun c6 => ?_)
        · skip
          refine v_iconst X dX8_isOf_29 ?_
          refine v_goto (tgt := 34) X dX8_isOf_30 (by decide) ?_
          exact v_zret X Y dX8_isOf_34 (by first | decide | omega | (split <;> omega)) (u := ()) (by first | rfl | omega | (split <;> omega) | (simp [*]; done)) (by rfl)
        · skip
          refine v_iload_n X dX8_isOf_19 rfl ?_
          refine v_iconst X dX8_isOf_20 ?_
          refine v_icmp_ne (tgt := 33) X dX8_isOf_21 (by decide) (by omega) (by omega) (fun c7 => ?_) (fun c7 => ?_)
          · skip
            refine v_iconst X dX8_isOf_33 ?_
            exact v_zret X Y dX8_isOf_34 (by first | decide | omega | (split <;> omega)) (u := ()) (by first | rfl | omega | (split <;> omega) | (simp [*]; done)) (by rfl)
          · skip
            refine v_iload_n X dX8_isOf_24 rfl ?_
            refine v_iconst X dX8_isOf_25 ?_
            refine v_icmp_ne (tgt := 33) X dX8_isOf_26 (by decide) (by omega) (by omega) (fun c8 => ?_) (fun c8 => ?_)
            · skip
              refine v_iconst X dX8_isOf_33 ?_
              exact v_zret X Y dX8_isOf_34 (by first | decide | omega | (split <;> omega)) (u := ()) (by first | rfl | omega | (split <;> omega) | (simp [*]; done)) (by rfl)
            · skip
              refine v_iconst X dX8_isOf_29 ?_
              refine v_goto (tgt := 34) X dX8_isOf_30 (by decide) ?_
              exact v_zret X Y dX8_isOf_34 (by first | decide | omega | (split <;> omega)) (u := ()) (by first | rfl | omega | (split <;> omega) | (simp [*]; done)) (by rfl)

theorem hdX8_isSo : yX8_isSo.cls = RX8 ∧ yX8_isSo.cls ≠ "java/lang/invoke/MethodHandle" ∧ yX8_isSo.cls ≠ "java/lang/invoke/VarHandle" ∧ (parseMethodDescriptor yX8_isSo.desc).map (fun d => d.parameters.length) = some 2 := ⟨rfl, by decide +kernel, by decide +kernel, by decide +kernel⟩
set_option maxHeartbeats 4000000 in
set_option maxRecDepth 100000 in
theorem c_X8_isSo {g : Gx} {p h : Int} (hp : 0 ≤ p ∧ p ≤ 2147483647) (hh : 0 ≤ h ∧ h ≤ 2) : CtE g yX8_isSo wsX8_isSo 0 0 [.int (iI p), .int (iI h)] ([]) (if (h = 0 ∧ p % 4 = 0) ∨ (h = 1 ∧ p % 4 = 2) ∨ (h = 2 ∧ p % 2 = 1) then 1 else 0) ([]) := by
  refine m_go (cc := cX8_isSo) (nL := 2) (by decide +kernel) rfl (Nat.le_of_ble_eq_true rfl) (fun x X Y hnm => ?_)
  refine v_eq (lo2 := [some (.int (iI p)), some (.int (iI h))]) rfl rfl rfl rfl ?_
  have q1 : p.tmod 4 = p % 4 := Int.tmod_eq_emod_of_nonneg hp.1
  have q2 : p.tmod 2 = p % 2 := Int.tmod_eq_emod_of_nonneg hp.1
  refine v_iload_n X dX8_isSo_0 rfl ?_
  refine v_if_ne (tgt := 18) X dX8_isSo_1 (by decide) (by omega) (fun c1 => ?_) (fun c1 => ?_)
  · skip
    refine v_iload_n X dX8_isSo_18 rfl ?_
    refine v_iconst X dX8_isSo_19 ?_
    refine v_icmp_ne (tgt := 38) X dX8_isSo_20 (by decide) (by omega) (by omega) (fun c2 => ?_) (fun c2 => ?_)
    · skip
      refine v_iload_n X dX8_isSo_38 rfl ?_
      refine v_iconst X dX8_isSo_39 ?_
      refine v_irem X dX8_isSo_40 (by omega) (by omega) (by omega) ?_
      refine v_iconst X dX8_isSo_41 ?_
      refine v_icmp_ne (tgt := 49) X dX8_isSo_42 (by decide) (by omega) (by omega) (fun c3 => ?_) (fun c3 => ?_)
      · skip
        refine v_iconst X dX8_isSo_49 ?_
        exact v_zret X Y dX8_isSo_50 (by first | decide | omega | (split <;> omega)) (u := ()) (by first | rfl | omega | (split <;> omega) | (simp [*]; done)) (by rfl)
      · skip
        refine v_iconst X dX8_isSo_45 ?_
        refine v_goto (tgt := 50) X dX8_isSo_46 (by decide) ?_
        exact v_zret X Y dX8_isSo_50 (by first | decide | omega | (split <;> omega)) (u := ()) (by first | rfl | omega | (split <;> omega) | (simp [*]; done)) (by rfl)
    · skip
      refine v_iload_n X dX8_isSo_23 rfl ?_
      refine v_iconst X dX8_isSo_24 ?_
      refine v_irem X dX8_isSo_25 (by omega) (by omega) (by omega) ?_
      refine v_iconst X dX8_isSo_26 ?_
      refine v_icmp_ne (tgt := 34) X dX8_isSo_27 (by decide) (by omega) (by omega) (fun c4 => ?_) (fun c4 => ?_)
      · skip
        refine v_iconst X dX8_isSo_34 ?_
        refine v_goto (tgt := 50) X dX8_isSo_35 (by decide) ?_
        exact v_zret X Y dX8_isSo_50 (by first | decide | omega | (split <;> omega)) (u := ()) (by first | rfl | omega | (split <;> omega) | (simp [*]; done)) (by rfl)
      · skip
        refine v_iconst X dX8_isSo_30 ?_
        refine v_goto (tgt := 50) X dX8_isSo_31 (by decide) ?_
        exact v_zret X Y dX8_isSo_50 (by first | decide | omega | (split <;> omega)) (u := ()) (by first | rfl | omega | (split <;> omega) | (simp [*]; done)) (by rfl)
  · skip
    refine v_iload_n X dX8_isSo_4 rfl ?_
    refine v_iconst X dX8_isSo_5 ?_
    refine v_irem X dX8_isSo_6 (by omega) (by omega) (by omega) ?_
    refine v_if_ne (tgt := 14) X dX8_isSo_7 (by decide) (by omega) (fun c5 => ?_) (fun c5 => ?_)
    · skip
      refine v_iconst X dX8_isSo_14 ?_
      refine v_goto (tgt := 50) X dX8_isSo_15 (by decide) ?_
      exact v_zret X Y dX8_isSo_50 (by first | decide | omega | (split <;> omega)) (u := ()) (by first | rfl | omega | (split <;> omega) | (simp [*]; done)) (by rfl)
    · skip
      refine v_iconst X dX8_isSo_10 ?_
      refine v_goto (tgt := 50) X dX8_isSo_11 (by decide) ?_
      exact v_zret X Y dX8_isSo_50 (by first | decide | omega | (split <;> omega)) (u := ()) (by first | rfl | omega | (split <;> omega) | (simp [*]; done)) (by rfl)

theorem hdX8_kindBy : yX8_kindBy.cls = RX8 ∧ yX8_kindBy.cls ≠ "java/lang/invoke/MethodHandle" ∧ yX8_kindBy.cls ≠ "java/lang/invoke/VarHandle" ∧ (parseMethodDescriptor yX8_kindBy.desc).map (fun d => d.parameters.length) = some 1 := ⟨rfl, by decide +kernel, by decide +kernel, by decide +kernel⟩
set_option maxHeartbeats 4000000 in
set_option maxRecDepth 100000 in
theorem c_X8_kindBy {g : Gx} {w : Int} (hw : R64 w) : CtE g yX8_kindBy wsX8_kindBy 0 0 [.long (lI w)] ([]) (kndI w) ([]) := by
  refine m_go (cc := cX8_kindBy) (nL := 2) (by decide +kernel) rfl (Nat.le_of_ble_eq_true rfl) (fun x X Y hnm => ?_)
  refine v_eq (lo2 := [some (.long (lI w)), none]) rfl rfl rfl rfl ?_
  refine v_lload_n X dX8_kindBy_0 rfl ?_
  refine v_ldc2 X (List.mem_of_getElem? (i := 1) rfl) dX8_kindBy_1 (n := 1752135026) (by decide) ?_
  refine v_lcmp X dX8_kindBy_4 (by omega) (by omega) (fun c1 => ?_) (fun c1 => ?_) (fun c1 => ?_)
  · skip
    refine v_if_ne (tgt := 12) X dX8_kindBy_5 (by decide) (by decide) (fun hh => ?_) (fun hh => ?_)
    · skip
      refine v_lload_n X dX8_kindBy_12 rfl ?_
      refine v_ldc2 X (List.mem_of_getElem? (i := 2) rfl) dX8_kindBy_13 (n := 1836019566) (by decide) ?_
      refine v_lcmp X dX8_kindBy_16 (by omega) (by omega) (fun c2 => ?_) (fun c2 => ?_) (fun c2 => ?_)
      · skip
        refine v_if_ne (tgt := 24) X dX8_kindBy_17 (by decide) (by decide) (fun hh => ?_) (fun hh => ?_)
        · skip
          refine v_lload_n X dX8_kindBy_24 rfl ?_
          refine v_ldc2 X (List.mem_of_getElem? (i := 3) rfl) dX8_kindBy_25 (n := 495924372848) (by decide) ?_
          refine v_lcmp X dX8_kindBy_28 (by omega) (by omega) (fun c3 => ?_) (fun c3 => ?_) (fun c3 => ?_)
          · skip
            refine v_if_ne (tgt := 36) X dX8_kindBy_29 (by decide) (by decide) (fun hh => ?_) (fun hh => ?_)
            · skip
              refine v_lload_n X dX8_kindBy_36 rfl ?_
              refine v_ldc2 X (List.mem_of_getElem? (i := 4) rfl) dX8_kindBy_37 (n := 1650549611) (by decide) ?_
              refine v_lcmp X dX8_kindBy_40 (by omega) (by omega) (fun c4 => ?_) (fun c4 => ?_) (fun c4 => ?_)
              · skip
                refine v_if_ne (tgt := 48) X dX8_kindBy_41 (by decide) (by decide) (fun hh => ?_) (fun hh => ?_)
                · skip
                  refine v_lload_n X dX8_kindBy_48 rfl ?_
                  refine v_ldc2 X (List.mem_of_getElem? (i := 5) rfl) dX8_kindBy_49 (n := 1953064037) (by decide) ?_
                  refine v_lcmp X dX8_kindBy_52 (by omega) (by omega) (fun c5 => ?_) (fun c5 => ?_) (fun c5 => ?_)
                  · skip
                    refine v_if_ne (tgt := 60) X dX8_kindBy_53 (by decide) (by decide) (fun hh => ?_) (fun hh => ?_)
                    · skip
                      refine v_ldc X (List.mem_of_getElem? (i := 6) rfl) dX8_kindBy_60 (n := -1000000) (by decide) ?_
                      exact v_iret X Y dX8_kindBy_62 (u := ()) (by unfold kndI; repeat (first | rw [if_pos (by assumption)] | rw [if_neg (by assumption)])) (by rfl)
                    · skip
                      exfalso; omega
                  · skip
                    refine v_if_ne (tgt := 60) X dX8_kindBy_53 (by decide) (by decide) (fun hh => ?_) (fun hh => ?_)
                    · skip
                      exfalso; omega
                    · skip
                      refine v_iconst X dX8_kindBy_56 ?_
                      refine v_goto (tgt := 62) X dX8_kindBy_57 (by decide) ?_
                      exact v_iret X Y dX8_kindBy_62 (u := ()) (by unfold kndI; repeat (first | rw [if_pos (by assumption)] | rw [if_neg (by assumption)])) (by rfl)
                  · skip
                    refine v_if_ne (tgt := 60) X dX8_kindBy_53 (by decide) (by decide) (fun hh => ?_) (fun hh => ?_)
                    · skip
                      refine v_ldc X (List.mem_of_getElem? (i := 6) rfl) dX8_kindBy_60 (n := -1000000) (by decide) ?_
                      exact v_iret X Y dX8_kindBy_62 (u := ()) (by unfold kndI; repeat (first | rw [if_pos (by assumption)] | rw [if_neg (by assumption)])) (by rfl)
                    · skip
                      exfalso; omega
                · skip
                  exfalso; omega
              · skip
                refine v_if_ne (tgt := 48) X dX8_kindBy_41 (by decide) (by decide) (fun hh => ?_) (fun hh => ?_)
                · skip
                  exfalso; omega
                · skip
                  refine v_iconst X dX8_kindBy_44 ?_
                  refine v_goto (tgt := 62) X dX8_kindBy_45 (by decide) ?_
                  exact v_iret X Y dX8_kindBy_62 (u := ()) (by unfold kndI; repeat (first | rw [if_pos (by assumption)] | rw [if_neg (by assumption)])) (by rfl)
              · skip
                refine v_if_ne (tgt := 48) X dX8_kindBy_41 (by decide) (by decide) (fun hh => ?_) (fun hh => ?_)
                · skip
                  refine v_lload_n X dX8_kindBy_48 rfl ?_
                  refine v_ldc2 X (List.mem_of_getElem? (i := 5) rfl) dX8_kindBy_49 (n := 1953064037) (by decide) ?_
                  refine v_lcmp X dX8_kindBy_52 (by omega) (by omega) (fun c6 => ?_) (fun c6 => ?_) (fun c6 => ?_)
                  · skip
                    refine v_if_ne (tgt := 60) X dX8_kindBy_53 (by decide) (by decide) (fun hh => ?_) (fun hh => ?_)
                    · skip
                      refine v_ldc X (List.mem_of_getElem? (i := 6) rfl) dX8_kindBy_60 (n := -1000000) (by decide) ?_
                      exact v_iret X Y dX8_kindBy_62 (u := ()) (by unfold kndI; repeat (first | rw [if_pos (by assumption)] | rw [if_neg (by assumption)])) (by rfl)
                    · skip
                      exfalso; omega
                  · skip
                    refine v_if_ne (tgt := 60) X dX8_kindBy_53 (by decide) (by decide) (fun hh => ?_) (fun hh => ?_)
                    · skip
                      exfalso; omega
                    · skip
                      refine v_iconst X dX8_kindBy_56 ?_
                      refine v_goto (tgt := 62) X dX8_kindBy_57 (by decide) ?_
                      exact v_iret X Y dX8_kindBy_62 (u := ()) (by unfold kndI; repeat (first | rw [if_pos (by assumption)] | rw [if_neg (by assumption)])) (by rfl)
                  · skip
                    refine v_if_ne (tgt := 60) X dX8_kindBy_53 (by decide) (by decide) (fun hh => ?_) (fun hh => ?_)
                    · skip
                      refine v_ldc X (List.mem_of_getElem? (i := 6) rfl) dX8_kindBy_60 (n := -1000000) (by decide) ?_
                      exact v_iret X Y dX8_kindBy_62 (u := ()) (by unfold kndI; repeat (first | rw [if_pos (by assumption)] | rw [if_neg (by assumption)])) (by rfl)
                    · skip
                      exfalso; omega
                · skip
                  exfalso; omega
            · skip
              exfalso; omega
          · skip
            refine v_if_ne (tgt := 36) X dX8_kindBy_29 (by decide) (by decide) (fun hh => ?_) (fun hh => ?_)
            · skip
              exfalso; omega
            · skip
              refine v_iconst X dX8_kindBy_32 ?_
              refine v_goto (tgt := 62) X dX8_kindBy_33 (by decide) ?_
              exact v_iret X Y dX8_kindBy_62 (u := ()) (by unfold kndI; repeat (first | rw [if_pos (by assumption)] | rw [if_neg (by assumption)])) (by rfl)
          · skip
            refine v_if_ne (tgt := 36) X dX8_kindBy_29 (by decide) (by decide) (fun hh => ?_) (fun hh => ?_)
            · skip
              refine v_lload_n X dX8_kindBy_36 rfl ?_
              refine v_ldc2 X (List.mem_of_getElem? (i := 4) rfl) dX8_kindBy_37 (n := 1650549611) (by decide) ?_
              refine v_lcmp X dX8_kindBy_40 (by omega) (by omega) (fun c7 => ?_) (fun c7 => ?_) (fun c7 => ?_)
              · skip
                refine v_if_ne (tgt := 48) X dX8_kindBy_41 (by decide) (by decide) (fun hh => ?_) (fun hh => ?_)
                · skip
                  refine v_lload_n X dX8_kindBy_48 rfl ?_
                  refine v_ldc2 X (List.mem_of_getElem? (i := 5) rfl) dX8_kindBy_49 (n := 1953064037) (by decide) ?_
                  refine v_lcmp X dX8_kindBy_52 (by omega) (by omega) (fun c8 => ?_) (fun c8 => ?_) (fun c8 => ?_)
                  · skip
                    refine v_if_ne (tgt := 60) X dX8_kindBy_53 (by decide) (by decide) (fun hh => ?_) (fun hh => ?_)
                    · skip
                      refine v_ldc X (List.mem_of_getElem? (i := 6) rfl) dX8_kindBy_60 (n := -1000000) (by decide) ?_
                      exact v_iret X Y dX8_kindBy_62 (u := ()) (by unfold kndI; repeat (first | rw [if_pos (by assumption)] | rw [if_neg (by assumption)])) (by rfl)
                    · skip
                      exfalso; omega
                  · skip
                    refine v_if_ne (tgt := 60) X dX8_kindBy_53 (by decide) (by decide) (fun hh => ?_) (fun hh => ?_)
                    · skip
                      exfalso; omega
                    · skip
                      refine v_iconst X dX8_kindBy_56 ?_
                      refine v_goto (tgt := 62) X dX8_kindBy_57 (by decide) ?_
                      exact v_iret X Y dX8_kindBy_62 (u := ()) (by unfold kndI; repeat (first | rw [if_pos (by assumption)] | rw [if_neg (by assumption)])) (by rfl)
                  · skip
                    refine v_if_ne (tgt := 60) X dX8_kindBy_53 (by decide) (by decide) (fun hh => ?_) (fun hh => ?_)
                    · skip
                      refine v_ldc X (List.mem_of_getElem? (i := 6) rfl) dX8_kindBy_60 (n := -1000000) (by decide) ?_
                      exact v_iret X Y dX8_kindBy_62 (u := ()) (by unfold kndI; repeat (first | rw [if_pos (by assumption)] | rw [if_neg (by assumption)])) (by rfl)
                    · skip
                      exfalso; omega
                · skip
                  exfalso; omega
              · skip
                refine v_if_ne (tgt := 48) X dX8_kindBy_41 (by decide) (by decide) (fun hh => ?_) (fun hh => ?_)
                · skip
                  exfalso; omega
                · skip
                  refine v_iconst X dX8_kindBy_44 ?_
                  refine v_goto (tgt := 62) X dX8_kindBy_45 (by decide) ?_
                  exact v_iret X Y dX8_kindBy_62 (u := ()) (by unfold kndI; repeat (first | rw [if_pos (by assumption)] | rw [if_neg (by assumption)])) (by rfl)
              · skip
                refine v_if_ne (tgt := 48) X dX8_kindBy_41 (by decide) (by decide) (fun hh => ?_) (fun hh => ?_)
                · skip
                  refine v_lload_n X dX8_kindBy_48 rfl ?_
                  refine v_ldc2 X (List.mem_of_getElem? (i := 5) rfl) dX8_kindBy_49 (n := 1953064037) (by decide) ?_
                  refine v_lcmp X dX8_kindBy_52 (by omega) (by omega) (fun c9 => ?_) (fun c9 => ?_) (fun c9 => ?_)
                  · skip
                    refine v_if_ne (tgt := 60) X dX8_kindBy_53 (by decide) (by decide) (fun hh => ?_) (fun hh => ?_)
                    · skip
                      refine v_ldc X (List.mem_of_getElem? (i := 6) rfl) dX8_kindBy_60 (n := -1000000) (by decide) ?_
                      exact v_iret X Y dX8_kindBy_62 (u := ()) (by unfold kndI; repeat (first | rw [if_pos (by assumption)] | rw [if_neg (by assumption)])) (by rfl)
                    · skip
                      exfalso; omega
                  · skip
                    refine v_if_ne (tgt := 60) X dX8_kindBy_53 (by decide) (by decide) (fun hh => ?_) (fun hh => ?_)
                    · skip
                      exfalso; omega
                    · skip
                      refine v_iconst X dX8_kindBy_56 ?_
                      refine v_goto (tgt := 62) X dX8_kindBy_57 (by decide) ?_
                      exact v_iret X Y dX8_kindBy_62 (u := ()) (by unfold kndI; repeat (first | rw [if_pos (by assumption)] | rw [if_neg (by assumption)])) (by rfl)
                  · skip
                    refine v_if_ne (tgt := 60) X dX8_kindBy_53 (by decide) (by decide) (fun hh => ?_) (fun hh => ?_)
                    · skip
                      refine v_ldc X (List.mem_of_getElem? (i := 6) rfl) dX8_kindBy_60 (n := -1000000) (by decide) ?_
                      exact v_iret X Y dX8_kindBy_62 (u := ()) (by unfold kndI; repeat (first | rw [if_pos (by assumption)] | rw [if_neg (by assumption)])) (by rfl)
                    · skip
                      exfalso; omega
                · skip
                  exfalso; omega
            · skip
              exfalso; omega
        · skip
          exfalso; omega
      · skip
        refine v_if_ne (tgt := 24) X dX8_kindBy_17 (by decide) (by decide) (fun hh => ?_) (fun hh => ?_)
        · skip
          exfalso; omega
        · skip
          refine v_iconst X dX8_kindBy_20 ?_
          refine v_goto (tgt := 62) X dX8_kindBy_21 (by decide) ?_
          exact v_iret X Y dX8_kindBy_62 (u := ()) (by unfold kndI; repeat (first | rw [if_pos (by assumption)] | rw [if_neg (by assumption)])) (by rfl)
      · skip
        refine v_if_ne (tgt := 24) X dX8_kindBy_17 (by decide) (by decide) (fun hh => ?_) (fun hh => ?_)
        · skip
          refine v_lload_n X dX8_kindBy_24 rfl ?_
          refine v_ldc2 X (List.mem_of_getElem? (i := 3) rfl) dX8_kindBy_25 (n := 495924372848) (by decide) ?_
          refine v_lcmp X dX8_kindBy_28 (by omega) (by omega) (fun c10 => ?_) (fun c10 => ?_) (fun c10 => ?_)
          · skip
            refine v_if_ne (tgt := 36) X dX8_kindBy_29 (by decide) (by decide) (fun hh => ?_) (fun hh => ?_)
            · skip
              refine v_lload_n X dX8_kindBy_36 rfl ?_
              refine v_ldc2 X (List.mem_of_getElem? (i := 4) rfl) dX8_kindBy_37 (n := 1650549611) (by decide) ?_
              refine v_lcmp X dX8_kindBy_40 (by omega) (by omega) (fun c11 => ?_) (fun c11 => ?_) (fun c11 => ?_)
              · skip
                refine v_if_ne (tgt := 48) X dX8_kindBy_41 (by decide) (by decide) (fun hh => ?_) (fun hh => ?_)
                · skip
                  refine v_lload_n X dX8_kindBy_48 rfl ?_
                  refine v_ldc2 X (List.mem_of_getElem? (i := 5) rfl) dX8_kindBy_49 (n := 1953064037) (by decide) ?_
                  refine v_lcmp X dX8_kindBy_52 (by omega) (by omega) (fun c12 => ?_) (fun c12 => ?_) (fun c12 => ?_)
                  · skip
                    refine v_if_ne (tgt := 60) X dX8_kindBy_53 (by decide) (by decide) (fun hh => ?_) (fun hh => ?_)
                    · skip
                      refine v_ldc X (List.mem_of_getElem? (i := 6) rfl) dX8_kindBy_60 (n := -1000000) (by decide) ?_
                      exact v_iret X Y dX8_kindBy_62 (u := ()) (by unfold kndI; repeat (first | rw [if_pos (by assumption)] | rw [if_neg (by assumption)])) (by rfl)
                    · skip
                      exfalso; omega
                  · skip
                    refine v_if_ne (tgt := 60) X dX8_kindBy_53 (by decide) (by decide) (fun hh => ?_) (fun hh => ?_)
                    · skip
                      exfalso; omega
                    · skip
                      refine v_iconst X dX8_kindBy_56 ?_
                      refine v_goto (tgt := 62) X dX8_kindBy_57 (by decide) ?_
                      exact v_iret X Y dX8_kindBy_62 (u := ()) (by unfold kndI; repeat (first | rw [if_pos (by assumption)] | rw [if_neg (by assumption)])) (by rfl)
                  · skip
                    refine v_if_ne (tgt := 60) X dX8_kindBy_53 (by decide) (by decide) (fun hh => ?_) (fun hh => ?_)
                    · skip
                      refine v_ldc X (List.mem_of_getElem? (i := 6) rfl) dX8_kindBy_60 (n := -1000000) (by decide) ?_
                      exact v_iret X Y dX8_kindBy_62 (u := ()) (by unfold kndI; repeat (first | rw [if_pos (by assumption)] | rw [if_neg (by assumption)])) (by rfl)
                    · skip
                      exfalso; omega
                · skip
                  exfalso; omega
              · skip
                refine v_if_ne (tgt := 48) X dX8_kindBy_41 (by decide) (by decide) (fun hh => ?_) (fun hh => ?_)
                · skip
                  exfalso; omega
                · skip
                  refine v_iconst X dX8_kindBy_44 ?_
                  refine v_goto (tgt := 62) X dX8_kindBy_45 (by decide) ?_
                  exact v_iret X Y dX8_kindBy_62 (u := ()) (by unfold kndI; repeat (first | rw [if_pos (by assumption)] | rw [if_neg (by assumption)])) (by rfl)
              · skip
                refine v_if_ne (tgt := 48) X dX8_kindBy_41 (by decide) (by decide) (fun hh => ?_) (fun hh => ?_)
                · skip
                  refine v_lload_n X dX8_kindBy_48 rfl ?_
                  refine v_ldc2 X (List.mem_of_getElem? (i := 5) rfl) dX8_kindBy_49 (n := 1953064037) (by decide) ?_
                  refine v_lcmp X dX8_kindBy_52 (by omega) (by omega) (fun c13 => ?_) (fun c13 => ?_) (fun c13 => ?_)
                  · skip
                    refine v_if_ne (tgt := 60) X dX8_kindBy_53 (by decide) (by decide) (fun hh => ?_) (fun hh => ?_)
                    · skip
                      refine v_ldc X (List.mem_of_getElem? (i := 6) rfl) dX8_kindBy_60 (n := -1000000) (by decide) ?_
                      exact v_iret X Y dX8_kindBy_62 (u := ()) (by unfold kndI; repeat (first | rw [if_pos (by assumption)] | rw [if_neg (by assumption)])) (by rfl)
                    · skip
                      exfalso; omega
                  · skip
                    refine v_if_ne (tgt := 60) X dX8_kindBy_53 (by decide) (by decide) (fun hh => ?_) (fun hh => ?_)
                    · skip
                      exfalso; omega
                    · skip
                      refine v_iconst X dX8_kindBy_56 ?_
                      refine v_goto (tgt := 62) X dX8_kindBy_57 (by decide) ?_
                      exact v_iret X Y dX8_kindBy_62 (u := ()) (by unfold kndI; repeat (first | rw [if_pos (by assumption)] | rw [if_neg (by assumption)])) (by rfl)
                  · skip
                    refine v_if_ne (tgt := 60) X dX8_kindBy_53 (by decide) (by decide) (fun hh => ?_) (fun hh => ?_)
                    · skip
                      refine v_ldc X (List.mem_of_getElem? (i := 6) rfl) dX8_kindBy_60 (n := -1000000) (by decide) ?_
                      exact v_iret X Y dX8_kindBy_62 (u := ()) (by unfold kndI; repeat (first | rw [if_pos (by assumption)] | rw [if_neg (by assumption)])) (by rfl)
                    · skip
                      exfalso; omega
                · skip
                  exfalso; omega
            · skip
              exfalso; omega
          · skip
            refine v_if_ne (tgt := 36) X dX8_kindBy_29 (by decide) (by decide) (fun hh => ?_) (fun hh => ?_)
            · skip
              exfalso; omega
            · skip
              refine v_iconst X dX8_kindBy_32 ?_
              refine v_goto (tgt := 62) X dX8_kindBy_33 (by decide) ?_
              exact v_iret X Y dX8_kindBy_62 (u := ()) (by unfold kndI; repeat (first | rw [if_pos (by assumption)] | rw [if_neg (by assumption)])) (by rfl)
          · skip
            refine v_if_ne (tgt := 36) X dX8_kindBy_29 (by decide) (by decide) (fun hh => ?_) (fun hh => ?_)
            · skip
              refine v_lload_n X dX8_kindBy_36 rfl ?_
              refine v_ldc2 X (List.mem_of_getElem? (i := 4) rfl) dX8_kindBy_37 (n := 1650549611) (by decide) ?_
              refine v_lcmp X dX8_kindBy_40 (by omega) (by omega) (fun c14 => ?_) (fun c14 => ?_) (fun c14 => ?_)
              · skip
                refine v_if_ne (tgt := 48) X dX8_kindBy_41 (by decide) (by decide) (fun hh => ?_) (fun hh => ?_)
                · skip
                  refine v_lload_n X dX8_kindBy_48 rfl ?_
                  refine v_ldc2 X (List.mem_of_getElem? (i := 5) rfl) dX8_kindBy_49 (n := 1953064037) (by decide) ?_
                  refine v_lcmp X dX8_kindBy_52 (by omega) (by omega) (fun c15 => ?_) (fun c15 => ?_) (fun c15 => ?_)
                  · skip
                    refine v_if_ne (tgt := 60) X dX8_kindBy_53 (by decide) (by decide) (fun hh => ?_) (fun hh => ?_)
                    · skip
                      refine v_ldc X (List.mem_of_getElem? (i := 6) rfl) dX8_kindBy_60 (n := -1000000) (by decide) ?_
                      exact v_iret X Y dX8_kindBy_62 (u := ()) (by unfold kndI; repeat (first | rw [if_pos (by assumption)] | rw [if_neg (by assumption)])) (by rfl)
                    · skip
                      exfalso; omega
                  · skip
                    refine v_if_ne (tgt := 60) X dX8_kindBy_53 (by decide) (by decide) (fun hh => ?_) (fun hh => ?_)
                    · skip
                      exfalso; omega
                    · skip
                      refine v_iconst X dX8_kindBy_56 ?_
                      refine v_goto (tgt := 62) X dX8_kindBy_57 (by decide) ?_
                      exact v_iret X Y dX8_kindBy_62 (u := ()) (by unfold kndI; repeat (first | rw [if_pos (by assumption)] | rw [if_neg (by assumption)])) (by rfl)
                  · skip
                    refine v_if_ne (tgt := 60) X dX8_kindBy_53 (by decide) (by decide) (fun hh => ?_) (fun hh => ?_)
                    · skip
                      refine v_ldc X (List.mem_of_getElem? (i := 6) rfl) dX8_kindBy_60 (n := -1000000) (by decide) ?_
                      exact v_iret X Y dX8_kindBy_62 (u := ()) (by unfold kndI; repeat (first | rw [if_pos (by assumption)] | rw [if_neg (by assumption)])) (by rfl)
                    · skip
                      exfalso; omega
                · skip
                  exfalso; omega
              · skip
                refine v_if_ne (tgt := 48) X dX8_kindBy_41 (by decide) (by decide) (fun hh => ?_) (fun hh => ?_)
                · skip
                  exfalso; omega
                · skip
                  refine v_iconst X dX8_kindBy_44 ?_
                  refine v_goto (tgt := 62) X dX8_kindBy_45 (by decide) ?_
                  exact v_iret X Y dX8_kindBy_62 (u := ()) (by unfold kndI; repeat (first | rw [if_pos (by assumption)] | rw [if_neg (by assumption)])) (by rfl)
              · skip
                refine v_if_ne (tgt := 48) X dX8_kindBy_41 (by decide) (by decide) (fun hh => ?_) (fun hh => ?_)
                · skip
                  refine v_lload_n X dX8_kindBy_48 rfl ?_
                  refine v_ldc2 X (List.mem_of_getElem? (i := 5) rfl) dX8_kindBy_49 (n := 1953064037) (by decide) ?_
                  refine v_lcmp X dX8_kindBy_52 (by omega) (by omega) (fun c16 => ?_) (fun c16 => ?_) (fun c16 => ?_)
                  · skip
                    refine v_if_ne (tgt := 60) X dX8_kindBy_53 (by decide) (by decide) (fun hh => ?_) (fun hh => ?_)
                    · skip
                      refine v_ldc X (List.mem_of_getElem? (i := 6) rfl) dX8_kindBy_60 (n := -1000000) (by decide) ?_
                      exact v_iret X Y dX8_kindBy_62 (u := ()) (by unfold kndI; repeat (first | rw [if_pos (by assumption)] | rw [if_neg (by assumption)])) (by rfl)
                    · skip
                      exfalso; omega
                  · skip
                    refine v_if_ne (tgt := 60) X dX8_kindBy_53 (by decide) (by decide) (fun hh => ?_) (fun hh => ?_)
                    · skip
                      exfalso; omega
                    · skip
                      refine v_iconst X dX8_kindBy_56 ?_
                      refine v_goto (tgt := 62) X dX8_kindBy_57 (by decide) ?_
                      exact v_iret X Y dX8_kindBy_62 (u := ()) (by unfold kndI; repeat (first | rw [if_pos (by assumption)] | rw [if_neg (by assumption)])) (by rfl)
                  · skip
                    refine v_if_ne (tgt := 60) X dX8_kindBy_53 (by decide) (by decide) (fun hh => ?_) (fun hh => ?_)
                    · skip
                      refine v_ldc X (List.mem_of_getElem? (i := 6) rfl) dX8_kindBy_60 (n := -1000000) (by decide) ?_
                      exact v_iret X Y dX8_kindBy_62 (u := ()) (by unfold kndI; repeat (first | rw [if_pos (by assumption)] | rw [if_neg (by assumption)])) (by rfl)
                    · skip
                      exfalso; omega
                · skip
                  exfalso; omega
            · skip
              exfalso; omega
        · skip
          exfalso; omega
    · skip
      exfalso; omega
  · skip
    refine v_if_ne (tgt := 12) X dX8_kindBy_5 (by decide) (by decide) (fun hh => ?_) (fun hh => ?_)
    · skip
      exfalso; omega
    · skip
      refine v_iconst X dX8_kindBy_8 ?_
      refine v_goto (tgt := 62) X dX8_kindBy_9 (by decide) ?_
      exact v_iret X Y dX8_kindBy_62 (u := ()) (by unfold kndI; repeat (first | rw [if_pos (by assumption)] | rw [if_neg (by assumption)])) (by rfl)
  · skip
    refine v_if_ne (tgt := 12) X dX8_kindBy_5 (by decide) (by decide) (fun hh => ?_) (fun hh => ?_)
    · skip
      refine v_lload_n X dX8_kindBy_12 rfl ?_
      refine v_ldc2 X (List.mem_of_getElem? (i := 2) rfl) dX8_kindBy_13 (n := 1836019566) (by decide) ?_
      refine v_lcmp X dX8_kindBy_16 (by omega) (by omega) (fun c17 => ?_) (fun c17 => ?_) (fun c17 => ?_)
      · skip
        refine v_if_ne (tgt := 24) X dX8_kindBy_17 (by decide) (by decide) (fun hh => ?_) (fun hh => ?_)
        · skip
          refine v_lload_n X dX8_kindBy_24 rfl ?_
          refine v_ldc2 X (List.mem_of_getElem? (i := 3) rfl) dX8_kindBy_25 (n := 495924372848) (by decide) ?_
          refine v_lcmp X dX8_kindBy_28 (by omega) (by omega) (fun c18 => ?_) (fun c18 => ?_) (fun c18 => ?_)
          · skip
            refine v_if_ne (tgt := 36) X dX8_kindBy_29 (by decide) (by decide) (fun hh => ?_) (fun hh => ?_)
            · skip
              refine v_lload_n X dX8_kindBy_36 rfl ?_
              refine v_ldc2 X (List.mem_of_getElem? (i := 4) rfl) dX8_kindBy_37 (n := 1650549611) (by decide) ?_
              refine v_lcmp X dX8_kindBy_40 (by omega) (by omega) (fun c19 => ?_) (fun c19 => ?_) (fun c19 => ?_)
              · skip
                refine v_if_ne (tgt := 48) X dX8_kindBy_41 (by decide) (by decide) (fun hh => ?_) (fun hh => ?_)
                · skip
                  refine v_lload_n X dX8_kindBy_48 rfl ?_
                  refine v_ldc2 X (List.mem_of_getElem? (i := 5) rfl) dX8_kindBy_49 (n := 1953064037) (by decide) ?_
                  refine v_lcmp X dX8_kindBy_52 (by omega) (by omega) (fun c20 => ?_) (fun c20 => ?_) (fun c20 => ?_)
                  · skip
                    refine v_if_ne (tgt := 60) X dX8_kindBy_53 (by decide) (by decide) (fun hh => ?_) (fun hh => ?_)
                    · skip
                      refine v_ldc X (List.mem_of_getElem? (i := 6) rfl) dX8_kindBy_60 (n := -1000000) (by decide) ?_
                      exact v_iret X Y dX8_kindBy_62 (u := ()) (by unfold kndI; repeat (first | rw [if_pos (by assumption)] | rw [if_neg (by assumption)])) (by rfl)
                    · skip
                      exfalso; omega
                  · skip
                    refine v_if_ne (tgt := 60) X dX8_kindBy_53 (by decide) (by decide) (fun hh => ?_) (fun hh => ?_)
                    · skip
                      exfalso; omega
                    · skip
                      refine v_iconst X dX8_kindBy_56 ?_
                      refine v_goto (tgt := 62) X dX8_kindBy_57 (by decide) ?_
                      exact v_iret X Y dX8_kindBy_62 (u := ()) (by unfold kndI; repeat (first | rw [if_pos (by assumption)] | rw [if_neg (by assumption)])) (by rfl)
                  · skip
                    refine v_if_ne (tgt := 60) X dX8_kindBy_53 (by decide) (by decide) (fun hh => ?_) (fun hh => ?_)
                    · skip
                      refine v_ldc X (List.mem_of_getElem? (i := 6) rfl) dX8_kindBy_60 (n := -1000000) (by decide) ?_
                      exact v_iret X Y dX8_kindBy_62 (u := ()) (by unfold kndI; repeat (first | rw [if_pos (by assumption)] | rw [if_neg (by assumption)])) (by rfl)
                    · skip
                      exfalso; omega
                · skip
                  exfalso; omega
              · skip
                refine v_if_ne (tgt := 48) X dX8_kindBy_41 (by decide) (by decide) (fun hh => ?_) (fun hh => ?_)
                · skip
                  exfalso; omega
                · skip
                  refine v_iconst X dX8_kindBy_44 ?_
                  refine v_goto (tgt := 62) X dX8_kindBy_45 (by decide) ?_
                  exact v_iret X Y dX8_kindBy_62 (u := ()) (by unfold kndI; repeat (first | rw [if_pos (by assumption)] | rw [if_neg (by assumption)])) (by rfl)
              · skip
                refine v_if_ne (tgt := 48) X dX8_kindBy_41 (by decide) (by decide) (fun hh => ?_) (fun hh => ?_)
                · skip
                  refine v_lload_n X dX8_kindBy_48 rfl ?_
                  refine v_ldc2 X (List.mem_of_getElem? (i := 5) rfl) dX8_kindBy_49 (n := 1953064037) (by decide) ?_
                  refine v_lcmp X dX8_kindBy_52 (by omega) (by omega) (fun c21 => ?_) (fun c21 => ?_) (fun c21 => ?_)
                  · skip
                    refine v_if_ne (tgt := 60) X dX8_kindBy_53 (by decide) (by decide) (fun hh => ?_) (fun hh => ?_)
                    · skip
                      refine v_ldc X (List.mem_of_getElem? (i := 6) rfl) dX8_kindBy_60 (n := -1000000) (by decide) ?_
                      exact v_iret X Y dX8_kindBy_62 (u := ()) (by unfold kndI; repeat (first | rw [if_pos (by assumption)] | rw [if_neg (by assumption)])) (by rfl)
                    · skip
                      exfalso; omega
                  · skip
                    refine v_if_ne (tgt := 60) X dX8_kindBy_53 (by decide) (by decide) (fun hh => ?_) (fun hh => ?_)
                    · skip
                      exfalso; omega
                    · skip
                      refine v_iconst X dX8_kindBy_56 ?_
                      refine v_goto (tgt := 62) X dX8_kindBy_57 (by decide) ?_
                      exact v_iret X Y dX8_kindBy_62 (u := ()) (by unfold kndI; repeat (first | rw [if_pos (by assumption)] | rw [if_neg (by assumption)])) (by rfl)
                  · skip
                    refine v_if_ne (tgt := 60) X dX8_kindBy_53 (by decide) (by decide) (fun hh => ?_) (fun hh => ?_)
                    · skip
                      refine v_ldc X (List.mem_of_getElem? (i := 6) rfl) dX8_kindBy_60 (n := -1000000) (by decide) ?_
                      exact v_iret X Y dX8_kindBy_62 (u := ()) (by unfold kndI; repeat (first | rw [if_pos (by assumption)] | rw [if_neg (by assumption)])) (by rfl)
                    · skip
                      exfalso; omega
                · skip
                  exfalso; omega
            · skip
              exfalso; omega
          · skip
            refine v_if_ne (tgt := 36) X dX8_kindBy_29 (by decide) (by decide) (fun hh => ?_) (fun hh => ?_)
            · skip
              exfalso; omega
            · skip
              refine v_iconst X dX8_kindBy_32 ?_
              refine v_goto (tgt := 62) X dX8_kindBy_33 (by decide) ?_
              exact v_iret X Y dX8_kindBy_62 (u := ()) (by unfold kndI; repeat (first | rw [if_pos (by assumption)] | rw [if_neg (by assumption)])) (by rfl)
          · skip
            refine v_if_ne (tgt := 36) X dX8_kindBy_29 (by decide) (by decide) (fun hh => ?_) (fun hh => ?_)
            · skip
              refine v_lload_n X dX8_kindBy_36 rfl ?_
              refine v_ldc2 X (List.mem_of_getElem? (i := 4) rfl) dX8_kindBy_37 (n := 1650549611) (by decide) ?_
              refine v_lcmp X dX8_kindBy_40 (by omega) (by omega) (fun c22 => ?_) (fun c22 => ?_) (fun c22 => ?_)
              · skip
                refine v_if_ne (tgt := 48) X dX8_kindBy_41 (by decide) (by decide) (fun hh => ?_) (fun hh => ?_)
                · skip
                  refine v_lload_n X dX8_kindBy_48 rfl ?_
                  refine v_ldc2 X (List.mem_of_getElem? (i := 5) rfl) dX8_kindBy_49 (n := 1953064037) (by decide) ?_
                  refine v_lcmp X dX8_kindBy_52 (by omega) (by omega) (fun c23 => ?_) (fun c23 => ?_) (fun c23 => ?_)
                  · skip
                    refine v_if_ne (tgt := 60) X dX8_kindBy_53 (by decide) (by decide) (fun hh => ?_) (fun hh => ?_)
                    · skip
                      refine v_ldc X (List.mem_of_getElem? (i := 6) rfl) dX8_kindBy_60 (n := -1000000) (by decide) ?_
                      exact v_iret X Y dX8_kindBy_62 (u := ()) (by unfold kndI; repeat (first | rw [if_pos (by assumption)] | rw [if_neg (by assumption)])) (by rfl)
                    · skip
                      exfalso; omega
                  · skip
                    refine v_if_ne (tgt := 60) X dX8_kindBy_53 (by decide) (by decide) (fun hh => ?_) (fun hh => ?_)
                    · skip
                      exfalso; omega
                    · skip
                      refine v_iconst X dX8_kindBy_56 ?_
                      refine v_goto (tgt := 62) X dX8_kindBy_57 (by decide) ?_
                      exact v_iret X Y dX8_kindBy_62 (u := ()) (by unfold kndI; repeat (first | rw [if_pos (by assumption)] | rw [if_neg (by assumption)])) (by rfl)
                  · skip
                    refine v_if_ne (tgt := 60) X dX8_kindBy_53 (by decide) (by decide) (fun hh => ?_) (fun hh => ?_)
                    · skip
                      refine v_ldc X (List.mem_of_getElem? (i := 6) rfl) dX8_kindBy_60 (n := -1000000) (by decide) ?_
                      exact v_iret X Y dX8_kindBy_62 (u := ()) (by unfold kndI; repeat (first | rw [if_pos (by assumption)] | rw [if_neg (by assumption)])) (by rfl)
                    · skip
                      exfalso; omega
                · skip
                  exfalso; omega
              · skip
                refine v_if_ne (tgt := 48) X dX8_kindBy_41 (by decide) (by decide) (fun hh => ?_) (fun hh => ?_)
                · skip
                  exfalso; omega
                · skip
                  refine v_iconst X dX8_kindBy_44 ?_
                  refine v_goto (tgt := 62) X dX8_kindBy_45 (by decide) ?_
                  exact v_iret X Y dX8_kindBy_62 (u := ()) (by unfold kndI; repeat (first | rw [if_pos (by assumption)] | rw [if_neg (by assumption)])) (by rfl)
              · skip
                refine v_if_ne (tgt := 48) X dX8_kindBy_41 (by decide) (by decide) (fun hh => ?_) (fun hh => ?_)
                · skip
                  refine v_lload_n X dX8_kindBy_48 rfl ?_
                  refine v_ldc2 X (List.mem_of_getElem? (i := 5) rfl) dX8_kindBy_49 (n := 1953064037) (by decide) ?_
                  refine v_lcmp X dX8_kindBy_52 (by omega) (by omega) (fun c24 => ?_) (fun c24 => ?_) (fun c24 => ?_)
                  · skip
                    refine v_if_ne (tgt := 60) X dX8_kindBy_53 (by decide) (by decide) (fun hh => ?_) (fun hh => ?_)
                    · skip
                      refine v_ldc X (List.mem_of_getElem? (i := 6) rfl) dX8_kindBy_60 (n := -1000000) (by decide) ?_
                      exact v_iret X Y dX8_kindBy_62 (u := ()) (by unfold kndI; repeat (first | rw [if_pos (by assumption)] | rw [if_neg (by assumption)])) (by rfl)
                    · skip
                      exfalso; omega
                  · skip
                    refine v_if_ne (tgt := 60) X dX8_kindBy_53 (by decide) (by decide) (fun hh => ?_) (fun hh => ?_)
                    · skip
                      exfalso; omega
                    · skip
                      refine v_iconst X dX8_kindBy_56 ?_
                      refine v_goto (tgt := 62) X dX8_kindBy_57 (by decide) ?_
                      exact v_iret X Y dX8_kindBy_62 (u := ()) (by unfold kndI; repeat (first | rw [if_pos (by assumption)] | rw [if_neg (by assumption)])) (by rfl)
                  · skip
                    refine v_if_ne (tgt := 60) X dX8_kindBy_53 (by decide) (by decide) (fun hh => ?_) (fun hh => ?_)
                    · skip
                      refine v_ldc X (List.mem_of_getElem? (i := 6) rfl) dX8_kindBy_60 (n := -1000000) (by decide) ?_
                      exact v_iret X Y dX8_kindBy_62 (u := ()) (by unfold kndI; repeat (first | rw [if_pos (by assumption)] | rw [if_neg (by assumption)])) (by rfl)
                    · skip
                      exfalso; omega
                · skip
                  exfalso; omega
            · skip
              exfalso; omega
        · skip
          exfalso; omega
      · skip
        refine v_if_ne (tgt := 24) X dX8_kindBy_17 (by decide) (by decide) (fun hh => ?_) (fun hh => ?_)
        · skip
          exfalso; omega
        · skip
          refine v_iconst X dX8_kindBy_20 ?_
          refine v_goto (tgt := 62) X dX8_kindBy_21 (by decide) ?_
          exact v_iret X Y dX8_kindBy_62 (u := ()) (by unfold kndI; repeat (first | rw [if_pos (by assumption)] | rw [if_neg (by assumption)])) (by rfl)
      · skip
        refine v_if_ne (tgt := 24) X dX8_kindBy_17 (by decide) (by decide) (fun hh => ?_) (fun hh => ?_)
        · skip
          refine v_lload_n X dX8_kindBy_24 rfl ?_
          refine v_ldc2 X (List.mem_of_getElem? (i := 3) rfl) dX8_kindBy_25 (n := 495924372848) (by decide) ?_
          refine v_lcmp X dX8_kindBy_28 (by omega) (by omega) (fun c25 => ?_) (fun c25 => ?_) (fun c25 => ?_)
          · skip
            refine v_if_ne (tgt := 36) X dX8_kindBy_29 (by decide) (by decide) (fun hh => ?_) (fun hh => ?_)
            · skip
              refine v_lload_n X dX8_kindBy_36 rfl ?_
              refine v_ldc2 X (List.mem_of_getElem? (i := 4) rfl) dX8_kindBy_37 (n := 1650549611) (by decide) ?_
              refine v_lcmp X dX8_kindBy_40 (by omega) (by omega) (fun c26 => ?_) (fun c26 => ?_) (fun c26 => ?_)
              · skip
                refine v_if_ne (tgt := 48) X dX8_kindBy_41 (by decide) (by decide) (fun hh => ?_) (fun hh => ?_)
                · skip
                  refine v_lload_n X dX8_kindBy_48 rfl ?_
                  refine v_ldc2 X (List.mem_of_getElem? (i := 5) rfl) dX8_kindBy_49 (n := 1953064037) (by decide) ?_
                  refine v_lcmp X dX8_kindBy_52 (by omega) (by omega) (fun c27 => ?_) (fun c27 => ?_) (fun c27 => ?_)
                  · skip
                    refine v_if_ne (tgt := 60) X dX8_kindBy_53 (by decide) (by decide) (fun hh => ?_) (fun hh => ?_)
                    · skip
                      refine v_ldc X (List.mem_of_getElem? (i := 6) rfl) dX8_kindBy_60 (n := -1000000) (by decide) ?_
                      exact v_iret X Y dX8_kindBy_62 (u := ()) (by unfold kndI; repeat (first | rw [if_pos (by assumption)] | rw [if_neg (by assumption)])) (by rfl)
                    · skip
                      exfalso; omega
                  · skip
                    refine v_if_ne (tgt := 60) X dX8_kindBy_53 (by decide) (by decide) (fun hh => ?_) (fun hh => ?_)
                    · skip
                      exfalso; omega
                    · skip
                      refine v_iconst X dX8_kindBy_56 ?_
                      refine v_goto (tgt := 62) X dX8_kindBy_57 (by decide) ?_
                      exact v_iret X Y dX8_kindBy_62 (u := ()) (by unfold kndI; repeat (first | rw [if_pos (by assumption)] | rw [if_neg (by assumption)])) (by rfl)
                  · skip
                    refine v_if_ne (tgt := 60) X dX8_kindBy_53 (by decide) (by decide) (fun hh => ?_) (fun hh => ?_)
                    · skip
                      refine v_ldc X (List.mem_of_getElem? (i := 6) rfl) dX8_kindBy_60 (n := -1000000) (by decide) ?_
                      exact v_iret X Y dX8_kindBy_62 (u := ()) (by unfold kndI; repeat (first | rw [if_pos (by assumption)] | rw [if_neg (by assumption)])) (by rfl)
                    · skip
                      exfalso; omega
                · skip
                  exfalso; omega
              · skip
                refine v_if_ne (tgt := 48) X dX8_kindBy_41 (by decide) (by decide) (fun hh => ?_) (fun hh => ?_)
                · skip
                  exfalso; omega
                · skip
                  refine v_iconst X dX8_kindBy_44 ?_
                  refine v_goto (tgt := 62) X dX8_kindBy_45 (by decide) ?_
                  exact v_iret X Y dX8_kindBy_62 (u := ()) (by unfold kndI; repeat (first | rw [if_pos (by assumption)] | rw [if_neg (by assumption)])) (by rfl)
              · skip
                refine v_if_ne (tgt := 48) X dX8_kindBy_41 (by decide) (by decide) (fun hh => ?_) (fun hh => ?_)
                · skip
                  refine v_lload_n X dX8_kindBy_48 rfl ?_
                  refine v_ldc2 X (List.mem_of_getElem? (i := 5) rfl) dX8_kindBy_49 (n := 1953064037) (by decide) ?_
                  refine v_lcmp X dX8_kindBy_52 (by omega) (by omega) (fun c28 => ?_) (fun c28 => ?_) (fun c28 => ?_)
                  · skip
                    refine v_if_ne (tgt := 60) X dX8_kindBy_53 (by decide) (by decide) (fun hh => ?_) (fun hh => ?_)
                    · skip
                      refine v_ldc X (List.mem_of_getElem? (i := 6) rfl) dX8_kindBy_60 (n := -1000000) (by decide) ?_
                      exact v_iret X Y dX8_kindBy_62 (u := ()) (by unfold kndI; repeat (first | rw [if_pos (by assumption)] | rw [if_neg (by assumption)])) (by rfl)
                    · skip
                      exfalso; omega
                  · skip
                    refine v_if_ne (tgt := 60) X dX8_kindBy_53 (by decide) (by decide) (fun hh => ?_) (fun hh => ?_)
                    · skip
                      exfalso; omega
                    · skip
                      refine v_iconst X dX8_kindBy_56 ?_
                      refine v_goto (tgt := 62) X dX8_kindBy_57 (by decide) ?_
                      exact v_iret X Y dX8_kindBy_62 (u := ()) (by unfold kndI; repeat (first | rw [if_pos (by assumption)] | rw [if_neg (by assumption)])) (by rfl)
                  · skip
                    refine v_if_ne (tgt := 60) X dX8_kindBy_53 (by decide) (by decide) (fun hh => ?_) (fun hh => ?_)
                    · skip
                      refine v_ldc X (List.mem_of_getElem? (i := 6) rfl) dX8_kindBy_60 (n := -1000000) (by decide) ?_
                      exact v_iret X Y dX8_kindBy_62 (u := ()) (by unfold kndI; repeat (first | rw [if_pos (by assumption)] | rw [if_neg (by assumption)])) (by rfl)
                    · skip
                      exfalso; omega
                · skip
                  exfalso; omega
            · skip
              exfalso; omega
          · skip
            refine v_if_ne (tgt := 36) X dX8_kindBy_29 (by decide) (by decide) (fun hh => ?_) (fun hh => ?_)
            · skip
              exfalso; omega
            · skip
              refine v_iconst X dX8_kindBy_32 ?_
              refine v_goto (tgt := 62) X dX8_kindBy_33 (by decide) ?_
              exact v_iret X Y dX8_kindBy_62 (u := ()) (by unfold kndI; repeat (first | rw [if_pos (by assumption)] | rw [if_neg (by assumption)])) (by rfl)
          · skip
            refine v_if_ne (tgt := 36) X dX8_kindBy_29 (by decide) (by decide) (fun hh => ?_) (fun hh => ?_)
            · skip
              refine v_lload_n X dX8_kindBy_36 rfl ?_
              refine v_ldc2 X (List.mem_of_getElem? (i := 4) rfl) dX8_kindBy_37 (n := 1650549611) (by decide) ?_
              refine v_lcmp X dX8_kindBy_40 (by omega) (by omega) (fun c29 => ?_) (fun c29 => ?_) (fun c29 => ?_)
              · skip
                refine v_if_ne (tgt := 48) X dX8_kindBy_41 (by decide) (by decide) (fun hh => ?_) (fun hh => ?_)
                · skip
                  refine v_lload_n X dX8_kindBy_48 rfl ?_
                  refine v_ldc2 X (List.mem_of_getElem? (i := 5) rfl) dX8_kindBy_49 (n := 1953064037) (by decide) ?_
                  refine v_lcmp X dX8_kindBy_52 (by omega) (by omega) (fun c30 => ?_) (fun c30 => ?_) (fun c30 => ?_)
                  · skip
                    refine v_if_ne (tgt := 60) X dX8_kindBy_53 (by decide) (by decide) (fun hh => ?_) (fun hh => ?_)
                    · skip
                      refine v_ldc X (List.mem_of_getElem? (i := 6) rfl) dX8_kindBy_60 (n := -1000000) (by decide) ?_
                      exact v_iret X Y dX8_kindBy_62 (u := ()) (by unfold kndI; repeat (first | rw [if_pos (by assumption)] | rw [if_neg (by assumption)])) (by rfl)
                    · skip
                      exfalso; omega
                  · skip
                    refine v_if_ne (tgt := 60) X dX8_kindBy_53 (by decide) (by decide) (fun hh => ?_) (fun hh => ?_)
                    · skip
                      exfalso; omega
                    · skip
                      refine v_iconst X dX8_kindBy_56 ?_
                      refine v_goto (tgt := 62) X dX8_kindBy_57 (by decide) ?_
                      exact v_iret X Y dX8_kindBy_62 (u := ()) (by unfold kndI; repeat (first | rw [if_pos (by assumption)] | rw [if_neg (by assumption)])) (by rfl)
                  · skip
                    refine v_if_ne (tgt := 60) X dX8_kindBy_53 (by decide) (by decide) (fun hh => ?_) (fun hh => ?_)
                    · skip
                      refine v_ldc X (List.mem_of_getElem? (i := 6) rfl) dX8_kindBy_60 (n := -1000000) (by decide) ?_
                      exact v_iret X Y dX8_kindBy_62 (u := ()) (by unfold kndI; repeat (first | rw [if_pos (by assumption)] | rw [if_neg (by assumption)])) (by rfl)
                    · skip
                      exfalso; omega
                · skip
                  exfalso; omega
              · skip
                refine v_if_ne (tgt := 48) X dX8_kindBy_41 (by decide) (by decide) (fun hh => ?_) (fun hh => ?_)
                · skip
                  exfalso; omega
                · skip
                  refine v_iconst X dX8_kindBy_44 ?_
                  refine v_goto (tgt := 62) X dX8_kindBy_45 (by decide) ?_
                  exact v_iret X Y dX8_kindBy_62 (u := ()) (by unfold kndI; repeat (first | rw [if_pos (by assumption)] | rw [if_neg (by assumption)])) (by rfl)
              · skip
                refine v_if_ne (tgt := 48) X dX8_kindBy_41 (by decide) (by decide) (fun hh => ?_) (fun hh => ?_)
                · skip
                  refine v_lload_n X dX8_kindBy_48 rfl ?_
                  refine v_ldc2 X (List.mem_of_getElem? (i := 5) rfl) dX8_kindBy_49 (n := 1953064037) (by decide) ?_
                  refine v_lcmp X dX8_kindBy_52 (by omega) (by omega) (fun c31 => ?_) (fun c31 => ?_) (fun c31 => ?_)
                  · skip
                    refine v_if_ne (tgt := 60) X dX8_kindBy_53 (by decide) (by decide) (fun hh => ?_) (fun hh => ?_)
                    · skip
                      refine v_ldc X (List.mem_of_getElem? (i := 6) rfl) dX8_kindBy_60 (n := -1000000) (by decide) ?_
                      exact v_iret X Y dX8_kindBy_62 (u := ()) (by unfold kndI; repeat (first | rw [if_pos (by assumption)] | rw [if_neg (by assumption)])) (by rfl)
                    · skip
                      exfalso; omega
                  · skip
                    refine v_if_ne (tgt := 60) X dX8_kindBy_53 (by decide) (by decide) (fun hh => ?_) (fun hh => ?_)
                    · skip
                      exfalso; omega
                    · skip
                      refine v_iconst X dX8_kindBy_56 ?_
                      refine v_goto (tgt := 62) X dX8_kindBy_57 (by decide) ?_
                      exact v_iret X Y dX8_kindBy_62 (u := ()) (by unfold kndI; repeat (first | rw [if_pos (by assumption)] | rw [if_neg (by assumption)])) (by rfl)
                  · skip
                    refine v_if_ne (tgt := 60) X dX8_kindBy_53 (by decide) (by decide) (fun hh => ?_) (fun hh => ?_)
                    · skip
                      refine v_ldc X (List.mem_of_getElem? (i := 6) rfl) dX8_kindBy_60 (n := -1000000) (by decide) ?_
                      exact v_iret X Y dX8_kindBy_62 (u := ()) (by unfold kndI; repeat (first | rw [if_pos (by assumption)] | rw [if_neg (by assumption)])) (by rfl)
                    · skip
                      exfalso; omega
                · skip
                  exfalso; omega
            · skip
              exfalso; omega
        · skip
          exfalso; omega
    · skip
      exfalso; omega

theorem hdX8_finding : yX8_finding.cls = RX8 ∧ yX8_finding.cls ≠ "java/lang/invoke/MethodHandle" ∧ yX8_finding.cls ≠ "java/lang/invoke/VarHandle" ∧ (parseMethodDescriptor yX8_finding.desc).map (fun d => d.parameters.length) = some 1 := ⟨rfl, by decide +kernel, by decide +kernel, by decide +kernel⟩
set_option maxHeartbeats 4000000 in
set_option maxRecDepth 100000 in
theorem c_X8_finding {g : Gx} {A : Nat → Nat} {th sq ac td lt ln cu tk sa ti ft fp le lf tr : Int} {fl fm fi fc ff fw ftp fk fe fr : Nat → Int} {n : Int}  : CtE g yX8_finding wsX8_finding 0 0 [.ref (A 0), .int (iI n)] (wMod g A th sq ac td lt ln cu tk sa ti ft fp le lf tr fl fm fi fc ff fw ftp fk fe fr) (-1000010 - n) (wMod g A th (n) ac td lt ln cu tk sa ti ft fp le lf tr fl fm fi fc ff fw ftp fk fe fr) := by
  refine m_go (cc := cX8_finding) (nL := 2) (by decide +kernel) rfl (Nat.le_of_ble_eq_true rfl) (fun x X Y hnm => ?_)
  refine v_eq (lo2 := [some (.ref (A 0)), some (.int (iI n))]) rfl rfl rfl rfl ?_
  refine v_aload_n X dX8_finding_0 rfl ?_
  refine v_iload_n X dX8_finding_1 rfl ?_
  refine v_put X (fun _ h => List.mem_cons_of_mem _ (List.mem_append_right _ h)) tyX8 tyX8_ok nmX8 0 rfl rfl 1 (by decide) rfl (List.mem_of_getElem? (i := 1) rfl) rfl rfl rfl (Nat.le_of_ble_eq_true rfl) dX8_finding_2 ?_
  dsimp only [List.set, wMod]
  refine v_ldc X (List.mem_of_getElem? (i := 2) rfl) dX8_finding_5 (n := -1000010) (by decide) ?_
  refine v_iload_n X dX8_finding_7 rfl ?_
  refine v_isub X dX8_finding_8 ?_
  exact v_iret X Y dX8_finding_9 (u := ()) (by first | rfl | omega | (split <;> omega) | (simp [*]; done)) (by rfl)

theorem hdX8_row : yX8_row.cls = RX8 ∧ yX8_row.cls ≠ "java/lang/invoke/MethodHandle" ∧ yX8_row.cls ≠ "java/lang/invoke/VarHandle" ∧ (parseMethodDescriptor yX8_row.desc).map (fun d => d.parameters.length) = some 3 := ⟨rfl, by decide +kernel, by decide +kernel, by decide +kernel⟩
set_option maxHeartbeats 4000000 in
set_option maxRecDepth 100000 in
theorem c_X8_row {g : Gx} {A : Nat → Nat} {th sq ac td lt ln cu tk sa ti ft fp le lf tr : Int} {fl fm fi fc ff fw ftp fk fe fr : Nat → Int} {r l n : Int} (hr : R32 r) (hl : R32 l) (hn : R32 n) : CtI (S := Int × (Nat → Int) × (Nat → Int) × (Nat → Int)) g yX8_row wsX8_row 2 45 [.ref (A 0), .int (iI r), .int (iI l), .int (iI n)] (wMod g A th sq ac td lt ln cu tk sa ti ft fp le lf tr fl fm fi fc ff fw ftp fk fe fr) (fun v u => (¬ (0 ≤ r ∧ r < 8 ∧ 0 ≤ l ∧ l ≤ 2 ∧ n ≤ 40) ∧ v = -1000001 ∧ u = (sq, fl, fm, fi)) ∨ ((0 ≤ r ∧ r < 8 ∧ 0 ≤ l ∧ l ≤ 2 ∧ n < 0) ∧ v = -1000014 ∧ u = (4, fl, fm, fi)) ∨ ((0 ≤ r ∧ r < 8 ∧ 0 ≤ l ∧ l ≤ 2 ∧ 0 ≤ n ∧ n ≤ 40) ∧ v = n ∧ u.1 = 0 ∧ u.2.1 = updI fl r.toNat l ∧ u.2.2.1 = updI fm r.toNat n ∧ ∀ j : Nat, u.2.2.2 j = if r * 40 ≤ (j : Int) ∧ (j : Int) < r * 40 + 40 then 0 else fi j)) (fun u => wMod g A 0 u.1 ac td lt ln cu tk sa ti ft fp le lf tr u.2.1 u.2.2.1 u.2.2.2 fc ff fw ftp fk fe fr) := by
  refine m_go (cc := cX8_row) (nL := 5) (by decide +kernel) rfl (Nat.le_of_ble_eq_true rfl) (fun x X Y hnm => ?_)
  refine v_eq (lo2 := [some (.ref (A 0)), some (.int (iI r)), some (.int (iI l)), some (.int (iI n)), none]) rfl rfl rfl rfl ?_
  refine v_aload_n X dX8_row_0 rfl ?_
  refine v_iconst X dX8_row_1 ?_
  refine v_put X (fun _ h => List.mem_cons_of_mem _ (List.mem_append_right _ h)) tyX8 tyX8_ok nmX8 0 rfl rfl 0 (by decide) rfl (List.mem_of_getElem? (i := 1) rfl) rfl rfl rfl (Nat.le_of_ble_eq_true rfl) dX8_row_2 ?_
  dsimp only [List.set, wMod]
  refine v_iload_n X dX8_row_5 rfl ?_
  refine res_E X (run_S X (c_X8_isRow (g := g) (by first | assumption | omega)) gX8_row_X8_isRow rfl hdX8_isRow.2 ⟨(Nat.le_of_ble_eq_true rfl), (Nat.le_of_ble_eq_true rfl)⟩ ⟨(Nat.le_of_ble_eq_true rfl), (Nat.le_of_ble_eq_true rfl)⟩ [] rfl rfl rfl rfl (by simp [Value.category]) dX8_row_6) [] rfl rfl ?_
  refine v_ifb_eq (tgt := 30) X dX8_row_9 (by decide) (fun c1 => ?_) (fun c1 => ?_)
  · skip
    refine v_ldc X (List.mem_of_getElem? (i := 3) rfl) dX8_row_30 (n := -1000001) (by decide) ?_
    refine v_iret X Y dX8_row_32 (u := (sq, fl, fm, fi)) ?_ (by rfl)
    exact Or.inl ⟨by omega, rfl, rfl⟩
  · skip
    refine v_iload_n X dX8_row_12 rfl ?_
    refine v_i2l X dX8_row_13 (by first | omega | (split <;> omega)) ?_
    refine v_lconst0 X dX8_row_14 ?_
    refine v_ldc2 X (List.mem_of_getElem? (i := 2) rfl) dX8_row_15 (n := 2) (by decide) ?_
    refine res_E X (run_S X (c_X8_in (g := g) (by first | assumption | omega) (by first | assumption | omega) (by first | assumption | omega)) gX8_row_X8_in rfl hdX8_in.2 ⟨(Nat.le_of_ble_eq_true rfl), (Nat.le_of_ble_eq_true rfl)⟩ ⟨(Nat.le_of_ble_eq_true rfl), (Nat.le_of_ble_eq_true rfl)⟩ [] rfl rfl rfl rfl (by simp [Value.category]) dX8_row_18) [] rfl rfl ?_
    refine v_ifb_eq (tgt := 30) X dX8_row_21 (by decide) (fun c2 => ?_) (fun c2 => ?_)
    · skip
      refine v_ldc X (List.mem_of_getElem? (i := 3) rfl) dX8_row_30 (n := -1000001) (by decide) ?_
      refine v_iret X Y dX8_row_32 (u := (sq, fl, fm, fi)) ?_ (by rfl)
      exact Or.inl ⟨by omega, rfl, rfl⟩
    · skip
      refine v_iload_n X dX8_row_24 rfl ?_
      refine v_bipush X dX8_row_25 (by decide) ?_
      refine v_icmp_le (tgt := 33) X dX8_row_27 (by decide) (by first | omega | (split <;> omega)) (by first | omega | (split <;> omega)) (fun c3 => ?_) (fun c3 => ?_)
      · skip
        refine v_aload_n X dX8_row_33 rfl ?_
        refine v_iconst X dX8_row_34 ?_
        refine v_put X (fun _ h => List.mem_cons_of_mem _ (List.mem_append_right _ h)) tyX8 tyX8_ok nmX8 0 rfl rfl 1 (by decide) rfl (List.mem_of_getElem? (i := 4) rfl) rfl rfl rfl (Nat.le_of_ble_eq_true rfl) dX8_row_35 ?_
        dsimp only [List.set, wMod]
        refine v_iload_n X dX8_row_38 rfl ?_
        refine v_if_ge (tgt := 48) X dX8_row_39 (by decide) (by first | omega | (split <;> omega)) (fun c4 => ?_) (fun c4 => ?_)
        · skip
          refine v_aload_n X dX8_row_48 rfl ?_
          refine v_get X (fun _ h => List.mem_cons_of_mem _ (List.mem_append_right _ h)) 0 rfl rfl 2 (by decide) rfl (List.mem_of_getElem? (i := 5) rfl) rfl dX8_row_49 ?_
          refine v_iload_n X dX8_row_52 rfl ?_
          refine v_iload_n X dX8_row_53 rfl ?_
          refine v_iast X 1 rfl (by first | omega | (split <;> omega)) (by first | omega | (split <;> omega)) (by first | omega | (split <;> omega)) dX8_row_54 ?_
          dsimp only [List.set, wMod]
          refine v_aload_n X dX8_row_55 rfl ?_
          refine v_get X (fun _ h => List.mem_cons_of_mem _ (List.mem_append_right _ h)) 0 rfl rfl 3 (by decide) rfl (List.mem_of_getElem? (i := 6) rfl) rfl dX8_row_56 ?_
          refine v_iload_n X dX8_row_59 rfl ?_
          refine v_iload_n X dX8_row_60 rfl ?_
          refine v_iast X 2 rfl (by first | omega | (split <;> omega)) (by first | omega | (split <;> omega)) (by first | omega | (split <;> omega)) dX8_row_61 ?_
          dsimp only [List.set, wMod]
          refine v_iconst X dX8_row_62 ?_
          refine v_istore X dX8_row_63 (by decide) rfl ?_
          dsimp only [List.set]
          have L65 : ∀ (nf : Nat) (f : Nat → Int) (i : Int) (h1 : 0 ≤ i ∧ i ≤ 40) (h2 : ∀ j : Nat, f j = (if r * 40 ≤ (j : Int) ∧ (j : Int) < r * 40 + i then 0 else fi j)) (h3 : 0 ≤ r ∧ r < 8) (_ : (40 - i).toNat < nf), V g x 0 0 (wMod g A (0) (0) ac td lt ln cu tk sa ti ft fp le lf tr (updI fl r.toNat l) (updI fm r.toNat n) (f) fc ff fw ftp fk fe fr) [some (.ref (A 0)), some (.int (iI r)), some (.int (iI l)), some (.int (iI n)), some (.int (iI i))] 65 [] := by
            intro nf
            induction nf with
            | zero => intro f i h1 h2 h3 hmu; exact absurd hmu (Nat.not_lt_zero _)
            | succ nf ih65 =>
              intro f i h1 h2 h3 hmu
              refine v_iload X dX8_row_65 rfl ?_
              refine v_bipush X dX8_row_67 (by decide) ?_
              refine v_icmp_ge (tgt := 91) X dX8_row_69 (by decide) (by first | omega | (split <;> omega)) (by first | omega | (split <;> omega)) (fun c5 => ?_) (fun c5 => ?_)
              · skip
                refine v_iload_n X dX8_row_91 rfl ?_
                refine v_iret X Y dX8_row_92 (u := (0, updI fl r.toNat l, updI fm r.toNat n, f)) ?_ (by rfl)
                refine Or.inr (Or.inr ⟨by omega, rfl, rfl, rfl, rfl, ?_⟩)
                have e : i = 40 := by omega
                intro j; have q := h2 j; rw [e] at q; exact q
              · skip
                refine v_aload_n X dX8_row_72 rfl ?_
                refine v_get X (fun _ h => List.mem_cons_of_mem _ (List.mem_append_right _ h)) 0 rfl rfl 4 (by decide) rfl (List.mem_of_getElem? (i := 7) rfl) rfl dX8_row_73 ?_
                refine v_bipush X dX8_row_76 (by decide) ?_
                refine v_iload_n X dX8_row_78 rfl ?_
                refine v_imul X dX8_row_79 ?_
                refine v_iload X dX8_row_80 rfl ?_
                refine v_iadd X dX8_row_82 ?_
                refine v_iconst X dX8_row_83 ?_
                refine v_iast X 3 rfl (by first | omega | (split <;> omega)) (by first | omega | (split <;> omega)) (by first | omega | (split <;> omega)) dX8_row_84 ?_
                dsimp only [List.set, wMod]
                refine v_iinc X dX8_row_85 rfl (by decide) rfl ?_
                dsimp only [List.set]
                refine v_goto (tgt := 65) X dX8_row_88 (by decide) ?_
                exact ih65 _ _ (by omega) (by intro j; rw [updI_e, h2 j]; split <;> split <;> (first | rfl | (split <;> first | rfl | omega) | omega)) (by omega) (by omega)
          exact L65 _ _ _ (by omega) (by intro j; rw [if_neg (by omega)]) (by omega) (Nat.lt_succ_self _)
        · skip
          refine v_aload_n X dX8_row_42 rfl ?_
          refine v_iconst X dX8_row_43 ?_
          refine res_F X (run_V X (c_X8_finding (g := g) ) gX8_row_X8_finding rfl hdX8_finding ⟨(Nat.le_of_ble_eq_true rfl), (Nat.le_of_ble_eq_true rfl)⟩ ⟨(Nat.le_of_ble_eq_true rfl), (Nat.le_of_ble_eq_true rfl)⟩ 0 rfl rfl rfl [0, 1, 2, 3, 4, 5, 6, 7, 8, 9, 10] rfl rfl rfl rfl (by simp [Value.category]) dX8_row_44) [0, 1, 2, 3, 4, 5, 6, 7, 8, 9, 10] rfl rfl rfl ?_
          dsimp only [patch, List.set, wMod]
          refine v_iret X Y dX8_row_47 (u := (4, fl, fm, fi)) ?_ (by rfl)
          exact Or.inr (Or.inl ⟨by omega, rfl, rfl⟩)
      · skip
        refine v_ldc X (List.mem_of_getElem? (i := 3) rfl) dX8_row_30 (n := -1000001) (by decide) ?_
        refine v_iret X Y dX8_row_32 (u := (sq, fl, fm, fi)) ?_ (by rfl)
        exact Or.inl ⟨by omega, rfl, rfl⟩

theorem hdX8_isThere : yX8_isThere.cls = RX8 ∧ yX8_isThere.cls ≠ "java/lang/invoke/MethodHandle" ∧ yX8_isThere.cls ≠ "java/lang/invoke/VarHandle" ∧ (parseMethodDescriptor yX8_isThere.desc).map (fun d => d.parameters.length) = some 0 := ⟨rfl, by decide +kernel, by decide +kernel, by decide +kernel⟩
set_option maxHeartbeats 4000000 in
set_option maxRecDepth 100000 in
theorem c_X8_isThere {g : Gx} {A : Nat → Nat} {th sq ac td lt ln cu tk sa ti ft fp le lf tr : Int} {fl fm fi fc ff fw ftp fk fe fr : Nat → Int}  (hfc : Bd 0 60 fc) : CtE g yX8_isThere wsX8_isThere 0 0 [.ref (A 0)] (wMod g A th sq ac td lt ln cu tk sa ti ft fp le lf tr fl fm fi fc ff fw ftp fk fe fr) (if 0 < fc 0 then 1 else 0) (wMod g A th sq ac td lt ln cu tk sa ti ft fp le lf tr fl fm fi fc ff fw ftp fk fe fr) := by
  refine m_go (cc := cX8_isThere) (nL := 1) (by decide +kernel) rfl (Nat.le_of_ble_eq_true rfl) (fun x X Y hnm => ?_)
  refine v_eq (lo2 := [some (.ref (A 0))]) rfl rfl rfl rfl ?_
  refine v_aload_n X dX8_isThere_0 rfl ?_
  refine v_get X (fun _ h => List.mem_cons_of_mem _ (List.mem_append_right _ h)) 0 rfl rfl 5 (by decide) rfl (List.mem_of_getElem? (i := 1) rfl) rfl dX8_isThere_1 ?_
  refine v_iconst X dX8_isThere_4 ?_
  refine v_iald X 4 rfl (by omega) (by omega) (by omega) dX8_isThere_5 hfc (fun z0 ez0 lz0 uz0 => ?_)
  rw [show z0 = fc 0 from ez0]
  refine v_if_le (tgt := 13) X dX8_isThere_6 (by decide) (by omega) (fun c2 => ?_) (fun c2 => ?_)
  · skip
    refine v_iconst X dX8_isThere_13 ?_
    exact v_zret X Y dX8_isThere_14 (by first | decide | omega | (split <;> omega)) (u := ()) (by first | rw [if_pos (by assumption)] | rw [if_neg (by omega)]) (by rfl)
  · skip
    refine v_iconst X dX8_isThere_9 ?_
    refine v_goto (tgt := 14) X dX8_isThere_10 (by decide) ?_
    exact v_zret X Y dX8_isThere_14 (by first | decide | omega | (split <;> omega)) (u := ()) (by first | rw [if_pos (by assumption)] | rw [if_neg (by omega)]) (by rfl)

theorem hdX8_isHand : yX8_isHand.cls = RX8 ∧ yX8_isHand.cls ≠ "java/lang/invoke/MethodHandle" ∧ yX8_isHand.cls ≠ "java/lang/invoke/VarHandle" ∧ (parseMethodDescriptor yX8_isHand.desc).map (fun d => d.parameters.length) = some 1 := ⟨rfl, by decide +kernel, by decide +kernel, by decide +kernel⟩
set_option maxHeartbeats 4000000 in
set_option maxRecDepth 100000 in
theorem c_X8_isHand {g : Gx} {A : Nat → Nat} {th sq ac td lt ln cu tk sa ti ft fp le lf tr : Int} {fl fm fi fc ff fw ftp fk fe fr : Nat → Int} {h : Int} (hfc : Bd 0 60 fc) (hh : R32 h) : CtE g yX8_isHand wsX8_isHand 1 25 [.ref (A 0), .int (iI h)] (wMod g A th sq ac td lt ln cu tk sa ti ft fp le lf tr fl fm fi fc ff fw ftp fk fe fr) (if 0 ≤ h ∧ h < fc 1 then 1 else 0) (wMod g A th sq ac td lt ln cu tk sa ti ft fp le lf tr fl fm fi fc ff fw ftp fk fe fr) := by
  refine m_go (cc := cX8_isHand) (nL := 2) (by decide +kernel) rfl (Nat.le_of_ble_eq_true rfl) (fun x X Y hnm => ?_)
  refine v_eq (lo2 := [some (.ref (A 0)), some (.int (iI h))]) rfl rfl rfl rfl ?_
  refine v_iload_n X dX8_isHand_0 rfl ?_
  refine v_i2l X dX8_isHand_1 (by first | omega | (split <;> omega)) ?_
  refine v_lconst0 X dX8_isHand_2 ?_
  refine v_aload_n X dX8_isHand_3 rfl ?_
  refine v_get X (fun _ h => List.mem_cons_of_mem _ (List.mem_append_right _ h)) 0 rfl rfl 5 (by decide) rfl (List.mem_of_getElem? (i := 1) rfl) rfl dX8_isHand_4 ?_
  refine v_iconst X dX8_isHand_7 ?_
  refine v_iald X 4 rfl (by first | omega | (split <;> omega)) (by first | omega | (split <;> omega)) (by first | omega | (split <;> omega)) dX8_isHand_8 hfc (fun z0 ez0 lz0 uz0 => ?_)
  rw [show z0 = fc 1 from ez0]
  refine v_iconst X dX8_isHand_9 ?_
  refine v_isub X dX8_isHand_10 ?_
  refine v_i2l X dX8_isHand_11 (by first | omega | (split <;> omega)) ?_
  refine res_E X (run_S X (c_X8_in (g := g) (by first | assumption | omega) (by first | assumption | omega) (by first | assumption | omega)) gX8_isHand_X8_in rfl hdX8_in.2 ⟨(Nat.le_of_ble_eq_true rfl), (Nat.le_of_ble_eq_true rfl)⟩ ⟨(Nat.le_of_ble_eq_true rfl), (Nat.le_of_ble_eq_true rfl)⟩ [] rfl rfl rfl rfl (by simp [Value.category]) dX8_isHand_12) [] rfl rfl ?_
  exact v_zret X Y dX8_isHand_15 (by first | decide | omega | (split <;> omega)) (u := ()) (by split <;> split <;> omega) (by rfl)

theorem hdX8_areTwo : yX8_areTwo.cls = RX8 ∧ yX8_areTwo.cls ≠ "java/lang/invoke/MethodHandle" ∧ yX8_areTwo.cls ≠ "java/lang/invoke/VarHandle" ∧ (parseMethodDescriptor yX8_areTwo.desc).map (fun d => d.parameters.length) = some 2 := ⟨rfl, by decide +kernel, by decide +kernel, by decide +kernel⟩
set_option maxHeartbeats 4000000 in
set_option maxRecDepth 100000 in
theorem c_X8_areTwo {g : Gx} {A : Nat → Nat} {th sq ac td lt ln cu tk sa ti ft fp le lf tr : Int} {fl fm fi fc ff fw ftp fk fe fr : Nat → Int} {a b : Int} (hfc : Bd 0 60 fc) (ha : R32 a) (hb : R32 b) : CtE g yX8_areTwo wsX8_areTwo 2 46 [.ref (A 0), .int (iI a), .int (iI b)] (wMod g A th sq ac td lt ln cu tk sa ti ft fp le lf tr fl fm fi fc ff fw ftp fk fe fr) (if (0 ≤ a ∧ a < fc 1) ∧ (0 ≤ b ∧ b < fc 1) ∧ a ≠ b then 1 else 0) (wMod g A th sq ac td lt ln cu tk sa ti ft fp le lf tr fl fm fi fc ff fw ftp fk fe fr) := by
  refine m_go (cc := cX8_areTwo) (nL := 3) (by decide +kernel) rfl (Nat.le_of_ble_eq_true rfl) (fun x X Y hnm => ?_)
  refine v_eq (lo2 := [some (.ref (A 0)), some (.int (iI a)), some (.int (iI b))]) rfl rfl rfl rfl ?_
  refine v_aload_n X dX8_areTwo_0 rfl ?_
  refine v_iload_n X dX8_areTwo_1 rfl ?_
  refine res_E X (run_V X (c_X8_isHand (g := g) (by first | assumption | omega) (by first | assumption | omega)) gX8_areTwo_X8_isHand rfl hdX8_isHand ⟨(Nat.le_of_ble_eq_true rfl), (Nat.le_of_ble_eq_true rfl)⟩ ⟨(Nat.le_of_ble_eq_true rfl), (Nat.le_of_ble_eq_true rfl)⟩ 0 rfl rfl rfl [0, 1, 2, 3, 4, 5, 6, 7, 8, 9, 10] rfl rfl rfl rfl (by simp [Value.category]) dX8_areTwo_2) [0, 1, 2, 3, 4, 5, 6, 7, 8, 9, 10] rfl rfl ?_
  refine v_ifb_eq (tgt := 25) X dX8_areTwo_5 (by decide) (fun c1 => ?_) (fun c1 => ?_)
  · skip
    refine v_iconst X dX8_areTwo_25 ?_
    exact v_zret X Y dX8_areTwo_26 (by first | decide | omega | (split <;> omega)) (u := ()) (by first | rfl | omega | (split <;> omega) | (split <;> split <;> omega)) (by rfl)
  · skip
    refine v_aload_n X dX8_areTwo_8 rfl ?_
    refine v_iload_n X dX8_areTwo_9 rfl ?_
    refine res_E X (run_V X (c_X8_isHand (g := g) (by first | assumption | omega) (by first | assumption | omega)) gX8_areTwo_X8_isHand rfl hdX8_isHand ⟨(Nat.le_of_ble_eq_true rfl), (Nat.le_of_ble_eq_true rfl)⟩ ⟨(Nat.le_of_ble_eq_true rfl), (Nat.le_of_ble_eq_true rfl)⟩ 0 rfl rfl rfl [0, 1, 2, 3, 4, 5, 6, 7, 8, 9, 10] rfl rfl rfl rfl (by simp [Value.category]) dX8_areTwo_10) [0, 1, 2, 3, 4, 5, 6, 7, 8, 9, 10] rfl rfl ?_
    refine v_ifb_eq (tgt := 25) X dX8_areTwo_13 (by decide) (fun c2 => ?_) (fun c2 => ?_)
    · skip
      refine v_iconst X dX8_areTwo_25 ?_
      exact v_zret X Y dX8_areTwo_26 (by first | decide | omega | (split <;> omega)) (u := ()) (by first | rfl | omega | (split <;> omega) | (split <;> split <;> omega)) (by rfl)
    · skip
      refine v_iload_n X dX8_areTwo_16 rfl ?_
      refine v_iload_n X dX8_areTwo_17 rfl ?_
      refine v_icmp_eq (tgt := 25) X dX8_areTwo_18 (by decide) (by first | omega | (split <;> omega)) (by first | omega | (split <;> omega)) (fun c3 => ?_) (fun c3 => ?_)
      · skip
        refine v_iconst X dX8_areTwo_25 ?_
        exact v_zret X Y dX8_areTwo_26 (by first | decide | omega | (split <;> omega)) (u := ()) (by first | rfl | omega | (split <;> omega) | (split <;> split <;> omega)) (by rfl)
      · skip
        refine v_iconst X dX8_areTwo_21 ?_
        refine v_goto (tgt := 26) X dX8_areTwo_22 (by decide) ?_
        exact v_zret X Y dX8_areTwo_26 (by first | decide | omega | (split <;> omega)) (u := ()) (by first | rfl | omega | (split <;> omega) | (split <;> split <;> omega)) (by rfl)

theorem hdX8_of : yX8_of.cls = RX8 ∧ yX8_of.cls ≠ "java/lang/invoke/MethodHandle" ∧ yX8_of.cls ≠ "java/lang/invoke/VarHandle" ∧ (parseMethodDescriptor yX8_of.desc).map (fun d => d.parameters.length) = some 2 := ⟨rfl, by decide +kernel, by decide +kernel, by decide +kernel⟩
set_option maxHeartbeats 4000000 in
set_option maxRecDepth 100000 in
theorem c_X8_of {g : Gx} {A : Nat → Nat} {th sq ac td lt ln cu tk sa ti ft fp le lf tr : Int} {fl fm fi fc ff fw ftp fk fe fr : Nat → Int} {h w : Int} (hfc : Bd 0 60 fc) (hh : 0 ≤ h ∧ h ≤ 3) (hw : 0 ≤ w ∧ w ≤ 2) : CtE g yX8_of wsX8_of 0 0 [.ref (A 0), .int (iI h), .int (iI w)] (wMod g A th sq ac td lt ln cu tk sa ti ft fp le lf tr fl fm fi fc ff fw ftp fk fe fr) (fc (2 + 3 * h + w).toNat) (wMod g A th sq ac td lt ln cu tk sa ti ft fp le lf tr fl fm fi fc ff fw ftp fk fe fr) := by
  refine m_go (cc := cX8_of) (nL := 3) (by decide +kernel) rfl (Nat.le_of_ble_eq_true rfl) (fun x X Y hnm => ?_)
  refine v_eq (lo2 := [some (.ref (A 0)), some (.int (iI h)), some (.int (iI w))]) rfl rfl rfl rfl ?_
  refine v_aload_n X dX8_of_0 rfl ?_
  refine v_get X (fun _ h => List.mem_cons_of_mem _ (List.mem_append_right _ h)) 0 rfl rfl 5 (by decide) rfl (List.mem_of_getElem? (i := 1) rfl) rfl dX8_of_1 ?_
  refine v_iconst X dX8_of_4 ?_
  refine v_iconst X dX8_of_5 ?_
  refine v_iload_n X dX8_of_6 rfl ?_
  refine v_imul X dX8_of_7 ?_
  refine v_iadd X dX8_of_8 ?_
  refine v_iload_n X dX8_of_9 rfl ?_
  refine v_iadd X dX8_of_10 ?_
  refine v_iald X 4 rfl (by omega) (by omega) (by omega) dX8_of_11 hfc (fun z1 ez1 lz1 uz1 => ?_)
  exact v_iret X Y dX8_of_12 (u := ()) (by first | rfl | omega | (split <;> omega) | (simp [*]; done)) (by rfl)

theorem hdX8_speed : yX8_speed.cls = RX8 ∧ yX8_speed.cls ≠ "java/lang/invoke/MethodHandle" ∧ yX8_speed.cls ≠ "java/lang/invoke/VarHandle" ∧ (parseMethodDescriptor yX8_speed.desc).map (fun d => d.parameters.length) = some 1 := ⟨rfl, by decide +kernel, by decide +kernel, by decide +kernel⟩
set_option maxHeartbeats 4000000 in
set_option maxRecDepth 100000 in
theorem c_X8_speed {g : Gx} {A : Nat → Nat} {th sq ac td lt ln cu tk sa ti ft fp le lf tr : Int} {fl fm fi fc ff fw ftp fk fe fr : Nat → Int} {h : Int} (hfc : Bd 0 60 fc) (ht3 : Bd 0 12 (tM fc)) (hh : 0 ≤ h ∧ h ≤ 3) : CtE g yX8_speed wsX8_speed 1 22 [.ref (A 0), .int (iI h)] (wMod g A th sq ac td lt ln cu tk sa ti ft fp le lf tr fl fm fi fc ff fw ftp fk fe fr) (spdM fc h) (wMod g A th sq ac td lt ln cu tk sa ti ft fp le lf tr fl fm fi fc ff fw ftp fk fe fr) := by
  refine m_go (cc := cX8_speed) (nL := 2) (by decide +kernel) rfl (Nat.le_of_ble_eq_true rfl) (fun x X Y hnm => ?_)
  refine v_eq (lo2 := [some (.ref (A 0)), some (.int (iI h))]) rfl rfl rfl rfl ?_
  have q1 := hfc (2 + 3 * h + 0).toNat
  have q2 := hfc (2 + 3 * h + 1).toNat
  have f1 : fc (2 + 3 * h + 0).toNat = atI 4 (kM fc) h := kM_at hh
  have f2 : fc (2 + 3 * h + 1).toNat = atI 4 (tM fc) h := tM_at hh
  refine v_aload_n X dX8_speed_0 rfl ?_
  refine v_iload_n X dX8_speed_1 rfl ?_
  refine v_iconst X dX8_speed_2 ?_
  refine res_E X (run_V X (c_X8_of (g := g) (by first | assumption | omega) (by first | assumption | omega) (by first | assumption | omega)) gX8_speed_X8_of rfl hdX8_of ⟨(Nat.le_of_ble_eq_true rfl), (Nat.le_of_ble_eq_true rfl)⟩ ⟨(Nat.le_of_ble_eq_true rfl), (Nat.le_of_ble_eq_true rfl)⟩ 0 rfl rfl rfl [0, 1, 2, 3, 4, 5, 6, 7, 8, 9, 10] rfl rfl rfl rfl (by simp [Value.category]) dX8_speed_3) [0, 1, 2, 3, 4, 5, 6, 7, 8, 9, 10] rfl rfl ?_
  refine v_iconst X dX8_speed_6 ?_
  refine v_icmp_ne (tgt := 20) X dX8_speed_7 (by decide) (by omega) (by omega) (fun c1 => ?_) (fun c1 => ?_)
  · skip
    refine v_aload_n X dX8_speed_20 rfl ?_
    refine v_iload_n X dX8_speed_21 rfl ?_
    refine v_iconst X dX8_speed_22 ?_
    refine res_E X (run_V X (c_X8_of (g := g) (by first | assumption | omega) (by first | assumption | omega) (by first | assumption | omega)) gX8_speed_X8_of rfl hdX8_of ⟨(Nat.le_of_ble_eq_true rfl), (Nat.le_of_ble_eq_true rfl)⟩ ⟨(Nat.le_of_ble_eq_true rfl), (Nat.le_of_ble_eq_true rfl)⟩ 0 rfl rfl rfl [0, 1, 2, 3, 4, 5, 6, 7, 8, 9, 10] rfl rfl rfl rfl (by simp [Value.category]) dX8_speed_23) [0, 1, 2, 3, 4, 5, 6, 7, 8, 9, 10] rfl rfl ?_
    refine v_iconst X dX8_speed_26 ?_
    refine v_icmp_ne (tgt := 41) X dX8_speed_27 (by decide) (by omega) (by omega) (fun c2 => ?_) (fun c2 => ?_)
    · skip
      refine v_aload_n X dX8_speed_41 rfl ?_
      refine v_iload_n X dX8_speed_42 rfl ?_
      refine v_iconst X dX8_speed_43 ?_
      refine res_E X (run_V X (c_X8_of (g := g) (by first | assumption | omega) (by first | assumption | omega) (by first | assumption | omega)) gX8_speed_X8_of rfl hdX8_of ⟨(Nat.le_of_ble_eq_true rfl), (Nat.le_of_ble_eq_true rfl)⟩ ⟨(Nat.le_of_ble_eq_true rfl), (Nat.le_of_ble_eq_true rfl)⟩ 0 rfl rfl rfl [0, 1, 2, 3, 4, 5, 6, 7, 8, 9, 10] rfl rfl rfl rfl (by simp [Value.category]) dX8_speed_44) [0, 1, 2, 3, 4, 5, 6, 7, 8, 9, 10] rfl rfl ?_
      exact v_iret X Y dX8_speed_47 (u := ()) (by unfold spdM spdI; rw [← f1, ← f2]; first | rw [if_pos (by assumption)] | (rw [if_neg (by assumption)]; first | rw [if_pos (by assumption)] | rw [if_neg (by assumption)])) (by rfl)
    · skip
      refine v_iconst X dX8_speed_30 ?_
      refine v_aload_n X dX8_speed_31 rfl ?_
      refine v_iload_n X dX8_speed_32 rfl ?_
      refine v_iconst X dX8_speed_33 ?_
      refine res_E X (run_V X (c_X8_of (g := g) (by first | assumption | omega) (by first | assumption | omega) (by first | assumption | omega)) gX8_speed_X8_of rfl hdX8_of ⟨(Nat.le_of_ble_eq_true rfl), (Nat.le_of_ble_eq_true rfl)⟩ ⟨(Nat.le_of_ble_eq_true rfl), (Nat.le_of_ble_eq_true rfl)⟩ 0 rfl rfl rfl [0, 1, 2, 3, 4, 5, 6, 7, 8, 9, 10] rfl rfl rfl rfl (by simp [Value.category]) dX8_speed_34) [0, 1, 2, 3, 4, 5, 6, 7, 8, 9, 10] rfl rfl ?_
      refine v_imul X dX8_speed_37 ?_
      refine v_goto (tgt := 47) X dX8_speed_38 (by decide) ?_
      exact v_iret X Y dX8_speed_47 (u := ()) (by unfold spdM spdI; rw [← f1, ← f2]; first | rw [if_pos (by assumption)] | (rw [if_neg (by assumption)]; first | rw [if_pos (by assumption)] | rw [if_neg (by assumption)])) (by rfl)
  · skip
    refine v_aload_n X dX8_speed_10 rfl ?_
    refine v_iload_n X dX8_speed_11 rfl ?_
    refine v_iconst X dX8_speed_12 ?_
    refine res_E X (run_V X (c_X8_of (g := g) (by first | assumption | omega) (by first | assumption | omega) (by first | assumption | omega)) gX8_speed_X8_of rfl hdX8_of ⟨(Nat.le_of_ble_eq_true rfl), (Nat.le_of_ble_eq_true rfl)⟩ ⟨(Nat.le_of_ble_eq_true rfl), (Nat.le_of_ble_eq_true rfl)⟩ 0 rfl rfl rfl [0, 1, 2, 3, 4, 5, 6, 7, 8, 9, 10] rfl rfl rfl rfl (by simp [Value.category]) dX8_speed_13) [0, 1, 2, 3, 4, 5, 6, 7, 8, 9, 10] rfl rfl ?_
    refine v_ineg X dX8_speed_16 ?_
    refine v_goto (tgt := 47) X dX8_speed_17 (by decide) ?_
    exact v_iret X Y dX8_speed_47 (u := ()) (by unfold spdM spdI; rw [← f1, ← f2]; first | rw [if_pos (by assumption)] | (rw [if_neg (by assumption)]; first | rw [if_pos (by assumption)] | rw [if_neg (by assumption)])) (by rfl)

theorem hdX8_hand : yX8_hand.cls = RX8 ∧ yX8_hand.cls ≠ "java/lang/invoke/MethodHandle" ∧ yX8_hand.cls ≠ "java/lang/invoke/VarHandle" ∧ (parseMethodDescriptor yX8_hand.desc).map (fun d => d.parameters.length) = some 2 := ⟨rfl, by decide +kernel, by decide +kernel, by decide +kernel⟩
set_option maxHeartbeats 4000000 in
set_option maxRecDepth 100000 in
theorem c_X8_hand {g : Gx} {A : Nat → Nat} {th sq ac td lt ln cu tk sa ti ft fp le lf tr : Int} {fl fm fi fc ff fw ftp fk fe fr : Nat → Int} {h w : Int} (hfc : Bd 0 60 fc) (hc1 : 0 ≤ fc 1 ∧ fc 1 ≤ 4) (ht3 : Bd 0 12 (tM fc)) (hh : R32 h) (hw : R32 w) : CtE g yX8_hand wsX8_hand 2 46 [.ref (A 0), .int (iI h), .int (iI w)] (wMod g A th sq ac td lt ln cu tk sa ti ft fp le lf tr fl fm fi fc ff fw ftp fk fe fr) (if (0 ≤ h ∧ h < fc 1) ∧ 0 ≤ w ∧ w ≤ 2 then (if w = 0 then atI 4 (tM fc) h else if w = 1 then spdM fc h else atI 4 (sM fc) h) else -1000001) (wMod g A (0) sq ac td lt ln cu tk sa ti ft fp le lf tr fl fm fi fc ff fw ftp fk fe fr) := by
  refine m_go (cc := cX8_hand) (nL := 3) (by decide +kernel) rfl (Nat.le_of_ble_eq_true rfl) (fun x X Y hnm => ?_)
  refine v_eq (lo2 := [some (.ref (A 0)), some (.int (iI h)), some (.int (iI w))]) rfl rfl rfl rfl ?_
  refine v_aload_n X dX8_hand_0 rfl ?_
  refine v_iconst X dX8_hand_1 ?_
  refine v_put X (fun _ h => List.mem_cons_of_mem _ (List.mem_append_right _ h)) tyX8 tyX8_ok nmX8 0 rfl rfl 0 (by decide) rfl (List.mem_of_getElem? (i := 1) rfl) rfl rfl rfl (Nat.le_of_ble_eq_true rfl) dX8_hand_2 ?_
  dsimp only [List.set, wMod]
  refine v_aload_n X dX8_hand_5 rfl ?_
  refine v_iload_n X dX8_hand_6 rfl ?_
  refine res_E X (run_V X (c_X8_isHand (g := g) (by first | assumption | omega) (by first | assumption | omega)) gX8_hand_X8_isHand rfl hdX8_isHand ⟨(Nat.le_of_ble_eq_true rfl), (Nat.le_of_ble_eq_true rfl)⟩ ⟨(Nat.le_of_ble_eq_true rfl), (Nat.le_of_ble_eq_true rfl)⟩ 0 rfl rfl rfl [0, 1, 2, 3, 4, 5, 6, 7, 8, 9, 10] rfl rfl rfl rfl (by simp [Value.category]) dX8_hand_7) [0, 1, 2, 3, 4, 5, 6, 7, 8, 9, 10] rfl rfl ?_
  refine v_ifb_eq (tgt := 25) X dX8_hand_10 (by decide) (fun c1 => ?_) (fun c1 => ?_)
  · skip
    refine v_ldc X (List.mem_of_getElem? (i := 3) rfl) dX8_hand_25 (n := -1000001) (by decide) ?_
    exact v_iret X Y dX8_hand_27 (u := ()) (by rw [if_neg (by omega)]) (by rfl)
  · skip
    refine v_iload_n X dX8_hand_13 rfl ?_
    refine v_i2l X dX8_hand_14 (by first | omega | (split <;> omega)) ?_
    refine v_lconst0 X dX8_hand_15 ?_
    refine v_ldc2 X (List.mem_of_getElem? (i := 2) rfl) dX8_hand_16 (n := 2) (by decide) ?_
    refine res_E X (run_S X (c_X8_in (g := g) (by first | assumption | omega) (by first | assumption | omega) (by first | assumption | omega)) gX8_hand_X8_in rfl hdX8_in.2 ⟨(Nat.le_of_ble_eq_true rfl), (Nat.le_of_ble_eq_true rfl)⟩ ⟨(Nat.le_of_ble_eq_true rfl), (Nat.le_of_ble_eq_true rfl)⟩ [] rfl rfl rfl rfl (by simp [Value.category]) dX8_hand_19) [] rfl rfl ?_
    refine v_ifb_ne (tgt := 28) X dX8_hand_22 (by decide) (fun c2 => ?_) (fun c2 => ?_)
    · skip
      refine v_iload_n X dX8_hand_28 rfl ?_
      refine v_if_ne (tgt := 41) X dX8_hand_29 (by decide) (by first | omega | (split <;> omega)) (fun c3 => ?_) (fun c3 => ?_)
      · skip
        refine v_iload_n X dX8_hand_41 rfl ?_
        refine v_iconst X dX8_hand_42 ?_
        refine v_icmp_ne (tgt := 54) X dX8_hand_43 (by decide) (by first | omega | (split <;> omega)) (by first | omega | (split <;> omega)) (fun c4 => ?_) (fun c4 => ?_)
        · skip
          refine v_aload_n X dX8_hand_54 rfl ?_
          refine v_iload_n X dX8_hand_55 rfl ?_
          refine v_iconst X dX8_hand_56 ?_
          refine res_E X (run_V X (c_X8_of (g := g) (by first | assumption | omega) (by omega) (by first | assumption | omega)) gX8_hand_X8_of rfl hdX8_of ⟨(Nat.le_of_ble_eq_true rfl), (Nat.le_of_ble_eq_true rfl)⟩ ⟨(Nat.le_of_ble_eq_true rfl), (Nat.le_of_ble_eq_true rfl)⟩ 0 rfl rfl rfl [0, 1, 2, 3, 4, 5, 6, 7, 8, 9, 10] rfl rfl rfl rfl (by simp [Value.category]) dX8_hand_57) [0, 1, 2, 3, 4, 5, 6, 7, 8, 9, 10] rfl rfl ?_
          rw [sM_at (fc := fc) (h := h) (by omega)]
          exact v_iret X Y dX8_hand_60 (u := ()) (by rw [if_pos (by omega)]; first | rw [if_pos (by assumption)] | (rw [if_neg (by assumption)]; first | rw [if_pos (by assumption)] | rw [if_neg (by omega)])) (by rfl)
        · skip
          refine v_aload_n X dX8_hand_46 rfl ?_
          refine v_iload_n X dX8_hand_47 rfl ?_
          refine res_E X (run_V X (c_X8_speed (g := g) (by first | assumption | omega) (by first | assumption | omega) (by omega)) gX8_hand_X8_speed rfl hdX8_speed ⟨(Nat.le_of_ble_eq_true rfl), (Nat.le_of_ble_eq_true rfl)⟩ ⟨(Nat.le_of_ble_eq_true rfl), (Nat.le_of_ble_eq_true rfl)⟩ 0 rfl rfl rfl [0, 1, 2, 3, 4, 5, 6, 7, 8, 9, 10] rfl rfl rfl rfl (by simp [Value.category]) dX8_hand_48) [0, 1, 2, 3, 4, 5, 6, 7, 8, 9, 10] rfl rfl ?_
          refine v_goto (tgt := 60) X dX8_hand_51 (by decide) ?_
          exact v_iret X Y dX8_hand_60 (u := ()) (by rw [if_pos (by omega)]; first | rw [if_pos (by assumption)] | (rw [if_neg (by assumption)]; first | rw [if_pos (by assumption)] | rw [if_neg (by omega)])) (by rfl)
      · skip
        refine v_aload_n X dX8_hand_32 rfl ?_
        refine v_iload_n X dX8_hand_33 rfl ?_
        refine v_iconst X dX8_hand_34 ?_
        refine res_E X (run_V X (c_X8_of (g := g) (by first | assumption | omega) (by omega) (by first | assumption | omega)) gX8_hand_X8_of rfl hdX8_of ⟨(Nat.le_of_ble_eq_true rfl), (Nat.le_of_ble_eq_true rfl)⟩ ⟨(Nat.le_of_ble_eq_true rfl), (Nat.le_of_ble_eq_true rfl)⟩ 0 rfl rfl rfl [0, 1, 2, 3, 4, 5, 6, 7, 8, 9, 10] rfl rfl rfl rfl (by simp [Value.category]) dX8_hand_35) [0, 1, 2, 3, 4, 5, 6, 7, 8, 9, 10] rfl rfl ?_
        rw [tM_at (fc := fc) (h := h) (by omega)]
        refine v_goto (tgt := 60) X dX8_hand_38 (by decide) ?_
        exact v_iret X Y dX8_hand_60 (u := ()) (by rw [if_pos (by omega)]; first | rw [if_pos (by assumption)] | (rw [if_neg (by assumption)]; first | rw [if_pos (by assumption)] | rw [if_neg (by omega)])) (by rfl)
    · skip
      refine v_ldc X (List.mem_of_getElem? (i := 3) rfl) dX8_hand_25 (n := -1000001) (by decide) ?_
      exact v_iret X Y dX8_hand_27 (u := ()) (by rw [if_neg (by omega)]) (by rfl)

theorem hdX8_arc : yX8_arc.cls = RX8 ∧ yX8_arc.cls ≠ "java/lang/invoke/MethodHandle" ∧ yX8_arc.cls ≠ "java/lang/invoke/VarHandle" ∧ (parseMethodDescriptor yX8_arc.desc).map (fun d => d.parameters.length) = some 3 := ⟨rfl, by decide +kernel, by decide +kernel, by decide +kernel⟩
set_option maxHeartbeats 4000000 in
set_option maxRecDepth 100000 in
theorem c_X8_arc {g : Gx} {A : Nat → Nat} {th sq ac td lt ln cu tk sa ti ft fp le lf tr : Int} {fl fm fi fc ff fw ftp fk fe fr : Nat → Int} {h p q : Int} (hfc : Bd 0 60 fc) (hc1 : 0 ≤ fc 1 ∧ fc 1 ≤ 4) (ht3 : Bd 0 12 (tM fc)) (hh : 0 ≤ h ∧ h ≤ 3) (hp : 0 ≤ p ∧ p ≤ 9999) (hq : 1 ≤ q ∧ q ≤ 9999) (h0 : 0 < fc 0) : CtE g yX8_arc wsX8_arc 2 43 [.ref (A 0), .int (iI h), .int (iI p), .int (iI q)] (wMod g A th sq ac td lt ln cu tk sa ti ft fp le lf tr fl fm fi fc ff fw ftp fk fe fr) (arcM fc h p q) (wMod g A th sq ac td lt ln cu tk sa ti ft fp le lf tr fl fm fi fc ff fw ftp fk fe fr) := by
  refine m_go (cc := cX8_arc) (nL := 4) (by decide +kernel) rfl (Nat.le_of_ble_eq_true rfl) (fun x X Y hnm => ?_)
  refine v_eq (lo2 := [some (.ref (A 0)), some (.int (iI h)), some (.int (iI p)), some (.int (iI q))]) rfl rfl rfl rfl ?_
  have q1 := spdM_bd (fc := fc) (h := h) ht3
  have q0 := hfc 0
  have qz := hfc (2 + 3 * h + 2).toNat
  have f1 := sM_at (fc := fc) hh
  have q3 := mul_bd q1 hp
  have q4 := mul_bd q3 q0
  have q5 := mul_nn qz (show 0 ≤ q ∧ q ≤ 9999 by omega)
  have q6 := mul_nn (show 0 ≤ q ∧ q ≤ 9999 by omega) q0
  have q7 := Int.mul_pos (show 0 < q by omega) h0
  refine v_aload_n X dX8_arc_0 rfl ?_
  refine v_iload_n X dX8_arc_1 rfl ?_
  refine res_E X (run_V X (c_X8_speed (g := g) (by first | assumption | omega) (by first | assumption | omega) (by first | assumption | omega)) gX8_arc_X8_speed rfl hdX8_speed ⟨(Nat.le_of_ble_eq_true rfl), (Nat.le_of_ble_eq_true rfl)⟩ ⟨(Nat.le_of_ble_eq_true rfl), (Nat.le_of_ble_eq_true rfl)⟩ 0 rfl rfl rfl [0, 1, 2, 3, 4, 5, 6, 7, 8, 9, 10] rfl rfl rfl rfl (by simp [Value.category]) dX8_arc_2) [0, 1, 2, 3, 4, 5, 6, 7, 8, 9, 10] rfl rfl ?_
  refine v_iload_n X dX8_arc_5 rfl ?_
  refine v_imul X dX8_arc_6 ?_
  refine v_aload_n X dX8_arc_7 rfl ?_
  refine v_get X (fun _ h => List.mem_cons_of_mem _ (List.mem_append_right _ h)) 0 rfl rfl 5 (by decide) rfl (List.mem_of_getElem? (i := 1) rfl) rfl dX8_arc_8 ?_
  refine v_iconst X dX8_arc_11 ?_
  refine v_iald X 4 rfl (by omega) (by omega) (by omega) dX8_arc_12 hfc (fun z1 ez1 lz1 uz1 => ?_)
  rw [show z1 = fc 0 from ez1]
  refine v_imul X dX8_arc_13 ?_
  refine v_aload_n X dX8_arc_14 rfl ?_
  refine v_iload_n X dX8_arc_15 rfl ?_
  refine v_iconst X dX8_arc_16 ?_
  refine res_E X (run_V X (c_X8_of (g := g) (by first | assumption | omega) (by first | assumption | omega) (by first | assumption | omega)) gX8_arc_X8_of rfl hdX8_of ⟨(Nat.le_of_ble_eq_true rfl), (Nat.le_of_ble_eq_true rfl)⟩ ⟨(Nat.le_of_ble_eq_true rfl), (Nat.le_of_ble_eq_true rfl)⟩ 0 rfl rfl rfl [0, 1, 2, 3, 4, 5, 6, 7, 8, 9, 10] rfl rfl rfl rfl (by simp [Value.category]) dX8_arc_17) [0, 1, 2, 3, 4, 5, 6, 7, 8, 9, 10] rfl rfl ?_
  refine v_iload_n X dX8_arc_20 rfl ?_
  refine v_imul X dX8_arc_21 ?_
  refine v_iadd X dX8_arc_22 ?_
  refine v_iload_n X dX8_arc_23 rfl ?_
  refine v_aload_n X dX8_arc_24 rfl ?_
  refine v_get X (fun _ h => List.mem_cons_of_mem _ (List.mem_append_right _ h)) 0 rfl rfl 5 (by decide) rfl (List.mem_of_getElem? (i := 1) rfl) rfl dX8_arc_25 ?_
  refine v_iconst X dX8_arc_28 ?_
  refine v_iald X 4 rfl (by omega) (by omega) (by omega) dX8_arc_29 hfc (fun z2 ez2 lz2 uz2 => ?_)
  rw [show z2 = fc 0 from ez2]
  refine v_imul X dX8_arc_30 ?_
  refine res_E X (run_S X (c_X8_rest (g := g) (by first | assumption | omega) (by first | assumption | omega) (by first | assumption | omega)) gX8_arc_X8_rest rfl hdX8_rest.2 ⟨(Nat.le_of_ble_eq_true rfl), (Nat.le_of_ble_eq_true rfl)⟩ ⟨(Nat.le_of_ble_eq_true rfl), (Nat.le_of_ble_eq_true rfl)⟩ [] rfl rfl rfl rfl (by simp [Value.category]) dX8_arc_31) [] rfl rfl ?_
  exact v_iret X Y dX8_arc_34 (u := ()) (by unfold arcM; rw [← f1]) (by rfl)

theorem hdX8_points : yX8_points.cls = RX8 ∧ yX8_points.cls ≠ "java/lang/invoke/MethodHandle" ∧ yX8_points.cls ≠ "java/lang/invoke/VarHandle" ∧ (parseMethodDescriptor yX8_points.desc).map (fun d => d.parameters.length) = some 4 := ⟨rfl, by decide +kernel, by decide +kernel, by decide +kernel⟩
set_option maxHeartbeats 4000000 in
set_option maxRecDepth 100000 in
theorem c_X8_points {g : Gx} {A : Nat → Nat} {th sq ac td lt ln cu tk sa ti ft fp le lf tr : Int} {fl fm fi fc ff fw ftp fk fe fr : Nat → Int} {h p q w : Int} (hfc : Bd 0 60 fc) (hc1 : 0 ≤ fc 1 ∧ fc 1 ≤ 4) (ht3 : Bd 0 12 (tM fc)) (h0 : 0 < fc 1 → 0 < fc 0) (hh : R32 h) (hp : R32 p) (hq : R32 q) (hw : R32 w) : CtE g yX8_points wsX8_points 3 66 [.ref (A 0), .int (iI h), .int (iI p), .int (iI q), .int (iI w)] (wMod g A th sq ac td lt ln cu tk sa ti ft fp le lf tr fl fm fi fc ff fw ftp fk fe fr) (if (0 ≤ h ∧ h < fc 1) ∧ (1 ≤ q ∧ q ≤ 9999 ∧ 0 ≤ p ∧ p < q) ∧ 0 ≤ w ∧ w ≤ 1 then toldI (arcM fc h p q) (q * fc 0) w else -1000001) (wMod g A (0) sq ac td lt ln cu tk sa ti ft fp le lf tr fl fm fi fc ff fw ftp fk fe fr) := by
  refine m_go (cc := cX8_points) (nL := 5) (by decide +kernel) rfl (Nat.le_of_ble_eq_true rfl) (fun x X Y hnm => ?_)
  refine v_eq (lo2 := [some (.ref (A 0)), some (.int (iI h)), some (.int (iI p)), some (.int (iI q)), some (.int (iI w))]) rfl rfl rfl rfl ?_
  refine v_aload_n X dX8_points_0 rfl ?_
  refine v_iconst X dX8_points_1 ?_
  refine v_put X (fun _ h => List.mem_cons_of_mem _ (List.mem_append_right _ h)) tyX8 tyX8_ok nmX8 0 rfl rfl 0 (by decide) rfl (List.mem_of_getElem? (i := 1) rfl) rfl rfl rfl (Nat.le_of_ble_eq_true rfl) dX8_points_2 ?_
  dsimp only [List.set, wMod]
  refine v_aload_n X dX8_points_5 rfl ?_
  refine v_iload_n X dX8_points_6 rfl ?_
  refine res_E X (run_V X (c_X8_isHand (g := g) (by first | assumption | omega) (by first | assumption | omega)) gX8_points_X8_isHand rfl hdX8_isHand ⟨(Nat.le_of_ble_eq_true rfl), (Nat.le_of_ble_eq_true rfl)⟩ ⟨(Nat.le_of_ble_eq_true rfl), (Nat.le_of_ble_eq_true rfl)⟩ 0 rfl rfl rfl [0, 1, 2, 3, 4, 5, 6, 7, 8, 9, 10] rfl rfl rfl rfl (by simp [Value.category]) dX8_points_7) [0, 1, 2, 3, 4, 5, 6, 7, 8, 9, 10] rfl rfl ?_
  refine v_ifb_eq (tgt := 32) X dX8_points_10 (by decide) (fun c1 => ?_) (fun c1 => ?_)
  · skip
    refine v_ldc X (List.mem_of_getElem? (i := 2) rfl) dX8_points_32 (n := -1000001) (by decide) ?_
    exact v_iret X Y dX8_points_34 (u := ()) (by rw [if_neg (by omega)]) (by rfl)
  · skip
    refine v_iload_n X dX8_points_13 rfl ?_
    refine v_iload_n X dX8_points_14 rfl ?_
    refine res_E X (run_S X (c_X8_isMoment (g := g) (by first | assumption | omega) (by first | assumption | omega)) gX8_points_X8_isMoment rfl hdX8_isMoment.2 ⟨(Nat.le_of_ble_eq_true rfl), (Nat.le_of_ble_eq_true rfl)⟩ ⟨(Nat.le_of_ble_eq_true rfl), (Nat.le_of_ble_eq_true rfl)⟩ [] rfl rfl rfl rfl (by simp [Value.category]) dX8_points_15) [] rfl rfl ?_
    refine v_ifb_eq (tgt := 32) X dX8_points_18 (by decide) (fun c2 => ?_) (fun c2 => ?_)
    · skip
      refine v_ldc X (List.mem_of_getElem? (i := 2) rfl) dX8_points_32 (n := -1000001) (by decide) ?_
      exact v_iret X Y dX8_points_34 (u := ()) (by rw [if_neg (by omega)]) (by rfl)
    · skip
      refine v_iload X dX8_points_21 rfl ?_
      refine v_i2l X dX8_points_23 (by first | omega | (split <;> omega)) ?_
      refine v_lconst0 X dX8_points_24 ?_
      refine v_lconst1 X dX8_points_25 ?_
      refine res_E X (run_S X (c_X8_in (g := g) (by first | assumption | omega) (by first | assumption | omega) (by first | assumption | omega)) gX8_points_X8_in rfl hdX8_in.2 ⟨(Nat.le_of_ble_eq_true rfl), (Nat.le_of_ble_eq_true rfl)⟩ ⟨(Nat.le_of_ble_eq_true rfl), (Nat.le_of_ble_eq_true rfl)⟩ [] rfl rfl rfl rfl (by simp [Value.category]) dX8_points_26) [] rfl rfl ?_
      refine v_ifb_ne (tgt := 35) X dX8_points_29 (by decide) (fun c3 => ?_) (fun c3 => ?_)
      · skip
        refine v_aload_n X dX8_points_35 rfl ?_
        refine v_iload_n X dX8_points_36 rfl ?_
        refine v_iload_n X dX8_points_37 rfl ?_
        refine v_iload_n X dX8_points_38 rfl ?_
        have g1 : (0 ≤ h ∧ h < fc 1) ∧ (1 ≤ q ∧ q ≤ 9999 ∧ 0 ≤ p ∧ p < q) ∧ 0 ≤ w ∧ w ≤ 1 := (by omega)
        have q0 := hfc 0
        have q6 := mul_nn (show 0 ≤ q ∧ q ≤ 9999 by omega) q0
        have q7 := Int.mul_pos (show 0 < q by omega) (show 0 < fc 0 by omega)
        have q8 := arcM_bd (fc := fc) (h := h) (p := p) (q := q) q6.2
        refine res_E X (run_V X (c_X8_arc (g := g) (by first | assumption | omega) (by first | assumption | omega) (by first | assumption | omega) (by first | assumption | omega) (by first | assumption | omega) (by first | assumption | omega) (by first | assumption | omega)) gX8_points_X8_arc rfl hdX8_arc ⟨(Nat.le_of_ble_eq_true rfl), (Nat.le_of_ble_eq_true rfl)⟩ ⟨(Nat.le_of_ble_eq_true rfl), (Nat.le_of_ble_eq_true rfl)⟩ 0 rfl rfl rfl [0, 1, 2, 3, 4, 5, 6, 7, 8, 9, 10] rfl rfl rfl rfl (by simp [Value.category]) dX8_points_39) [0, 1, 2, 3, 4, 5, 6, 7, 8, 9, 10] rfl rfl ?_
        refine v_iload_n X dX8_points_42 rfl ?_
        refine v_aload_n X dX8_points_43 rfl ?_
        refine v_get X (fun _ h => List.mem_cons_of_mem _ (List.mem_append_right _ h)) 0 rfl rfl 5 (by decide) rfl (List.mem_of_getElem? (i := 3) rfl) rfl dX8_points_44 ?_
        refine v_iconst X dX8_points_47 ?_
        refine v_iald X 4 rfl (by first | omega | (split <;> omega)) (by first | omega | (split <;> omega)) (by first | omega | (split <;> omega)) dX8_points_48 hfc (fun z2 ez2 lz2 uz2 => ?_)
        rw [show z2 = fc 0 from ez2]
        refine v_imul X dX8_points_49 ?_
        refine v_iload X dX8_points_50 rfl ?_
        refine res_E X (run_S X (c_X8_told (g := g) (by first | assumption | omega) (by first | assumption | omega) (by first | assumption | omega) (by first | assumption | omega) (by first | assumption | omega)) gX8_points_X8_told rfl hdX8_told.2 ⟨(Nat.le_of_ble_eq_true rfl), (Nat.le_of_ble_eq_true rfl)⟩ ⟨(Nat.le_of_ble_eq_true rfl), (Nat.le_of_ble_eq_true rfl)⟩ [] rfl rfl rfl rfl (by simp [Value.category]) dX8_points_52) [] rfl rfl ?_
        exact v_iret X Y dX8_points_55 (u := ()) (by rw [if_pos g1]) (by rfl)
      · skip
        refine v_ldc X (List.mem_of_getElem? (i := 2) rfl) dX8_points_32 (n := -1000001) (by decide) ?_
        exact v_iret X Y dX8_points_34 (u := ()) (by rw [if_neg (by omega)]) (by rfl)

theorem hdX8_partsOf : yX8_partsOf.cls = RX8 ∧ yX8_partsOf.cls ≠ "java/lang/invoke/MethodHandle" ∧ yX8_partsOf.cls ≠ "java/lang/invoke/VarHandle" ∧ (parseMethodDescriptor yX8_partsOf.desc).map (fun d => d.parameters.length) = some 2 := ⟨rfl, by decide +kernel, by decide +kernel, by decide +kernel⟩
set_option maxHeartbeats 4000000 in
set_option maxRecDepth 100000 in
theorem c_X8_partsOf {g : Gx} {A : Nat → Nat} {th sq ac td lt ln cu tk sa ti ft fp le lf tr : Int} {fl fm fi fc ff fw ftp fk fe fr : Nat → Int} {a b : Int} (hfc : Bd 0 60 fc) (hc1 : 0 ≤ fc 1 ∧ fc 1 ≤ 4) (ht3 : Bd 0 12 (tM fc)) (ha : 0 ≤ a ∧ a ≤ 3) (hb : 0 ≤ b ∧ b ≤ 3) : CtE g yX8_partsOf wsX8_partsOf 2 43 [.ref (A 0), .int (iI a), .int (iI b)] (wMod g A th sq ac td lt ln cu tk sa ti ft fp le lf tr fl fm fi fc ff fw ftp fk fe fr) (whoI (spdM fc a) (spdM fc b)) (wMod g A th sq ac td lt ln cu tk sa ti ft fp le lf tr fl fm fi fc ff fw ftp fk fe fr) := by
  refine m_go (cc := cX8_partsOf) (nL := 3) (by decide +kernel) rfl (Nat.le_of_ble_eq_true rfl) (fun x X Y hnm => ?_)
  refine v_eq (lo2 := [some (.ref (A 0)), some (.int (iI a)), some (.int (iI b))]) rfl rfl rfl rfl ?_
  have m1 := sq_bd (spdM_bd (fc := fc) (h := a) ht3)
  have m2 := sq_bd (spdM_bd (fc := fc) (h := b) ht3)
  refine v_aload_n X dX8_partsOf_0 rfl ?_
  refine v_iload_n X dX8_partsOf_1 rfl ?_
  refine res_E X (run_V X (c_X8_speed (g := g) (by first | assumption | omega) (by first | assumption | omega) (by first | assumption | omega)) gX8_partsOf_X8_speed rfl hdX8_speed ⟨(Nat.le_of_ble_eq_true rfl), (Nat.le_of_ble_eq_true rfl)⟩ ⟨(Nat.le_of_ble_eq_true rfl), (Nat.le_of_ble_eq_true rfl)⟩ 0 rfl rfl rfl [0, 1, 2, 3, 4, 5, 6, 7, 8, 9, 10] rfl rfl rfl rfl (by simp [Value.category]) dX8_partsOf_2) [0, 1, 2, 3, 4, 5, 6, 7, 8, 9, 10] rfl rfl ?_
  refine v_aload_n X dX8_partsOf_5 rfl ?_
  refine v_iload_n X dX8_partsOf_6 rfl ?_
  refine res_E X (run_V X (c_X8_speed (g := g) (by first | assumption | omega) (by first | assumption | omega) (by first | assumption | omega)) gX8_partsOf_X8_speed rfl hdX8_speed ⟨(Nat.le_of_ble_eq_true rfl), (Nat.le_of_ble_eq_true rfl)⟩ ⟨(Nat.le_of_ble_eq_true rfl), (Nat.le_of_ble_eq_true rfl)⟩ 0 rfl rfl rfl [0, 1, 2, 3, 4, 5, 6, 7, 8, 9, 10] rfl rfl rfl rfl (by simp [Value.category]) dX8_partsOf_7) [0, 1, 2, 3, 4, 5, 6, 7, 8, 9, 10] rfl rfl ?_
  refine v_imul X dX8_partsOf_10 ?_
  refine v_aload_n X dX8_partsOf_11 rfl ?_
  refine v_iload_n X dX8_partsOf_12 rfl ?_
  refine res_E X (run_V X (c_X8_speed (g := g) (by first | assumption | omega) (by first | assumption | omega) (by first | assumption | omega)) gX8_partsOf_X8_speed rfl hdX8_speed ⟨(Nat.le_of_ble_eq_true rfl), (Nat.le_of_ble_eq_true rfl)⟩ ⟨(Nat.le_of_ble_eq_true rfl), (Nat.le_of_ble_eq_true rfl)⟩ 0 rfl rfl rfl [0, 1, 2, 3, 4, 5, 6, 7, 8, 9, 10] rfl rfl rfl rfl (by simp [Value.category]) dX8_partsOf_13) [0, 1, 2, 3, 4, 5, 6, 7, 8, 9, 10] rfl rfl ?_
  refine v_aload_n X dX8_partsOf_16 rfl ?_
  refine v_iload_n X dX8_partsOf_17 rfl ?_
  refine res_E X (run_V X (c_X8_speed (g := g) (by first | assumption | omega) (by first | assumption | omega) (by first | assumption | omega)) gX8_partsOf_X8_speed rfl hdX8_speed ⟨(Nat.le_of_ble_eq_true rfl), (Nat.le_of_ble_eq_true rfl)⟩ ⟨(Nat.le_of_ble_eq_true rfl), (Nat.le_of_ble_eq_true rfl)⟩ 0 rfl rfl rfl [0, 1, 2, 3, 4, 5, 6, 7, 8, 9, 10] rfl rfl rfl rfl (by simp [Value.category]) dX8_partsOf_18) [0, 1, 2, 3, 4, 5, 6, 7, 8, 9, 10] rfl rfl ?_
  refine v_imul X dX8_partsOf_21 ?_
  refine v_isub X dX8_partsOf_22 ?_
  refine res_E X (run_S X (c_X8_size (g := g) (by first | assumption | omega)) gX8_partsOf_X8_size rfl hdX8_size.2 ⟨(Nat.le_of_ble_eq_true rfl), (Nat.le_of_ble_eq_true rfl)⟩ ⟨(Nat.le_of_ble_eq_true rfl), (Nat.le_of_ble_eq_true rfl)⟩ [] rfl rfl rfl rfl (by simp [Value.category]) dX8_partsOf_23) [] rfl rfl ?_
  exact v_iret X Y dX8_partsOf_26 (u := ()) (by rfl) (by rfl)

theorem hdX8_otherOf : yX8_otherOf.cls = RX8 ∧ yX8_otherOf.cls ≠ "java/lang/invoke/MethodHandle" ∧ yX8_otherOf.cls ≠ "java/lang/invoke/VarHandle" ∧ (parseMethodDescriptor yX8_otherOf.desc).map (fun d => d.parameters.length) = some 3 := ⟨rfl, by decide +kernel, by decide +kernel, by decide +kernel⟩
set_option maxHeartbeats 4000000 in
set_option maxRecDepth 100000 in
theorem c_X8_otherOf {g : Gx} {A : Nat → Nat} {th sq ac td lt ln cu tk sa ti ft fp le lf tr : Int} {fl fm fi fc ff fw ftp fk fe fr : Nat → Int} {a b k : Int} (hfc : Bd 0 60 fc) (hc1 : 0 ≤ fc 1 ∧ fc 1 ≤ 4) (ht3 : Bd 0 12 (tM fc)) (ha : 0 ≤ a ∧ a ≤ 3) (hb : 0 ≤ b ∧ b ≤ 3) (hk : 0 ≤ k ∧ k ≤ 576) : CtE g yX8_otherOf wsX8_otherOf 3 65 [.ref (A 0), .int (iI a), .int (iI b), .int (iI k)] (wMod g A th sq ac td lt ln cu tk sa ti ft fp le lf tr fl fm fi fc ff fw ftp fk fe fr) (othM (spdM fc a) (spdM fc b) k) (wMod g A th sq ac td lt ln cu tk sa ti ft fp le lf tr fl fm fi fc ff fw ftp fk fe fr) := by
  refine m_go (cc := cX8_otherOf) (nL := 8) (by decide +kernel) rfl (Nat.le_of_ble_eq_true rfl) (fun x X Y hnm => ?_)
  refine v_eq (lo2 := [some (.ref (A 0)), some (.int (iI a)), some (.int (iI b)), some (.int (iI k)), none, none, none, none]) rfl rfl rfl rfl ?_
  have q1 := spdM_bd (fc := fc) (h := a) ht3
  have q2 := spdM_bd (fc := fc) (h := b) ht3
  have q3 := whoI_bd q1 q2
  have q4 := mul_bd q1 hk
  have q5 := mul_bd q2 hk
  refine v_aload_n X dX8_otherOf_0 rfl ?_
  refine v_iload_n X dX8_otherOf_1 rfl ?_
  refine v_iload_n X dX8_otherOf_2 rfl ?_
  refine res_E X (run_V X (c_X8_partsOf (g := g) (by first | assumption | omega) (by first | assumption | omega) (by first | assumption | omega) (by first | assumption | omega) (by first | assumption | omega)) gX8_otherOf_X8_partsOf rfl hdX8_partsOf ⟨(Nat.le_of_ble_eq_true rfl), (Nat.le_of_ble_eq_true rfl)⟩ ⟨(Nat.le_of_ble_eq_true rfl), (Nat.le_of_ble_eq_true rfl)⟩ 0 rfl rfl rfl [0, 1, 2, 3, 4, 5, 6, 7, 8, 9, 10] rfl rfl rfl rfl (by simp [Value.category]) dX8_otherOf_3) [0, 1, 2, 3, 4, 5, 6, 7, 8, 9, 10] rfl rfl ?_
  refine v_istore X dX8_otherOf_6 (by decide) rfl ?_
  dsimp only [List.set]
  refine v_iconst X dX8_otherOf_8 ?_
  refine v_istore X dX8_otherOf_9 (by decide) rfl ?_
  dsimp only [List.set]
  have L11 : ∀ (nf : Nat) (y : Int) (h1 : 0 ≤ y ∧ y ≤ whoI (spdM fc a) (spdM fc b)) (h2 : othM (spdM fc a) (spdM fc b) k = othS (othQ (spdM fc a) (spdM fc b) (whoI (spdM fc a) (spdM fc b)) k) (whoI (spdM fc a) (spdM fc b) - y).toNat y) (_ : (whoI (spdM fc a) (spdM fc b) - y).toNat < nf), V g x 0 0 (wMod g A th sq ac td lt ln cu tk sa ti ft fp le lf tr fl fm fi fc ff fw ftp fk fe fr) [some (.ref (A 0)), some (.int (iI a)), some (.int (iI b)), some (.int (iI k)), some (.int (iI (whoI (spdM fc a) (spdM fc b)))), some (.int (iI y)), none, none] 11 [] := by
    intro nf
    induction nf with
    | zero => intro y h1 h2 hmu; exact absurd hmu (Nat.not_lt_zero _)
    | succ nf ih11 =>
      intro y h1 h2 hmu
      refine v_iload X dX8_otherOf_11 rfl ?_
      refine v_iload X dX8_otherOf_13 rfl ?_
      refine v_icmp_ge (tgt := 101) X dX8_otherOf_15 (by decide) (by omega) (by omega) (fun c1 => ?_) (fun c1 => ?_)
      · skip
        refine v_ldc X (List.mem_of_getElem? (i := 1) rfl) dX8_otherOf_101 (n := -1000000) (by decide) ?_
        exact v_iret X Y dX8_otherOf_103 (u := ()) (by rw [h2, show (whoI (spdM fc a) (spdM fc b) - y).toNat = 0 by omega]; rfl) (by rfl)
      · skip
        have q6 := mul_bd q1 (show 0 ≤ y ∧ y ≤ 576 by omega)
        have q7 := mul_bd q2 (show 0 ≤ y ∧ y ≤ 576 by omega)
        refine v_aload_n X dX8_otherOf_18 rfl ?_
        refine v_iload_n X dX8_otherOf_19 rfl ?_
        refine res_E X (run_V X (c_X8_speed (g := g) (by first | assumption | omega) (by first | assumption | omega) (by first | assumption | omega)) gX8_otherOf_X8_speed rfl hdX8_speed ⟨(Nat.le_of_ble_eq_true rfl), (Nat.le_of_ble_eq_true rfl)⟩ ⟨(Nat.le_of_ble_eq_true rfl), (Nat.le_of_ble_eq_true rfl)⟩ 0 rfl rfl rfl [0, 1, 2, 3, 4, 5, 6, 7, 8, 9, 10] rfl rfl rfl rfl (by simp [Value.category]) dX8_otherOf_20) [0, 1, 2, 3, 4, 5, 6, 7, 8, 9, 10] rfl rfl ?_
        refine v_iload_n X dX8_otherOf_23 rfl ?_
        refine v_imul X dX8_otherOf_24 ?_
        refine v_aload_n X dX8_otherOf_25 rfl ?_
        refine v_iload_n X dX8_otherOf_26 rfl ?_
        refine res_E X (run_V X (c_X8_speed (g := g) (by first | assumption | omega) (by first | assumption | omega) (by first | assumption | omega)) gX8_otherOf_X8_speed rfl hdX8_speed ⟨(Nat.le_of_ble_eq_true rfl), (Nat.le_of_ble_eq_true rfl)⟩ ⟨(Nat.le_of_ble_eq_true rfl), (Nat.le_of_ble_eq_true rfl)⟩ 0 rfl rfl rfl [0, 1, 2, 3, 4, 5, 6, 7, 8, 9, 10] rfl rfl rfl rfl (by simp [Value.category]) dX8_otherOf_27) [0, 1, 2, 3, 4, 5, 6, 7, 8, 9, 10] rfl rfl ?_
        refine v_iload X dX8_otherOf_30 rfl ?_
        refine v_imul X dX8_otherOf_32 ?_
        refine v_isub X dX8_otherOf_33 ?_
        refine v_iload X dX8_otherOf_34 rfl ?_
        refine v_irem X dX8_otherOf_36 (by omega) (by omega) (by omega) ?_
        refine v_if_ne (tgt := 44) X dX8_otherOf_37 (by decide) (by exact tmod_r (by omega)) (fun c2 => ?_) (fun c2 => ?_)
        · skip
          refine v_iconst X dX8_otherOf_44 ?_
          refine v_istore X dX8_otherOf_45 (by decide) rfl ?_
          dsimp only [List.set]
          refine v_aload_n X dX8_otherOf_47 rfl ?_
          refine v_iload_n X dX8_otherOf_48 rfl ?_
          refine res_E X (run_V X (c_X8_speed (g := g) (by first | assumption | omega) (by first | assumption | omega) (by first | assumption | omega)) gX8_otherOf_X8_speed rfl hdX8_speed ⟨(Nat.le_of_ble_eq_true rfl), (Nat.le_of_ble_eq_true rfl)⟩ ⟨(Nat.le_of_ble_eq_true rfl), (Nat.le_of_ble_eq_true rfl)⟩ 0 rfl rfl rfl [0, 1, 2, 3, 4, 5, 6, 7, 8, 9, 10] rfl rfl rfl rfl (by simp [Value.category]) dX8_otherOf_49) [0, 1, 2, 3, 4, 5, 6, 7, 8, 9, 10] rfl rfl ?_
          refine v_iload_n X dX8_otherOf_52 rfl ?_
          refine v_imul X dX8_otherOf_53 ?_
          refine v_aload_n X dX8_otherOf_54 rfl ?_
          refine v_iload_n X dX8_otherOf_55 rfl ?_
          refine res_E X (run_V X (c_X8_speed (g := g) (by first | assumption | omega) (by first | assumption | omega) (by first | assumption | omega)) gX8_otherOf_X8_speed rfl hdX8_speed ⟨(Nat.le_of_ble_eq_true rfl), (Nat.le_of_ble_eq_true rfl)⟩ ⟨(Nat.le_of_ble_eq_true rfl), (Nat.le_of_ble_eq_true rfl)⟩ 0 rfl rfl rfl [0, 1, 2, 3, 4, 5, 6, 7, 8, 9, 10] rfl rfl rfl rfl (by simp [Value.category]) dX8_otherOf_56) [0, 1, 2, 3, 4, 5, 6, 7, 8, 9, 10] rfl rfl ?_
          refine v_iload X dX8_otherOf_59 rfl ?_
          refine v_imul X dX8_otherOf_61 ?_
          refine v_isub X dX8_otherOf_62 ?_
          refine v_iload X dX8_otherOf_63 rfl ?_
          refine v_irem X dX8_otherOf_65 (by omega) (by omega) (by omega) ?_
          refine v_if_ne (tgt := 73) X dX8_otherOf_66 (by decide) (by exact tmod_r (by omega)) (fun c3 => ?_) (fun c3 => ?_)
          · skip
            refine v_iconst X dX8_otherOf_73 ?_
            refine v_istore X dX8_otherOf_74 (by decide) rfl ?_
            dsimp only [List.set]
            refine v_iload X dX8_otherOf_76 rfl ?_
            refine v_iload_n X dX8_otherOf_78 rfl ?_
            refine v_icmp_eq (tgt := 95) X dX8_otherOf_79 (by decide) (by omega) (by omega) (fun c4 => ?_) (fun c4 => ?_)
            · skip
              refine v_iinc X dX8_otherOf_95 rfl (by decide) rfl ?_
              dsimp only [List.set]
              refine v_goto (tgt := 11) X dX8_otherOf_98 (by decide) ?_
              refine v_drop 6 ?_
              dsimp only [List.set]
              refine v_drop 7 ?_
              dsimp only [List.set]
              exact ih11 _ (by omega) (by rw [h2, othS_s (by omega), if_neg (by unfold othQ; rw [decide_eq_true_eq]; omega)]) (by omega)
            · skip
              refine v_iload X dX8_otherOf_82 rfl ?_
              refine v_if_eq (tgt := 95) X dX8_otherOf_84 (by decide) (by omega) (fun c5 => ?_) (fun c5 => ?_)
              · skip
                refine v_iinc X dX8_otherOf_95 rfl (by decide) rfl ?_
                dsimp only [List.set]
                refine v_goto (tgt := 11) X dX8_otherOf_98 (by decide) ?_
                refine v_drop 6 ?_
                dsimp only [List.set]
                refine v_drop 7 ?_
                dsimp only [List.set]
                exact ih11 _ (by omega) (by rw [h2, othS_s (by omega), if_neg (by unfold othQ; rw [decide_eq_true_eq]; omega)]) (by omega)
              · skip
                refine v_iload X dX8_otherOf_87 rfl ?_
                refine v_if_eq (tgt := 95) X dX8_otherOf_89 (by decide) (by omega) (fun c6 => ?_) (fun c6 => ?_)
                · skip
                  refine v_iinc X dX8_otherOf_95 rfl (by decide) rfl ?_
                  dsimp only [List.set]
                  refine v_goto (tgt := 11) X dX8_otherOf_98 (by decide) ?_
                  refine v_drop 6 ?_
                  dsimp only [List.set]
                  refine v_drop 7 ?_
                  dsimp only [List.set]
                  exact ih11 _ (by omega) (by rw [h2, othS_s (by omega), if_neg (by unfold othQ; rw [decide_eq_true_eq]; omega)]) (by omega)
                · skip
                  refine v_iload X dX8_otherOf_92 rfl ?_
                  exact v_iret X Y dX8_otherOf_94 (u := ()) (by rw [h2, othS_s (by omega), if_pos (by unfold othQ; rw [decide_eq_true_eq]; omega)]) (by rfl)
          · skip
            refine v_iconst X dX8_otherOf_69 ?_
            refine v_goto (tgt := 74) X dX8_otherOf_70 (by decide) ?_
            refine v_istore X dX8_otherOf_74 (by decide) rfl ?_
            dsimp only [List.set]
            refine v_iload X dX8_otherOf_76 rfl ?_
            refine v_iload_n X dX8_otherOf_78 rfl ?_
            refine v_icmp_eq (tgt := 95) X dX8_otherOf_79 (by decide) (by omega) (by omega) (fun c7 => ?_) (fun c7 => ?_)
            · skip
              refine v_iinc X dX8_otherOf_95 rfl (by decide) rfl ?_
              dsimp only [List.set]
              refine v_goto (tgt := 11) X dX8_otherOf_98 (by decide) ?_
              refine v_drop 6 ?_
              dsimp only [List.set]
              refine v_drop 7 ?_
              dsimp only [List.set]
              exact ih11 _ (by omega) (by rw [h2, othS_s (by omega), if_neg (by unfold othQ; rw [decide_eq_true_eq]; omega)]) (by omega)
            · skip
              refine v_iload X dX8_otherOf_82 rfl ?_
              refine v_if_eq (tgt := 95) X dX8_otherOf_84 (by decide) (by omega) (fun c8 => ?_) (fun c8 => ?_)
              · skip
                refine v_iinc X dX8_otherOf_95 rfl (by decide) rfl ?_
                dsimp only [List.set]
                refine v_goto (tgt := 11) X dX8_otherOf_98 (by decide) ?_
                refine v_drop 6 ?_
                dsimp only [List.set]
                refine v_drop 7 ?_
                dsimp only [List.set]
                exact ih11 _ (by omega) (by rw [h2, othS_s (by omega), if_neg (by unfold othQ; rw [decide_eq_true_eq]; omega)]) (by omega)
              · skip
                refine v_iload X dX8_otherOf_87 rfl ?_
                refine v_if_eq (tgt := 95) X dX8_otherOf_89 (by decide) (by omega) (fun c9 => ?_) (fun c9 => ?_)
                · skip
                  refine v_iinc X dX8_otherOf_95 rfl (by decide) rfl ?_
                  dsimp only [List.set]
                  refine v_goto (tgt := 11) X dX8_otherOf_98 (by decide) ?_
                  refine v_drop 6 ?_
                  dsimp only [List.set]
                  refine v_drop 7 ?_
                  dsimp only [List.set]
                  exact ih11 _ (by omega) (by rw [h2, othS_s (by omega), if_neg (by unfold othQ; rw [decide_eq_true_eq]; omega)]) (by omega)
                · skip
                  refine v_iload X dX8_otherOf_92 rfl ?_
                  exact v_iret X Y dX8_otherOf_94 (u := ()) (by rw [h2, othS_s (by omega), if_pos (by unfold othQ; rw [decide_eq_true_eq]; omega)]) (by rfl)
        · skip
          refine v_iconst X dX8_otherOf_40 ?_
          refine v_goto (tgt := 45) X dX8_otherOf_41 (by decide) ?_
          refine v_istore X dX8_otherOf_45 (by decide) rfl ?_
          dsimp only [List.set]
          refine v_aload_n X dX8_otherOf_47 rfl ?_
          refine v_iload_n X dX8_otherOf_48 rfl ?_
          refine res_E X (run_V X (c_X8_speed (g := g) (by first | assumption | omega) (by first | assumption | omega) (by first | assumption | omega)) gX8_otherOf_X8_speed rfl hdX8_speed ⟨(Nat.le_of_ble_eq_true rfl), (Nat.le_of_ble_eq_true rfl)⟩ ⟨(Nat.le_of_ble_eq_true rfl), (Nat.le_of_ble_eq_true rfl)⟩ 0 rfl rfl rfl [0, 1, 2, 3, 4, 5, 6, 7, 8, 9, 10] rfl rfl rfl rfl (by simp [Value.category]) dX8_otherOf_49) [0, 1, 2, 3, 4, 5, 6, 7, 8, 9, 10] rfl rfl ?_
          refine v_iload_n X dX8_otherOf_52 rfl ?_
          refine v_imul X dX8_otherOf_53 ?_
          refine v_aload_n X dX8_otherOf_54 rfl ?_
          refine v_iload_n X dX8_otherOf_55 rfl ?_
          refine res_E X (run_V X (c_X8_speed (g := g) (by first | assumption | omega) (by first | assumption | omega) (by first | assumption | omega)) gX8_otherOf_X8_speed rfl hdX8_speed ⟨(Nat.le_of_ble_eq_true rfl), (Nat.le_of_ble_eq_true rfl)⟩ ⟨(Nat.le_of_ble_eq_true rfl), (Nat.le_of_ble_eq_true rfl)⟩ 0 rfl rfl rfl [0, 1, 2, 3, 4, 5, 6, 7, 8, 9, 10] rfl rfl rfl rfl (by simp [Value.category]) dX8_otherOf_56) [0, 1, 2, 3, 4, 5, 6, 7, 8, 9, 10] rfl rfl ?_
          refine v_iload X dX8_otherOf_59 rfl ?_
          refine v_imul X dX8_otherOf_61 ?_
          refine v_isub X dX8_otherOf_62 ?_
          refine v_iload X dX8_otherOf_63 rfl ?_
          refine v_irem X dX8_otherOf_65 (by omega) (by omega) (by omega) ?_
          refine v_if_ne (tgt := 73) X dX8_otherOf_66 (by decide) (by exact tmod_r (by omega)) (fun c10 => ?_) (fun c10 => ?_)
          · skip
            refine v_iconst X dX8_otherOf_73 ?_
            refine v_istore X dX8_otherOf_74 (by decide) rfl ?_
            dsimp only [List.set]
            refine v_iload X dX8_otherOf_76 rfl ?_
            refine v_iload_n X dX8_otherOf_78 rfl ?_
            refine v_icmp_eq (tgt := 95) X dX8_otherOf_79 (by decide) (by omega) (by omega) (fun c11 => ?_) (fun c11 => ?_)
            · skip
              refine v_iinc X dX8_otherOf_95 rfl (by decide) rfl ?_
              dsimp only [List.set]
              refine v_goto (tgt := 11) X dX8_otherOf_98 (by decide) ?_
              refine v_drop 6 ?_
              dsimp only [List.set]
              refine v_drop 7 ?_
              dsimp only [List.set]
              exact ih11 _ (by omega) (by rw [h2, othS_s (by omega), if_neg (by unfold othQ; rw [decide_eq_true_eq]; omega)]) (by omega)
            · skip
              refine v_iload X dX8_otherOf_82 rfl ?_
              refine v_if_eq (tgt := 95) X dX8_otherOf_84 (by decide) (by omega) (fun c12 => ?_) (fun c12 => ?_)
              · skip
                refine v_iinc X dX8_otherOf_95 rfl (by decide) rfl ?_
                dsimp only [List.set]
                refine v_goto (tgt := 11) X dX8_otherOf_98 (by decide) ?_
                refine v_drop 6 ?_
                dsimp only [List.set]
                refine v_drop 7 ?_
                dsimp only [List.set]
                exact ih11 _ (by omega) (by rw [h2, othS_s (by omega), if_neg (by unfold othQ; rw [decide_eq_true_eq]; omega)]) (by omega)
              · skip
                refine v_iload X dX8_otherOf_87 rfl ?_
                refine v_if_eq (tgt := 95) X dX8_otherOf_89 (by decide) (by omega) (fun c13 => ?_) (fun c13 => ?_)
                · skip
                  refine v_iinc X dX8_otherOf_95 rfl (by decide) rfl ?_
                  dsimp only [List.set]
                  refine v_goto (tgt := 11) X dX8_otherOf_98 (by decide) ?_
                  refine v_drop 6 ?_
                  dsimp only [List.set]
                  refine v_drop 7 ?_
                  dsimp only [List.set]
                  exact ih11 _ (by omega) (by rw [h2, othS_s (by omega), if_neg (by unfold othQ; rw [decide_eq_true_eq]; omega)]) (by omega)
                · skip
                  refine v_iload X dX8_otherOf_92 rfl ?_
                  exact v_iret X Y dX8_otherOf_94 (u := ()) (by rw [h2, othS_s (by omega), if_pos (by unfold othQ; rw [decide_eq_true_eq]; omega)]) (by rfl)
          · skip
            refine v_iconst X dX8_otherOf_69 ?_
            refine v_goto (tgt := 74) X dX8_otherOf_70 (by decide) ?_
            refine v_istore X dX8_otherOf_74 (by decide) rfl ?_
            dsimp only [List.set]
            refine v_iload X dX8_otherOf_76 rfl ?_
            refine v_iload_n X dX8_otherOf_78 rfl ?_
            refine v_icmp_eq (tgt := 95) X dX8_otherOf_79 (by decide) (by omega) (by omega) (fun c14 => ?_) (fun c14 => ?_)
            · skip
              refine v_iinc X dX8_otherOf_95 rfl (by decide) rfl ?_
              dsimp only [List.set]
              refine v_goto (tgt := 11) X dX8_otherOf_98 (by decide) ?_
              refine v_drop 6 ?_
              dsimp only [List.set]
              refine v_drop 7 ?_
              dsimp only [List.set]
              exact ih11 _ (by omega) (by rw [h2, othS_s (by omega), if_neg (by unfold othQ; rw [decide_eq_true_eq]; omega)]) (by omega)
            · skip
              refine v_iload X dX8_otherOf_82 rfl ?_
              refine v_if_eq (tgt := 95) X dX8_otherOf_84 (by decide) (by omega) (fun c15 => ?_) (fun c15 => ?_)
              · skip
                refine v_iinc X dX8_otherOf_95 rfl (by decide) rfl ?_
                dsimp only [List.set]
                refine v_goto (tgt := 11) X dX8_otherOf_98 (by decide) ?_
                refine v_drop 6 ?_
                dsimp only [List.set]
                refine v_drop 7 ?_
                dsimp only [List.set]
                exact ih11 _ (by omega) (by rw [h2, othS_s (by omega), if_neg (by unfold othQ; rw [decide_eq_true_eq]; omega)]) (by omega)
              · skip
                refine v_iload X dX8_otherOf_87 rfl ?_
                refine v_if_eq (tgt := 95) X dX8_otherOf_89 (by decide) (by omega) (fun c16 => ?_) (fun c16 => ?_)
                · skip
                  refine v_iinc X dX8_otherOf_95 rfl (by decide) rfl ?_
                  dsimp only [List.set]
                  refine v_goto (tgt := 11) X dX8_otherOf_98 (by decide) ?_
                  refine v_drop 6 ?_
                  dsimp only [List.set]
                  refine v_drop 7 ?_
                  dsimp only [List.set]
                  exact ih11 _ (by omega) (by rw [h2, othS_s (by omega), if_neg (by unfold othQ; rw [decide_eq_true_eq]; omega)]) (by omega)
                · skip
                  refine v_iload X dX8_otherOf_92 rfl ?_
                  exact v_iret X Y dX8_otherOf_94 (u := ()) (by rw [h2, othS_s (by omega), if_pos (by unfold othQ; rw [decide_eq_true_eq]; omega)]) (by rfl)
  exact L11 _ _ (by omega) (by rw [Int.sub_zero]; rfl) (Nat.lt_succ_self _)

theorem hdX8_doubts : yX8_doubts.cls = RX8 ∧ yX8_doubts.cls ≠ "java/lang/invoke/MethodHandle" ∧ yX8_doubts.cls ≠ "java/lang/invoke/VarHandle" ∧ (parseMethodDescriptor yX8_doubts.desc).map (fun d => d.parameters.length) = some 2 := ⟨rfl, by decide +kernel, by decide +kernel, by decide +kernel⟩
set_option maxHeartbeats 4000000 in
set_option maxRecDepth 100000 in
theorem c_X8_doubts {g : Gx} {A : Nat → Nat} {th sq ac td lt ln cu tk sa ti ft fp le lf tr : Int} {fl fm fi fc ff fw ftp fk fe fr : Nat → Int} {a b : Int} (hfc : Bd 0 60 fc) (hc1 : 0 ≤ fc 1 ∧ fc 1 ≤ 4) (ht3 : Bd 0 12 (tM fc)) (ha : R32 a) (hb : R32 b) : CtE g yX8_doubts wsX8_doubts 4 92 [.ref (A 0), .int (iI a), .int (iI b)] (wMod g A th sq ac td lt ln cu tk sa ti ft fp le lf tr fl fm fi fc ff fw ftp fk fe fr) (if (0 ≤ a ∧ a < fc 1) ∧ (0 ≤ b ∧ b < fc 1) ∧ a ≠ b then (if whoI (spdM fc a) (spdM fc b) = 0 then -1000000 else cntN (fun k => decide (othM (spdM fc a) (spdM fc b) k ≠ -1000000)) (whoI (spdM fc a) (spdM fc b)).toNat) else -1000001) (wMod g A (0) sq ac td lt ln cu tk sa ti ft fp le lf tr fl fm fi fc ff fw ftp fk fe fr) := by
  refine m_go (cc := cX8_doubts) (nL := 6) (by decide +kernel) rfl (Nat.le_of_ble_eq_true rfl) (fun x X Y hnm => ?_)
  refine v_eq (lo2 := [some (.ref (A 0)), some (.int (iI a)), some (.int (iI b)), none, none, none]) rfl rfl rfl rfl ?_
  have q1 := spdM_bd (fc := fc) (h := a) ht3
  have q2 := spdM_bd (fc := fc) (h := b) ht3
  have q3 := whoI_bd q1 q2
  have qm := fun (i : Int) => othM_bd (x := i) q3
  refine v_aload_n X dX8_doubts_0 rfl ?_
  refine v_iconst X dX8_doubts_1 ?_
  refine v_put X (fun _ h => List.mem_cons_of_mem _ (List.mem_append_right _ h)) tyX8 tyX8_ok nmX8 0 rfl rfl 0 (by decide) rfl (List.mem_of_getElem? (i := 1) rfl) rfl rfl rfl (Nat.le_of_ble_eq_true rfl) dX8_doubts_2 ?_
  dsimp only [List.set, wMod]
  refine v_aload_n X dX8_doubts_5 rfl ?_
  refine v_iload_n X dX8_doubts_6 rfl ?_
  refine v_iload_n X dX8_doubts_7 rfl ?_
  refine res_E X (run_V X (c_X8_areTwo (g := g) (by first | assumption | omega) (by first | assumption | omega) (by first | assumption | omega)) gX8_doubts_X8_areTwo rfl hdX8_areTwo ⟨(Nat.le_of_ble_eq_true rfl), (Nat.le_of_ble_eq_true rfl)⟩ ⟨(Nat.le_of_ble_eq_true rfl), (Nat.le_of_ble_eq_true rfl)⟩ 0 rfl rfl rfl [0, 1, 2, 3, 4, 5, 6, 7, 8, 9, 10] rfl rfl rfl rfl (by simp [Value.category]) dX8_doubts_8) [0, 1, 2, 3, 4, 5, 6, 7, 8, 9, 10] rfl rfl ?_
  refine v_ifb_ne (tgt := 17) X dX8_doubts_11 (by decide) (fun c1 => ?_) (fun c1 => ?_)
  · skip
    refine v_aload_n X dX8_doubts_17 rfl ?_
    refine v_iload_n X dX8_doubts_18 rfl ?_
    refine v_iload_n X dX8_doubts_19 rfl ?_
    have g1 : (0 ≤ a ∧ a < fc 1) ∧ (0 ≤ b ∧ b < fc 1) ∧ a ≠ b := (by omega)
    refine res_E X (run_V X (c_X8_partsOf (g := g) (by first | assumption | omega) (by first | assumption | omega) (by first | assumption | omega) (by first | assumption | omega) (by first | assumption | omega)) gX8_doubts_X8_partsOf rfl hdX8_partsOf ⟨(Nat.le_of_ble_eq_true rfl), (Nat.le_of_ble_eq_true rfl)⟩ ⟨(Nat.le_of_ble_eq_true rfl), (Nat.le_of_ble_eq_true rfl)⟩ 0 rfl rfl rfl [0, 1, 2, 3, 4, 5, 6, 7, 8, 9, 10] rfl rfl rfl rfl (by simp [Value.category]) dX8_doubts_20) [0, 1, 2, 3, 4, 5, 6, 7, 8, 9, 10] rfl rfl ?_
    refine v_istore_n X dX8_doubts_23 3 rfl (by decide) rfl ?_
    dsimp only [List.set]
    refine v_iconst X dX8_doubts_24 ?_
    refine v_istore X dX8_doubts_25 (by decide) rfl ?_
    dsimp only [List.set]
    refine v_iconst X dX8_doubts_27 ?_
    refine v_istore X dX8_doubts_28 (by decide) rfl ?_
    dsimp only [List.set]
    have L30 : ∀ (nf : Nat) (n : Int) (k : Int) (h1 : 0 ≤ k ∧ k ≤ whoI (spdM fc a) (spdM fc b)) (h2 : n = cntN (fun k => decide (othM (spdM fc a) (spdM fc b) k ≠ -1000000)) k.toNat) (h3 : 0 ≤ n ∧ n ≤ k) (_ : (whoI (spdM fc a) (spdM fc b) - k).toNat < nf), V g x 0 0 (wMod g A (0) sq ac td lt ln cu tk sa ti ft fp le lf tr fl fm fi fc ff fw ftp fk fe fr) [some (.ref (A 0)), some (.int (iI a)), some (.int (iI b)), some (.int (iI (whoI (spdM fc a) (spdM fc b)))), some (.int (iI n)), some (.int (iI k))] 30 [] := by
      intro nf
      induction nf with
      | zero => intro n k h1 h2 h3 hmu; exact absurd hmu (Nat.not_lt_zero _)
      | succ nf ih30 =>
        intro n k h1 h2 h3 hmu
        refine v_iload X dX8_doubts_30 rfl ?_
        refine v_iload_n X dX8_doubts_32 rfl ?_
        refine v_icmp_ge (tgt := 65) X dX8_doubts_33 (by decide) (by first | omega | (split <;> omega)) (by first | omega | (split <;> omega)) (fun c2 => ?_) (fun c2 => ?_)
        · skip
          refine v_iload_n X dX8_doubts_65 rfl ?_
          refine v_if_ne (tgt := 74) X dX8_doubts_66 (by decide) (by first | omega | (split <;> omega)) (fun c3 => ?_) (fun c3 => ?_)
          · skip
            refine v_iload X dX8_doubts_74 rfl ?_
            exact v_iret X Y dX8_doubts_76 (u := ()) (by
                rw [if_pos g1]; have e : k = whoI (spdM fc a) (spdM fc b) := by omega
                first | rw [if_pos (by assumption)] | rw [if_neg (by assumption), h2, e]) (by rfl)
          · skip
            refine v_ldc X (List.mem_of_getElem? (i := 3) rfl) dX8_doubts_69 (n := -1000000) (by decide) ?_
            refine v_goto (tgt := 76) X dX8_doubts_71 (by decide) ?_
            exact v_iret X Y dX8_doubts_76 (u := ()) (by
                rw [if_pos g1]; have e : k = whoI (spdM fc a) (spdM fc b) := by omega
                first | rw [if_pos (by assumption)] | rw [if_neg (by assumption), h2, e]) (by rfl)
        · skip
          refine v_iload X dX8_doubts_36 rfl ?_
          refine v_aload_n X dX8_doubts_38 rfl ?_
          refine v_iload_n X dX8_doubts_39 rfl ?_
          refine v_iload_n X dX8_doubts_40 rfl ?_
          refine v_iload X dX8_doubts_41 rfl ?_
          refine res_E X (run_V X (c_X8_otherOf (g := g) (by first | assumption | omega) (by first | assumption | omega) (by first | assumption | omega) (by first | assumption | omega) (by first | assumption | omega) (by first | assumption | omega)) gX8_doubts_X8_otherOf rfl hdX8_otherOf ⟨(Nat.le_of_ble_eq_true rfl), (Nat.le_of_ble_eq_true rfl)⟩ ⟨(Nat.le_of_ble_eq_true rfl), (Nat.le_of_ble_eq_true rfl)⟩ 0 rfl rfl rfl [0, 1, 2, 3, 4, 5, 6, 7, 8, 9, 10] rfl rfl rfl rfl (by simp [Value.category]) dX8_doubts_43) [0, 1, 2, 3, 4, 5, 6, 7, 8, 9, 10] rfl rfl ?_
          refine v_ldc X (List.mem_of_getElem? (i := 3) rfl) dX8_doubts_46 (n := -1000000) (by decide) ?_
          refine v_icmp_eq (tgt := 55) X dX8_doubts_48 (by decide) (by have := qm k; omega) (by omega) (fun c4 => ?_) (fun c4 => ?_)
          · skip
            refine v_iconst X dX8_doubts_55 ?_
            refine v_iadd X dX8_doubts_56 ?_
            refine v_istore X dX8_doubts_57 (by decide) rfl ?_
            dsimp only [List.set]
            refine v_iinc X dX8_doubts_59 rfl (by decide) rfl ?_
            dsimp only [List.set]
            refine v_goto (tgt := 30) X dX8_doubts_62 (by decide) ?_
            exact ih30 _ _ (by omega) (by rw [cntN_s h1.1]; simp only [decide_eq_true_eq]; rw [show ((k.toNat : Nat) : Int) = k by omega]; split <;> omega) (by omega) (by omega)
          · skip
            refine v_iconst X dX8_doubts_51 ?_
            refine v_goto (tgt := 56) X dX8_doubts_52 (by decide) ?_
            refine v_iadd X dX8_doubts_56 ?_
            refine v_istore X dX8_doubts_57 (by decide) rfl ?_
            dsimp only [List.set]
            refine v_iinc X dX8_doubts_59 rfl (by decide) rfl ?_
            dsimp only [List.set]
            refine v_goto (tgt := 30) X dX8_doubts_62 (by decide) ?_
            exact ih30 _ _ (by omega) (by rw [cntN_s h1.1]; simp only [decide_eq_true_eq]; rw [show ((k.toNat : Nat) : Int) = k by omega]; split <;> omega) (by omega) (by omega)
    exact L30 _ _ _ (by omega) (by rfl) (by omega) (Nat.lt_succ_self _)
  · skip
    refine v_ldc X (List.mem_of_getElem? (i := 2) rfl) dX8_doubts_14 (n := -1000001) (by decide) ?_
    exact v_iret X Y dX8_doubts_16 (u := ()) (by rw [if_neg (by omega)]) (by rfl)

theorem hdX8_doubt : yX8_doubt.cls = RX8 ∧ yX8_doubt.cls ≠ "java/lang/invoke/MethodHandle" ∧ yX8_doubt.cls ≠ "java/lang/invoke/VarHandle" ∧ (parseMethodDescriptor yX8_doubt.desc).map (fun d => d.parameters.length) = some 4 := ⟨rfl, by decide +kernel, by decide +kernel, by decide +kernel⟩
set_option maxHeartbeats 4000000 in
set_option maxRecDepth 100000 in
theorem c_X8_doubt {g : Gx} {A : Nat → Nat} {th sq ac td lt ln cu tk sa ti ft fp le lf tr : Int} {fl fm fi fc ff fw ftp fk fe fr : Nat → Int} {a b i w : Int} (hfc : Bd 0 60 fc) (hc1 : 0 ≤ fc 1 ∧ fc 1 ≤ 4) (ht3 : Bd 0 12 (tM fc)) (ha : R32 a) (hb : R32 b) (hi : R32 i) (hw : R32 w) : CtI (S := Unit) g yX8_doubt wsX8_doubt 4 92 [.ref (A 0), .int (iI a), .int (iI b), .int (iI i), .int (iI w)] (wMod g A th sq ac td lt ln cu tk sa ti ft fp le lf tr fl fm fi fc ff fw ftp fk fe fr) (fun v _ => (¬ (((0 ≤ a ∧ a < fc 1) ∧ (0 ≤ b ∧ b < fc 1) ∧ a ≠ b) ∧ 0 ≤ i ∧ 0 ≤ w ∧ w ≤ 3) ∧ v = -1000001) ∨ ((((0 ≤ a ∧ a < fc 1) ∧ (0 ≤ b ∧ b < fc 1) ∧ a ≠ b) ∧ 0 ≤ i ∧ 0 ≤ w ∧ w ≤ 3) ∧ ((∃ k : Int, 0 ≤ k ∧ k < whoI (spdM fc a) (spdM fc b) ∧ othM (spdM fc a) (spdM fc b) k ≠ -1000000 ∧ cntN (fun k => decide (othM (spdM fc a) (spdM fc b) k ≠ -1000000)) k.toNat = i ∧ v = (if w < 2 then toldI k (whoI (spdM fc a) (spdM fc b)) w else toldI (othM (spdM fc a) (spdM fc b) k) (whoI (spdM fc a) (spdM fc b)) (w - 2))) ∨ (cntN (fun k => decide (othM (spdM fc a) (spdM fc b) k ≠ -1000000)) (whoI (spdM fc a) (spdM fc b)).toNat ≤ i ∧ v = -1000000)))) (fun _ => wMod g A (0) sq ac td lt ln cu tk sa ti ft fp le lf tr fl fm fi fc ff fw ftp fk fe fr) := by
  refine m_go (cc := cX8_doubt) (nL := 9) (by decide +kernel) rfl (Nat.le_of_ble_eq_true rfl) (fun x X Y hnm => ?_)
  refine v_eq (lo2 := [some (.ref (A 0)), some (.int (iI a)), some (.int (iI b)), some (.int (iI i)), some (.int (iI w)), none, none, none, none]) rfl rfl rfl rfl ?_
  have q1 := spdM_bd (fc := fc) (h := a) ht3
  have q2 := spdM_bd (fc := fc) (h := b) ht3
  have q3 := whoI_bd q1 q2
  have qm := fun (i : Int) => othM_bd (x := i) q3
  refine v_aload_n X dX8_doubt_0 rfl ?_
  refine v_iconst X dX8_doubt_1 ?_
  refine v_put X (fun _ h => List.mem_cons_of_mem _ (List.mem_append_right _ h)) tyX8 tyX8_ok nmX8 0 rfl rfl 0 (by decide) rfl (List.mem_of_getElem? (i := 1) rfl) rfl rfl rfl (Nat.le_of_ble_eq_true rfl) dX8_doubt_2 ?_
  dsimp only [List.set, wMod]
  refine v_aload_n X dX8_doubt_5 rfl ?_
  refine v_iload_n X dX8_doubt_6 rfl ?_
  refine v_iload_n X dX8_doubt_7 rfl ?_
  refine res_E X (run_V X (c_X8_areTwo (g := g) (by first | assumption | omega) (by first | assumption | omega) (by first | assumption | omega)) gX8_doubt_X8_areTwo rfl hdX8_areTwo ⟨(Nat.le_of_ble_eq_true rfl), (Nat.le_of_ble_eq_true rfl)⟩ ⟨(Nat.le_of_ble_eq_true rfl), (Nat.le_of_ble_eq_true rfl)⟩ 0 rfl rfl rfl [0, 1, 2, 3, 4, 5, 6, 7, 8, 9, 10] rfl rfl rfl rfl (by simp [Value.category]) dX8_doubt_8) [0, 1, 2, 3, 4, 5, 6, 7, 8, 9, 10] rfl rfl ?_
  refine v_ifb_eq (tgt := 31) X dX8_doubt_11 (by decide) (fun c1 => ?_) (fun c1 => ?_)
  · skip
    refine v_ldc X (List.mem_of_getElem? (i := 3) rfl) dX8_doubt_31 (n := -1000001) (by decide) ?_
    refine v_iret X Y dX8_doubt_33 (u := ()) ?_ (by rfl)
    exact Or.inl ⟨(by omega), rfl⟩
  · skip
    refine v_iload_n X dX8_doubt_14 rfl ?_
    refine v_if_lt (tgt := 31) X dX8_doubt_15 (by decide) (by first | omega | (split <;> omega)) (fun c2 => ?_) (fun c2 => ?_)
    · skip
      refine v_ldc X (List.mem_of_getElem? (i := 3) rfl) dX8_doubt_31 (n := -1000001) (by decide) ?_
      refine v_iret X Y dX8_doubt_33 (u := ()) ?_ (by rfl)
      exact Or.inl ⟨(by omega), rfl⟩
    · skip
      refine v_iload X dX8_doubt_18 rfl ?_
      refine v_i2l X dX8_doubt_20 (by first | omega | (split <;> omega)) ?_
      refine v_lconst0 X dX8_doubt_21 ?_
      refine v_ldc2 X (List.mem_of_getElem? (i := 2) rfl) dX8_doubt_22 (n := 3) (by decide) ?_
      refine res_E X (run_S X (c_X8_in (g := g) (by first | assumption | omega) (by first | assumption | omega) (by first | assumption | omega)) gX8_doubt_X8_in rfl hdX8_in.2 ⟨(Nat.le_of_ble_eq_true rfl), (Nat.le_of_ble_eq_true rfl)⟩ ⟨(Nat.le_of_ble_eq_true rfl), (Nat.le_of_ble_eq_true rfl)⟩ [] rfl rfl rfl rfl (by simp [Value.category]) dX8_doubt_25) [] rfl rfl ?_
      refine v_ifb_ne (tgt := 34) X dX8_doubt_28 (by decide) (fun c3 => ?_) (fun c3 => ?_)
      · skip
        refine v_aload_n X dX8_doubt_34 rfl ?_
        refine v_iload_n X dX8_doubt_35 rfl ?_
        refine v_iload_n X dX8_doubt_36 rfl ?_
        have g1 : ((0 ≤ a ∧ a < fc 1) ∧ (0 ≤ b ∧ b < fc 1) ∧ a ≠ b) ∧ 0 ≤ i ∧ 0 ≤ w ∧ w ≤ 3 := (by omega)
        refine res_E X (run_V X (c_X8_partsOf (g := g) (by first | assumption | omega) (by first | assumption | omega) (by first | assumption | omega) (by first | assumption | omega) (by first | assumption | omega)) gX8_doubt_X8_partsOf rfl hdX8_partsOf ⟨(Nat.le_of_ble_eq_true rfl), (Nat.le_of_ble_eq_true rfl)⟩ ⟨(Nat.le_of_ble_eq_true rfl), (Nat.le_of_ble_eq_true rfl)⟩ 0 rfl rfl rfl [0, 1, 2, 3, 4, 5, 6, 7, 8, 9, 10] rfl rfl rfl rfl (by simp [Value.category]) dX8_doubt_37) [0, 1, 2, 3, 4, 5, 6, 7, 8, 9, 10] rfl rfl ?_
        refine v_istore X dX8_doubt_40 (by decide) rfl ?_
        dsimp only [List.set]
        refine v_iload_n X dX8_doubt_42 rfl ?_
        refine v_istore X dX8_doubt_43 (by decide) rfl ?_
        dsimp only [List.set]
        refine v_iconst X dX8_doubt_45 ?_
        refine v_istore X dX8_doubt_46 (by decide) rfl ?_
        dsimp only [List.set]
        have L48 : ∀ (nf : Nat) (l : Int) (k : Int) (h1 : 0 ≤ k ∧ k ≤ whoI (spdM fc a) (spdM fc b)) (h2 : i - l = cntN (fun k => decide (othM (spdM fc a) (spdM fc b) k ≠ -1000000)) k.toNat) (h3 : 0 ≤ l ∧ l ≤ i) (_ : (whoI (spdM fc a) (spdM fc b) - k).toNat < nf), V g x 0 0 (wMod g A (0) sq ac td lt ln cu tk sa ti ft fp le lf tr fl fm fi fc ff fw ftp fk fe fr) [some (.ref (A 0)), some (.int (iI a)), some (.int (iI b)), some (.int (iI i)), some (.int (iI w)), some (.int (iI (whoI (spdM fc a) (spdM fc b)))), some (.int (iI l)), some (.int (iI k)), none] 48 [] := by
          intro nf
          induction nf with
          | zero => intro l k h1 h2 h3 hmu; exact absurd hmu (Nat.not_lt_zero _)
          | succ nf ih48 =>
            intro l k h1 h2 h3 hmu
            refine v_iload X dX8_doubt_48 rfl ?_
            refine v_iload X dX8_doubt_50 rfl ?_
            refine v_icmp_ge (tgt := 130) X dX8_doubt_52 (by decide) (by first | omega | (split <;> omega)) (by first | omega | (split <;> omega)) (fun c4 => ?_) (fun c4 => ?_)
            · skip
              refine v_ldc X (List.mem_of_getElem? (i := 4) rfl) dX8_doubt_130 (n := -1000000) (by decide) ?_
              refine v_iret X Y dX8_doubt_132 (u := ()) ?_ (by rfl)
              have e : k = whoI (spdM fc a) (spdM fc b) := by omega
              exact Or.inr ⟨g1, Or.inr ⟨by rw [← e]; omega, rfl⟩⟩
            · skip
              refine v_aload_n X dX8_doubt_55 rfl ?_
              refine v_iload_n X dX8_doubt_56 rfl ?_
              refine v_iload_n X dX8_doubt_57 rfl ?_
              refine v_iload X dX8_doubt_58 rfl ?_
              refine res_E X (run_V X (c_X8_otherOf (g := g) (by first | assumption | omega) (by first | assumption | omega) (by first | assumption | omega) (by first | assumption | omega) (by first | assumption | omega) (by first | assumption | omega)) gX8_doubt_X8_otherOf rfl hdX8_otherOf ⟨(Nat.le_of_ble_eq_true rfl), (Nat.le_of_ble_eq_true rfl)⟩ ⟨(Nat.le_of_ble_eq_true rfl), (Nat.le_of_ble_eq_true rfl)⟩ 0 rfl rfl rfl [0, 1, 2, 3, 4, 5, 6, 7, 8, 9, 10] rfl rfl rfl rfl (by simp [Value.category]) dX8_doubt_60) [0, 1, 2, 3, 4, 5, 6, 7, 8, 9, 10] rfl rfl ?_
              have q9 := qm k
              refine v_istore X dX8_doubt_63 (by decide) rfl ?_
              dsimp only [List.set]
              refine v_iload X dX8_doubt_65 rfl ?_
              refine v_ldc X (List.mem_of_getElem? (i := 4) rfl) dX8_doubt_67 (n := -1000000) (by decide) ?_
              refine v_icmp_eq (tgt := 107) X dX8_doubt_69 (by decide) (by have := qm k; omega) (by first | omega | (split <;> omega)) (fun c5 => ?_) (fun c5 => ?_)
              · skip
                refine v_iload X dX8_doubt_107 rfl ?_
                refine v_iload X dX8_doubt_109 rfl ?_
                refine v_ldc X (List.mem_of_getElem? (i := 4) rfl) dX8_doubt_111 (n := -1000000) (by decide) ?_
                refine v_icmp_eq (tgt := 120) X dX8_doubt_113 (by decide) (by have := qm k; omega) (by first | omega | (split <;> omega)) (fun c6 => ?_) (fun c6 => ?_)
                · skip
                  refine v_iconst X dX8_doubt_120 ?_
                  refine v_isub X dX8_doubt_121 ?_
                  refine v_istore X dX8_doubt_122 (by decide) rfl ?_
                  dsimp only [List.set]
                  refine v_iinc X dX8_doubt_124 rfl (by decide) rfl ?_
                  dsimp only [List.set]
                  refine v_goto (tgt := 48) X dX8_doubt_127 (by decide) ?_
                  refine v_drop 8 ?_
                  dsimp only [List.set]
                  exact ih48 _ _ (by omega) (by rw [cntN_s h1.1]; simp only [decide_eq_true_eq]; rw [show ((k.toNat : Nat) : Int) = k by omega]; split <;> omega) (by omega) (by omega)
                · skip
                  refine v_iconst X dX8_doubt_116 ?_
                  refine v_goto (tgt := 121) X dX8_doubt_117 (by decide) ?_
                  refine v_isub X dX8_doubt_121 ?_
                  refine v_istore X dX8_doubt_122 (by decide) rfl ?_
                  dsimp only [List.set]
                  refine v_iinc X dX8_doubt_124 rfl (by decide) rfl ?_
                  dsimp only [List.set]
                  refine v_goto (tgt := 48) X dX8_doubt_127 (by decide) ?_
                  refine v_drop 8 ?_
                  dsimp only [List.set]
                  exact ih48 _ _ (by omega) (by rw [cntN_s h1.1]; simp only [decide_eq_true_eq]; rw [show ((k.toNat : Nat) : Int) = k by omega]; split <;> omega) (by omega) (by omega)
              · skip
                refine v_iload X dX8_doubt_72 rfl ?_
                refine v_if_ne (tgt := 107) X dX8_doubt_74 (by decide) (by first | omega | (split <;> omega)) (fun c7 => ?_) (fun c7 => ?_)
                · skip
                  refine v_iload X dX8_doubt_107 rfl ?_
                  refine v_iload X dX8_doubt_109 rfl ?_
                  refine v_ldc X (List.mem_of_getElem? (i := 4) rfl) dX8_doubt_111 (n := -1000000) (by decide) ?_
                  refine v_icmp_eq (tgt := 120) X dX8_doubt_113 (by decide) (by have := qm k; omega) (by first | omega | (split <;> omega)) (fun c8 => ?_) (fun c8 => ?_)
                  · skip
                    refine v_iconst X dX8_doubt_120 ?_
                    refine v_isub X dX8_doubt_121 ?_
                    refine v_istore X dX8_doubt_122 (by decide) rfl ?_
                    dsimp only [List.set]
                    refine v_iinc X dX8_doubt_124 rfl (by decide) rfl ?_
                    dsimp only [List.set]
                    refine v_goto (tgt := 48) X dX8_doubt_127 (by decide) ?_
                    refine v_drop 8 ?_
                    dsimp only [List.set]
                    exact ih48 _ _ (by omega) (by rw [cntN_s h1.1]; simp only [decide_eq_true_eq]; rw [show ((k.toNat : Nat) : Int) = k by omega]; split <;> omega) (by omega) (by omega)
                  · skip
                    refine v_iconst X dX8_doubt_116 ?_
                    refine v_goto (tgt := 121) X dX8_doubt_117 (by decide) ?_
                    refine v_isub X dX8_doubt_121 ?_
                    refine v_istore X dX8_doubt_122 (by decide) rfl ?_
                    dsimp only [List.set]
                    refine v_iinc X dX8_doubt_124 rfl (by decide) rfl ?_
                    dsimp only [List.set]
                    refine v_goto (tgt := 48) X dX8_doubt_127 (by decide) ?_
                    refine v_drop 8 ?_
                    dsimp only [List.set]
                    exact ih48 _ _ (by omega) (by rw [cntN_s h1.1]; simp only [decide_eq_true_eq]; rw [show ((k.toNat : Nat) : Int) = k by omega]; split <;> omega) (by omega) (by omega)
                · skip
                  refine v_iload X dX8_doubt_77 rfl ?_
                  refine v_iconst X dX8_doubt_79 ?_
                  refine v_icmp_ge (tgt := 95) X dX8_doubt_80 (by decide) (by first | omega | (split <;> omega)) (by first | omega | (split <;> omega)) (fun c9 => ?_) (fun c9 => ?_)
                  · skip
                    refine v_iload X dX8_doubt_95 rfl ?_
                    refine v_iload X dX8_doubt_97 rfl ?_
                    refine v_iload X dX8_doubt_99 rfl ?_
                    refine v_iconst X dX8_doubt_101 ?_
                    refine v_isub X dX8_doubt_102 ?_
                    refine res_E X (run_S X (c_X8_told (g := g) (by first | assumption | omega) (by first | assumption | omega) (by first | assumption | omega) (by first | assumption | omega) (by first | assumption | omega)) gX8_doubt_X8_told rfl hdX8_told.2 ⟨(Nat.le_of_ble_eq_true rfl), (Nat.le_of_ble_eq_true rfl)⟩ ⟨(Nat.le_of_ble_eq_true rfl), (Nat.le_of_ble_eq_true rfl)⟩ [] rfl rfl rfl rfl (by simp [Value.category]) dX8_doubt_103) [] rfl rfl ?_
                    refine v_iret X Y dX8_doubt_106 (u := ()) ?_ (by rfl)
                    exact Or.inr ⟨g1, Or.inl ⟨k, h1.1, by omega, by omega, by omega, by first | rw [if_pos (by assumption)] | rw [if_neg (by omega)]⟩⟩
                  · skip
                    refine v_iload X dX8_doubt_83 rfl ?_
                    refine v_iload X dX8_doubt_85 rfl ?_
                    refine v_iload X dX8_doubt_87 rfl ?_
                    refine res_E X (run_S X (c_X8_told (g := g) (by first | assumption | omega) (by first | assumption | omega) (by first | assumption | omega) (by first | assumption | omega) (by first | assumption | omega)) gX8_doubt_X8_told rfl hdX8_told.2 ⟨(Nat.le_of_ble_eq_true rfl), (Nat.le_of_ble_eq_true rfl)⟩ ⟨(Nat.le_of_ble_eq_true rfl), (Nat.le_of_ble_eq_true rfl)⟩ [] rfl rfl rfl rfl (by simp [Value.category]) dX8_doubt_89) [] rfl rfl ?_
                    refine v_goto (tgt := 106) X dX8_doubt_92 (by decide) ?_
                    refine v_iret X Y dX8_doubt_106 (u := ()) ?_ (by rfl)
                    exact Or.inr ⟨g1, Or.inl ⟨k, h1.1, by omega, by omega, by omega, by first | rw [if_pos (by assumption)] | rw [if_neg (by omega)]⟩⟩
        exact L48 _ _ _ (by omega) (by rw [Int.sub_self]; rfl) (by omega) (Nat.lt_succ_self _)
      · skip
        refine v_ldc X (List.mem_of_getElem? (i := 3) rfl) dX8_doubt_31 (n := -1000001) (by decide) ?_
        refine v_iret X Y dX8_doubt_33 (u := ()) ?_ (by rfl)
        exact Or.inl ⟨(by omega), rfl⟩

theorem hdX8_isDoubt : yX8_isDoubt.cls = RX8 ∧ yX8_isDoubt.cls ≠ "java/lang/invoke/MethodHandle" ∧ yX8_isDoubt.cls ≠ "java/lang/invoke/VarHandle" ∧ (parseMethodDescriptor yX8_isDoubt.desc).map (fun d => d.parameters.length) = some 4 := ⟨rfl, by decide +kernel, by decide +kernel, by decide +kernel⟩
set_option maxHeartbeats 4000000 in
set_option maxRecDepth 100000 in
theorem c_X8_isDoubt {g : Gx} {A : Nat → Nat} {th sq ac td lt ln cu tk sa ti ft fp le lf tr : Int} {fl fm fi fc ff fw ftp fk fe fr : Nat → Int} {a b p q : Int} (hfc : Bd 0 60 fc) (hc1 : 0 ≤ fc 1 ∧ fc 1 ≤ 4) (ht3 : Bd 0 12 (tM fc)) (ha : R32 a) (hb : R32 b) (hp : R32 p) (hq : R32 q) : CtE g yX8_isDoubt wsX8_isDoubt 4 92 [.ref (A 0), .int (iI a), .int (iI b), .int (iI p), .int (iI q)] (wMod g A th sq ac td lt ln cu tk sa ti ft fp le lf tr fl fm fi fc ff fw ftp fk fe fr) (if ((0 ≤ a ∧ a < fc 1) ∧ (0 ≤ b ∧ b < fc 1) ∧ a ≠ b) ∧ (1 ≤ q ∧ q ≤ 9999 ∧ 0 ≤ p ∧ p < q) then (if whoI (spdM fc a) (spdM fc b) = 0 then -1000000 else if (p * whoI (spdM fc a) (spdM fc b)) % q = 0 ∧ othM (spdM fc a) (spdM fc b) (p * whoI (spdM fc a) (spdM fc b) / q) ≠ -1000000 then 1 else 0) else -1000001) (wMod g A (0) sq ac td lt ln cu tk sa ti ft fp le lf tr fl fm fi fc ff fw ftp fk fe fr) := by
  refine m_go (cc := cX8_isDoubt) (nL := 6) (by decide +kernel) rfl (Nat.le_of_ble_eq_true rfl) (fun x X Y hnm => ?_)
  refine v_eq (lo2 := [some (.ref (A 0)), some (.int (iI a)), some (.int (iI b)), some (.int (iI p)), some (.int (iI q)), none]) rfl rfl rfl rfl ?_
  have q1 := spdM_bd (fc := fc) (h := a) ht3
  have q2 := spdM_bd (fc := fc) (h := b) ht3
  have q3 := whoI_bd q1 q2
  have qm := fun (i : Int) => othM_bd (x := i) q3
  refine v_aload_n X dX8_isDoubt_0 rfl ?_
  refine v_iconst X dX8_isDoubt_1 ?_
  refine v_put X (fun _ h => List.mem_cons_of_mem _ (List.mem_append_right _ h)) tyX8 tyX8_ok nmX8 0 rfl rfl 0 (by decide) rfl (List.mem_of_getElem? (i := 1) rfl) rfl rfl rfl (Nat.le_of_ble_eq_true rfl) dX8_isDoubt_2 ?_
  dsimp only [List.set, wMod]
  refine v_aload_n X dX8_isDoubt_5 rfl ?_
  refine v_iload_n X dX8_isDoubt_6 rfl ?_
  refine v_iload_n X dX8_isDoubt_7 rfl ?_
  refine res_E X (run_V X (c_X8_areTwo (g := g) (by first | assumption | omega) (by first | assumption | omega) (by first | assumption | omega)) gX8_isDoubt_X8_areTwo rfl hdX8_areTwo ⟨(Nat.le_of_ble_eq_true rfl), (Nat.le_of_ble_eq_true rfl)⟩ ⟨(Nat.le_of_ble_eq_true rfl), (Nat.le_of_ble_eq_true rfl)⟩ 0 rfl rfl rfl [0, 1, 2, 3, 4, 5, 6, 7, 8, 9, 10] rfl rfl rfl rfl (by simp [Value.category]) dX8_isDoubt_8) [0, 1, 2, 3, 4, 5, 6, 7, 8, 9, 10] rfl rfl ?_
  refine v_ifb_eq (tgt := 23) X dX8_isDoubt_11 (by decide) (fun c1 => ?_) (fun c1 => ?_)
  · skip
    refine v_ldc X (List.mem_of_getElem? (i := 2) rfl) dX8_isDoubt_23 (n := -1000001) (by decide) ?_
    exact v_iret X Y dX8_isDoubt_25 (u := ()) (by rw [if_neg (by omega)]) (by rfl)
  · skip
    refine v_iload_n X dX8_isDoubt_14 rfl ?_
    refine v_iload X dX8_isDoubt_15 rfl ?_
    refine res_E X (run_S X (c_X8_isMoment (g := g) (by first | assumption | omega) (by first | assumption | omega)) gX8_isDoubt_X8_isMoment rfl hdX8_isMoment.2 ⟨(Nat.le_of_ble_eq_true rfl), (Nat.le_of_ble_eq_true rfl)⟩ ⟨(Nat.le_of_ble_eq_true rfl), (Nat.le_of_ble_eq_true rfl)⟩ [] rfl rfl rfl rfl (by simp [Value.category]) dX8_isDoubt_17) [] rfl rfl ?_
    refine v_ifb_ne (tgt := 26) X dX8_isDoubt_20 (by decide) (fun c2 => ?_) (fun c2 => ?_)
    · skip
      refine v_aload_n X dX8_isDoubt_26 rfl ?_
      refine v_iload_n X dX8_isDoubt_27 rfl ?_
      refine v_iload_n X dX8_isDoubt_28 rfl ?_
      have g1 : ((0 ≤ a ∧ a < fc 1) ∧ (0 ≤ b ∧ b < fc 1) ∧ a ≠ b) ∧ (1 ≤ q ∧ q ≤ 9999 ∧ 0 ≤ p ∧ p < q) := (by omega)
      have m1 := mul_nn (show 0 ≤ p ∧ p ≤ 9998 by omega) q3
      have m2 : (p * whoI (spdM fc a) (spdM fc b)).tmod q = (p * whoI (spdM fc a) (spdM fc b)) % q := Int.tmod_eq_emod_of_nonneg m1.1
      have m3 : (p * whoI (spdM fc a) (spdM fc b)).tdiv q = p * whoI (spdM fc a) (spdM fc b) / q := tdiv_of_nn m1.1
      have m4 : 0 ≤ p * whoI (spdM fc a) (spdM fc b) / q := Int.ediv_nonneg m1.1 (by omega)
      have m5 : p * whoI (spdM fc a) (spdM fc b) / q ≤ whoI (spdM fc a) (spdM fc b) := Int.ediv_le_of_le_mul (by omega) (by rw [Int.mul_comm]; exact Int.mul_le_mul_of_nonneg_left (by omega) q3.1)
      have m6 := Int.emod_nonneg (p * whoI (spdM fc a) (spdM fc b)) (show q ≠ 0 by omega)
      have m7 := Int.emod_lt_of_pos (p * whoI (spdM fc a) (spdM fc b)) (show 0 < q by omega)
      have m8 := qm (p * whoI (spdM fc a) (spdM fc b) / q)
      refine res_E X (run_V X (c_X8_partsOf (g := g) (by first | assumption | omega) (by first | assumption | omega) (by first | assumption | omega) (by first | assumption | omega) (by first | assumption | omega)) gX8_isDoubt_X8_partsOf rfl hdX8_partsOf ⟨(Nat.le_of_ble_eq_true rfl), (Nat.le_of_ble_eq_true rfl)⟩ ⟨(Nat.le_of_ble_eq_true rfl), (Nat.le_of_ble_eq_true rfl)⟩ 0 rfl rfl rfl [0, 1, 2, 3, 4, 5, 6, 7, 8, 9, 10] rfl rfl rfl rfl (by simp [Value.category]) dX8_isDoubt_29) [0, 1, 2, 3, 4, 5, 6, 7, 8, 9, 10] rfl rfl ?_
      refine v_istore X dX8_isDoubt_32 (by decide) rfl ?_
      dsimp only [List.set]
      refine v_iload X dX8_isDoubt_34 rfl ?_
      refine v_if_ne (tgt := 42) X dX8_isDoubt_36 (by decide) (by first | omega | (split <;> omega)) (fun c3 => ?_) (fun c3 => ?_)
      · skip
        refine v_iload_n X dX8_isDoubt_42 rfl ?_
        refine v_iload X dX8_isDoubt_43 rfl ?_
        refine v_imul X dX8_isDoubt_45 ?_
        refine v_iload X dX8_isDoubt_46 rfl ?_
        refine v_irem X dX8_isDoubt_48 (by first | omega | (split <;> omega)) (by first | omega | (split <;> omega)) (by first | omega | (split <;> omega)) ?_
        rw [m2]
        refine v_if_ne (tgt := 74) X dX8_isDoubt_49 (by decide) (by first | omega | (split <;> omega)) (fun c4 => ?_) (fun c4 => ?_)
        · skip
          refine v_iconst X dX8_isDoubt_74 ?_
          exact v_iret X Y dX8_isDoubt_75 (u := ()) (by rw [if_pos g1, if_neg (by assumption)]; split <;> omega) (by rfl)
        · skip
          refine v_aload_n X dX8_isDoubt_52 rfl ?_
          refine v_iload_n X dX8_isDoubt_53 rfl ?_
          refine v_iload_n X dX8_isDoubt_54 rfl ?_
          refine v_iload_n X dX8_isDoubt_55 rfl ?_
          refine v_iload X dX8_isDoubt_56 rfl ?_
          refine v_imul X dX8_isDoubt_58 ?_
          refine v_iload X dX8_isDoubt_59 rfl ?_
          refine v_idiv X dX8_isDoubt_61 (by first | omega | (split <;> omega)) (by first | omega | (split <;> omega)) (by first | omega | (split <;> omega)) ?_
          rw [m3]
          refine res_E X (run_V X (c_X8_otherOf (g := g) (by first | assumption | omega) (by first | assumption | omega) (by first | assumption | omega) (by first | assumption | omega) (by first | assumption | omega) (by first | assumption | omega)) gX8_isDoubt_X8_otherOf rfl hdX8_otherOf ⟨(Nat.le_of_ble_eq_true rfl), (Nat.le_of_ble_eq_true rfl)⟩ ⟨(Nat.le_of_ble_eq_true rfl), (Nat.le_of_ble_eq_true rfl)⟩ 0 rfl rfl rfl [0, 1, 2, 3, 4, 5, 6, 7, 8, 9, 10] rfl rfl rfl rfl (by simp [Value.category]) dX8_isDoubt_62) [0, 1, 2, 3, 4, 5, 6, 7, 8, 9, 10] rfl rfl ?_
          refine v_ldc X (List.mem_of_getElem? (i := 3) rfl) dX8_isDoubt_65 (n := -1000000) (by decide) ?_
          refine v_icmp_eq (tgt := 74) X dX8_isDoubt_67 (by decide) (by omega) (by first | omega | (split <;> omega)) (fun c5 => ?_) (fun c5 => ?_)
          · skip
            refine v_iconst X dX8_isDoubt_74 ?_
            exact v_iret X Y dX8_isDoubt_75 (u := ()) (by rw [if_pos g1, if_neg (by assumption)]; split <;> omega) (by rfl)
          · skip
            refine v_iconst X dX8_isDoubt_70 ?_
            refine v_goto (tgt := 75) X dX8_isDoubt_71 (by decide) ?_
            exact v_iret X Y dX8_isDoubt_75 (u := ()) (by rw [if_pos g1, if_neg (by assumption)]; split <;> omega) (by rfl)
      · skip
        refine v_ldc X (List.mem_of_getElem? (i := 3) rfl) dX8_isDoubt_39 (n := -1000000) (by decide) ?_
        exact v_iret X Y dX8_isDoubt_41 (u := ()) (by rw [if_pos g1, if_pos (by assumption)]) (by rfl)
    · skip
      refine v_ldc X (List.mem_of_getElem? (i := 2) rfl) dX8_isDoubt_23 (n := -1000001) (by decide) ?_
      exact v_iret X Y dX8_isDoubt_25 (u := ()) (by rw [if_neg (by omega)]) (by rfl)

theorem hdX8_often : yX8_often.cls = RX8 ∧ yX8_often.cls ≠ "java/lang/invoke/MethodHandle" ∧ yX8_often.cls ≠ "java/lang/invoke/VarHandle" ∧ (parseMethodDescriptor yX8_often.desc).map (fun d => d.parameters.length) = some 3 := ⟨rfl, by decide +kernel, by decide +kernel, by decide +kernel⟩
set_option maxHeartbeats 4000000 in
set_option maxRecDepth 100000 in
theorem c_X8_often {g : Gx} {A : Nat → Nat} {th sq ac td lt ln cu tk sa ti ft fp le lf tr : Int} {fl fm fi fc ff fw ftp fk fe fr : Nat → Int} {a b w : Int} (hfc : Bd 0 60 fc) (hc1 : 0 ≤ fc 1 ∧ fc 1 ≤ 4) (ht3 : Bd 0 12 (tM fc)) (ha : R32 a) (hb : R32 b) (hw : R32 w) : CtE g yX8_often wsX8_often 3 68 [.ref (A 0), .int (iI a), .int (iI b), .int (iI w)] (wMod g A th sq ac td lt ln cu tk sa ti ft fp le lf tr fl fm fi fc ff fw ftp fk fe fr) (if ((0 ≤ a ∧ a < fc 1) ∧ (0 ≤ b ∧ b < fc 1) ∧ a ≠ b) ∧ 0 ≤ w ∧ w ≤ 2 then (if absI (spdM fc a - spdM fc b) = 0 then -1000000 else if w = 2 then 2 * absI (spdM fc a - spdM fc b) else absI (spdM fc a - spdM fc b)) else -1000001) (wMod g A (0) sq ac td lt ln cu tk sa ti ft fp le lf tr fl fm fi fc ff fw ftp fk fe fr) := by
  refine m_go (cc := cX8_often) (nL := 5) (by decide +kernel) rfl (Nat.le_of_ble_eq_true rfl) (fun x X Y hnm => ?_)
  refine v_eq (lo2 := [some (.ref (A 0)), some (.int (iI a)), some (.int (iI b)), some (.int (iI w)), none]) rfl rfl rfl rfl ?_
  have q1 := spdM_bd (fc := fc) (h := a) ht3
  have q2 := spdM_bd (fc := fc) (h := b) ht3
  have q3 := whoI_bd q1 q2
  have qm := fun (i : Int) => othM_bd (x := i) q3
  have q5 := absI_bd (a := spdM fc a - spdM fc b) (M := 48) (by omega)
  refine v_aload_n X dX8_often_0 rfl ?_
  refine v_iconst X dX8_often_1 ?_
  refine v_put X (fun _ h => List.mem_cons_of_mem _ (List.mem_append_right _ h)) tyX8 tyX8_ok nmX8 0 rfl rfl 0 (by decide) rfl (List.mem_of_getElem? (i := 1) rfl) rfl rfl rfl (Nat.le_of_ble_eq_true rfl) dX8_often_2 ?_
  dsimp only [List.set, wMod]
  refine v_aload_n X dX8_often_5 rfl ?_
  refine v_iload_n X dX8_often_6 rfl ?_
  refine v_iload_n X dX8_often_7 rfl ?_
  refine res_E X (run_V X (c_X8_areTwo (g := g) (by first | assumption | omega) (by first | assumption | omega) (by first | assumption | omega)) gX8_often_X8_areTwo rfl hdX8_areTwo ⟨(Nat.le_of_ble_eq_true rfl), (Nat.le_of_ble_eq_true rfl)⟩ ⟨(Nat.le_of_ble_eq_true rfl), (Nat.le_of_ble_eq_true rfl)⟩ 0 rfl rfl rfl [0, 1, 2, 3, 4, 5, 6, 7, 8, 9, 10] rfl rfl rfl rfl (by simp [Value.category]) dX8_often_8) [0, 1, 2, 3, 4, 5, 6, 7, 8, 9, 10] rfl rfl ?_
  refine v_ifb_eq (tgt := 26) X dX8_often_11 (by decide) (fun c1 => ?_) (fun c1 => ?_)
  · skip
    refine v_ldc X (List.mem_of_getElem? (i := 3) rfl) dX8_often_26 (n := -1000001) (by decide) ?_
    exact v_iret X Y dX8_often_28 (u := ()) (by rw [if_neg (by omega)]) (by rfl)
  · skip
    refine v_iload_n X dX8_often_14 rfl ?_
    refine v_i2l X dX8_often_15 (by first | omega | (split <;> omega)) ?_
    refine v_lconst0 X dX8_often_16 ?_
    refine v_ldc2 X (List.mem_of_getElem? (i := 2) rfl) dX8_often_17 (n := 2) (by decide) ?_
    refine res_E X (run_S X (c_X8_in (g := g) (by first | assumption | omega) (by first | assumption | omega) (by first | assumption | omega)) gX8_often_X8_in rfl hdX8_in.2 ⟨(Nat.le_of_ble_eq_true rfl), (Nat.le_of_ble_eq_true rfl)⟩ ⟨(Nat.le_of_ble_eq_true rfl), (Nat.le_of_ble_eq_true rfl)⟩ [] rfl rfl rfl rfl (by simp [Value.category]) dX8_often_20) [] rfl rfl ?_
    refine v_ifb_ne (tgt := 29) X dX8_often_23 (by decide) (fun c2 => ?_) (fun c2 => ?_)
    · skip
      refine v_aload_n X dX8_often_29 rfl ?_
      refine v_iload_n X dX8_often_30 rfl ?_
      have g1 : ((0 ≤ a ∧ a < fc 1) ∧ (0 ≤ b ∧ b < fc 1) ∧ a ≠ b) ∧ 0 ≤ w ∧ w ≤ 2 := (by omega)
      refine res_E X (run_V X (c_X8_speed (g := g) (by first | assumption | omega) (by first | assumption | omega) (by first | assumption | omega)) gX8_often_X8_speed rfl hdX8_speed ⟨(Nat.le_of_ble_eq_true rfl), (Nat.le_of_ble_eq_true rfl)⟩ ⟨(Nat.le_of_ble_eq_true rfl), (Nat.le_of_ble_eq_true rfl)⟩ 0 rfl rfl rfl [0, 1, 2, 3, 4, 5, 6, 7, 8, 9, 10] rfl rfl rfl rfl (by simp [Value.category]) dX8_often_31) [0, 1, 2, 3, 4, 5, 6, 7, 8, 9, 10] rfl rfl ?_
      refine v_aload_n X dX8_often_34 rfl ?_
      refine v_iload_n X dX8_often_35 rfl ?_
      refine res_E X (run_V X (c_X8_speed (g := g) (by first | assumption | omega) (by first | assumption | omega) (by first | assumption | omega)) gX8_often_X8_speed rfl hdX8_speed ⟨(Nat.le_of_ble_eq_true rfl), (Nat.le_of_ble_eq_true rfl)⟩ ⟨(Nat.le_of_ble_eq_true rfl), (Nat.le_of_ble_eq_true rfl)⟩ 0 rfl rfl rfl [0, 1, 2, 3, 4, 5, 6, 7, 8, 9, 10] rfl rfl rfl rfl (by simp [Value.category]) dX8_often_36) [0, 1, 2, 3, 4, 5, 6, 7, 8, 9, 10] rfl rfl ?_
      refine v_isub X dX8_often_39 ?_
      refine res_E X (run_S X (c_X8_size (g := g) (by first | assumption | omega)) gX8_often_X8_size rfl hdX8_size.2 ⟨(Nat.le_of_ble_eq_true rfl), (Nat.le_of_ble_eq_true rfl)⟩ ⟨(Nat.le_of_ble_eq_true rfl), (Nat.le_of_ble_eq_true rfl)⟩ [] rfl rfl rfl rfl (by simp [Value.category]) dX8_often_40) [] rfl rfl ?_
      refine v_istore X dX8_often_43 (by decide) rfl ?_
      dsimp only [List.set]
      refine v_iload X dX8_often_45 rfl ?_
      refine v_if_ne (tgt := 55) X dX8_often_47 (by decide) (by first | omega | (split <;> omega)) (fun c3 => ?_) (fun c3 => ?_)
      · skip
        refine v_iload_n X dX8_often_55 rfl ?_
        refine v_iconst X dX8_often_56 ?_
        refine v_icmp_ne (tgt := 67) X dX8_often_57 (by decide) (by first | omega | (split <;> omega)) (by first | omega | (split <;> omega)) (fun c4 => ?_) (fun c4 => ?_)
        · skip
          refine v_iload X dX8_often_67 rfl ?_
          exact v_iret X Y dX8_often_69 (u := ()) (by rw [if_pos g1]; first | rw [if_pos (by assumption)] | (rw [if_neg (by assumption)]; first | rw [if_pos (by assumption)] | rw [if_neg (by assumption)])) (by rfl)
        · skip
          refine v_iconst X dX8_often_60 ?_
          refine v_iload X dX8_often_61 rfl ?_
          refine v_imul X dX8_often_63 ?_
          refine v_goto (tgt := 69) X dX8_often_64 (by decide) ?_
          exact v_iret X Y dX8_often_69 (u := ()) (by rw [if_pos g1]; first | rw [if_pos (by assumption)] | (rw [if_neg (by assumption)]; first | rw [if_pos (by assumption)] | rw [if_neg (by assumption)])) (by rfl)
      · skip
        refine v_ldc X (List.mem_of_getElem? (i := 4) rfl) dX8_often_50 (n := -1000000) (by decide) ?_
        refine v_goto (tgt := 69) X dX8_often_52 (by decide) ?_
        exact v_iret X Y dX8_often_69 (u := ()) (by rw [if_pos g1]; first | rw [if_pos (by assumption)] | (rw [if_neg (by assumption)]; first | rw [if_pos (by assumption)] | rw [if_neg (by assumption)])) (by rfl)
    · skip
      refine v_ldc X (List.mem_of_getElem? (i := 3) rfl) dX8_often_26 (n := -1000001) (by decide) ?_
      exact v_iret X Y dX8_often_28 (u := ()) (by rw [if_neg (by omega)]) (by rfl)

theorem hdX8_next : yX8_next.cls = RX8 ∧ yX8_next.cls ≠ "java/lang/invoke/MethodHandle" ∧ yX8_next.cls ≠ "java/lang/invoke/VarHandle" ∧ (parseMethodDescriptor yX8_next.desc).map (fun d => d.parameters.length) = some 6 := ⟨rfl, by decide +kernel, by decide +kernel, by decide +kernel⟩
set_option maxHeartbeats 4000000 in
set_option maxRecDepth 100000 in
theorem c_X8_next {g : Gx} {A : Nat → Nat} {th sq ac td lt ln cu tk sa ti ft fp le lf tr : Int} {fl fm fi fc ff fw ftp fk fe fr : Nat → Int} {a b h p q w : Int} (hfc : Bd 0 60 fc) (hc1 : 0 ≤ fc 1 ∧ fc 1 ≤ 4) (ht3 : Bd 0 12 (tM fc)) (ha : R32 a) (hb : R32 b) (hh : R32 h) (hp : R32 p) (hq : R32 q) (hw : R32 w) : CtI (S := Unit) g yX8_next wsX8_next 3 68 [.ref (A 0), .int (iI a), .int (iI b), .int (iI h), .int (iI p), .int (iI q), .int (iI w)] (wMod g A th sq ac td lt ln cu tk sa ti ft fp le lf tr fl fm fi fc ff fw ftp fk fe fr) (fun v _ => (¬ (((0 ≤ a ∧ a < fc 1) ∧ (0 ≤ b ∧ b < fc 1) ∧ a ≠ b) ∧ (0 ≤ h ∧ h ≤ 2) ∧ (1 ≤ q ∧ q ≤ 9999 ∧ 0 ≤ p ∧ p < q) ∧ 0 ≤ w ∧ w ≤ 1) ∧ v = -1000001) ∨ ((((0 ≤ a ∧ a < fc 1) ∧ (0 ≤ b ∧ b < fc 1) ∧ a ≠ b) ∧ (0 ≤ h ∧ h ≤ 2) ∧ (1 ≤ q ∧ q ≤ 9999 ∧ 0 ≤ p ∧ p < q) ∧ 0 ≤ w ∧ w ≤ 1) ∧ ((absI (spdM fc a - spdM fc b) = 0 ∧ v = -1000000) ∨ (absI (spdM fc a - spdM fc b) ≠ 0 ∧ ((nxM (absI (spdM fc a - spdM fc b)) h p q = -1 ∧ v = -1000000) ∨ (0 ≤ nxM (absI (spdM fc a - spdM fc b)) h p q ∧ v = toldI (nxM (absI (spdM fc a - spdM fc b)) h p q) (4 * absI (spdM fc a - spdM fc b)) w)))))) (fun _ => wMod g A (0) sq ac td lt ln cu tk sa ti ft fp le lf tr fl fm fi fc ff fw ftp fk fe fr) := by
  refine m_go (cc := cX8_next) (nL := 11) (by decide +kernel) rfl (Nat.le_of_ble_eq_true rfl) (fun x X Y hnm => ?_)
  refine v_eq (lo2 := [some (.ref (A 0)), some (.int (iI a)), some (.int (iI b)), some (.int (iI h)), some (.int (iI p)), some (.int (iI q)), some (.int (iI w)), none, none, none, none]) rfl rfl rfl rfl ?_
  have q1 := spdM_bd (fc := fc) (h := a) ht3
  have q2 := spdM_bd (fc := fc) (h := b) ht3
  have q3 := whoI_bd q1 q2
  have qm := fun (i : Int) => othM_bd (x := i) q3
  have q5 := absI_bd (a := spdM fc a - spdM fc b) (M := 48) (by omega)
  refine v_aload_n X dX8_next_0 rfl ?_
  refine v_iconst X dX8_next_1 ?_
  refine v_put X (fun _ h => List.mem_cons_of_mem _ (List.mem_append_right _ h)) tyX8 tyX8_ok nmX8 0 rfl rfl 0 (by decide) rfl (List.mem_of_getElem? (i := 1) rfl) rfl rfl rfl (Nat.le_of_ble_eq_true rfl) dX8_next_2 ?_
  dsimp only [List.set, wMod]
  refine v_aload_n X dX8_next_5 rfl ?_
  refine v_iload_n X dX8_next_6 rfl ?_
  refine v_iload_n X dX8_next_7 rfl ?_
  refine res_E X (run_V X (c_X8_areTwo (g := g) (by first | assumption | omega) (by first | assumption | omega) (by first | assumption | omega)) gX8_next_X8_areTwo rfl hdX8_areTwo ⟨(Nat.le_of_ble_eq_true rfl), (Nat.le_of_ble_eq_true rfl)⟩ ⟨(Nat.le_of_ble_eq_true rfl), (Nat.le_of_ble_eq_true rfl)⟩ 0 rfl rfl rfl [0, 1, 2, 3, 4, 5, 6, 7, 8, 9, 10] rfl rfl rfl rfl (by simp [Value.category]) dX8_next_8) [0, 1, 2, 3, 4, 5, 6, 7, 8, 9, 10] rfl rfl ?_
  refine v_ifb_eq (tgt := 47) X dX8_next_11 (by decide) (fun c1 => ?_) (fun c1 => ?_)
  · skip
    refine v_ldc X (List.mem_of_getElem? (i := 3) rfl) dX8_next_47 (n := -1000001) (by decide) ?_
    refine v_iret X Y dX8_next_49 (u := ()) ?_ (by rfl)
    exact Or.inl ⟨(by omega), rfl⟩
  · skip
    refine v_iload_n X dX8_next_14 rfl ?_
    refine v_i2l X dX8_next_15 (by first | omega | (split <;> omega)) ?_
    refine v_lconst0 X dX8_next_16 ?_
    refine v_ldc2 X (List.mem_of_getElem? (i := 2) rfl) dX8_next_17 (n := 2) (by decide) ?_
    refine res_E X (run_S X (c_X8_in (g := g) (by first | assumption | omega) (by first | assumption | omega) (by first | assumption | omega)) gX8_next_X8_in rfl hdX8_in.2 ⟨(Nat.le_of_ble_eq_true rfl), (Nat.le_of_ble_eq_true rfl)⟩ ⟨(Nat.le_of_ble_eq_true rfl), (Nat.le_of_ble_eq_true rfl)⟩ [] rfl rfl rfl rfl (by simp [Value.category]) dX8_next_20) [] rfl rfl ?_
    refine v_ifb_eq (tgt := 47) X dX8_next_23 (by decide) (fun c2 => ?_) (fun c2 => ?_)
    · skip
      refine v_ldc X (List.mem_of_getElem? (i := 3) rfl) dX8_next_47 (n := -1000001) (by decide) ?_
      refine v_iret X Y dX8_next_49 (u := ()) ?_ (by rfl)
      exact Or.inl ⟨(by omega), rfl⟩
    · skip
      refine v_iload X dX8_next_26 rfl ?_
      refine v_iload X dX8_next_28 rfl ?_
      refine res_E X (run_S X (c_X8_isMoment (g := g) (by first | assumption | omega) (by first | assumption | omega)) gX8_next_X8_isMoment rfl hdX8_isMoment.2 ⟨(Nat.le_of_ble_eq_true rfl), (Nat.le_of_ble_eq_true rfl)⟩ ⟨(Nat.le_of_ble_eq_true rfl), (Nat.le_of_ble_eq_true rfl)⟩ [] rfl rfl rfl rfl (by simp [Value.category]) dX8_next_30) [] rfl rfl ?_
      refine v_ifb_eq (tgt := 47) X dX8_next_33 (by decide) (fun c3 => ?_) (fun c3 => ?_)
      · skip
        refine v_ldc X (List.mem_of_getElem? (i := 3) rfl) dX8_next_47 (n := -1000001) (by decide) ?_
        refine v_iret X Y dX8_next_49 (u := ()) ?_ (by rfl)
        exact Or.inl ⟨(by omega), rfl⟩
      · skip
        refine v_iload X dX8_next_36 rfl ?_
        refine v_i2l X dX8_next_38 (by first | omega | (split <;> omega)) ?_
        refine v_lconst0 X dX8_next_39 ?_
        refine v_lconst1 X dX8_next_40 ?_
        refine res_E X (run_S X (c_X8_in (g := g) (by first | assumption | omega) (by first | assumption | omega) (by first | assumption | omega)) gX8_next_X8_in rfl hdX8_in.2 ⟨(Nat.le_of_ble_eq_true rfl), (Nat.le_of_ble_eq_true rfl)⟩ ⟨(Nat.le_of_ble_eq_true rfl), (Nat.le_of_ble_eq_true rfl)⟩ [] rfl rfl rfl rfl (by simp [Value.category]) dX8_next_41) [] rfl rfl ?_
        refine v_ifb_ne (tgt := 50) X dX8_next_44 (by decide) (fun c4 => ?_) (fun c4 => ?_)
        · skip
          refine v_iconst X dX8_next_50 ?_
          refine v_aload_n X dX8_next_51 rfl ?_
          refine v_iload_n X dX8_next_52 rfl ?_
          have g1 : ((0 ≤ a ∧ a < fc 1) ∧ (0 ≤ b ∧ b < fc 1) ∧ a ≠ b) ∧ (0 ≤ h ∧ h ≤ 2) ∧ (1 ≤ q ∧ q ≤ 9999 ∧ 0 ≤ p ∧ p < q) ∧ 0 ≤ w ∧ w ≤ 1 := (by omega)
          refine res_E X (run_V X (c_X8_speed (g := g) (by first | assumption | omega) (by first | assumption | omega) (by first | assumption | omega)) gX8_next_X8_speed rfl hdX8_speed ⟨(Nat.le_of_ble_eq_true rfl), (Nat.le_of_ble_eq_true rfl)⟩ ⟨(Nat.le_of_ble_eq_true rfl), (Nat.le_of_ble_eq_true rfl)⟩ 0 rfl rfl rfl [0, 1, 2, 3, 4, 5, 6, 7, 8, 9, 10] rfl rfl rfl rfl (by simp [Value.category]) dX8_next_53) [0, 1, 2, 3, 4, 5, 6, 7, 8, 9, 10] rfl rfl ?_
          refine v_aload_n X dX8_next_56 rfl ?_
          refine v_iload_n X dX8_next_57 rfl ?_
          refine res_E X (run_V X (c_X8_speed (g := g) (by first | assumption | omega) (by first | assumption | omega) (by first | assumption | omega)) gX8_next_X8_speed rfl hdX8_speed ⟨(Nat.le_of_ble_eq_true rfl), (Nat.le_of_ble_eq_true rfl)⟩ ⟨(Nat.le_of_ble_eq_true rfl), (Nat.le_of_ble_eq_true rfl)⟩ 0 rfl rfl rfl [0, 1, 2, 3, 4, 5, 6, 7, 8, 9, 10] rfl rfl rfl rfl (by simp [Value.category]) dX8_next_58) [0, 1, 2, 3, 4, 5, 6, 7, 8, 9, 10] rfl rfl ?_
          refine v_isub X dX8_next_61 ?_
          refine res_E X (run_S X (c_X8_size (g := g) (by first | assumption | omega)) gX8_next_X8_size rfl hdX8_size.2 ⟨(Nat.le_of_ble_eq_true rfl), (Nat.le_of_ble_eq_true rfl)⟩ ⟨(Nat.le_of_ble_eq_true rfl), (Nat.le_of_ble_eq_true rfl)⟩ [] rfl rfl rfl rfl (by simp [Value.category]) dX8_next_62) [] rfl rfl ?_
          refine v_imul X dX8_next_65 ?_
          refine v_istore X dX8_next_66 (by decide) rfl ?_
          dsimp only [List.set]
          refine v_iload X dX8_next_68 rfl ?_
          refine v_if_ne (tgt := 76) X dX8_next_70 (by decide) (by first | omega | (split <;> omega)) (fun c5 => ?_) (fun c5 => ?_)
          · skip
            refine v_iload X dX8_next_76 rfl ?_
            have m1 := mul_nn (show 0 ≤ p ∧ p ≤ 9998 by omega) (show 0 ≤ 4 * absI (spdM fc a - spdM fc b) ∧ 4 * absI (spdM fc a - spdM fc b) ≤ 192 by omega)
            have m2 : (p * (4 * absI (spdM fc a - spdM fc b)) + q - 1).tdiv q = (p * (4 * absI (spdM fc a - spdM fc b)) + q - 1) / q := tdiv_of_nn (by omega)
            have m3 : 0 ≤ (p * (4 * absI (spdM fc a - spdM fc b)) + q - 1) / q := Int.ediv_nonneg (by omega) (by omega)
            have m4 : (p * (4 * absI (spdM fc a - spdM fc b)) + q - 1) / q ≤ p * (4 * absI (spdM fc a - spdM fc b)) + q - 1 := Int.ediv_le_self _ (by omega)
            refine v_iload X dX8_next_78 rfl ?_
            refine v_imul X dX8_next_80 ?_
            refine v_iload X dX8_next_81 rfl ?_
            refine v_iadd X dX8_next_83 ?_
            refine v_iconst X dX8_next_84 ?_
            refine v_isub X dX8_next_85 ?_
            refine v_iload X dX8_next_86 rfl ?_
            refine v_idiv X dX8_next_88 (by first | omega | (split <;> omega)) (by first | omega | (split <;> omega)) (by first | omega | (split <;> omega)) ?_
            rw [m2]
            refine v_istore X dX8_next_89 (by decide) rfl ?_
            dsimp only [List.set]
            refine v_iconst X dX8_next_91 ?_
            refine v_istore X dX8_next_92 (by decide) rfl ?_
            dsimp only [List.set]
            have L94 : ∀ (nf : Nat) (k : Int) (h1 : 0 ≤ k ∧ k ≤ 4 * absI (spdM fc a - spdM fc b)) (h2 : nxM (absI (spdM fc a - spdM fc b)) h p q = nxS (isS h) (4 * absI (spdM fc a - spdM fc b)) (4 * absI (spdM fc a - spdM fc b) - k).toNat ((p * (4 * absI (spdM fc a - spdM fc b)) + q - 1) / q + k)) (_ : (4 * absI (spdM fc a - spdM fc b) - k).toNat < nf), V g x 0 0 (wMod g A (0) sq ac td lt ln cu tk sa ti ft fp le lf tr fl fm fi fc ff fw ftp fk fe fr) [some (.ref (A 0)), some (.int (iI a)), some (.int (iI b)), some (.int (iI h)), some (.int (iI p)), some (.int (iI q)), some (.int (iI w)), some (.int (iI (4 * absI (spdM fc a - spdM fc b)))), some (.int (iI ((p * (4 * absI (spdM fc a - spdM fc b)) + q - 1) / q))), some (.int (iI k)), none] 94 [] := by
              intro nf
              induction nf with
              | zero => intro k h1 h2 hmu; exact absurd hmu (Nat.not_lt_zero _)
              | succ nf ih94 =>
                intro k h1 h2 hmu
                refine v_iload X dX8_next_94 rfl ?_
                refine v_iload X dX8_next_96 rfl ?_
                refine v_icmp_ge (tgt := 136) X dX8_next_98 (by decide) (by first | omega | (split <;> omega)) (by first | omega | (split <;> omega)) (fun c6 => ?_) (fun c6 => ?_)
                · skip
                  refine v_ldc X (List.mem_of_getElem? (i := 4) rfl) dX8_next_136 (n := -1000000) (by decide) ?_
                  refine v_iret X Y dX8_next_138 (u := ()) ?_ (by rfl)
                  have e : nxM (absI (spdM fc a - spdM fc b)) h p q = -1 := by rw [h2, show (4 * absI (spdM fc a - spdM fc b) - k).toNat = 0 by omega]; rfl
                  exact Or.inr ⟨g1, Or.inr ⟨by omega, Or.inl ⟨e, rfl⟩⟩⟩
                · skip
                  refine v_iload X dX8_next_101 rfl ?_
                  refine v_iload X dX8_next_103 rfl ?_
                  refine v_iadd X dX8_next_105 ?_
                  refine v_iload X dX8_next_106 rfl ?_
                  refine v_irem X dX8_next_108 (by first | omega | (split <;> omega)) (by first | omega | (split <;> omega)) (by first | omega | (split <;> omega)) ?_
                  have m5 := Int.tmod_nonneg (4 * absI (spdM fc a - spdM fc b)) (show 0 ≤ (p * (4 * absI (spdM fc a - spdM fc b)) + q - 1) / q + k by omega)
                  have m6 := Int.tmod_lt_of_pos ((p * (4 * absI (spdM fc a - spdM fc b)) + q - 1) / q + k) (show 0 < 4 * absI (spdM fc a - spdM fc b) by omega)
                  refine v_istore X dX8_next_109 (by decide) rfl ?_
                  dsimp only [List.set]
                  refine v_iload X dX8_next_111 rfl ?_
                  refine v_iload_n X dX8_next_113 rfl ?_
                  refine res_E X (run_S X (c_X8_isSo (g := g) (by first | assumption | omega) (by first | assumption | omega)) gX8_next_X8_isSo rfl hdX8_isSo.2 ⟨(Nat.le_of_ble_eq_true rfl), (Nat.le_of_ble_eq_true rfl)⟩ ⟨(Nat.le_of_ble_eq_true rfl), (Nat.le_of_ble_eq_true rfl)⟩ [] rfl rfl rfl rfl (by simp [Value.category]) dX8_next_114) [] rfl rfl ?_
                  refine v_ifb_eq (tgt := 130) X dX8_next_117 (by decide) (fun c7 => ?_) (fun c7 => ?_)
                  · skip
                    refine v_iinc X dX8_next_130 rfl (by decide) rfl ?_
                    dsimp only [List.set]
                    refine v_goto (tgt := 94) X dX8_next_133 (by decide) ?_
                    refine v_drop 10 ?_
                    dsimp only [List.set]
                    exact ih94 _ (by omega) (by rw [h2, nxS_s (by omega), if_neg (by unfold isS; rw [decide_eq_true_eq]; omega)]) (by omega)
                  · skip
                    refine v_iload X dX8_next_120 rfl ?_
                    refine v_iload X dX8_next_122 rfl ?_
                    refine v_iload X dX8_next_124 rfl ?_
                    refine res_E X (run_S X (c_X8_told (g := g) (by first | assumption | omega) (by first | assumption | omega) (by first | assumption | omega) (by first | assumption | omega) (by first | assumption | omega)) gX8_next_X8_told rfl hdX8_told.2 ⟨(Nat.le_of_ble_eq_true rfl), (Nat.le_of_ble_eq_true rfl)⟩ ⟨(Nat.le_of_ble_eq_true rfl), (Nat.le_of_ble_eq_true rfl)⟩ [] rfl rfl rfl rfl (by simp [Value.category]) dX8_next_126) [] rfl rfl ?_
                    refine v_iret X Y dX8_next_129 (u := ()) ?_ (by rfl)
                    have e : nxM (absI (spdM fc a - spdM fc b)) h p q = ((p * (4 * absI (spdM fc a - spdM fc b)) + q - 1) / q + k).tmod (4 * absI (spdM fc a - spdM fc b)) := by rw [h2, nxS_s (by omega), if_pos (by unfold isS; rw [decide_eq_true_eq]; omega)]
                    exact Or.inr ⟨g1, Or.inr ⟨by omega, Or.inr ⟨by rw [e]; exact m5, by rw [e]⟩⟩⟩
            exact L94 _ _ (by omega) (by unfold nxM; rw [Int.sub_zero, Int.add_zero]) (Nat.lt_succ_self _)
          · skip
            refine v_ldc X (List.mem_of_getElem? (i := 4) rfl) dX8_next_73 (n := -1000000) (by decide) ?_
            refine v_iret X Y dX8_next_75 (u := ()) ?_ (by rfl)
            exact Or.inr ⟨g1, Or.inl ⟨by omega, rfl⟩⟩
        · skip
          refine v_ldc X (List.mem_of_getElem? (i := 3) rfl) dX8_next_47 (n := -1000001) (by decide) ?_
          refine v_iret X Y dX8_next_49 (u := ()) ?_ (by rfl)
          exact Or.inl ⟨(by omega), rfl⟩

theorem hdX8_all : yX8_all.cls = RX8 ∧ yX8_all.cls ≠ "java/lang/invoke/MethodHandle" ∧ yX8_all.cls ≠ "java/lang/invoke/VarHandle" ∧ (parseMethodDescriptor yX8_all.desc).map (fun d => d.parameters.length) = some 0 := ⟨rfl, by decide +kernel, by decide +kernel, by decide +kernel⟩
set_option maxHeartbeats 4000000 in
set_option maxRecDepth 100000 in
theorem c_X8_all {g : Gx} {A : Nat → Nat} {th sq ac td lt ln cu tk sa ti ft fp le lf tr : Int} {fl fm fi fc ff fw ftp fk fe fr : Nat → Int}  (hfc : Bd 0 60 fc) (hc1 : 0 ≤ fc 1 ∧ fc 1 ≤ 4) (ht3 : Bd 0 12 (tM fc)) : CtE g yX8_all wsX8_all 2 43 [.ref (A 0)] (wMod g A th sq ac td lt ln cu tk sa ti ft fp le lf tr fl fm fi fc ff fw ftp fk fe fr) (if 0 < fc 0 then (if allM fc = 0 then -1000000 else allM fc) else -1000002) (wMod g A (0) sq ac td lt ln cu tk sa ti ft fp le lf tr fl fm fi fc ff fw ftp fk fe fr) := by
  refine m_go (cc := cX8_all) (nL := 3) (by decide +kernel) rfl (Nat.le_of_ble_eq_true rfl) (fun x X Y hnm => ?_)
  refine v_eq (lo2 := [some (.ref (A 0)), none, none]) rfl rfl rfl rfl ?_
  have q0 := hfc 0
  have qa := fun (i : Int) => absI_bd (a := spdM fc i - spdM fc 0) (M := 48) (by have := spdM_bd (fc := fc) (h := i) ht3; have := spdM_bd (fc := fc) (h := 0) ht3; omega)
  have qg := gcdN_bd (f := fun j => absI (spdM fc ((j : Int) + 1) - spdM fc 0)) (M := 48) (fun j => qa _)
  refine v_aload_n X dX8_all_0 rfl ?_
  refine v_iconst X dX8_all_1 ?_
  refine v_put X (fun _ h => List.mem_cons_of_mem _ (List.mem_append_right _ h)) tyX8 tyX8_ok nmX8 0 rfl rfl 0 (by decide) rfl (List.mem_of_getElem? (i := 1) rfl) rfl rfl rfl (Nat.le_of_ble_eq_true rfl) dX8_all_2 ?_
  dsimp only [List.set, wMod]
  refine v_aload_n X dX8_all_5 rfl ?_
  refine res_E X (run_V X (c_X8_isThere (g := g) (by first | assumption | omega)) gX8_all_X8_isThere rfl hdX8_isThere ⟨(Nat.le_of_ble_eq_true rfl), (Nat.le_of_ble_eq_true rfl)⟩ ⟨(Nat.le_of_ble_eq_true rfl), (Nat.le_of_ble_eq_true rfl)⟩ 0 rfl rfl rfl [0, 1, 2, 3, 4, 5, 6, 7, 8, 9, 10] rfl rfl rfl rfl (by simp [Value.category]) dX8_all_6) [0, 1, 2, 3, 4, 5, 6, 7, 8, 9, 10] rfl rfl ?_
  refine v_ifb_ne (tgt := 15) X dX8_all_9 (by decide) (fun c1 => ?_) (fun c1 => ?_)
  · skip
    refine v_iconst X dX8_all_15 ?_
    refine v_istore_n X dX8_all_16 1 rfl (by decide) rfl ?_
    dsimp only [List.set]
    refine v_iconst X dX8_all_17 ?_
    refine v_istore_n X dX8_all_18 2 rfl (by decide) rfl ?_
    dsimp only [List.set]
    have L19 : ∀ (nf : Nat) (n : Int) (h : Int) (h1 : 1 ≤ h ∧ (h ≤ fc 1 ∨ h = 1)) (h2 : n = gcdN (fun j => absI (spdM fc ((j : Int) + 1) - spdM fc 0)) (h - 1).toNat) (h3 : 0 ≤ n ∧ n ≤ 48) (_ : (fc 1 + 1 - h).toNat < nf), V g x 0 0 (wMod g A (0) sq ac td lt ln cu tk sa ti ft fp le lf tr fl fm fi fc ff fw ftp fk fe fr) [some (.ref (A 0)), some (.int (iI n)), some (.int (iI h))] 19 [] := by
      intro nf
      induction nf with
      | zero => intro n h h1 h2 h3 hmu; exact absurd hmu (Nat.not_lt_zero _)
      | succ nf ih19 =>
        intro n h h1 h2 h3 hmu
        refine v_iload_n X dX8_all_19 rfl ?_
        refine v_aload_n X dX8_all_20 rfl ?_
        refine v_get X (fun _ h => List.mem_cons_of_mem _ (List.mem_append_right _ h)) 0 rfl rfl 5 (by decide) rfl (List.mem_of_getElem? (i := 3) rfl) rfl dX8_all_21 ?_
        refine v_iconst X dX8_all_24 ?_
        refine v_iald X 4 rfl (by first | omega | (split <;> omega)) (by first | omega | (split <;> omega)) (by first | omega | (split <;> omega)) dX8_all_25 hfc (fun z1 ez1 lz1 uz1 => ?_)
        rw [show z1 = fc 1 from ez1]
        refine v_icmp_ge (tgt := 54) X dX8_all_26 (by decide) (by first | omega | (split <;> omega)) (by first | omega | (split <;> omega)) (fun c3 => ?_) (fun c3 => ?_)
        · skip
          refine v_iload_n X dX8_all_54 rfl ?_
          refine v_if_ne (tgt := 63) X dX8_all_55 (by decide) (by first | omega | (split <;> omega)) (fun c4 => ?_) (fun c4 => ?_)
          · skip
            refine v_iload_n X dX8_all_63 rfl ?_
            exact v_iret X Y dX8_all_64 (u := ()) (by
                have e : allM fc = n := by unfold allM; rw [h2, show (h - 1).toNat = (fc 1 - 1).toNat by omega]
                rw [if_pos (by omega), e]; first | rw [if_pos (by assumption)] | rw [if_neg (by assumption)]) (by rfl)
          · skip
            refine v_ldc X (List.mem_of_getElem? (i := 4) rfl) dX8_all_58 (n := -1000000) (by decide) ?_
            refine v_goto (tgt := 64) X dX8_all_60 (by decide) ?_
            exact v_iret X Y dX8_all_64 (u := ()) (by
                have e : allM fc = n := by unfold allM; rw [h2, show (h - 1).toNat = (fc 1 - 1).toNat by omega]
                rw [if_pos (by omega), e]; first | rw [if_pos (by assumption)] | rw [if_neg (by assumption)]) (by rfl)
        · skip
          refine v_iload_n X dX8_all_29 rfl ?_
          refine v_aload_n X dX8_all_30 rfl ?_
          refine v_iload_n X dX8_all_31 rfl ?_
          have q8 := spdM_bd (fc := fc) (h := h) ht3
          have q9 := spdM_bd (fc := fc) (h := 0) ht3
          have q7 := qa h
          refine res_E X (run_V X (c_X8_speed (g := g) (by first | assumption | omega) (by first | assumption | omega) (by first | assumption | omega)) gX8_all_X8_speed rfl hdX8_speed ⟨(Nat.le_of_ble_eq_true rfl), (Nat.le_of_ble_eq_true rfl)⟩ ⟨(Nat.le_of_ble_eq_true rfl), (Nat.le_of_ble_eq_true rfl)⟩ 0 rfl rfl rfl [0, 1, 2, 3, 4, 5, 6, 7, 8, 9, 10] rfl rfl rfl rfl (by simp [Value.category]) dX8_all_32) [0, 1, 2, 3, 4, 5, 6, 7, 8, 9, 10] rfl rfl ?_
          refine v_aload_n X dX8_all_35 rfl ?_
          refine v_iconst X dX8_all_36 ?_
          refine res_E X (run_V X (c_X8_speed (g := g) (by first | assumption | omega) (by first | assumption | omega) (by first | assumption | omega)) gX8_all_X8_speed rfl hdX8_speed ⟨(Nat.le_of_ble_eq_true rfl), (Nat.le_of_ble_eq_true rfl)⟩ ⟨(Nat.le_of_ble_eq_true rfl), (Nat.le_of_ble_eq_true rfl)⟩ 0 rfl rfl rfl [0, 1, 2, 3, 4, 5, 6, 7, 8, 9, 10] rfl rfl rfl rfl (by simp [Value.category]) dX8_all_37) [0, 1, 2, 3, 4, 5, 6, 7, 8, 9, 10] rfl rfl ?_
          refine v_isub X dX8_all_40 ?_
          refine res_E X (run_S X (c_X8_size (g := g) (by first | assumption | omega)) gX8_all_X8_size rfl hdX8_size.2 ⟨(Nat.le_of_ble_eq_true rfl), (Nat.le_of_ble_eq_true rfl)⟩ ⟨(Nat.le_of_ble_eq_true rfl), (Nat.le_of_ble_eq_true rfl)⟩ [] rfl rfl rfl rfl (by simp [Value.category]) dX8_all_41) [] rfl rfl ?_
          refine res_E X (run_S X (c_X8_divisor (g := g) (by first | assumption | omega) (by first | assumption | omega) (by first | assumption | omega) (by first | assumption | omega)) gX8_all_X8_divisor rfl hdX8_divisor.2 ⟨(Nat.le_of_ble_eq_true rfl), (Nat.le_of_ble_eq_true rfl)⟩ ⟨(Nat.le_of_ble_eq_true rfl), (Nat.le_of_ble_eq_true rfl)⟩ [] rfl rfl rfl rfl (by simp [Value.category]) dX8_all_44) [] rfl rfl ?_
          refine v_istore_n X dX8_all_47 1 rfl (by decide) rfl ?_
          dsimp only [List.set]
          refine v_iinc X dX8_all_48 rfl (by decide) rfl ?_
          dsimp only [List.set]
          refine v_goto (tgt := 19) X dX8_all_51 (by decide) ?_
          exact ih19 _ _ (by omega) (by rw [show (h + 1 - 1).toNat = (h - 1).toNat + 1 by omega]; simp only [gcdN]; rw [← h2, show (((h - 1).toNat : Nat) : Int) + 1 = h by omega]) (by first | omega | (have q7 := qg (h + 1 - 1).toNat; rw [show (h + 1 - 1).toNat = (h - 1).toNat + 1 by omega] at q7; simp only [gcdN] at q7; rw [← h2, show (((h - 1).toNat : Nat) : Int) + 1 = h by omega] at q7; exact q7)) (by omega)
    exact L19 _ _ _ (by omega) (by rfl) (by first | omega | (have q7 := qg (h + 1 - 1).toNat; rw [show (h + 1 - 1).toNat = (h - 1).toNat + 1 by omega] at q7; simp only [gcdN] at q7; rw [← h2, show (((h - 1).toNat : Nat) : Int) + 1 = h by omega] at q7; exact q7)) (Nat.lt_succ_self _)
  · skip
    refine v_ldc X (List.mem_of_getElem? (i := 2) rfl) dX8_all_12 (n := -1000002) (by decide) ?_
    exact v_iret X Y dX8_all_14 (u := ()) (by rw [if_neg (by omega)]) (by rfl)

theorem hdX7_found : yX7_found.cls = RX7 ∧ yX7_found.cls ≠ "java/lang/invoke/MethodHandle" ∧ yX7_found.cls ≠ "java/lang/invoke/VarHandle" ∧ (parseMethodDescriptor yX7_found.desc).map (fun d => d.parameters.length) = some 1 := ⟨rfl, by decide +kernel, by decide +kernel, by decide +kernel⟩
set_option maxHeartbeats 4000000 in
set_option maxRecDepth 100000 in
theorem c_X7_found {g : Gx} {B : Nat → Nat} {lf fi : Int}  {n : Int}  : CtE g yX7_found wsX7_found 0 0 [.ref (B 0), .int (iI n)] ([oAH g B (lf) (fi)]) (-1000010 - n) ([oAH g B (lf) (n)]) := by
  refine m_go (cc := cX7_found) (nL := 2) (by decide +kernel) rfl (Nat.le_of_ble_eq_true rfl) (fun x X Y hnm => ?_)
  refine v_eq (lo2 := [some (.ref (B 0)), some (.int (iI n))]) rfl rfl rfl rfl ?_
  refine v_aload_n X dX7_found_0 rfl ?_
  refine v_iload_n X dX7_found_1 rfl ?_
  refine v_put X (fun _ h => List.mem_cons_of_mem _ (List.mem_append_right _ h)) tyX7 tyX7_ok nmX7 0 rfl rfl 11 (by decide) rfl (List.mem_of_getElem? (i := 1) rfl) rfl rfl rfl (Nat.le_of_ble_eq_true rfl) dX7_found_2 ?_
  dsimp only [List.set, oAH, List.cons_append, List.nil_append]
  refine v_ldcw X (List.mem_of_getElem? (i := 2) rfl) dX7_found_5 (n := -1000010) (by decide) ?_
  refine v_iload_n X dX7_found_8 rfl ?_
  refine v_isub X dX7_found_9 ?_
  exact v_iret X Y dX7_found_10 (u := ()) (by first | rfl | omega | (split <;> omega) | (simp [*]; done)) (by rfl)

theorem hdX7_fine : yX7_fine.cls = RX7 ∧ yX7_fine.cls ≠ "java/lang/invoke/MethodHandle" ∧ yX7_fine.cls ≠ "java/lang/invoke/VarHandle" ∧ (parseMethodDescriptor yX7_fine.desc).map (fun d => d.parameters.length) = some 1 := ⟨rfl, by decide +kernel, by decide +kernel, by decide +kernel⟩
set_option maxHeartbeats 4000000 in
set_option maxRecDepth 100000 in
theorem c_X7_fine {g : Gx} {B : Nat → Nat} {lf fi : Int}  {n : Int}  : CtE g yX7_fine wsX7_fine 0 0 [.ref (B 0), .int (iI n)] ([oAH g B (lf) (fi)]) (n) ([oAH g B (lf) (0)]) := by
  refine m_go (cc := cX7_fine) (nL := 2) (by decide +kernel) rfl (Nat.le_of_ble_eq_true rfl) (fun x X Y hnm => ?_)
  refine v_eq (lo2 := [some (.ref (B 0)), some (.int (iI n))]) rfl rfl rfl rfl ?_
  refine v_aload_n X dX7_fine_0 rfl ?_
  refine v_iconst X dX7_fine_1 ?_
  refine v_put X (fun _ h => List.mem_cons_of_mem _ (List.mem_append_right _ h)) tyX7 tyX7_ok nmX7 0 rfl rfl 11 (by decide) rfl (List.mem_of_getElem? (i := 1) rfl) rfl rfl rfl (Nat.le_of_ble_eq_true rfl) dX7_fine_2 ?_
  dsimp only [List.set, oAH, List.cons_append, List.nil_append]
  refine v_iload_n X dX7_fine_5 rfl ?_
  exact v_iret X Y dX7_fine_6 (u := ()) (by first | rfl | omega | (split <;> omega) | (simp [*]; done)) (by rfl)

theorem hdX7_fault : yX7_fault.cls = RX7 ∧ yX7_fault.cls ≠ "java/lang/invoke/MethodHandle" ∧ yX7_fault.cls ≠ "java/lang/invoke/VarHandle" ∧ (parseMethodDescriptor yX7_fault.desc).map (fun d => d.parameters.length) = some 0 := ⟨rfl, by decide +kernel, by decide +kernel, by decide +kernel⟩
set_option maxHeartbeats 4000000 in
set_option maxRecDepth 100000 in
theorem c_X7_fault {g : Gx} {B : Nat → Nat} {lf fi : Int}    : CtE g yX7_fault wsX7_fault 0 0 [.ref (B 0)] ([oAH g B (lf) (fi)]) (lf) ([oAH g B (lf) (fi)]) := by
  refine m_go (cc := cX7_fault) (nL := 1) (by decide +kernel) rfl (Nat.le_of_ble_eq_true rfl) (fun x X Y hnm => ?_)
  refine v_eq (lo2 := [some (.ref (B 0))]) rfl rfl rfl rfl ?_
  refine v_aload_n X dX7_fault_0 rfl ?_
  refine v_get X (fun _ h => List.mem_cons_of_mem _ (List.mem_append_right _ h)) 0 rfl rfl 10 (by decide) rfl (List.mem_of_getElem? (i := 1) rfl) rfl dX7_fault_1 ?_
  exact v_iret X Y dX7_fault_4 (u := ()) (by first | rfl | omega | (split <;> omega) | (simp [*]; done)) (by rfl)

theorem hdX7_status : yX7_status.cls = RX7 ∧ yX7_status.cls ≠ "java/lang/invoke/MethodHandle" ∧ yX7_status.cls ≠ "java/lang/invoke/VarHandle" ∧ (parseMethodDescriptor yX7_status.desc).map (fun d => d.parameters.length) = some 0 := ⟨rfl, by decide +kernel, by decide +kernel, by decide +kernel⟩
set_option maxHeartbeats 4000000 in
set_option maxRecDepth 100000 in
theorem c_X7_status {g : Gx} {B : Nat → Nat} {lf fi : Int}    : CtE g yX7_status wsX7_status 0 0 [.ref (B 0)] ([oAH g B (lf) (fi)]) (fi) ([oAH g B (lf) (fi)]) := by
  refine m_go (cc := cX7_status) (nL := 1) (by decide +kernel) rfl (Nat.le_of_ble_eq_true rfl) (fun x X Y hnm => ?_)
  refine v_eq (lo2 := [some (.ref (B 0))]) rfl rfl rfl rfl ?_
  refine v_aload_n X dX7_status_0 rfl ?_
  refine v_get X (fun _ h => List.mem_cons_of_mem _ (List.mem_append_right _ h)) 0 rfl rfl 11 (by decide) rfl (List.mem_of_getElem? (i := 1) rfl) rfl dX7_status_1 ?_
  exact v_iret X Y dX7_status_4 (u := ()) (by first | rfl | omega | (split <;> omega) | (simp [*]; done)) (by rfl)

theorem hdX7_isOfKind : yX7_isOfKind.cls = RX7 ∧ yX7_isOfKind.cls ≠ "java/lang/invoke/MethodHandle" ∧ yX7_isOfKind.cls ≠ "java/lang/invoke/VarHandle" ∧ (parseMethodDescriptor yX7_isOfKind.desc).map (fun d => d.parameters.length) = some 2 := ⟨rfl, by decide +kernel, by decide +kernel, by decide +kernel⟩
set_option maxHeartbeats 4000000 in
set_option maxRecDepth 100000 in
theorem c_X7_isOfKind {g : Gx} {s t : Int} (hs : R32 s) (ht : R32 t) : CtE g yX7_isOfKind wsX7_isOfKind 0 0 [.int (iI s), .int (iI t)] ([]) (if t = 0 ∨ s = t ∨ (t = 1 ∧ (s = 2 ∨ s = 3)) ∨ (t = 4 ∧ s = 5) then 1 else 0) ([]) := by
  refine m_go (cc := cX7_isOfKind) (nL := 2) (by decide +kernel) rfl (Nat.le_of_ble_eq_true rfl) (fun x X Y hnm => ?_)
  refine v_eq (lo2 := [some (.int (iI s)), some (.int (iI t))]) rfl rfl rfl rfl ?_
  refine v_iload_n X dX7_isOfKind_0 rfl ?_
  refine v_if_eq (tgt := 9) X dX7_isOfKind_1 (by decide) (by omega) (fun c1 => ?_) (fun c1 => ?_)
  · skip
    refine v_iconst X dX7_isOfKind_9 ?_
    exact v_zret X Y dX7_isOfKind_10 (by first | decide | omega | (split <;> omega)) (u := ()) (by first | rfl | omega | (split <;> omega) | (simp [*]; done)) (by rfl)
  · skip
    refine v_iload_n X dX7_isOfKind_4 rfl ?_
    refine v_iload_n X dX7_isOfKind_5 rfl ?_
    refine v_icmp_ne (tgt := 11) X dX7_isOfKind_6 (by decide) (by omega) (by omega) (fun c2 => ?_) (fun c2 => ?_)
    · skip
      refine v_iload_n X dX7_isOfKind_11 rfl ?_
      refine v_iconst X dX7_isOfKind_12 ?_
      refine v_icmp_ne (tgt := 34) X dX7_isOfKind_13 (by decide) (by omega) (by omega) (fun c3 => ?_) (fun c3 => ?_)
      · skip
        refine v_iload_n X dX7_isOfKind_34 rfl ?_
        refine v_iconst X dX7_isOfKind_35 ?_
        refine v_icmp_ne (tgt := 48) X dX7_isOfKind_36 (by decide) (by omega) (by omega) (fun c4 => ?_) (fun c4 => ?_)
        · skip
          refine v_iconst X dX7_isOfKind_48 ?_
          exact v_zret X Y dX7_isOfKind_49 (by first | decide | omega | (split <;> omega)) (u := ()) (by first | rfl | omega | (split <;> omega) | (simp [*]; done)) (by rfl)
        · skip
          refine v_iload_n X dX7_isOfKind_39 rfl ?_
          refine v_iconst X dX7_isOfKind_40 ?_
          refine v_icmp_ne (tgt := 48) X dX7_isOfKind_41 (by decide) (by omega) (by omega) (fun c5 => ?_) (fun c5 => ?_)
          · skip
            refine v_iconst X dX7_isOfKind_48 ?_
            exact v_zret X Y dX7_isOfKind_49 (by first | decide | omega | (split <;> omega)) (u := ()) (by first | rfl | omega | (split <;> omega) | (simp [*]; done)) (by rfl)
          · skip
            refine v_iconst X dX7_isOfKind_44 ?_
            refine v_goto (tgt := 49) X dX7_isOfKind_45 (by decide) ?_
            exact v_zret X Y dX7_isOfKind_49 (by first | decide | omega | (split <;> omega)) (u := ()) (by first | rfl | omega | (split <;> omega) | (simp [*]; done)) (by rfl)
      · skip
        refine v_iload_n X dX7_isOfKind_16 rfl ?_
        refine v_iconst X dX7_isOfKind_17 ?_
        refine v_icmp_eq (tgt := 26) X dX7_isOfKind_18 (by decide) (by omega) (by omega) (fun c6 => ?_) (fun c6 => ?_)
        · skip
          refine v_iconst X dX7_isOfKind_26 ?_
          refine v_goto (tgt := 49) X dX7_isOfKind_27 (by decide) ?_
          exact v_zret X Y dX7_isOfKind_49 (by first | decide | omega | (split <;> omega)) (u := ()) (by first | rfl | omega | (split <;> omega) | (simp [*]; done)) (by rfl)
        · skip
          refine v_iload_n X dX7_isOfKind_21 rfl ?_
          refine v_iconst X dX7_isOfKind_22 ?_
          refine v_icmp_ne (tgt := 30) X dX7_isOfKind_23 (by decide) (by omega) (by omega) (fun c7 => ?_) (fun c7 => ?_)
          · skip
            refine v_iconst X dX7_isOfKind_30 ?_
            refine v_goto (tgt := 49) X dX7_isOfKind_31 (by decide) ?_
            exact v_zret X Y dX7_isOfKind_49 (by first | decide | omega | (split <;> omega)) (u := ()) (by first | rfl | omega | (split <;> omega) | (simp [*]; done)) (by rfl)
          · skip
            refine v_iconst X dX7_isOfKind_26 ?_
            refine v_goto (tgt := 49) X dX7_isOfKind_27 (by decide) ?_
            exact v_zret X Y dX7_isOfKind_49 (by first | decide | omega | (split <;> omega)) (u := ()) (by first | rfl | omega | (split <;> omega) | (simp [*]; done)) (by rfl)
    · skip
      refine v_iconst X dX7_isOfKind_9 ?_
      exact v_zret X Y dX7_isOfKind_10 (by first | decide | omega | (split <;> omega)) (u := ()) (by first | rfl | omega | (split <;> omega) | (simp [*]; done)) (by rfl)

theorem hdX7_firstMeeting : yX7_firstMeeting.cls = RX7 ∧ yX7_firstMeeting.cls ≠ "java/lang/invoke/MethodHandle" ∧ yX7_firstMeeting.cls ≠ "java/lang/invoke/VarHandle" ∧ (parseMethodDescriptor yX7_firstMeeting.desc).map (fun d => d.parameters.length) = some 4 := ⟨rfl, by decide +kernel, by decide +kernel, by decide +kernel⟩
set_option maxHeartbeats 4000000 in
set_option maxRecDepth 100000 in
theorem c_X7_firstMeeting {g : Gx} {b h p q : Int} (hb : 0 ≤ b ∧ b ≤ 192) (hh : 0 ≤ h ∧ h ≤ 2) (hp : 0 ≤ p ∧ p < q) (hq : 1 ≤ q ∧ q ≤ 9999) : CtE g yX7_firstMeeting wsX7_firstMeeting 0 0 [.int (iI b), .int (iI h), .int (iI p), .int (iI q)] ([]) (fmI b h p q) ([]) := by
  refine m_go (cc := cX7_firstMeeting) (nL := 6) (by decide +kernel) rfl (Nat.le_of_ble_eq_true rfl) (fun x X Y hnm => ?_)
  refine v_eq (lo2 := [some (.int (iI b)), some (.int (iI h)), some (.int (iI p)), some (.int (iI q)), none, none]) rfl rfl rfl rfl ?_
  have m1 := mul_nn hb (show 0 ≤ p ∧ p ≤ 9998 by omega)
  have m2 : (b * p + q - 1).tdiv q = (b * p + q - 1) / q := tdiv_of_nn (by omega)
  have m3 : 0 ≤ (b * p + q - 1) / q := Int.ediv_nonneg (by omega) (by omega)
  have m4 : (b * p + q - 1) / q ≤ b * p + q - 1 := Int.ediv_le_self _ (by omega)
  have m5 : ((b * p + q - 1) / q).tmod 2 = ((b * p + q - 1) / q) % 2 := Int.tmod_eq_emod_of_nonneg m3
  refine v_iload_n X dX7_firstMeeting_0 rfl ?_
  refine v_if_ne (tgt := 8) X dX7_firstMeeting_1 (by decide) (by omega) (fun c1 => ?_) (fun c1 => ?_)
  · skip
    refine v_iconst X dX7_firstMeeting_8 ?_
    refine v_istore X dX7_firstMeeting_9 (by decide) rfl ?_
    dsimp only [List.set]
    refine v_iload_n X dX7_firstMeeting_11 rfl ?_
    refine v_iconst X dX7_firstMeeting_12 ?_
    refine v_icmp_ge (tgt := 19) X dX7_firstMeeting_13 (by decide) (by omega) (by omega) (fun c2 => ?_) (fun c2 => ?_)
    · skip
      refine v_iload_n X dX7_firstMeeting_19 rfl ?_
      refine v_iload_n X dX7_firstMeeting_20 rfl ?_
      refine v_imul X dX7_firstMeeting_21 ?_
      refine v_iload_n X dX7_firstMeeting_22 rfl ?_
      refine v_iadd X dX7_firstMeeting_23 ?_
      refine v_iconst X dX7_firstMeeting_24 ?_
      refine v_isub X dX7_firstMeeting_25 ?_
      refine v_iload_n X dX7_firstMeeting_26 rfl ?_
      refine v_idiv X dX7_firstMeeting_27 (by omega) (by omega) (by omega) ?_
      rw [m2]
      refine v_istore X dX7_firstMeeting_28 (by decide) rfl ?_
      dsimp only [List.set]
      refine v_iload_n X dX7_firstMeeting_30 rfl ?_
      refine v_if_eq (tgt := 44) X dX7_firstMeeting_31 (by decide) (by omega) (fun c3 => ?_) (fun c3 => ?_)
      · skip
        refine v_iload X dX7_firstMeeting_44 rfl ?_
        refine v_iload_n X dX7_firstMeeting_46 rfl ?_
        refine v_icmp_ge (tgt := 55) X dX7_firstMeeting_47 (by decide) (by omega) (by omega) (fun c4 => ?_) (fun c4 => ?_)
        · skip
          refine v_iload X dX7_firstMeeting_55 rfl ?_
          exact v_iret X Y dX7_firstMeeting_57 (u := ()) (by unfold fmI; (repeat split) <;> omega) (by rfl)
        · skip
          refine v_iload X dX7_firstMeeting_50 rfl ?_
          refine v_goto (tgt := 57) X dX7_firstMeeting_52 (by decide) ?_
          exact v_iret X Y dX7_firstMeeting_57 (u := ()) (by unfold fmI; (repeat split) <;> omega) (by rfl)
      · skip
        refine v_iload X dX7_firstMeeting_34 rfl ?_
        refine v_iconst X dX7_firstMeeting_36 ?_
        refine v_irem X dX7_firstMeeting_37 (by omega) (by omega) (by omega) ?_
        rw [m5]
        refine v_if_ne (tgt := 44) X dX7_firstMeeting_38 (by decide) (by omega) (fun c5 => ?_) (fun c5 => ?_)
        · skip
          refine v_iload X dX7_firstMeeting_44 rfl ?_
          refine v_iload_n X dX7_firstMeeting_46 rfl ?_
          refine v_icmp_ge (tgt := 55) X dX7_firstMeeting_47 (by decide) (by omega) (by omega) (fun c6 => ?_) (fun c6 => ?_)
          · skip
            refine v_iload X dX7_firstMeeting_55 rfl ?_
            exact v_iret X Y dX7_firstMeeting_57 (u := ()) (by unfold fmI; (repeat split) <;> omega) (by rfl)
          · skip
            refine v_iload X dX7_firstMeeting_50 rfl ?_
            refine v_goto (tgt := 57) X dX7_firstMeeting_52 (by decide) ?_
            exact v_iret X Y dX7_firstMeeting_57 (u := ()) (by unfold fmI; (repeat split) <;> omega) (by rfl)
        · skip
          refine v_iinc X dX7_firstMeeting_41 rfl (by decide) rfl ?_
          dsimp only [List.set]
          refine v_iload X dX7_firstMeeting_44 rfl ?_
          refine v_iload_n X dX7_firstMeeting_46 rfl ?_
          refine v_icmp_ge (tgt := 55) X dX7_firstMeeting_47 (by decide) (by omega) (by omega) (fun c7 => ?_) (fun c7 => ?_)
          · skip
            refine v_iload X dX7_firstMeeting_55 rfl ?_
            exact v_iret X Y dX7_firstMeeting_57 (u := ()) (by unfold fmI; (repeat split) <;> omega) (by rfl)
          · skip
            refine v_iload X dX7_firstMeeting_50 rfl ?_
            refine v_goto (tgt := 57) X dX7_firstMeeting_52 (by decide) ?_
            exact v_iret X Y dX7_firstMeeting_57 (u := ()) (by unfold fmI; (repeat split) <;> omega) (by rfl)
    · skip
      exfalso; omega
  · skip
    refine v_iconst X dX7_firstMeeting_4 ?_
    refine v_goto (tgt := 9) X dX7_firstMeeting_5 (by decide) ?_
    refine v_istore X dX7_firstMeeting_9 (by decide) rfl ?_
    dsimp only [List.set]
    refine v_iload_n X dX7_firstMeeting_11 rfl ?_
    refine v_iconst X dX7_firstMeeting_12 ?_
    refine v_icmp_ge (tgt := 19) X dX7_firstMeeting_13 (by decide) (by omega) (by omega) (fun c8 => ?_) (fun c8 => ?_)
    · skip
      refine v_iload_n X dX7_firstMeeting_19 rfl ?_
      refine v_iload_n X dX7_firstMeeting_20 rfl ?_
      refine v_imul X dX7_firstMeeting_21 ?_
      refine v_iload_n X dX7_firstMeeting_22 rfl ?_
      refine v_iadd X dX7_firstMeeting_23 ?_
      refine v_iconst X dX7_firstMeeting_24 ?_
      refine v_isub X dX7_firstMeeting_25 ?_
      refine v_iload_n X dX7_firstMeeting_26 rfl ?_
      refine v_idiv X dX7_firstMeeting_27 (by omega) (by omega) (by omega) ?_
      rw [m2]
      refine v_istore X dX7_firstMeeting_28 (by decide) rfl ?_
      dsimp only [List.set]
      refine v_iload_n X dX7_firstMeeting_30 rfl ?_
      refine v_if_eq (tgt := 44) X dX7_firstMeeting_31 (by decide) (by omega) (fun c9 => ?_) (fun c9 => ?_)
      · skip
        refine v_iload X dX7_firstMeeting_44 rfl ?_
        refine v_iload_n X dX7_firstMeeting_46 rfl ?_
        refine v_icmp_ge (tgt := 55) X dX7_firstMeeting_47 (by decide) (by omega) (by omega) (fun c10 => ?_) (fun c10 => ?_)
        · skip
          refine v_iload X dX7_firstMeeting_55 rfl ?_
          exact v_iret X Y dX7_firstMeeting_57 (u := ()) (by unfold fmI; (repeat split) <;> omega) (by rfl)
        · skip
          refine v_iload X dX7_firstMeeting_50 rfl ?_
          refine v_goto (tgt := 57) X dX7_firstMeeting_52 (by decide) ?_
          exact v_iret X Y dX7_firstMeeting_57 (u := ()) (by unfold fmI; (repeat split) <;> omega) (by rfl)
      · skip
        refine v_iload X dX7_firstMeeting_34 rfl ?_
        refine v_iconst X dX7_firstMeeting_36 ?_
        refine v_irem X dX7_firstMeeting_37 (by omega) (by omega) (by omega) ?_
        rw [m5]
        refine v_if_ne (tgt := 44) X dX7_firstMeeting_38 (by decide) (by omega) (fun c11 => ?_) (fun c11 => ?_)
        · skip
          refine v_iload X dX7_firstMeeting_44 rfl ?_
          refine v_iload_n X dX7_firstMeeting_46 rfl ?_
          refine v_icmp_ge (tgt := 55) X dX7_firstMeeting_47 (by decide) (by omega) (by omega) (fun c12 => ?_) (fun c12 => ?_)
          · skip
            refine v_iload X dX7_firstMeeting_55 rfl ?_
            exact v_iret X Y dX7_firstMeeting_57 (u := ()) (by unfold fmI; (repeat split) <;> omega) (by rfl)
          · skip
            refine v_iload X dX7_firstMeeting_50 rfl ?_
            refine v_goto (tgt := 57) X dX7_firstMeeting_52 (by decide) ?_
            exact v_iret X Y dX7_firstMeeting_57 (u := ()) (by unfold fmI; (repeat split) <;> omega) (by rfl)
        · skip
          refine v_iinc X dX7_firstMeeting_41 rfl (by decide) rfl ?_
          dsimp only [List.set]
          refine v_iload X dX7_firstMeeting_44 rfl ?_
          refine v_iload_n X dX7_firstMeeting_46 rfl ?_
          refine v_icmp_ge (tgt := 55) X dX7_firstMeeting_47 (by decide) (by omega) (by omega) (fun c13 => ?_) (fun c13 => ?_)
          · skip
            refine v_iload X dX7_firstMeeting_55 rfl ?_
            exact v_iret X Y dX7_firstMeeting_57 (u := ()) (by unfold fmI; (repeat split) <;> omega) (by rfl)
          · skip
            refine v_iload X dX7_firstMeeting_50 rfl ?_
            refine v_goto (tgt := 57) X dX7_firstMeeting_52 (by decide) ?_
            exact v_iret X Y dX7_firstMeeting_57 (u := ()) (by unfold fmI; (repeat split) <;> omega) (by rfl)
    · skip
      exfalso; omega

theorem hdX7_isPair : yX7_isPair.cls = RX7 ∧ yX7_isPair.cls ≠ "java/lang/invoke/MethodHandle" ∧ yX7_isPair.cls ≠ "java/lang/invoke/VarHandle" ∧ (parseMethodDescriptor yX7_isPair.desc).map (fun d => d.parameters.length) = some 2 := ⟨rfl, by decide +kernel, by decide +kernel, by decide +kernel⟩
set_option maxHeartbeats 4000000 in
set_option maxRecDepth 100000 in
theorem c_X7_isPair {g : Gx} {B : Nat → Nat} {lf fi : Int} {mk cn : Int} {so tu sp : Nat → Int} {a b : Int} (hcn : 0 ≤ cn ∧ cn ≤ 4) (ha : R32 a) (hb : R32 b) : CtE g yX7_isPair wsX7_isPair 1 21 [.ref (B 0), .int (iI a), .int (iI b)] (oAH g B (lf) (fi) :: (wClk g (B 3) (B 15) (B 16) (B 17) mk cn so tu sp)) (if (0 ≤ a ∧ a < cn) ∧ (0 ≤ b ∧ b < cn) ∧ a ≠ b then 1 else 0) (oAH g B (lf) (fi) :: (wClk g (B 3) (B 15) (B 16) (B 17) mk cn so tu sp)) := by
  refine m_go (cc := cX7_isPair) (nL := 3) (by decide +kernel) rfl (Nat.le_of_ble_eq_true rfl) (fun x X Y hnm => ?_)
  refine v_eq (lo2 := [some (.ref (B 0)), some (.int (iI a)), some (.int (iI b))]) rfl rfl rfl rfl ?_
  refine v_aload_n X dX7_isPair_0 rfl ?_
  refine v_get X (fun _ h => List.mem_cons_of_mem _ (List.mem_append_left _ (List.mem_append_right _ h))) 0 rfl rfl 2 (by decide) rfl (List.mem_of_getElem? (i := 1) rfl) rfl dX7_isPair_1 ?_
  refine v_iload_n X dX7_isPair_4 rfl ?_
  refine res_E X (run_V X (c_X2_has (g := g) (by first | assumption | omega) (by first | assumption | omega)) gX7_isPair_X2_has rfl hdX2_has ⟨(Nat.le_of_ble_eq_true rfl), (Nat.le_of_ble_eq_true rfl)⟩ ⟨(Nat.le_of_ble_eq_true rfl), (Nat.le_of_ble_eq_true rfl)⟩ 1 rfl rfl rfl [1, 2, 3, 4] rfl rfl rfl rfl (by simp [Value.category]) dX7_isPair_5) [1, 2, 3, 4] rfl rfl ?_
  refine v_ifb_eq (tgt := 31) X dX7_isPair_8 (by decide) (fun c1 => ?_) (fun c1 => ?_)
  · skip
    refine v_iconst X dX7_isPair_31 ?_
    exact v_zret X Y dX7_isPair_32 (by first | decide | omega | (split <;> omega)) (u := ()) (by first | rfl | omega | (split <;> omega) | (simp [*]; done)) (by rfl)
  · skip
    refine v_aload_n X dX7_isPair_11 rfl ?_
    refine v_get X (fun _ h => List.mem_cons_of_mem _ (List.mem_append_left _ (List.mem_append_right _ h))) 0 rfl rfl 2 (by decide) rfl (List.mem_of_getElem? (i := 1) rfl) rfl dX7_isPair_12 ?_
    refine v_iload_n X dX7_isPair_15 rfl ?_
    refine res_E X (run_V X (c_X2_has (g := g) (by first | assumption | omega) (by first | assumption | omega)) gX7_isPair_X2_has rfl hdX2_has ⟨(Nat.le_of_ble_eq_true rfl), (Nat.le_of_ble_eq_true rfl)⟩ ⟨(Nat.le_of_ble_eq_true rfl), (Nat.le_of_ble_eq_true rfl)⟩ 1 rfl rfl rfl [1, 2, 3, 4] rfl rfl rfl rfl (by simp [Value.category]) dX7_isPair_16) [1, 2, 3, 4] rfl rfl ?_
    refine v_ifb_eq (tgt := 31) X dX7_isPair_19 (by decide) (fun c2 => ?_) (fun c2 => ?_)
    · skip
      refine v_iconst X dX7_isPair_31 ?_
      exact v_zret X Y dX7_isPair_32 (by first | decide | omega | (split <;> omega)) (u := ()) (by first | rfl | omega | (split <;> omega) | (simp [*]; done)) (by rfl)
    · skip
      refine v_iload_n X dX7_isPair_22 rfl ?_
      refine v_iload_n X dX7_isPair_23 rfl ?_
      refine v_icmp_eq (tgt := 31) X dX7_isPair_24 (by decide) (by omega) (by omega) (fun c3 => ?_) (fun c3 => ?_)
      · skip
        refine v_iconst X dX7_isPair_31 ?_
        exact v_zret X Y dX7_isPair_32 (by first | decide | omega | (split <;> omega)) (u := ()) (by first | rfl | omega | (split <;> omega) | (simp [*]; done)) (by rfl)
      · skip
        refine v_iconst X dX7_isPair_27 ?_
        refine v_goto (tgt := 32) X dX7_isPair_28 (by decide) ?_
        exact v_zret X Y dX7_isPair_32 (by first | decide | omega | (split <;> omega)) (u := ()) (by first | rfl | omega | (split <;> omega) | (simp [*]; done)) (by rfl)

theorem hdX7_speedApart : yX7_speedApart.cls = RX7 ∧ yX7_speedApart.cls ≠ "java/lang/invoke/MethodHandle" ∧ yX7_speedApart.cls ≠ "java/lang/invoke/VarHandle" ∧ (parseMethodDescriptor yX7_speedApart.desc).map (fun d => d.parameters.length) = some 2 := ⟨rfl, by decide +kernel, by decide +kernel, by decide +kernel⟩
set_option maxHeartbeats 4000000 in
set_option maxRecDepth 100000 in
theorem c_X7_speedApart {g : Gx} {B : Nat → Nat} {lf fi : Int} {mk cn : Int} {so tu sp : Nat → Int} {a b : Int} (hcn : 0 ≤ cn ∧ cn ≤ 4) (hso : Bd 0 5 so) (htu : Bd 0 12 tu) (ha : R32 a) (hb : R32 b) : CtE g yX7_speedApart wsX7_speedApart 3 64 [.ref (B 0), .int (iI a), .int (iI b)] (oAH g B (lf) (fi) :: (wClk g (B 3) (B 15) (B 16) (B 17) mk cn so tu sp)) (absI (spdI cn so tu a - spdI cn so tu b)) (oAH g B (lf) (fi) :: (wClk g (B 3) (B 15) (B 16) (B 17) mk cn so tu sp)) := by
  refine m_go (cc := cX7_speedApart) (nL := 3) (by decide +kernel) rfl (Nat.le_of_ble_eq_true rfl) (fun x X Y hnm => ?_)
  refine v_eq (lo2 := [some (.ref (B 0)), some (.int (iI a)), some (.int (iI b))]) rfl rfl rfl rfl ?_
  have qs := fun (i : Int) => spdI_bd (cn := cn) (so := so) (h := i) htu
  have q1 := qs a
  have q2 := qs b
  refine v_aload_n X dX7_speedApart_0 rfl ?_
  refine v_get X (fun _ h => List.mem_cons_of_mem _ (List.mem_append_left _ (List.mem_append_right _ h))) 0 rfl rfl 2 (by decide) rfl (List.mem_of_getElem? (i := 1) rfl) rfl dX7_speedApart_1 ?_
  refine v_iload_n X dX7_speedApart_4 rfl ?_
  refine res_E X (run_V X (c_X2_speedOf (g := g) (by first | assumption | omega) (by first | assumption | omega) (by first | assumption | omega) (by first | assumption | omega)) gX7_speedApart_X2_speedOf rfl hdX2_speedOf ⟨(Nat.le_of_ble_eq_true rfl), (Nat.le_of_ble_eq_true rfl)⟩ ⟨(Nat.le_of_ble_eq_true rfl), (Nat.le_of_ble_eq_true rfl)⟩ 1 rfl rfl rfl [1, 2, 3, 4] rfl rfl rfl rfl (by simp [Value.category]) dX7_speedApart_5) [1, 2, 3, 4] rfl rfl ?_
  refine v_aload_n X dX7_speedApart_8 rfl ?_
  refine v_get X (fun _ h => List.mem_cons_of_mem _ (List.mem_append_left _ (List.mem_append_right _ h))) 0 rfl rfl 2 (by decide) rfl (List.mem_of_getElem? (i := 1) rfl) rfl dX7_speedApart_9 ?_
  refine v_iload_n X dX7_speedApart_12 rfl ?_
  refine res_E X (run_V X (c_X2_speedOf (g := g) (by first | assumption | omega) (by first | assumption | omega) (by first | assumption | omega) (by first | assumption | omega)) gX7_speedApart_X2_speedOf rfl hdX2_speedOf ⟨(Nat.le_of_ble_eq_true rfl), (Nat.le_of_ble_eq_true rfl)⟩ ⟨(Nat.le_of_ble_eq_true rfl), (Nat.le_of_ble_eq_true rfl)⟩ 1 rfl rfl rfl [1, 2, 3, 4] rfl rfl rfl rfl (by simp [Value.category]) dX7_speedApart_13) [1, 2, 3, 4] rfl rfl ?_
  refine v_isub X dX7_speedApart_16 ?_
  refine v_abs X (List.mem_of_getElem? (i := 2) rfl) (List.mem_of_getElem? (i := 3) rfl) (List.mem_of_getElem? (i := 4) rfl) (List.mem_of_getElem? (i := 5) rfl) ⟨(Nat.le_of_ble_eq_true rfl), (Nat.le_of_ble_eq_true rfl), (Nat.le_of_ble_eq_true rfl), (Nat.le_of_ble_eq_true rfl)⟩ (by omega) dX7_speedApart_17 ?_
  exact v_iret X Y dX7_speedApart_20 (u := ()) (by rfl) (by rfl)

theorem hdX7_hand : yX7_hand.cls = RX7 ∧ yX7_hand.cls ≠ "java/lang/invoke/MethodHandle" ∧ yX7_hand.cls ≠ "java/lang/invoke/VarHandle" ∧ (parseMethodDescriptor yX7_hand.desc).map (fun d => d.parameters.length) = some 2 := ⟨rfl, by decide +kernel, by decide +kernel, by decide +kernel⟩
set_option maxHeartbeats 4000000 in
set_option maxRecDepth 100000 in
theorem c_X7_hand {g : Gx} {B : Nat → Nat} {lf fi : Int} {mk cn : Int} {so tu sp : Nat → Int} {h w : Int} (hcn : 0 ≤ cn ∧ cn ≤ 4) (hmk : 0 ≤ mk ∧ mk ≤ 60) (hso : Bd 0 5 so) (htu : Bd 0 12 tu) (hsp : Bd 0 59 sp) (hh : R32 h) (hw : R32 w) : CtE g yX7_hand wsX7_hand 3 64 [.ref (B 0), .int (iI h), .int (iI w)] (oAH g B (lf) (fi) :: (wClk g (B 3) (B 15) (B 16) (B 17) mk cn so tu sp)) (if (0 ≤ h ∧ h < cn) ∧ 0 ≤ w ∧ w ≤ 2 then (if w = 0 then atI cn tu h else if w = 1 then spdI cn so tu h else atI cn sp h) else -1000001) (oAH g B (lf) (fi) :: (wClk g (B 3) (B 15) (B 16) (B 17) mk cn so tu sp)) := by
  refine m_go (cc := cX7_hand) (nL := 3) (by decide +kernel) rfl (Nat.le_of_ble_eq_true rfl) (fun x X Y hnm => ?_)
  refine v_eq (lo2 := [some (.ref (B 0)), some (.int (iI h)), some (.int (iI w))]) rfl rfl rfl rfl ?_
  refine v_aload_n X dX7_hand_0 rfl ?_
  refine v_get X (fun _ h => List.mem_cons_of_mem _ (List.mem_append_left _ (List.mem_append_right _ h))) 0 rfl rfl 2 (by decide) rfl (List.mem_of_getElem? (i := 1) rfl) rfl dX7_hand_1 ?_
  refine v_iload_n X dX7_hand_4 rfl ?_
  refine res_E X (run_V X (c_X2_has (g := g) (by first | assumption | omega) (by first | assumption | omega)) gX7_hand_X2_has rfl hdX2_has ⟨(Nat.le_of_ble_eq_true rfl), (Nat.le_of_ble_eq_true rfl)⟩ ⟨(Nat.le_of_ble_eq_true rfl), (Nat.le_of_ble_eq_true rfl)⟩ 1 rfl rfl rfl [1, 2, 3, 4] rfl rfl rfl rfl (by simp [Value.category]) dX7_hand_5) [1, 2, 3, 4] rfl rfl ?_
  refine v_ifb_eq (tgt := 20) X dX7_hand_8 (by decide) (fun c1 => ?_) (fun c1 => ?_)
  · skip
    refine v_ldc X (List.mem_of_getElem? (i := 2) rfl) dX7_hand_20 (n := -1000001) (by decide) ?_
    exact v_iret X Y dX7_hand_22 (u := ()) (by rw [if_neg (by omega)]) (by rfl)
  · skip
    refine v_iload_n X dX7_hand_11 rfl ?_
    refine v_iconst X dX7_hand_12 ?_
    refine v_iconst X dX7_hand_13 ?_
    refine res_E X (run_S X (c_X7_isWithin (g := g) (by first | assumption | omega) (by first | assumption | omega) (by first | assumption | omega)) gX7_hand_X7_isWithin rfl hdX7_isWithin.2 ⟨(Nat.le_of_ble_eq_true rfl), (Nat.le_of_ble_eq_true rfl)⟩ ⟨(Nat.le_of_ble_eq_true rfl), (Nat.le_of_ble_eq_true rfl)⟩ [] rfl rfl rfl rfl (by simp [Value.category]) dX7_hand_14) [] rfl rfl ?_
    refine v_ifb_ne (tgt := 23) X dX7_hand_17 (by decide) (fun c2 => ?_) (fun c2 => ?_)
    · skip
      refine v_iload_n X dX7_hand_23 rfl ?_
      refine v_if_ne (tgt := 36) X dX7_hand_24 (by decide) (by omega) (fun c3 => ?_) (fun c3 => ?_)
      · skip
        refine v_iload_n X dX7_hand_36 rfl ?_
        refine v_iconst X dX7_hand_37 ?_
        refine v_icmp_ne (tgt := 52) X dX7_hand_38 (by decide) (by omega) (by omega) (fun c4 => ?_) (fun c4 => ?_)
        · skip
          refine v_aload_n X dX7_hand_52 rfl ?_
          refine v_get X (fun _ h => List.mem_cons_of_mem _ (List.mem_append_left _ (List.mem_append_right _ h))) 0 rfl rfl 2 (by decide) rfl (List.mem_of_getElem? (i := 1) rfl) rfl dX7_hand_53 ?_
          refine v_iload_n X dX7_hand_56 rfl ?_
          refine res_E X (run_V X (c_X2_slipOf (g := g) (by first | assumption | omega) (by first | assumption | omega) (by first | assumption | omega)) gX7_hand_X2_slipOf rfl hdX2_slipOf ⟨(Nat.le_of_ble_eq_true rfl), (Nat.le_of_ble_eq_true rfl)⟩ ⟨(Nat.le_of_ble_eq_true rfl), (Nat.le_of_ble_eq_true rfl)⟩ 1 rfl rfl rfl [1, 2, 3, 4] rfl rfl rfl rfl (by simp [Value.category]) dX7_hand_57) [1, 2, 3, 4] rfl rfl ?_
          exact v_iret X Y dX7_hand_60 (u := ()) (by rw [if_pos (by omega), if_neg (by assumption)]; first | rw [if_pos (by assumption)] | rw [if_neg (by assumption)]) (by rfl)
        · skip
          refine v_aload_n X dX7_hand_41 rfl ?_
          refine v_get X (fun _ h => List.mem_cons_of_mem _ (List.mem_append_left _ (List.mem_append_right _ h))) 0 rfl rfl 2 (by decide) rfl (List.mem_of_getElem? (i := 1) rfl) rfl dX7_hand_42 ?_
          refine v_iload_n X dX7_hand_45 rfl ?_
          refine res_E X (run_V X (c_X2_speedOf (g := g) (by first | assumption | omega) (by first | assumption | omega) (by first | assumption | omega) (by first | assumption | omega)) gX7_hand_X2_speedOf rfl hdX2_speedOf ⟨(Nat.le_of_ble_eq_true rfl), (Nat.le_of_ble_eq_true rfl)⟩ ⟨(Nat.le_of_ble_eq_true rfl), (Nat.le_of_ble_eq_true rfl)⟩ 1 rfl rfl rfl [1, 2, 3, 4] rfl rfl rfl rfl (by simp [Value.category]) dX7_hand_46) [1, 2, 3, 4] rfl rfl ?_
          refine v_goto (tgt := 60) X dX7_hand_49 (by decide) ?_
          exact v_iret X Y dX7_hand_60 (u := ()) (by rw [if_pos (by omega), if_neg (by assumption)]; first | rw [if_pos (by assumption)] | rw [if_neg (by assumption)]) (by rfl)
      · skip
        refine v_aload_n X dX7_hand_27 rfl ?_
        refine v_get X (fun _ h => List.mem_cons_of_mem _ (List.mem_append_left _ (List.mem_append_right _ h))) 0 rfl rfl 2 (by decide) rfl (List.mem_of_getElem? (i := 1) rfl) rfl dX7_hand_28 ?_
        refine v_iload_n X dX7_hand_31 rfl ?_
        refine res_E X (run_V X (c_X2_turnsOf (g := g) (by first | assumption | omega) (by first | assumption | omega) (by first | assumption | omega)) gX7_hand_X2_turnsOf rfl hdX2_turnsOf ⟨(Nat.le_of_ble_eq_true rfl), (Nat.le_of_ble_eq_true rfl)⟩ ⟨(Nat.le_of_ble_eq_true rfl), (Nat.le_of_ble_eq_true rfl)⟩ 1 rfl rfl rfl [1, 2, 3, 4] rfl rfl rfl rfl (by simp [Value.category]) dX7_hand_32) [1, 2, 3, 4] rfl rfl ?_
        exact v_iret X Y dX7_hand_35 (u := ()) (by rw [if_pos (by omega), if_pos (by assumption)]) (by rfl)
    · skip
      refine v_ldc X (List.mem_of_getElem? (i := 2) rfl) dX7_hand_20 (n := -1000001) (by decide) ?_
      exact v_iret X Y dX7_hand_22 (u := ()) (by rw [if_neg (by omega)]) (by rfl)

theorem hdX7_points : yX7_points.cls = RX7 ∧ yX7_points.cls ≠ "java/lang/invoke/MethodHandle" ∧ yX7_points.cls ≠ "java/lang/invoke/VarHandle" ∧ (parseMethodDescriptor yX7_points.desc).map (fun d => d.parameters.length) = some 4 := ⟨rfl, by decide +kernel, by decide +kernel, by decide +kernel⟩
set_option maxHeartbeats 4000000 in
set_option maxRecDepth 100000 in
theorem c_X7_points {g : Gx} {B : Nat → Nat} {lf fi : Int} {mk cn : Int} {so tu sp : Nat → Int} {h p q w : Int} (hcn : 0 ≤ cn ∧ cn ≤ 4) (hmk : 0 ≤ mk ∧ mk ≤ 60) (hso : Bd 0 5 so) (htu : Bd 0 12 tu) (hsp : Bd 0 59 sp) (hh : R32 h) (hp : R32 p) (hq : R32 q) (hw : R32 w) : CtE g yX7_points wsX7_points 4 87 [.ref (B 0), .int (iI h), .int (iI p), .int (iI q), .int (iI w)] (oAH g B (lf) (fi) :: (wClk g (B 3) (B 15) (B 16) (B 17) mk cn so tu sp)) (if (0 ≤ h ∧ h < cn) ∧ (1 ≤ q ∧ q ≤ 9999 ∧ 0 ≤ p ∧ p < q) ∧ 0 ≤ w ∧ w ≤ 1 then toldI (restI (spdI cn so tu h * p * mk + atI cn sp h * q) (q * mk)) (q * mk) w else -1000001) (oAH g B (lf) (fi) :: (wClk g (B 3) (B 15) (B 16) (B 17) mk cn so tu sp)) := by
  refine m_go (cc := cX7_points) (nL := 5) (by decide +kernel) rfl (Nat.le_of_ble_eq_true rfl) (fun x X Y hnm => ?_)
  refine v_eq (lo2 := [some (.ref (B 0)), some (.int (iI h)), some (.int (iI p)), some (.int (iI q)), some (.int (iI w))]) rfl rfl rfl rfl ?_
  refine v_aload_n X dX7_points_0 rfl ?_
  refine v_get X (fun _ h => List.mem_cons_of_mem _ (List.mem_append_left _ (List.mem_append_right _ h))) 0 rfl rfl 2 (by decide) rfl (List.mem_of_getElem? (i := 1) rfl) rfl dX7_points_1 ?_
  refine v_iload_n X dX7_points_4 rfl ?_
  refine res_E X (run_V X (c_X2_has (g := g) (by first | assumption | omega) (by first | assumption | omega)) gX7_points_X2_has rfl hdX2_has ⟨(Nat.le_of_ble_eq_true rfl), (Nat.le_of_ble_eq_true rfl)⟩ ⟨(Nat.le_of_ble_eq_true rfl), (Nat.le_of_ble_eq_true rfl)⟩ 1 rfl rfl rfl [1, 2, 3, 4] rfl rfl rfl rfl (by simp [Value.category]) dX7_points_5) [1, 2, 3, 4] rfl rfl ?_
  refine v_ifb_eq (tgt := 29) X dX7_points_8 (by decide) (fun c1 => ?_) (fun c1 => ?_)
  · skip
    refine v_ldc X (List.mem_of_getElem? (i := 2) rfl) dX7_points_29 (n := -1000001) (by decide) ?_
    exact v_iret X Y dX7_points_31 (u := ()) (by rw [if_neg (by omega)]) (by rfl)
  · skip
    refine v_iload_n X dX7_points_11 rfl ?_
    refine v_iload_n X dX7_points_12 rfl ?_
    refine res_E X (run_S X (c_X7_isMoment (g := g) (by first | assumption | omega) (by first | assumption | omega)) gX7_points_X7_isMoment rfl hdX7_isMoment.2 ⟨(Nat.le_of_ble_eq_true rfl), (Nat.le_of_ble_eq_true rfl)⟩ ⟨(Nat.le_of_ble_eq_true rfl), (Nat.le_of_ble_eq_true rfl)⟩ [] rfl rfl rfl rfl (by simp [Value.category]) dX7_points_13) [] rfl rfl ?_
    refine v_ifb_eq (tgt := 29) X dX7_points_16 (by decide) (fun c2 => ?_) (fun c2 => ?_)
    · skip
      refine v_ldc X (List.mem_of_getElem? (i := 2) rfl) dX7_points_29 (n := -1000001) (by decide) ?_
      exact v_iret X Y dX7_points_31 (u := ()) (by rw [if_neg (by omega)]) (by rfl)
    · skip
      refine v_iload X dX7_points_19 rfl ?_
      refine v_iconst X dX7_points_21 ?_
      refine v_iconst X dX7_points_22 ?_
      refine res_E X (run_S X (c_X7_isWithin (g := g) (by first | assumption | omega) (by first | assumption | omega) (by first | assumption | omega)) gX7_points_X7_isWithin rfl hdX7_isWithin.2 ⟨(Nat.le_of_ble_eq_true rfl), (Nat.le_of_ble_eq_true rfl)⟩ ⟨(Nat.le_of_ble_eq_true rfl), (Nat.le_of_ble_eq_true rfl)⟩ [] rfl rfl rfl rfl (by simp [Value.category]) dX7_points_23) [] rfl rfl ?_
      refine v_ifb_ne (tgt := 32) X dX7_points_26 (by decide) (fun c3 => ?_) (fun c3 => ?_)
      · skip
        have g1 : (0 ≤ h ∧ h < cn) ∧ (1 ≤ q ∧ q ≤ 9999 ∧ 0 ≤ p ∧ p < q) ∧ 0 ≤ w ∧ w ≤ 1 := by omega
        have q6 := mul_nn (show 0 ≤ q ∧ q ≤ 9999 by omega) hmk
        have q7 := restI_bd (n := spdI cn so tu h * p * mk + atI cn sp h * q) (w := q * mk)
        have q8 : restI (spdI cn so tu h * p * mk + atI cn sp h * q) (q * mk) ≤ 599940 := restI_le q6.2 (by decide)
        refine v_aload_n X dX7_points_32 rfl ?_
        refine v_get X (fun _ h => List.mem_cons_of_mem _ (List.mem_append_left _ (List.mem_append_right _ h))) 0 rfl rfl 2 (by decide) rfl (List.mem_of_getElem? (i := 1) rfl) rfl dX7_points_33 ?_
        refine v_iload_n X dX7_points_36 rfl ?_
        refine v_iload_n X dX7_points_37 rfl ?_
        refine v_iload_n X dX7_points_38 rfl ?_
        refine res_E X (run_V X (c_X2_arcAbove (g := g) (by first | assumption | omega) (by first | assumption | omega) (by first | assumption | omega) (by first | assumption | omega) (by first | assumption | omega) (by first | assumption | omega) (by first | assumption | omega) (by first | assumption | omega)) gX7_points_X2_arcAbove rfl hdX2_arcAbove ⟨(Nat.le_of_ble_eq_true rfl), (Nat.le_of_ble_eq_true rfl)⟩ ⟨(Nat.le_of_ble_eq_true rfl), (Nat.le_of_ble_eq_true rfl)⟩ 1 rfl rfl rfl [1, 2, 3, 4] rfl rfl rfl rfl (by simp [Value.category]) dX7_points_39) [1, 2, 3, 4] rfl rfl ?_
        refine v_aload_n X dX7_points_42 rfl ?_
        refine v_get X (fun _ h => List.mem_cons_of_mem _ (List.mem_append_left _ (List.mem_append_right _ h))) 0 rfl rfl 2 (by decide) rfl (List.mem_of_getElem? (i := 1) rfl) rfl dX7_points_43 ?_
        refine v_iload_n X dX7_points_46 rfl ?_
        refine res_E X (run_V X (c_X2_arcBelow (g := g) ) gX7_points_X2_arcBelow rfl hdX2_arcBelow ⟨(Nat.le_of_ble_eq_true rfl), (Nat.le_of_ble_eq_true rfl)⟩ ⟨(Nat.le_of_ble_eq_true rfl), (Nat.le_of_ble_eq_true rfl)⟩ 1 rfl rfl rfl [1, 2, 3, 4] rfl rfl rfl rfl (by simp [Value.category]) dX7_points_47) [1, 2, 3, 4] rfl rfl ?_
        refine v_iload X dX7_points_50 rfl ?_
        refine res_E X (run_S X (c_X7_part (g := g) (by first | assumption | omega) (by first | assumption | omega) (by first | assumption | omega) (by first | assumption | omega) (by first | assumption | omega)) gX7_points_X7_part rfl hdX7_part.2 ⟨(Nat.le_of_ble_eq_true rfl), (Nat.le_of_ble_eq_true rfl)⟩ ⟨(Nat.le_of_ble_eq_true rfl), (Nat.le_of_ble_eq_true rfl)⟩ [] rfl rfl rfl rfl (by simp [Value.category]) dX7_points_52) [] rfl rfl ?_
        exact v_iret X Y dX7_points_55 (u := ()) (by rw [if_pos g1]) (by rfl)
      · skip
        refine v_ldc X (List.mem_of_getElem? (i := 2) rfl) dX7_points_29 (n := -1000001) (by decide) ?_
        exact v_iret X Y dX7_points_31 (u := ()) (by rw [if_neg (by omega)]) (by rfl)

theorem hdX7_kind : yX7_kind.cls = RX7 ∧ yX7_kind.cls ≠ "java/lang/invoke/MethodHandle" ∧ yX7_kind.cls ≠ "java/lang/invoke/VarHandle" ∧ (parseMethodDescriptor yX7_kind.desc).map (fun d => d.parameters.length) = some 1 := ⟨rfl, by decide +kernel, by decide +kernel, by decide +kernel⟩
set_option maxHeartbeats 4000000 in
set_option maxRecDepth 100000 in
theorem c_X7_kind {g : Gx} {B : Nat → Nat} {lf fi : Int} {mk cn : Int} {so tu sp : Nat → Int} {h : Int} (hcn : 0 ≤ cn ∧ cn ≤ 4) (hmk : 0 ≤ mk ∧ mk ≤ 60) (hso : Bd 0 5 so) (htu : Bd 0 12 tu) (hsp : Bd 0 59 sp) (hh : R32 h) : CtE g yX7_kind wsX7_kind 2 42 [.ref (B 0), .int (iI h)] (oAH g B (lf) (fi) :: (wClk g (B 3) (B 15) (B 16) (B 17) mk cn so tu sp)) (if 0 ≤ h ∧ h < cn then atI cn so h else -1000001) (oAH g B (lf) (fi) :: (wClk g (B 3) (B 15) (B 16) (B 17) mk cn so tu sp)) := by
  refine m_go (cc := cX7_kind) (nL := 2) (by decide +kernel) rfl (Nat.le_of_ble_eq_true rfl) (fun x X Y hnm => ?_)
  refine v_eq (lo2 := [some (.ref (B 0)), some (.int (iI h))]) rfl rfl rfl rfl ?_
  refine v_aload_n X dX7_kind_0 rfl ?_
  refine v_get X (fun _ h => List.mem_cons_of_mem _ (List.mem_append_left _ (List.mem_append_right _ h))) 0 rfl rfl 2 (by decide) rfl (List.mem_of_getElem? (i := 1) rfl) rfl dX7_kind_1 ?_
  refine v_iload_n X dX7_kind_4 rfl ?_
  refine res_E X (run_V X (c_X2_has (g := g) (by first | assumption | omega) (by first | assumption | omega)) gX7_kind_X2_has rfl hdX2_has ⟨(Nat.le_of_ble_eq_true rfl), (Nat.le_of_ble_eq_true rfl)⟩ ⟨(Nat.le_of_ble_eq_true rfl), (Nat.le_of_ble_eq_true rfl)⟩ 1 rfl rfl rfl [1, 2, 3, 4] rfl rfl rfl rfl (by simp [Value.category]) dX7_kind_5) [1, 2, 3, 4] rfl rfl ?_
  refine v_ifb_eq (tgt := 22) X dX7_kind_8 (by decide) (fun c1 => ?_) (fun c1 => ?_)
  · skip
    refine v_ldc X (List.mem_of_getElem? (i := 2) rfl) dX7_kind_22 (n := -1000001) (by decide) ?_
    exact v_iret X Y dX7_kind_24 (u := ()) (by first | rw [if_pos (by assumption)] | rw [if_neg (by assumption)]) (by rfl)
  · skip
    refine v_aload_n X dX7_kind_11 rfl ?_
    refine v_get X (fun _ h => List.mem_cons_of_mem _ (List.mem_append_left _ (List.mem_append_right _ h))) 0 rfl rfl 2 (by decide) rfl (List.mem_of_getElem? (i := 1) rfl) rfl dX7_kind_12 ?_
    refine v_iload_n X dX7_kind_15 rfl ?_
    refine res_E X (run_V X (c_X2_sortOf (g := g) (by first | assumption | omega) (by first | assumption | omega) (by first | assumption | omega)) gX7_kind_X2_sortOf rfl hdX2_sortOf ⟨(Nat.le_of_ble_eq_true rfl), (Nat.le_of_ble_eq_true rfl)⟩ ⟨(Nat.le_of_ble_eq_true rfl), (Nat.le_of_ble_eq_true rfl)⟩ 1 rfl rfl rfl [1, 2, 3, 4] rfl rfl rfl rfl (by simp [Value.category]) dX7_kind_16) [1, 2, 3, 4] rfl rfl ?_
    refine v_goto (tgt := 24) X dX7_kind_19 (by decide) ?_
    exact v_iret X Y dX7_kind_24 (u := ()) (by first | rw [if_pos (by assumption)] | rw [if_neg (by assumption)]) (by rfl)

theorem hdX7_as : yX7_as.cls = RX7 ∧ yX7_as.cls ≠ "java/lang/invoke/MethodHandle" ∧ yX7_as.cls ≠ "java/lang/invoke/VarHandle" ∧ (parseMethodDescriptor yX7_as.desc).map (fun d => d.parameters.length) = some 2 := ⟨rfl, by decide +kernel, by decide +kernel, by decide +kernel⟩
set_option maxHeartbeats 4000000 in
set_option maxRecDepth 100000 in
theorem c_X7_as {g : Gx} {B : Nat → Nat} {lf fi : Int} {mk cn : Int} {so tu sp : Nat → Int} {h w : Int} (hcn : 0 ≤ cn ∧ cn ≤ 4) (hmk : 0 ≤ mk ∧ mk ≤ 60) (hso : Bd 0 5 so) (htu : Bd 0 12 tu) (hsp : Bd 0 59 sp) (hh : R32 h) (hw : R32 w) : CtI (S := Int) g yX7_as wsX7_as 2 42 [.ref (B 0), .int (iI h), .int (iI w)] (oAH g B (lf) (fi) :: (wClk g (B 3) (B 15) (B 16) (B 17) mk cn so tu sp)) (fun v u => (¬ ((0 ≤ h ∧ h < cn) ∧ 0 ≤ w ∧ w ≤ 5) ∧ v = -1000001 ∧ u = fi) ∨ (((0 ≤ h ∧ h < cn) ∧ 0 ≤ w ∧ w ≤ 5) ∧ ((okK (atI cn so h) w ∧ v = h ∧ u = 0) ∨ (¬ okK (atI cn so h) w ∧ v = -1000013 ∧ u = 3)))) (fun u => oAH g B (lf) (u) :: (wClk g (B 3) (B 15) (B 16) (B 17) mk cn so tu sp)) := by
  refine m_go (cc := cX7_as) (nL := 3) (by decide +kernel) rfl (Nat.le_of_ble_eq_true rfl) (fun x X Y hnm => ?_)
  refine v_eq (lo2 := [some (.ref (B 0)), some (.int (iI h)), some (.int (iI w))]) rfl rfl rfl rfl ?_
  have q1 := atI_bd (cn := cn) (h := h) hso (by omega) (by omega)
  refine v_aload_n X dX7_as_0 rfl ?_
  refine v_get X (fun _ h => List.mem_cons_of_mem _ (List.mem_append_left _ (List.mem_append_right _ h))) 0 rfl rfl 2 (by decide) rfl (List.mem_of_getElem? (i := 1) rfl) rfl dX7_as_1 ?_
  refine v_iload_n X dX7_as_4 rfl ?_
  refine res_E X (run_V X (c_X2_has (g := g) (by first | assumption | omega) (by first | assumption | omega)) gX7_as_X2_has rfl hdX2_has ⟨(Nat.le_of_ble_eq_true rfl), (Nat.le_of_ble_eq_true rfl)⟩ ⟨(Nat.le_of_ble_eq_true rfl), (Nat.le_of_ble_eq_true rfl)⟩ 1 rfl rfl rfl [1, 2, 3, 4] rfl rfl rfl rfl (by simp [Value.category]) dX7_as_5) [1, 2, 3, 4] rfl rfl ?_
  refine v_ifb_eq (tgt := 20) X dX7_as_8 (by decide) (fun c1 => ?_) (fun c1 => ?_)
  · skip
    refine v_ldc X (List.mem_of_getElem? (i := 2) rfl) dX7_as_20 (n := -1000001) (by decide) ?_
    refine v_iret X Y dX7_as_22 (u := fi) ?_ (by rfl)
    exact Or.inl ⟨by omega, rfl, rfl⟩
  · skip
    refine v_iload_n X dX7_as_11 rfl ?_
    refine v_iconst X dX7_as_12 ?_
    refine v_iconst X dX7_as_13 ?_
    refine res_E X (run_S X (c_X7_isWithin (g := g) (by first | assumption | omega) (by first | assumption | omega) (by first | assumption | omega)) gX7_as_X7_isWithin rfl hdX7_isWithin.2 ⟨(Nat.le_of_ble_eq_true rfl), (Nat.le_of_ble_eq_true rfl)⟩ ⟨(Nat.le_of_ble_eq_true rfl), (Nat.le_of_ble_eq_true rfl)⟩ [] rfl rfl rfl rfl (by simp [Value.category]) dX7_as_14) [] rfl rfl ?_
    refine v_ifb_ne (tgt := 23) X dX7_as_17 (by decide) (fun c2 => ?_) (fun c2 => ?_)
    · skip
      refine v_aload_n X dX7_as_23 rfl ?_
      refine v_get X (fun _ h => List.mem_cons_of_mem _ (List.mem_append_left _ (List.mem_append_right _ h))) 0 rfl rfl 2 (by decide) rfl (List.mem_of_getElem? (i := 1) rfl) rfl dX7_as_24 ?_
      refine v_iload_n X dX7_as_27 rfl ?_
      refine res_E X (run_V X (c_X2_sortOf (g := g) (by first | assumption | omega) (by first | assumption | omega) (by first | assumption | omega)) gX7_as_X2_sortOf rfl hdX2_sortOf ⟨(Nat.le_of_ble_eq_true rfl), (Nat.le_of_ble_eq_true rfl)⟩ ⟨(Nat.le_of_ble_eq_true rfl), (Nat.le_of_ble_eq_true rfl)⟩ 1 rfl rfl rfl [1, 2, 3, 4] rfl rfl rfl rfl (by simp [Value.category]) dX7_as_28) [1, 2, 3, 4] rfl rfl ?_
      refine v_iload_n X dX7_as_31 rfl ?_
      refine res_E X (run_S X (c_X7_isOfKind (g := g) (by first | assumption | omega) (by first | assumption | omega)) gX7_as_X7_isOfKind rfl hdX7_isOfKind.2 ⟨(Nat.le_of_ble_eq_true rfl), (Nat.le_of_ble_eq_true rfl)⟩ ⟨(Nat.le_of_ble_eq_true rfl), (Nat.le_of_ble_eq_true rfl)⟩ [] rfl rfl rfl rfl (by simp [Value.category]) dX7_as_32) [] rfl rfl ?_
      refine v_ifb_eq (tgt := 46) X dX7_as_35 (by decide) (fun c3 => ?_) (fun c3 => ?_)
      · skip
        refine v_aload_n X dX7_as_46 rfl ?_
        refine v_iconst X dX7_as_47 ?_
        refine res_F X (run_V X (c_X7_found (g := g) ) gX7_as_X7_found rfl hdX7_found ⟨(Nat.le_of_ble_eq_true rfl), (Nat.le_of_ble_eq_true rfl)⟩ ⟨(Nat.le_of_ble_eq_true rfl), (Nat.le_of_ble_eq_true rfl)⟩ 0 rfl rfl rfl [0] rfl rfl rfl rfl (by simp [Value.category]) dX7_as_48) [0] rfl rfl rfl ?_
        dsimp only [patch, List.set, List.cons_append, List.nil_append, oAH, wClk]
        refine v_iret X Y dX7_as_51 (u := _) ?_ (by rfl)
        exact Or.inr ⟨by omega, by first | exact Or.inl ⟨by unfold okK; assumption, rfl, rfl⟩ | exact Or.inr ⟨by unfold okK; assumption, rfl, rfl⟩⟩
      · skip
        refine v_aload_n X dX7_as_38 rfl ?_
        refine v_iload_n X dX7_as_39 rfl ?_
        refine res_F X (run_V X (c_X7_fine (g := g) ) gX7_as_X7_fine rfl hdX7_fine ⟨(Nat.le_of_ble_eq_true rfl), (Nat.le_of_ble_eq_true rfl)⟩ ⟨(Nat.le_of_ble_eq_true rfl), (Nat.le_of_ble_eq_true rfl)⟩ 0 rfl rfl rfl [0] rfl rfl rfl rfl (by simp [Value.category]) dX7_as_40) [0] rfl rfl rfl ?_
        dsimp only [patch, List.set, List.cons_append, List.nil_append, oAH, wClk]
        refine v_goto (tgt := 51) X dX7_as_43 (by decide) ?_
        refine v_iret X Y dX7_as_51 (u := _) ?_ (by rfl)
        exact Or.inr ⟨by omega, by first | exact Or.inl ⟨by unfold okK; assumption, rfl, rfl⟩ | exact Or.inr ⟨by unfold okK; assumption, rfl, rfl⟩⟩
    · skip
      refine v_ldc X (List.mem_of_getElem? (i := 2) rfl) dX7_as_20 (n := -1000001) (by decide) ?_
      refine v_iret X Y dX7_as_22 (u := fi) ?_ (by rfl)
      exact Or.inl ⟨by omega, rfl, rfl⟩

theorem hdX7_trace : yX7_trace.cls = RX7 ∧ yX7_trace.cls ≠ "java/lang/invoke/MethodHandle" ∧ yX7_trace.cls ≠ "java/lang/invoke/VarHandle" ∧ (parseMethodDescriptor yX7_trace.desc).map (fun d => d.parameters.length) = some 1 := ⟨rfl, by decide +kernel, by decide +kernel, by decide +kernel⟩
set_option maxHeartbeats 4000000 in
set_option maxRecDepth 100000 in
theorem c_X7_trace {g : Gx} {B : Nat → Nat} {lf fi : Int} {t : TS} {i : Int} (ht : 0 ≤ t.2 ∧ t.2 ≤ 16) (hbo : Bd 0 24 t.1) (hi : R32 i) : CtE g yX7_trace wsX7_trace 1 21 [.ref (B 0), .int (iI i)] (oAH g B (lf) (fi) :: (wAsk g (B 10) (B 31) (t.1) (t.2))) (if 0 ≤ i ∧ i < t.2 then t.1 i.toNat else -1000000) (oAH g B (lf) (fi) :: (wAsk g (B 10) (B 31) (t.1) (t.2))) := by
  refine m_go (cc := cX7_trace) (nL := 2) (by decide +kernel) rfl (Nat.le_of_ble_eq_true rfl) (fun x X Y hnm => ?_)
  refine v_eq (lo2 := [some (.ref (B 0)), some (.int (iI i))]) rfl rfl rfl rfl ?_
  refine v_aload_n X dX7_trace_0 rfl ?_
  refine v_get X (fun _ h => List.mem_cons_of_mem _ (List.mem_append_left _ (List.mem_append_right _ h))) 0 rfl rfl 9 (by decide) rfl (List.mem_of_getElem? (i := 1) rfl) rfl dX7_trace_1 ?_
  refine v_iload_n X dX7_trace_4 rfl ?_
  refine res_E X (run_V X (c_X1_numberAt (g := g) (by first | assumption | (apply lvT_bd; assumption) | (apply lvT_bd; apply lvT_bd; assumption) | (apply lvT_bd; apply lvT_bd; apply lvT_bd; assumption)) (by first | assumption | omega) (by first | assumption | omega)) gX7_trace_X1_numberAt rfl hdX1_numberAt ⟨(Nat.le_of_ble_eq_true rfl), (Nat.le_of_ble_eq_true rfl)⟩ ⟨(Nat.le_of_ble_eq_true rfl), (Nat.le_of_ble_eq_true rfl)⟩ 1 rfl rfl rfl [1, 2] rfl rfl rfl rfl (by simp [Value.category]) dX7_trace_5) [1, 2] rfl rfl ?_
  exact v_iret X Y dX7_trace_8 (u := ()) (by rfl) (by rfl)

theorem hdX7_often : yX7_often.cls = RX7 ∧ yX7_often.cls ≠ "java/lang/invoke/MethodHandle" ∧ yX7_often.cls ≠ "java/lang/invoke/VarHandle" ∧ (parseMethodDescriptor yX7_often.desc).map (fun d => d.parameters.length) = some 3 := ⟨rfl, by decide +kernel, by decide +kernel, by decide +kernel⟩
set_option maxHeartbeats 4000000 in
set_option maxRecDepth 100000 in
theorem c_X7_often {g : Gx} {B : Nat → Nat} {lf fi : Int} {mk cn : Int} {so tu sp : Nat → Int} {a b w : Int} (hcn : 0 ≤ cn ∧ cn ≤ 4) (hmk : 0 ≤ mk ∧ mk ≤ 60) (hso : Bd 0 5 so) (htu : Bd 0 12 tu) (hsp : Bd 0 59 sp) (ha : R32 a) (hb : R32 b) (hw : R32 w) : CtE g yX7_often wsX7_often 4 86 [.ref (B 0), .int (iI a), .int (iI b), .int (iI w)] (oAH g B (lf) (fi) :: (wClk g (B 3) (B 15) (B 16) (B 17) mk cn so tu sp)) (if ((0 ≤ a ∧ a < cn) ∧ (0 ≤ b ∧ b < cn) ∧ a ≠ b) ∧ 0 ≤ w ∧ w ≤ 2 then (if absI (spdI cn so tu a - spdI cn so tu b) = 0 then -1000000 else if w = 2 then 2 * absI (spdI cn so tu a - spdI cn so tu b) else absI (spdI cn so tu a - spdI cn so tu b)) else -1000001) (oAH g B (lf) (fi) :: (wClk g (B 3) (B 15) (B 16) (B 17) mk cn so tu sp)) := by
  refine m_go (cc := cX7_often) (nL := 5) (by decide +kernel) rfl (Nat.le_of_ble_eq_true rfl) (fun x X Y hnm => ?_)
  refine v_eq (lo2 := [some (.ref (B 0)), some (.int (iI a)), some (.int (iI b)), some (.int (iI w)), none]) rfl rfl rfl rfl ?_
  have qs := fun (i : Int) => spdI_bd (cn := cn) (so := so) (h := i) htu
  have q1 := qs a
  have q2 := qs b
  have q5 := absI_bd (a := spdI cn so tu a - spdI cn so tu b) (M := 48) (by omega)
  refine v_aload_n X dX7_often_0 rfl ?_
  refine v_iload_n X dX7_often_1 rfl ?_
  refine v_iload_n X dX7_often_2 rfl ?_
  refine res_E X (run_V X (c_X7_isPair (g := g) (by first | assumption | omega) (by first | assumption | omega) (by first | assumption | omega)) gX7_often_X7_isPair rfl hdX7_isPair ⟨(Nat.le_of_ble_eq_true rfl), (Nat.le_of_ble_eq_true rfl)⟩ ⟨(Nat.le_of_ble_eq_true rfl), (Nat.le_of_ble_eq_true rfl)⟩ 0 rfl rfl rfl [0, 1, 2, 3, 4] rfl rfl rfl rfl (by simp [Value.category]) dX7_often_3) [0, 1, 2, 3, 4] rfl rfl ?_
  refine v_ifb_eq (tgt := 18) X dX7_often_6 (by decide) (fun c1 => ?_) (fun c1 => ?_)
  · skip
    refine v_ldc X (List.mem_of_getElem? (i := 1) rfl) dX7_often_18 (n := -1000001) (by decide) ?_
    exact v_iret X Y dX7_often_20 (u := ()) (by rw [if_neg (by omega)]) (by rfl)
  · skip
    refine v_iload_n X dX7_often_9 rfl ?_
    refine v_iconst X dX7_often_10 ?_
    refine v_iconst X dX7_often_11 ?_
    refine res_E X (run_S X (c_X7_isWithin (g := g) (by first | assumption | omega) (by first | assumption | omega) (by first | assumption | omega)) gX7_often_X7_isWithin rfl hdX7_isWithin.2 ⟨(Nat.le_of_ble_eq_true rfl), (Nat.le_of_ble_eq_true rfl)⟩ ⟨(Nat.le_of_ble_eq_true rfl), (Nat.le_of_ble_eq_true rfl)⟩ [] rfl rfl rfl rfl (by simp [Value.category]) dX7_often_12) [] rfl rfl ?_
    refine v_ifb_ne (tgt := 21) X dX7_often_15 (by decide) (fun c2 => ?_) (fun c2 => ?_)
    · skip
      refine v_aload_n X dX7_often_21 rfl ?_
      refine v_iload_n X dX7_often_22 rfl ?_
      refine v_iload_n X dX7_often_23 rfl ?_
      refine res_E X (run_V X (c_X7_speedApart (g := g) (by first | assumption | omega) (by first | assumption | omega) (by first | assumption | omega) (by first | assumption | omega) (by first | assumption | omega)) gX7_often_X7_speedApart rfl hdX7_speedApart ⟨(Nat.le_of_ble_eq_true rfl), (Nat.le_of_ble_eq_true rfl)⟩ ⟨(Nat.le_of_ble_eq_true rfl), (Nat.le_of_ble_eq_true rfl)⟩ 0 rfl rfl rfl [0, 1, 2, 3, 4] rfl rfl rfl rfl (by simp [Value.category]) dX7_often_24) [0, 1, 2, 3, 4] rfl rfl ?_
      refine v_istore X dX7_often_27 (by decide) rfl ?_
      dsimp only [List.set]
      refine v_iload X dX7_often_29 rfl ?_
      refine v_if_ne (tgt := 37) X dX7_often_31 (by decide) (by omega) (fun c3 => ?_) (fun c3 => ?_)
      · skip
        refine v_iload_n X dX7_often_37 rfl ?_
        refine v_iconst X dX7_often_38 ?_
        refine v_icmp_ne (tgt := 49) X dX7_often_39 (by decide) (by omega) (by omega) (fun c4 => ?_) (fun c4 => ?_)
        · skip
          refine v_iload X dX7_often_49 rfl ?_
          exact v_iret X Y dX7_often_51 (u := ()) (by rw [if_pos (by omega), if_neg (by assumption)]; first | rw [if_pos (by assumption)] | rw [if_neg (by assumption)]) (by rfl)
        · skip
          refine v_iconst X dX7_often_42 ?_
          refine v_iload X dX7_often_43 rfl ?_
          refine v_imul X dX7_often_45 ?_
          refine v_goto (tgt := 51) X dX7_often_46 (by decide) ?_
          exact v_iret X Y dX7_often_51 (u := ()) (by rw [if_pos (by omega), if_neg (by assumption)]; first | rw [if_pos (by assumption)] | rw [if_neg (by assumption)]) (by rfl)
      · skip
        refine v_ldc X (List.mem_of_getElem? (i := 2) rfl) dX7_often_34 (n := -1000000) (by decide) ?_
        exact v_iret X Y dX7_often_36 (u := ()) (by rw [if_pos (by omega), if_pos (by assumption)]) (by rfl)
    · skip
      refine v_ldc X (List.mem_of_getElem? (i := 1) rfl) dX7_often_18 (n := -1000001) (by decide) ?_
      exact v_iret X Y dX7_often_20 (u := ()) (by rw [if_neg (by omega)]) (by rfl)

theorem hdX7_all : yX7_all.cls = RX7 ∧ yX7_all.cls ≠ "java/lang/invoke/MethodHandle" ∧ yX7_all.cls ≠ "java/lang/invoke/VarHandle" ∧ (parseMethodDescriptor yX7_all.desc).map (fun d => d.parameters.length) = some 0 := ⟨rfl, by decide +kernel, by decide +kernel, by decide +kernel⟩
set_option maxHeartbeats 4000000 in
set_option maxRecDepth 100000 in
theorem c_X7_all {g : Gx} {B : Nat → Nat} {lf fi : Int} {mk cn : Int} {so tu sp : Nat → Int}  (hcn : 0 ≤ cn ∧ cn ≤ 4) (hmk : 0 ≤ mk ∧ mk ≤ 60) (hso : Bd 0 5 so) (htu : Bd 0 12 tu) (hsp : Bd 0 59 sp) : CtE g yX7_all wsX7_all 4 86 [.ref (B 0)] (oAH g B (lf) (fi) :: (wClk g (B 3) (B 15) (B 16) (B 17) mk cn so tu sp)) (if cn = 0 then -1000002 else if allI cn so tu = 0 then -1000000 else allI cn so tu) (oAH g B (lf) (fi) :: (wClk g (B 3) (B 15) (B 16) (B 17) mk cn so tu sp)) := by
  refine m_go (cc := cX7_all) (nL := 3) (by decide +kernel) rfl (Nat.le_of_ble_eq_true rfl) (fun x X Y hnm => ?_)
  refine v_eq (lo2 := [some (.ref (B 0)), none, none]) rfl rfl rfl rfl ?_
  have qa := fun (i : Int) => absI_bd (a := spdI cn so tu 0 - spdI cn so tu i) (M := 48) (by have := spdI_bd (cn := cn) (so := so) (h := i) htu; have := spdI_bd (cn := cn) (so := so) (h := 0) htu; omega)
  have qg := gcdN_bd (f := fun j => absI (spdI cn so tu 0 - spdI cn so tu ((j : Int) + 1))) (M := 48) (fun j => qa _)
  refine v_aload_n X dX7_all_0 rfl ?_
  refine v_get X (fun _ h => List.mem_cons_of_mem _ (List.mem_append_left _ (List.mem_append_right _ h))) 0 rfl rfl 2 (by decide) rfl (List.mem_of_getElem? (i := 1) rfl) rfl dX7_all_1 ?_
  refine res_E X (run_V X (c_X2_isNone (g := g) (by first | assumption | omega)) gX7_all_X2_isNone rfl hdX2_isNone ⟨(Nat.le_of_ble_eq_true rfl), (Nat.le_of_ble_eq_true rfl)⟩ ⟨(Nat.le_of_ble_eq_true rfl), (Nat.le_of_ble_eq_true rfl)⟩ 1 rfl rfl rfl [1, 2, 3, 4] rfl rfl rfl rfl (by simp [Value.category]) dX7_all_4) [1, 2, 3, 4] rfl rfl ?_
  refine v_ifb_eq (tgt := 13) X dX7_all_7 (by decide) (fun c1 => ?_) (fun c1 => ?_)
  · skip
    refine v_iconst X dX7_all_13 ?_
    refine v_istore_n X dX7_all_14 1 rfl (by decide) rfl ?_
    dsimp only [List.set]
    refine v_iconst X dX7_all_15 ?_
    refine v_istore_n X dX7_all_16 2 rfl (by decide) rfl ?_
    dsimp only [List.set]
    have L17 : ∀ (nf : Nat) (n : Int) (h : Int) (h1 : 1 ≤ h ∧ (h ≤ cn ∨ h = 1)) (h2 : n = gcdN (fun j => absI (spdI cn so tu 0 - spdI cn so tu ((j : Int) + 1))) (h - 1).toNat) (h3 : 0 ≤ n ∧ n ≤ 48) (_ : (cn + 1 - h).toNat < nf), V g x 0 0 (oAH g B (lf) (fi) :: (wClk g (B 3) (B 15) (B 16) (B 17) mk cn so tu sp)) [some (.ref (B 0)), some (.int (iI n)), some (.int (iI h))] 17 [] := by
      intro nf
      induction nf with
      | zero => intro n h h1 h2 h3 hmu; exact absurd hmu (Nat.not_lt_zero _)
      | succ nf ih17 =>
        intro n h h1 h2 h3 hmu
        refine v_iload_n X dX7_all_17 rfl ?_
        refine v_aload_n X dX7_all_18 rfl ?_
        refine v_get X (fun _ h => List.mem_cons_of_mem _ (List.mem_append_left _ (List.mem_append_right _ h))) 0 rfl rfl 2 (by decide) rfl (List.mem_of_getElem? (i := 1) rfl) rfl dX7_all_19 ?_
        refine v_get X (fun _ h => List.mem_cons_of_mem _ (List.mem_append_right _ h)) 1 rfl rfl 4 (by decide) rfl (List.mem_of_getElem? (i := 3) rfl) rfl dX7_all_22 ?_
        refine v_icmp_ge (tgt := 45) X dX7_all_25 (by decide) (by omega) (by omega) (fun c2 => ?_) (fun c2 => ?_)
        · skip
          refine v_iload_n X dX7_all_45 rfl ?_
          refine v_if_ne (tgt := 54) X dX7_all_46 (by decide) (by omega) (fun c3 => ?_) (fun c3 => ?_)
          · skip
            refine v_iload_n X dX7_all_54 rfl ?_
            exact v_iret X Y dX7_all_55 (u := ()) (by
                have e : allI cn so tu = n := by unfold allI; rw [h2, show (h - 1).toNat = (cn - 1).toNat by omega]
                rw [if_neg (by assumption), e]; first | rw [if_pos (by assumption)] | rw [if_neg (by assumption)]) (by rfl)
          · skip
            refine v_ldc X (List.mem_of_getElem? (i := 4) rfl) dX7_all_49 (n := -1000000) (by decide) ?_
            refine v_goto (tgt := 55) X dX7_all_51 (by decide) ?_
            exact v_iret X Y dX7_all_55 (u := ()) (by
                have e : allI cn so tu = n := by unfold allI; rw [h2, show (h - 1).toNat = (cn - 1).toNat by omega]
                rw [if_neg (by assumption), e]; first | rw [if_pos (by assumption)] | rw [if_neg (by assumption)]) (by rfl)
        · skip
          refine v_iload_n X dX7_all_28 rfl ?_
          refine v_aload_n X dX7_all_29 rfl ?_
          refine v_iconst X dX7_all_30 ?_
          refine v_iload_n X dX7_all_31 rfl ?_
          refine res_E X (run_V X (c_X7_speedApart (g := g) (by first | assumption | omega) (by first | assumption | omega) (by first | assumption | omega) (by first | assumption | omega) (by first | assumption | omega)) gX7_all_X7_speedApart rfl hdX7_speedApart ⟨(Nat.le_of_ble_eq_true rfl), (Nat.le_of_ble_eq_true rfl)⟩ ⟨(Nat.le_of_ble_eq_true rfl), (Nat.le_of_ble_eq_true rfl)⟩ 0 rfl rfl rfl [0, 1, 2, 3, 4] rfl rfl rfl rfl (by simp [Value.category]) dX7_all_32) [0, 1, 2, 3, 4] rfl rfl ?_
          have q7 := qa h
          refine res_E X (run_S X (c_X7_common (g := g) (by first | assumption | omega) (by first | assumption | omega) (by first | assumption | omega) (by first | assumption | omega)) gX7_all_X7_common rfl hdX7_common.2 ⟨(Nat.le_of_ble_eq_true rfl), (Nat.le_of_ble_eq_true rfl)⟩ ⟨(Nat.le_of_ble_eq_true rfl), (Nat.le_of_ble_eq_true rfl)⟩ [] rfl rfl rfl rfl (by simp [Value.category]) dX7_all_35) [] rfl rfl ?_
          refine v_istore_n X dX7_all_38 1 rfl (by decide) rfl ?_
          dsimp only [List.set]
          refine v_iinc X dX7_all_39 rfl (by decide) rfl ?_
          dsimp only [List.set]
          refine v_goto (tgt := 17) X dX7_all_42 (by decide) ?_
          exact ih17 _ _ (by omega) (by rw [show (h + 1 - 1).toNat = (h - 1).toNat + 1 by omega]; simp only [gcdN]; rw [← h2, show (((h - 1).toNat : Nat) : Int) + 1 = h by omega]) (by first | omega | (have q7 := qg (h + 1 - 1).toNat; rw [show (h + 1 - 1).toNat = (h - 1).toNat + 1 by omega] at q7; simp only [gcdN] at q7; rw [← h2, show (((h - 1).toNat : Nat) : Int) + 1 = h by omega] at q7; exact q7)) (by omega)
    exact L17 _ _ _ (by omega) (by rfl) (by first | omega | (have q7 := qg (h + 1 - 1).toNat; rw [show (h + 1 - 1).toNat = (h - 1).toNat + 1 by omega] at q7; simp only [gcdN] at q7; rw [← h2, show (((h - 1).toNat : Nat) : Int) + 1 = h by omega] at q7; exact q7)) (Nat.lt_succ_self _)
  · skip
    refine v_ldc X (List.mem_of_getElem? (i := 2) rfl) dX7_all_10 (n := -1000002) (by decide) ?_
    exact v_iret X Y dX7_all_12 (u := ()) (by rw [if_pos (by assumption)]) (by rfl)

theorem hdX7_row : yX7_row.cls = RX7 ∧ yX7_row.cls ≠ "java/lang/invoke/MethodHandle" ∧ yX7_row.cls ≠ "java/lang/invoke/VarHandle" ∧ (parseMethodDescriptor yX7_row.desc).map (fun d => d.parameters.length) = some 3 := ⟨rfl, by decide +kernel, by decide +kernel, by decide +kernel⟩
set_option maxHeartbeats 4000000 in
set_option maxRecDepth 100000 in
theorem c_X7_row {g : Gx} {B : Nat → Nat} {lf fi : Int} {it la le : Nat → Int} {r l n : Int} (hr : R32 r) (hl : R32 l) (hn : R32 n) : CtI (S := Int × (Nat → Int) × (Nat → Int) × (Nat → Int)) g yX7_row wsX7_row 2 46 [.ref (B 0), .int (iI r), .int (iI l), .int (iI n)] (oAH g B (lf) (fi) :: (wRow g (B 1) (B 11) (B 12) (B 13) it la le)) (fun v u => (¬ (0 ≤ r ∧ r < 8 ∧ 0 ≤ l ∧ l ≤ 2 ∧ n ≤ 40) ∧ v = -1000001 ∧ u = (fi, la, le, it)) ∨ ((0 ≤ r ∧ r < 8 ∧ 0 ≤ l ∧ l ≤ 2 ∧ n < 0) ∧ v = -1000014 ∧ u = (4, la, le, it)) ∨ ((0 ≤ r ∧ r < 8 ∧ 0 ≤ l ∧ l ≤ 2 ∧ 0 ≤ n ∧ n ≤ 40) ∧ v = n ∧ u.1 = 0 ∧ u.2.1 = updI la r.toNat l ∧ u.2.2.1 = updI le r.toNat n ∧ ∀ j : Nat, u.2.2.2 j = if r * 40 ≤ (j : Int) ∧ (j : Int) < r * 40 + n then 0 else it j)) (fun u => oAH g B (lf) (u.1) :: (wRow g (B 1) (B 11) (B 12) (B 13) (u.2.2.2) (u.2.1) (u.2.2.1))) := by
  refine m_go (cc := cX7_row) (nL := 4) (by decide +kernel) rfl (Nat.le_of_ble_eq_true rfl) (fun x X Y hnm => ?_)
  refine v_eq (lo2 := [some (.ref (B 0)), some (.int (iI r)), some (.int (iI l)), some (.int (iI n))]) rfl rfl rfl rfl ?_
  refine v_iload_n X dX7_row_0 rfl ?_
  refine res_E X (run_S X (c_X7_isRow (g := g) (by first | assumption | omega)) gX7_row_X7_isRow rfl hdX7_isRow.2 ⟨(Nat.le_of_ble_eq_true rfl), (Nat.le_of_ble_eq_true rfl)⟩ ⟨(Nat.le_of_ble_eq_true rfl), (Nat.le_of_ble_eq_true rfl)⟩ [] rfl rfl rfl rfl (by simp [Value.category]) dX7_row_1) [] rfl rfl ?_
  refine v_ifb_eq (tgt := 22) X dX7_row_4 (by decide) (fun c1 => ?_) (fun c1 => ?_)
  · skip
    refine v_ldc X (List.mem_of_getElem? (i := 1) rfl) dX7_row_22 (n := -1000001) (by decide) ?_
    refine v_iret X Y dX7_row_24 (u := (fi, la, le, it)) ?_ (by rfl)
    exact Or.inl ⟨by omega, rfl, rfl⟩
  · skip
    refine v_iload_n X dX7_row_7 rfl ?_
    refine v_iconst X dX7_row_8 ?_
    refine v_iconst X dX7_row_9 ?_
    refine res_E X (run_S X (c_X7_isWithin (g := g) (by first | assumption | omega) (by first | assumption | omega) (by first | assumption | omega)) gX7_row_X7_isWithin rfl hdX7_isWithin.2 ⟨(Nat.le_of_ble_eq_true rfl), (Nat.le_of_ble_eq_true rfl)⟩ ⟨(Nat.le_of_ble_eq_true rfl), (Nat.le_of_ble_eq_true rfl)⟩ [] rfl rfl rfl rfl (by simp [Value.category]) dX7_row_10) [] rfl rfl ?_
    refine v_ifb_eq (tgt := 22) X dX7_row_13 (by decide) (fun c2 => ?_) (fun c2 => ?_)
    · skip
      refine v_ldc X (List.mem_of_getElem? (i := 1) rfl) dX7_row_22 (n := -1000001) (by decide) ?_
      refine v_iret X Y dX7_row_24 (u := (fi, la, le, it)) ?_ (by rfl)
      exact Or.inl ⟨by omega, rfl, rfl⟩
    · skip
      refine v_iload_n X dX7_row_16 rfl ?_
      refine v_bipush X dX7_row_17 (by decide) ?_
      refine v_icmp_le (tgt := 25) X dX7_row_19 (by decide) (by omega) (by omega) (fun c3 => ?_) (fun c3 => ?_)
      · skip
        refine v_iload_n X dX7_row_25 rfl ?_
        refine v_if_ge (tgt := 35) X dX7_row_26 (by decide) (by omega) (fun c4 => ?_) (fun c4 => ?_)
        · skip
          refine v_aload_n X dX7_row_35 rfl ?_
          refine v_get X (fun _ h => List.mem_cons_of_mem _ (List.mem_append_left _ (List.mem_append_right _ h))) 0 rfl rfl 0 (by decide) rfl (List.mem_of_getElem? (i := 2) rfl) rfl dX7_row_36 ?_
          refine v_iload_n X dX7_row_39 rfl ?_
          refine v_iload_n X dX7_row_40 rfl ?_
          refine v_iload_n X dX7_row_41 rfl ?_
          refine res_V X (run_V X (c_X5_make (g := g) (by first | assumption | omega) (by first | assumption | omega)) gX7_row_X5_make rfl hdX5_make ⟨(Nat.le_of_ble_eq_true rfl), (Nat.le_of_ble_eq_true rfl)⟩ ⟨(Nat.le_of_ble_eq_true rfl), (Nat.le_of_ble_eq_true rfl)⟩ 1 rfl rfl rfl [1, 2, 3, 4] rfl rfl rfl rfl (by simp [Value.category]) dX7_row_42) [1, 2, 3, 4] rfl rfl (fun _ => rfl) (fun f hf => ?_)
          dsimp only [patch, List.set, List.cons_append, List.nil_append, oAH, wRow]
          refine v_aload_n X dX7_row_45 rfl ?_
          refine v_iload_n X dX7_row_46 rfl ?_
          refine res_F X (run_V X (c_X7_fine (g := g) ) gX7_row_X7_fine rfl hdX7_fine ⟨(Nat.le_of_ble_eq_true rfl), (Nat.le_of_ble_eq_true rfl)⟩ ⟨(Nat.le_of_ble_eq_true rfl), (Nat.le_of_ble_eq_true rfl)⟩ 0 rfl rfl rfl [0] rfl rfl rfl rfl (by simp [Value.category]) dX7_row_47) [0] rfl rfl rfl ?_
          dsimp only [patch, List.set, List.cons_append, List.nil_append, oAH, wRow]
          refine v_iret X Y dX7_row_50 (u := (0, updI la r.toNat l, updI le r.toNat n, f)) ?_ (by rfl)
          exact Or.inr (Or.inr ⟨by omega, rfl, rfl, rfl, rfl, hf⟩)
        · skip
          refine v_aload_n X dX7_row_29 rfl ?_
          refine v_iconst X dX7_row_30 ?_
          refine res_F X (run_V X (c_X7_found (g := g) ) gX7_row_X7_found rfl hdX7_found ⟨(Nat.le_of_ble_eq_true rfl), (Nat.le_of_ble_eq_true rfl)⟩ ⟨(Nat.le_of_ble_eq_true rfl), (Nat.le_of_ble_eq_true rfl)⟩ 0 rfl rfl rfl [0] rfl rfl rfl rfl (by simp [Value.category]) dX7_row_31) [0] rfl rfl rfl ?_
          dsimp only [patch, List.set, List.cons_append, List.nil_append, oAH, wRow]
          refine v_iret X Y dX7_row_34 (u := (4, la, le, it)) ?_ (by rfl)
          exact Or.inr (Or.inl ⟨by omega, rfl, rfl⟩)
      · skip
        refine v_ldc X (List.mem_of_getElem? (i := 1) rfl) dX7_row_22 (n := -1000001) (by decide) ?_
        refine v_iret X Y dX7_row_24 (u := (fi, la, le, it)) ?_ (by rfl)
        exact Or.inl ⟨by omega, rfl, rfl⟩

theorem hdX7_set : yX7_set.cls = RX7 ∧ yX7_set.cls ≠ "java/lang/invoke/MethodHandle" ∧ yX7_set.cls ≠ "java/lang/invoke/VarHandle" ∧ (parseMethodDescriptor yX7_set.desc).map (fun d => d.parameters.length) = some 3 := ⟨rfl, by decide +kernel, by decide +kernel, by decide +kernel⟩
set_option maxHeartbeats 4000000 in
set_option maxRecDepth 100000 in
theorem c_X7_set {g : Gx} {B : Nat → Nat} {lf fi : Int} {it la le : Nat → Int} {r i v : Int} (hit : Bd (-2147483648) 2147483647 it) (hla : Bd (-1) 2 la) (hle : Bd 0 40 le) (hr : R32 r) (hi : R32 i) (hv : R32 v) : CtI (S := Int × (Nat → Int)) g yX7_set wsX7_set 4 87 [.ref (B 0), .int (iI r), .int (iI i), .int (iI v)] (oAH g B (lf) (fi) :: (wRow g (B 1) (B 11) (B 12) (B 13) it la le)) (fun w u => (¬ (0 ≤ r ∧ r < 8) ∧ w = -1000001 ∧ u = (fi, it)) ∨ ((0 ≤ r ∧ r < 8) ∧ ((la r.toNat = -1 ∧ w = -1000011 ∧ u = (1, it)) ∨ (la r.toNat ≠ -1 ∧ ¬ (0 ≤ i ∧ i < le r.toNat) ∧ w = -1000012 ∧ u = (2, it)) ∨ (la r.toNat ≠ -1 ∧ (0 ≤ i ∧ i < le r.toNat) ∧ w = cutI (la r.toNat) v ∧ u = (0, updI it (r * 40 + i).toNat (cutI (la r.toNat) v)))))) (fun u => oAH g B (lf) (u.1) :: (wRow g (B 1) (B 11) (B 12) (B 13) (u.2) la le)) := by
  refine m_go (cc := cX7_set) (nL := 5) (by decide +kernel) rfl (Nat.le_of_ble_eq_true rfl) (fun x X Y hnm => ?_)
  refine v_eq (lo2 := [some (.ref (B 0)), some (.int (iI r)), some (.int (iI i)), some (.int (iI v)), none]) rfl rfl rfl rfl ?_
  refine v_iload_n X dX7_set_0 rfl ?_
  refine res_E X (run_S X (c_X7_isRow (g := g) (by first | assumption | omega)) gX7_set_X7_isRow rfl hdX7_isRow.2 ⟨(Nat.le_of_ble_eq_true rfl), (Nat.le_of_ble_eq_true rfl)⟩ ⟨(Nat.le_of_ble_eq_true rfl), (Nat.le_of_ble_eq_true rfl)⟩ [] rfl rfl rfl rfl (by simp [Value.category]) dX7_set_1) [] rfl rfl ?_
  refine v_ifb_ne (tgt := 10) X dX7_set_4 (by decide) (fun c1 => ?_) (fun c1 => ?_)
  · skip
    have g0 := hle r.toNat
    have g1 : lanI la r = la r.toNat := if_pos (by assumption)
    have g2 : rchI le r i 1 = if 0 ≤ i ∧ i < le r.toNat then 1 else 0 := rchI_1 (by assumption)
    have g3 : wrgI la le r i 1 = if la r.toNat = -1 then 1 else if 0 ≤ i ∧ i < le r.toNat then 0 else 2 := by unfold wrgI; rw [g1, g2]; (repeat split) <;> omega
    refine v_aload_n X dX7_set_10 rfl ?_
    refine v_get X (fun _ h => List.mem_cons_of_mem _ (List.mem_append_left _ (List.mem_append_right _ h))) 0 rfl rfl 0 (by decide) rfl (List.mem_of_getElem? (i := 2) rfl) rfl dX7_set_11 ?_
    refine v_iload_n X dX7_set_14 rfl ?_
    refine v_iload_n X dX7_set_15 rfl ?_
    refine v_iconst X dX7_set_16 ?_
    refine res_E X (run_V X (c_X5_wrongAt (g := g) (by first | assumption | omega) (by first | assumption | omega) (by first | assumption | omega) (by first | assumption | omega) (by first | assumption | omega)) gX7_set_X5_wrongAt rfl hdX5_wrongAt ⟨(Nat.le_of_ble_eq_true rfl), (Nat.le_of_ble_eq_true rfl)⟩ ⟨(Nat.le_of_ble_eq_true rfl), (Nat.le_of_ble_eq_true rfl)⟩ 1 rfl rfl rfl [1, 2, 3, 4] rfl rfl rfl rfl (by simp [Value.category]) dX7_set_17) [1, 2, 3, 4] rfl rfl ?_
    refine v_istore X dX7_set_20 (by decide) rfl ?_
    dsimp only [List.set]
    refine v_iload X dX7_set_22 rfl ?_
    refine v_if_eq (tgt := 34) X dX7_set_24 (by decide) (by first | omega | (rw [g3]; (repeat split) <;> omega)) (fun c2 => ?_) (fun c2 => ?_)
    · skip
      refine v_aload_n X dX7_set_34 rfl ?_
      have g4 : la r.toNat ≠ -1 ∧ 0 ≤ i ∧ i < le r.toNat := by rw [g3] at *; (repeat (split at *)) <;> omega
      have g6 := cutI_bd (l := la r.toNat) hv
      refine v_get X (fun _ h => List.mem_cons_of_mem _ (List.mem_append_left _ (List.mem_append_right _ h))) 0 rfl rfl 0 (by decide) rfl (List.mem_of_getElem? (i := 2) rfl) rfl dX7_set_35 ?_
      refine v_iload_n X dX7_set_38 rfl ?_
      refine v_iload_n X dX7_set_39 rfl ?_
      refine v_iload_n X dX7_set_40 rfl ?_
      refine res_W X (run_V X (c_X5_put (g := g) (by first | assumption | omega) (by first | assumption | omega) (by first | assumption | omega) (by first | assumption | omega) (by first | assumption | omega)) gX7_set_X5_put rfl hdX5_put ⟨(Nat.le_of_ble_eq_true rfl), (Nat.le_of_ble_eq_true rfl)⟩ ⟨(Nat.le_of_ble_eq_true rfl), (Nat.le_of_ble_eq_true rfl)⟩ 1 rfl rfl rfl [1, 2, 3, 4] rfl rfl rfl rfl (by simp [Value.category]) dX7_set_41) [1, 2, 3, 4] rfl rfl rfl ?_
      dsimp only [patch, List.set, List.cons_append, List.nil_append, oAH, wRow]
      refine v_aload_n X dX7_set_44 rfl ?_
      refine v_aload_n X dX7_set_45 rfl ?_
      refine v_get X (fun _ h => List.mem_cons_of_mem _ (List.mem_append_left _ (List.mem_append_right _ h))) 0 rfl rfl 0 (by decide) rfl (List.mem_of_getElem? (i := 2) rfl) rfl dX7_set_46 ?_
      refine v_iload_n X dX7_set_49 rfl ?_
      refine v_iload_n X dX7_set_50 rfl ?_
      refine res_E X (run_V X (c_X5_item (g := g) (by rw [g1]; exact Bd_up hit g6.1 g6.2) (by first | assumption | omega) (by first | assumption | omega) (by first | assumption | omega)) gX7_set_X5_item rfl hdX5_item ⟨(Nat.le_of_ble_eq_true rfl), (Nat.le_of_ble_eq_true rfl)⟩ ⟨(Nat.le_of_ble_eq_true rfl), (Nat.le_of_ble_eq_true rfl)⟩ 1 rfl rfl rfl [1, 2, 3, 4] rfl rfl rfl rfl (by simp [Value.category]) dX7_set_51) [1, 2, 3, 4] rfl rfl ?_
      rw [itmI_s (by assumption) (by omega) (by omega), g1]
      refine res_F X (run_V X (c_X7_fine (g := g) ) gX7_set_X7_fine rfl hdX7_fine ⟨(Nat.le_of_ble_eq_true rfl), (Nat.le_of_ble_eq_true rfl)⟩ ⟨(Nat.le_of_ble_eq_true rfl), (Nat.le_of_ble_eq_true rfl)⟩ 0 rfl rfl rfl [0] rfl rfl rfl rfl (by simp [Value.category]) dX7_set_54) [0] rfl rfl rfl ?_
      dsimp only [patch, List.set, List.cons_append, List.nil_append, oAH, wRow]
      refine v_iret X Y dX7_set_57 (u := (0, updI it (r * 40 + i).toNat (cutI (la r.toNat) v))) ?_ (by first | rfl | (rw [g1]; done))
      exact Or.inr ⟨by assumption, Or.inr (Or.inr ⟨g4.1, g4.2, rfl, rfl⟩)⟩
    · skip
      refine v_aload_n X dX7_set_27 rfl ?_
      refine v_iload X dX7_set_28 rfl ?_
      refine res_F X (run_V X (c_X7_found (g := g) ) gX7_set_X7_found rfl hdX7_found ⟨(Nat.le_of_ble_eq_true rfl), (Nat.le_of_ble_eq_true rfl)⟩ ⟨(Nat.le_of_ble_eq_true rfl), (Nat.le_of_ble_eq_true rfl)⟩ 0 rfl rfl rfl [0] rfl rfl rfl rfl (by simp [Value.category]) dX7_set_30) [0] rfl rfl rfl ?_
      dsimp only [patch, List.set, List.cons_append, List.nil_append, oAH, wRow]
      refine v_iret X Y dX7_set_33 (u := (wrgI la le r i 1, it)) ?_ (by rfl)
      refine Or.inr ⟨by assumption, ?_⟩
      rw [g3] at *
      by_cases e1 : la r.toNat = -1
      · rw [if_pos e1] at *; exact Or.inl ⟨e1, by omega, rfl⟩
      · rw [if_neg e1] at *; by_cases e2 : 0 ≤ i ∧ i < le r.toNat
        · rw [if_pos e2] at *; omega
        · rw [if_neg e2] at *; exact Or.inr (Or.inl ⟨e1, e2, by omega, rfl⟩)
  · skip
    refine v_ldc X (List.mem_of_getElem? (i := 1) rfl) dX7_set_7 (n := -1000001) (by decide) ?_
    refine v_iret X Y dX7_set_9 (u := (fi, it)) ?_ (by rfl)
    exact Or.inl ⟨by omega, rfl, rfl⟩

theorem hdX7_drop : yX7_drop.cls = RX7 ∧ yX7_drop.cls ≠ "java/lang/invoke/MethodHandle" ∧ yX7_drop.cls ≠ "java/lang/invoke/VarHandle" ∧ (parseMethodDescriptor yX7_drop.desc).map (fun d => d.parameters.length) = some 1 := ⟨rfl, by decide +kernel, by decide +kernel, by decide +kernel⟩
set_option maxHeartbeats 4000000 in
set_option maxRecDepth 100000 in
theorem c_X7_drop {g : Gx} {B : Nat → Nat} {lf fi : Int} {it la le : Nat → Int} {r : Int} (hit : Bd (-2147483648) 2147483647 it) (hla : Bd (-1) 2 la) (hle : Bd 0 40 le) (hr : R32 r) : CtI (S := Int × (Nat → Int) × (Nat → Int)) g yX7_drop wsX7_drop 3 62 [.ref (B 0), .int (iI r)] (oAH g B (lf) (fi) :: (wRow g (B 1) (B 11) (B 12) (B 13) it la le)) (fun w u => (¬ (0 ≤ r ∧ r < 8) ∧ w = -1000001 ∧ u = (fi, la, le)) ∨ ((0 ≤ r ∧ r < 8) ∧ ((la r.toNat = -1 ∧ w = -1000011 ∧ u = (1, la, le)) ∨ (la r.toNat ≠ -1 ∧ w = le r.toNat ∧ u = (0, updI la r.toNat (-1), updI le r.toNat 0))))) (fun u => oAH g B (lf) (u.1) :: (wRow g (B 1) (B 11) (B 12) (B 13) it (u.2.1) (u.2.2))) := by
  refine m_go (cc := cX7_drop) (nL := 3) (by decide +kernel) rfl (Nat.le_of_ble_eq_true rfl) (fun x X Y hnm => ?_)
  refine v_eq (lo2 := [some (.ref (B 0)), some (.int (iI r)), none]) rfl rfl rfl rfl ?_
  refine v_iload_n X dX7_drop_0 rfl ?_
  refine res_E X (run_S X (c_X7_isRow (g := g) (by first | assumption | omega)) gX7_drop_X7_isRow rfl hdX7_isRow.2 ⟨(Nat.le_of_ble_eq_true rfl), (Nat.le_of_ble_eq_true rfl)⟩ ⟨(Nat.le_of_ble_eq_true rfl), (Nat.le_of_ble_eq_true rfl)⟩ [] rfl rfl rfl rfl (by simp [Value.category]) dX7_drop_1) [] rfl rfl ?_
  refine v_ifb_ne (tgt := 10) X dX7_drop_4 (by decide) (fun c1 => ?_) (fun c1 => ?_)
  · skip
    have g1 : lanI la r = la r.toNat := if_pos (by assumption)
    have g2 : atI 8 le r = le r.toNat := if_pos (by assumption)
    refine v_aload_n X dX7_drop_10 rfl ?_
    refine v_get X (fun _ h => List.mem_cons_of_mem _ (List.mem_append_left _ (List.mem_append_right _ h))) 0 rfl rfl 0 (by decide) rfl (List.mem_of_getElem? (i := 2) rfl) rfl dX7_drop_11 ?_
    refine v_iload_n X dX7_drop_14 rfl ?_
    refine res_E X (run_V X (c_X5_isMissing (g := g) (by first | assumption | omega) (by first | assumption | omega)) gX7_drop_X5_isMissing rfl hdX5_isMissing ⟨(Nat.le_of_ble_eq_true rfl), (Nat.le_of_ble_eq_true rfl)⟩ ⟨(Nat.le_of_ble_eq_true rfl), (Nat.le_of_ble_eq_true rfl)⟩ 1 rfl rfl rfl [1, 2, 3, 4] rfl rfl rfl rfl (by simp [Value.category]) dX7_drop_15) [1, 2, 3, 4] rfl rfl ?_
    refine v_ifb_eq (tgt := 27) X dX7_drop_18 (by decide) (fun c2 => ?_) (fun c2 => ?_)
    · skip
      refine v_aload_n X dX7_drop_27 rfl ?_
      refine v_get X (fun _ h => List.mem_cons_of_mem _ (List.mem_append_left _ (List.mem_append_right _ h))) 0 rfl rfl 0 (by decide) rfl (List.mem_of_getElem? (i := 2) rfl) rfl dX7_drop_28 ?_
      refine v_iload_n X dX7_drop_31 rfl ?_
      refine res_E X (run_V X (c_X5_length (g := g) (by first | assumption | omega) (by first | assumption | omega)) gX7_drop_X5_length rfl hdX5_length ⟨(Nat.le_of_ble_eq_true rfl), (Nat.le_of_ble_eq_true rfl)⟩ ⟨(Nat.le_of_ble_eq_true rfl), (Nat.le_of_ble_eq_true rfl)⟩ 1 rfl rfl rfl [1, 2, 3, 4] rfl rfl rfl rfl (by simp [Value.category]) dX7_drop_32) [1, 2, 3, 4] rfl rfl ?_
      refine v_istore_n X dX7_drop_35 2 rfl (by decide) rfl ?_
      dsimp only [List.set]
      refine v_aload_n X dX7_drop_36 rfl ?_
      refine v_get X (fun _ h => List.mem_cons_of_mem _ (List.mem_append_left _ (List.mem_append_right _ h))) 0 rfl rfl 0 (by decide) rfl (List.mem_of_getElem? (i := 2) rfl) rfl dX7_drop_37 ?_
      refine v_iload_n X dX7_drop_40 rfl ?_
      refine res_W X (run_V X (c_X5_lose (g := g) (by first | assumption | omega)) gX7_drop_X5_lose rfl hdX5_lose ⟨(Nat.le_of_ble_eq_true rfl), (Nat.le_of_ble_eq_true rfl)⟩ ⟨(Nat.le_of_ble_eq_true rfl), (Nat.le_of_ble_eq_true rfl)⟩ 1 rfl rfl rfl [1, 2, 3, 4] rfl rfl rfl rfl (by simp [Value.category]) dX7_drop_41) [1, 2, 3, 4] rfl rfl rfl ?_
      dsimp only [patch, List.set, List.cons_append, List.nil_append, oAH, wRow]
      refine v_aload_n X dX7_drop_44 rfl ?_
      refine v_iload_n X dX7_drop_45 rfl ?_
      refine res_F X (run_V X (c_X7_fine (g := g) ) gX7_drop_X7_fine rfl hdX7_fine ⟨(Nat.le_of_ble_eq_true rfl), (Nat.le_of_ble_eq_true rfl)⟩ ⟨(Nat.le_of_ble_eq_true rfl), (Nat.le_of_ble_eq_true rfl)⟩ 0 rfl rfl rfl [0] rfl rfl rfl rfl (by simp [Value.category]) dX7_drop_46) [0] rfl rfl rfl ?_
      dsimp only [patch, List.set, List.cons_append, List.nil_append, oAH, wRow]
      refine v_iret X Y dX7_drop_49 (u := (0, updI la r.toNat (-1), updI le r.toNat 0)) ?_ (by rfl)
      exact Or.inr ⟨by assumption, Or.inr ⟨by omega, g2, rfl⟩⟩
    · skip
      refine v_aload_n X dX7_drop_21 rfl ?_
      refine v_iconst X dX7_drop_22 ?_
      refine res_F X (run_V X (c_X7_found (g := g) ) gX7_drop_X7_found rfl hdX7_found ⟨(Nat.le_of_ble_eq_true rfl), (Nat.le_of_ble_eq_true rfl)⟩ ⟨(Nat.le_of_ble_eq_true rfl), (Nat.le_of_ble_eq_true rfl)⟩ 0 rfl rfl rfl [0] rfl rfl rfl rfl (by simp [Value.category]) dX7_drop_23) [0] rfl rfl rfl ?_
      dsimp only [patch, List.set, List.cons_append, List.nil_append, oAH, wRow]
      refine v_iret X Y dX7_drop_26 (u := (1, la, le)) ?_ (by rfl)
      exact Or.inr ⟨by assumption, Or.inl ⟨by omega, rfl, rfl⟩⟩
  · skip
    refine v_ldc X (List.mem_of_getElem? (i := 1) rfl) dX7_drop_7 (n := -1000001) (by decide) ?_
    refine v_iret X Y dX7_drop_9 (u := (fi, la, le)) ?_ (by rfl)
    exact Or.inl ⟨by omega, rfl, rfl⟩

theorem hdX7_slip : yX7_slip.cls = RX7 ∧ yX7_slip.cls ≠ "java/lang/invoke/MethodHandle" ∧ yX7_slip.cls ≠ "java/lang/invoke/VarHandle" ∧ (parseMethodDescriptor yX7_slip.desc).map (fun d => d.parameters.length) = some 2 := ⟨rfl, by decide +kernel, by decide +kernel, by decide +kernel⟩
set_option maxHeartbeats 4000000 in
set_option maxRecDepth 100000 in
theorem c_X7_slip {g : Gx} {B : Nat → Nat} {lf fi : Int} {mk cn : Int} {so tu sp : Nat → Int} {hs ss : Nat → Int} {ln : Int} {h m : Int} (hcn : 0 ≤ cn ∧ cn ≤ 4) (hmk : 0 ≤ mk ∧ mk ≤ 60) (hso : Bd 0 5 so) (htu : Bd 0 12 tu) (hsp : Bd 0 59 sp) (hm2 : 0 < cn → 0 < mk) (hln : 0 ≤ ln ∧ ln ≤ 24) (hh : R32 h) (hm : R32 m) : CtI (S := (Nat → Int) × (Nat → Int) × (Nat → Int) × Int) g yX7_slip wsX7_slip 3 102 [.ref (B 0), .int (iI h), .int (iI m)] (oAH g B (lf) (fi) :: (wClk g (B 3) (B 15) (B 16) (B 17) mk cn so tu sp ++ (wAct g (B 7) (B 27) (B 28) hs ss ln))) (fun w u => (¬ ((0 ≤ h ∧ h < cn) ∧ -60 ≤ m ∧ m ≤ 60) ∧ w = -1000001 ∧ u = (sp, hs, ss, ln)) ∨ (((0 ≤ h ∧ h < cn) ∧ -60 ≤ m ∧ m ≤ 60) ∧ w = (sp h.toNat + m) % mk ∧ u.1 = updI sp h.toNat ((sp h.toNat + m) % mk) ∧ u.2 = (updI (if ln < 24 then hs else cpyI hs hs 1 0 23) (if ln < 24 then ln else 23).toNat h, updI (if ln < 24 then ss else cpyI ss ss 1 0 23) (if ln < 24 then ln else 23).toNat (sp h.toNat), (if ln < 24 then ln else 23) + 1))) (fun u => oAH g B (lf) (fi) :: (wClk g (B 3) (B 15) (B 16) (B 17) mk cn so tu (u.1) ++ (wAct g (B 7) (B 27) (B 28) (u.2.1) (u.2.2.1) (u.2.2.2)))) := by
  refine m_go (cc := cX7_slip) (nL := 4) (by decide +kernel) rfl (Nat.le_of_ble_eq_true rfl) (fun x X Y hnm => ?_)
  refine v_eq (lo2 := [some (.ref (B 0)), some (.int (iI h)), some (.int (iI m)), none]) rfl rfl rfl rfl ?_
  refine v_aload_n X dX7_slip_0 rfl ?_
  refine v_get X (fun _ h => List.mem_cons_of_mem _ (List.mem_append_left _ (List.mem_append_left _ (List.mem_append_right _ h)))) 0 rfl rfl 2 (by decide) rfl (List.mem_of_getElem? (i := 1) rfl) rfl dX7_slip_1 ?_
  refine v_iload_n X dX7_slip_4 rfl ?_
  refine res_E X (run_V X (c_X2_has (g := g) (by first | assumption | omega) (by first | assumption | omega)) gX7_slip_X2_has rfl hdX2_has ⟨(Nat.le_of_ble_eq_true rfl), (Nat.le_of_ble_eq_true rfl)⟩ ⟨(Nat.le_of_ble_eq_true rfl), (Nat.le_of_ble_eq_true rfl)⟩ 1 rfl rfl rfl [1, 2, 3, 4] rfl rfl rfl rfl (by simp [Value.category]) dX7_slip_5) [1, 2, 3, 4] rfl rfl ?_
  refine v_ifb_eq (tgt := 22) X dX7_slip_8 (by decide) (fun c1 => ?_) (fun c1 => ?_)
  · skip
    refine v_ldc X (List.mem_of_getElem? (i := 2) rfl) dX7_slip_22 (n := -1000001) (by decide) ?_
    refine v_iret X Y dX7_slip_24 (u := (sp, hs, ss, ln)) ?_ (by rfl)
    exact Or.inl ⟨by omega, rfl, rfl⟩
  · skip
    refine v_iload_n X dX7_slip_11 rfl ?_
    refine v_bipush X dX7_slip_12 (by decide) ?_
    refine v_bipush X dX7_slip_14 (by decide) ?_
    refine res_E X (run_S X (c_X7_isWithin (g := g) (by first | assumption | omega) (by first | assumption | omega) (by first | assumption | omega)) gX7_slip_X7_isWithin rfl hdX7_isWithin.2 ⟨(Nat.le_of_ble_eq_true rfl), (Nat.le_of_ble_eq_true rfl)⟩ ⟨(Nat.le_of_ble_eq_true rfl), (Nat.le_of_ble_eq_true rfl)⟩ [] rfl rfl rfl rfl (by simp [Value.category]) dX7_slip_16) [] rfl rfl ?_
    refine v_ifb_ne (tgt := 25) X dX7_slip_19 (by decide) (fun c2 => ?_) (fun c2 => ?_)
    · skip
      have g1 : (0 ≤ h ∧ h < cn) ∧ -60 ≤ m ∧ m ≤ 60 := by omega
      have g2 : atI cn sp h = sp h.toNat := if_pos g1.1
      have g3 := hsp h.toNat
      have g4 : restI (sp h.toNat + m) mk = (sp h.toNat + m) % mk := if_neg (by omega)
      have g5 := Int.emod_nonneg (sp h.toNat + m) (show mk ≠ 0 by omega)
      have g6 := Int.emod_lt_of_pos (sp h.toNat + m) (show 0 < mk by omega)
      refine v_aload_n X dX7_slip_25 rfl ?_
      refine v_get X (fun _ h => List.mem_cons_of_mem _ (List.mem_append_left _ (List.mem_append_left _ (List.mem_append_right _ h)))) 0 rfl rfl 2 (by decide) rfl (List.mem_of_getElem? (i := 1) rfl) rfl dX7_slip_26 ?_
      refine v_iload_n X dX7_slip_29 rfl ?_
      refine res_E X (run_V X (c_X2_slipOf (g := g) (by first | assumption | omega) (by first | assumption | omega) (by first | assumption | omega)) gX7_slip_X2_slipOf rfl hdX2_slipOf ⟨(Nat.le_of_ble_eq_true rfl), (Nat.le_of_ble_eq_true rfl)⟩ ⟨(Nat.le_of_ble_eq_true rfl), (Nat.le_of_ble_eq_true rfl)⟩ 1 rfl rfl rfl [1, 2, 3, 4] rfl rfl rfl rfl (by simp [Value.category]) dX7_slip_30) [1, 2, 3, 4] rfl rfl ?_
      rw [g2]
      refine v_istore_n X dX7_slip_33 3 rfl (by decide) rfl ?_
      dsimp only [List.set]
      refine v_aload_n X dX7_slip_34 rfl ?_
      refine v_get X (fun _ h => List.mem_cons_of_mem _ (List.mem_append_left _ (List.mem_append_left _ (List.mem_append_right _ h)))) 0 rfl rfl 6 (by decide) rfl (List.mem_of_getElem? (i := 3) rfl) rfl dX7_slip_35 ?_
      refine v_iload_n X dX7_slip_38 rfl ?_
      refine v_iload_n X dX7_slip_39 rfl ?_
      refine res_W X (run_V X (c_X0_keep (g := g) (by first | assumption | omega)) gX7_slip_X0_keep rfl hdX0_keep ⟨(Nat.le_of_ble_eq_true rfl), (Nat.le_of_ble_eq_true rfl)⟩ ⟨(Nat.le_of_ble_eq_true rfl), (Nat.le_of_ble_eq_true rfl)⟩ 5 rfl rfl rfl [5, 6, 7] rfl rfl rfl rfl (by simp [Value.category]) dX7_slip_40) [5, 6, 7] rfl rfl rfl ?_
      dsimp only [patch, List.set, List.cons_append, List.nil_append, oAH, wAct, wClk]
      refine v_aload_n X dX7_slip_43 rfl ?_
      refine v_get X (fun _ h => List.mem_cons_of_mem _ (List.mem_append_left _ (List.mem_append_left _ (List.mem_append_right _ h)))) 0 rfl rfl 2 (by decide) rfl (List.mem_of_getElem? (i := 1) rfl) rfl dX7_slip_44 ?_
      refine v_iload_n X dX7_slip_47 rfl ?_
      refine v_iload_n X dX7_slip_48 rfl ?_
      refine v_iload_n X dX7_slip_49 rfl ?_
      refine v_iadd X dX7_slip_50 ?_
      refine v_aload_n X dX7_slip_51 rfl ?_
      refine v_get X (fun _ h => List.mem_cons_of_mem _ (List.mem_append_left _ (List.mem_append_left _ (List.mem_append_right _ h)))) 0 rfl rfl 2 (by decide) rfl (List.mem_of_getElem? (i := 1) rfl) rfl dX7_slip_52 ?_
      refine v_get X (fun _ h => List.mem_cons_of_mem _ (List.mem_append_left _ (List.mem_append_right _ h))) 1 rfl rfl 3 (by decide) rfl (List.mem_of_getElem? (i := 4) rfl) rfl dX7_slip_55 ?_
      refine res_E X (run_S X (c_X7_rest (g := g) (by first | assumption | omega) (by first | assumption | omega)) gX7_slip_X7_rest rfl hdX7_rest.2 ⟨(Nat.le_of_ble_eq_true rfl), (Nat.le_of_ble_eq_true rfl)⟩ ⟨(Nat.le_of_ble_eq_true rfl), (Nat.le_of_ble_eq_true rfl)⟩ [] rfl rfl rfl rfl (by simp [Value.category]) dX7_slip_58) [] rfl rfl ?_
      rw [g4]
      refine res_W X (run_V X (c_X2_setSlip (g := g) (by first | assumption | omega) (by first | assumption | omega)) gX7_slip_X2_setSlip rfl hdX2_setSlip ⟨(Nat.le_of_ble_eq_true rfl), (Nat.le_of_ble_eq_true rfl)⟩ ⟨(Nat.le_of_ble_eq_true rfl), (Nat.le_of_ble_eq_true rfl)⟩ 1 rfl rfl rfl [1, 2, 3, 4] rfl rfl rfl rfl (by simp [Value.category]) dX7_slip_61) [1, 2, 3, 4] rfl rfl rfl ?_
      dsimp only [patch, List.set, List.cons_append, List.nil_append, oAH, wAct, wClk]
      refine v_aload_n X dX7_slip_64 rfl ?_
      refine v_get X (fun _ h => List.mem_cons_of_mem _ (List.mem_append_left _ (List.mem_append_left _ (List.mem_append_right _ h)))) 0 rfl rfl 2 (by decide) rfl (List.mem_of_getElem? (i := 1) rfl) rfl dX7_slip_65 ?_
      refine v_iload_n X dX7_slip_68 rfl ?_
      refine res_E X (run_V X (c_X2_slipOf (g := g) (by first | assumption | omega) (by exact Bd_up hsp (by omega) (by omega)) (by first | assumption | omega)) gX7_slip_X2_slipOf rfl hdX2_slipOf ⟨(Nat.le_of_ble_eq_true rfl), (Nat.le_of_ble_eq_true rfl)⟩ ⟨(Nat.le_of_ble_eq_true rfl), (Nat.le_of_ble_eq_true rfl)⟩ 1 rfl rfl rfl [1, 2, 3, 4] rfl rfl rfl rfl (by simp [Value.category]) dX7_slip_69) [1, 2, 3, 4] rfl rfl ?_
      rw [show atI cn (updI sp h.toNat ((sp h.toNat + m) % mk)) h = (sp h.toNat + m) % mk from (if_pos g1.1).trans (updI_s _ _ _)]
      refine v_iret X Y dX7_slip_72 (u := (updI sp h.toNat ((sp h.toNat + m) % mk), updI (if ln < 24 then hs else cpyI hs hs 1 0 23) (if ln < 24 then ln else 23).toNat h, updI (if ln < 24 then ss else cpyI ss ss 1 0 23) (if ln < 24 then ln else 23).toNat (sp h.toNat), (if ln < 24 then ln else 23) + 1)) ?_ (by rfl)
      exact Or.inr ⟨g1, rfl, rfl, rfl⟩
    · skip
      refine v_ldc X (List.mem_of_getElem? (i := 2) rfl) dX7_slip_22 (n := -1000001) (by decide) ?_
      refine v_iret X Y dX7_slip_24 (u := (sp, hs, ss, ln)) ?_ (by rfl)
      exact Or.inl ⟨by omega, rfl, rfl⟩

theorem hdX7_undo : yX7_undo.cls = RX7 ∧ yX7_undo.cls ≠ "java/lang/invoke/MethodHandle" ∧ yX7_undo.cls ≠ "java/lang/invoke/VarHandle" ∧ (parseMethodDescriptor yX7_undo.desc).map (fun d => d.parameters.length) = some 0 := ⟨rfl, by decide +kernel, by decide +kernel, by decide +kernel⟩
set_option maxHeartbeats 4000000 in
set_option maxRecDepth 100000 in
theorem c_X7_undo {g : Gx} {B : Nat → Nat} {lf fi : Int} {mk cn : Int} {so tu sp : Nat → Int} {hs ss : Nat → Int} {ln : Int}  (hcn : 0 ≤ cn ∧ cn ≤ 4) (hmk : 0 ≤ mk ∧ mk ≤ 60) (hso : Bd 0 5 so) (htu : Bd 0 12 tu) (hsp : Bd 0 59 sp) (hln : 0 ≤ ln ∧ ln ≤ 24) (hhs : Bd 0 59 hs) (hss : Bd 0 59 ss) (hhc : 1 ≤ ln → hs (ln - 1).toNat < cn) : CtE g yX7_undo wsX7_undo 2 43 [.ref (B 0)] (oAH g B (lf) (fi) :: (wClk g (B 3) (B 15) (B 16) (B 17) mk cn so tu sp ++ (wAct g (B 7) (B 27) (B 28) hs ss ln))) (if ln < 1 then -1000002 else ln - 1) (oAH g B (lf) (fi) :: (wClk g (B 3) (B 15) (B 16) (B 17) mk cn so tu (if ln < 1 then sp else updI sp (hs (ln - 1).toNat).toNat (ss (ln - 1).toNat)) ++ (wAct g (B 7) (B 27) (B 28) hs ss (if ln < 1 then ln else ln - 1)))) := by
  refine m_go (cc := cX7_undo) (nL := 1) (by decide +kernel) rfl (Nat.le_of_ble_eq_true rfl) (fun x X Y hnm => ?_)
  refine v_eq (lo2 := [some (.ref (B 0))]) rfl rfl rfl rfl ?_
  refine v_aload_n X dX7_undo_0 rfl ?_
  refine v_get X (fun _ h => List.mem_cons_of_mem _ (List.mem_append_left _ (List.mem_append_left _ (List.mem_append_right _ h)))) 0 rfl rfl 6 (by decide) rfl (List.mem_of_getElem? (i := 1) rfl) rfl dX7_undo_1 ?_
  refine v_get X (fun _ h => List.mem_cons_of_mem _ (List.mem_append_left _ (List.mem_append_right _ h))) 5 rfl rfl 2 (by decide) rfl (List.mem_of_getElem? (i := 2) rfl) rfl dX7_undo_4 ?_
  refine v_iconst X dX7_undo_7 ?_
  refine v_icmp_ge (tgt := 14) X dX7_undo_8 (by decide) (by omega) (by omega) (fun c1 => ?_) (fun c1 => ?_)
  · skip
    refine v_aload_n X dX7_undo_14 rfl ?_
    have g1 : (if 1 ≤ ln then hs (ln - 1).toNat else 0) = hs (ln - 1).toNat := if_pos (by omega)
    have g2 : (if 1 ≤ ln then ss (ln - 1).toNat else 0) = ss (ln - 1).toNat := if_pos (by omega)
    have g3 := hhs (ln - 1).toNat
    have g4 := hhc (by omega)
    refine v_get X (fun _ h => List.mem_cons_of_mem _ (List.mem_append_left _ (List.mem_append_left _ (List.mem_append_right _ h)))) 0 rfl rfl 2 (by decide) rfl (List.mem_of_getElem? (i := 4) rfl) rfl dX7_undo_15 ?_
    refine v_aload_n X dX7_undo_18 rfl ?_
    refine v_get X (fun _ h => List.mem_cons_of_mem _ (List.mem_append_left _ (List.mem_append_left _ (List.mem_append_right _ h)))) 0 rfl rfl 6 (by decide) rfl (List.mem_of_getElem? (i := 1) rfl) rfl dX7_undo_19 ?_
    refine res_E X (run_V X (c_X0_lastHand (g := g) (by first | assumption | omega) (by first | assumption | omega)) gX7_undo_X0_lastHand rfl hdX0_lastHand ⟨(Nat.le_of_ble_eq_true rfl), (Nat.le_of_ble_eq_true rfl)⟩ ⟨(Nat.le_of_ble_eq_true rfl), (Nat.le_of_ble_eq_true rfl)⟩ 5 rfl rfl rfl [5, 6, 7] rfl rfl rfl rfl (by simp [Value.category]) dX7_undo_22) [5, 6, 7] rfl rfl ?_
    rw [g1]
    refine v_aload_n X dX7_undo_25 rfl ?_
    refine v_get X (fun _ h => List.mem_cons_of_mem _ (List.mem_append_left _ (List.mem_append_left _ (List.mem_append_right _ h)))) 0 rfl rfl 6 (by decide) rfl (List.mem_of_getElem? (i := 1) rfl) rfl dX7_undo_26 ?_
    refine res_E X (run_V X (c_X0_lastSlip (g := g) (by first | assumption | omega) (by first | assumption | omega)) gX7_undo_X0_lastSlip rfl hdX0_lastSlip ⟨(Nat.le_of_ble_eq_true rfl), (Nat.le_of_ble_eq_true rfl)⟩ ⟨(Nat.le_of_ble_eq_true rfl), (Nat.le_of_ble_eq_true rfl)⟩ 5 rfl rfl rfl [5, 6, 7] rfl rfl rfl rfl (by simp [Value.category]) dX7_undo_29) [5, 6, 7] rfl rfl ?_
    rw [g2]
    refine res_W X (run_V X (c_X2_setSlip (g := g) (by first | assumption | omega) (by first | assumption | omega)) gX7_undo_X2_setSlip rfl hdX2_setSlip ⟨(Nat.le_of_ble_eq_true rfl), (Nat.le_of_ble_eq_true rfl)⟩ ⟨(Nat.le_of_ble_eq_true rfl), (Nat.le_of_ble_eq_true rfl)⟩ 1 rfl rfl rfl [1, 2, 3, 4] rfl rfl rfl rfl (by simp [Value.category]) dX7_undo_32) [1, 2, 3, 4] rfl rfl rfl ?_
    dsimp only [patch, List.set, List.cons_append, List.nil_append, oAH, wAct, wClk]
    refine v_aload_n X dX7_undo_35 rfl ?_
    refine v_get X (fun _ h => List.mem_cons_of_mem _ (List.mem_append_left _ (List.mem_append_left _ (List.mem_append_right _ h)))) 0 rfl rfl 6 (by decide) rfl (List.mem_of_getElem? (i := 1) rfl) rfl dX7_undo_36 ?_
    refine v_dup X dX7_undo_39 rfl ?_
    refine v_get X (fun _ h => List.mem_cons_of_mem _ (List.mem_append_left _ (List.mem_append_right _ h))) 5 rfl rfl 2 (by decide) rfl (List.mem_of_getElem? (i := 2) rfl) rfl dX7_undo_40 ?_
    refine v_iconst X dX7_undo_43 ?_
    refine v_isub X dX7_undo_44 ?_
    refine v_put X (fun _ h => List.mem_cons_of_mem _ (List.mem_append_left _ (List.mem_append_right _ h))) tyX0 tyX0_ok nmX0 5 rfl rfl 2 (by decide) rfl (List.mem_of_getElem? (i := 2) rfl) rfl rfl rfl (Nat.le_of_ble_eq_true rfl) dX7_undo_45 ?_
    dsimp only [List.set, oAH, wAct, wClk, List.cons_append, List.nil_append]
    refine v_aload_n X dX7_undo_48 rfl ?_
    refine v_get X (fun _ h => List.mem_cons_of_mem _ (List.mem_append_left _ (List.mem_append_left _ (List.mem_append_right _ h)))) 0 rfl rfl 6 (by decide) rfl (List.mem_of_getElem? (i := 1) rfl) rfl dX7_undo_49 ?_
    refine v_get X (fun _ h => List.mem_cons_of_mem _ (List.mem_append_left _ (List.mem_append_right _ h))) 5 rfl rfl 2 (by decide) rfl (List.mem_of_getElem? (i := 2) rfl) rfl dX7_undo_52 ?_
    exact v_iret X Y dX7_undo_55 (u := ()) (by rw [if_neg (by omega)]) (by (first | rw [if_pos (show ln < 1 by omega), if_pos (show ln < 1 by omega)] | rw [if_neg (show ¬ ln < 1 by omega), if_neg (show ¬ ln < 1 by omega)]) <;> rfl)
  · skip
    refine v_ldc X (List.mem_of_getElem? (i := 3) rfl) dX7_undo_11 (n := -1000002) (by decide) ?_
    exact v_iret X Y dX7_undo_13 (u := ()) (by rw [if_pos (by assumption)]) (by (first | rw [if_pos (show ln < 1 by omega), if_pos (show ln < 1 by omega)] | rw [if_neg (show ¬ ln < 1 by omega), if_neg (show ¬ ln < 1 by omega)]) <;> rfl)

theorem hdX8_set : yX8_set.cls = RX8 ∧ yX8_set.cls ≠ "java/lang/invoke/MethodHandle" ∧ yX8_set.cls ≠ "java/lang/invoke/VarHandle" ∧ (parseMethodDescriptor yX8_set.desc).map (fun d => d.parameters.length) = some 3 := ⟨rfl, by decide +kernel, by decide +kernel, by decide +kernel⟩
set_option maxHeartbeats 4000000 in
set_option maxRecDepth 100000 in
theorem c_X8_set {g : Gx} {A : Nat → Nat} {th sq ac td lt ln cu tk sa ti ft fp le lf tr : Int} {fl fm fi fc ff fw ftp fk fe fr : Nat → Int} {r i v : Int} (hfl : Bd (-1) 2 fl) (hfm : Bd 0 40 fm) (hfi : Bd (-2147483648) 2147483647 fi) (hr : R32 r) (hi : R32 i) (hv : R32 v) : CtI (S := Int × (Nat → Int)) g yX8_set wsX8_set 2 45 [.ref (A 0), .int (iI r), .int (iI i), .int (iI v)] (wMod g A th sq ac td lt ln cu tk sa ti ft fp le lf tr fl fm fi fc ff fw ftp fk fe fr) (fun w u => (¬ (0 ≤ r ∧ r < 8) ∧ w = -1000001 ∧ u = (sq, fi)) ∨ ((0 ≤ r ∧ r < 8) ∧ ((fl r.toNat < 0 ∧ w = -1000011 ∧ u = (1, fi)) ∨ (0 ≤ fl r.toNat ∧ ¬ (0 ≤ i ∧ i < fm r.toNat) ∧ w = -1000012 ∧ u = (2, fi)) ∨ (0 ≤ fl r.toNat ∧ (0 ≤ i ∧ i < fm r.toNat) ∧ w = cutI (fl r.toNat) v ∧ u = (0, updI fi (r * 40 + i).toNat (cutI (fl r.toNat) v)))))) (fun u => wMod g A (0) (u.1) ac td lt ln cu tk sa ti ft fp le lf tr fl fm (u.2) fc ff fw ftp fk fe fr) := by
  refine m_go (cc := cX8_set) (nL := 4) (by decide +kernel) rfl (Nat.le_of_ble_eq_true rfl) (fun x X Y hnm => ?_)
  refine v_eq (lo2 := [some (.ref (A 0)), some (.int (iI r)), some (.int (iI i)), some (.int (iI v))]) rfl rfl rfl rfl ?_
  have g6 := fun l => cutI_bd (l := l) hv
  have b1 := iByte_bd v
  have b2 := iShort_bd v
  refine v_aload_n X dX8_set_0 rfl ?_
  refine v_iconst X dX8_set_1 ?_
  refine v_put X (fun _ h => List.mem_cons_of_mem _ (List.mem_append_right _ h)) tyX8 tyX8_ok nmX8 0 rfl rfl 0 (by decide) rfl (List.mem_of_getElem? (i := 1) rfl) rfl rfl rfl (Nat.le_of_ble_eq_true rfl) dX8_set_2 ?_
  dsimp only [List.set, wMod]
  refine v_iload_n X dX8_set_5 rfl ?_
  refine res_E X (run_S X (c_X8_isRow (g := g) (by first | assumption | omega)) gX8_set_X8_isRow rfl hdX8_isRow.2 ⟨(Nat.le_of_ble_eq_true rfl), (Nat.le_of_ble_eq_true rfl)⟩ ⟨(Nat.le_of_ble_eq_true rfl), (Nat.le_of_ble_eq_true rfl)⟩ [] rfl rfl rfl rfl (by simp [Value.category]) dX8_set_6) [] rfl rfl ?_
  refine v_ifb_ne (tgt := 15) X dX8_set_9 (by decide) (fun c1 => ?_) (fun c1 => ?_)
  · skip
    refine v_aload_n X dX8_set_15 rfl ?_
    refine v_iconst X dX8_set_16 ?_
    refine v_put X (fun _ h => List.mem_cons_of_mem _ (List.mem_append_right _ h)) tyX8 tyX8_ok nmX8 0 rfl rfl 1 (by decide) rfl (List.mem_of_getElem? (i := 3) rfl) rfl rfl rfl (Nat.le_of_ble_eq_true rfl) dX8_set_17 ?_
    dsimp only [List.set, wMod]
    have g0 := hfm r.toNat
    refine v_aload_n X dX8_set_20 rfl ?_
    refine v_get X (fun _ h => List.mem_cons_of_mem _ (List.mem_append_right _ h)) 0 rfl rfl 2 (by decide) rfl (List.mem_of_getElem? (i := 4) rfl) rfl dX8_set_21 ?_
    refine v_iload_n X dX8_set_24 rfl ?_
    refine v_iald X 1 rfl (by omega) (by omega) (by omega) dX8_set_25 hfl (fun z2 ez2 lz2 uz2 => ?_)
    refine v_if_ge (tgt := 35) X dX8_set_26 (by decide) (by omega) (fun c3 => ?_) (fun c3 => ?_)
    · skip
      refine v_iload_n X dX8_set_35 rfl ?_
      refine v_i2l X dX8_set_36 (by omega) ?_
      refine v_lconst0 X dX8_set_37 ?_
      refine v_aload_n X dX8_set_38 rfl ?_
      refine v_get X (fun _ h => List.mem_cons_of_mem _ (List.mem_append_right _ h)) 0 rfl rfl 3 (by decide) rfl (List.mem_of_getElem? (i := 5) rfl) rfl dX8_set_39 ?_
      refine v_iload_n X dX8_set_42 rfl ?_
      refine v_iald X 2 rfl (by omega) (by omega) (by omega) dX8_set_43 hfm (fun z4 ez4 lz4 uz4 => ?_)
      refine v_iconst X dX8_set_44 ?_
      refine v_isub X dX8_set_45 ?_
      refine v_i2l X dX8_set_46 (by omega) ?_
      refine res_E X (run_S X (c_X8_in (g := g) (by first | assumption | omega) (by first | assumption | omega) (by first | assumption | omega)) gX8_set_X8_in rfl hdX8_in.2 ⟨(Nat.le_of_ble_eq_true rfl), (Nat.le_of_ble_eq_true rfl)⟩ ⟨(Nat.le_of_ble_eq_true rfl), (Nat.le_of_ble_eq_true rfl)⟩ [] rfl rfl rfl rfl (by simp [Value.category]) dX8_set_47) [] rfl rfl ?_
      refine v_ifb_ne (tgt := 59) X dX8_set_50 (by decide) (fun c5 => ?_) (fun c5 => ?_)
      · skip
        refine v_aload_n X dX8_set_59 rfl ?_
        have J99 : ∀ (q : Int) (hq : q = cutI (fl r.toNat) v), V g x 0 0 (wMod g A (0) (0) ac td lt ln cu tk sa ti ft fp le lf tr fl fm fi fc ff fw ftp fk fe fr) [some (.ref (A 0)), some (.int (iI r)), some (.int (iI i)), some (.int (iI v))] 99 [.int (iI q), .int (iI (40 * r + i)), .ref (A 3)] := by
          intro q hq
          have hq2 := g6 (fl r.toNat)
          rw [← hq] at hq2
          refine v_iast X 3 rfl (by omega) (by omega) (by omega) dX8_set_99 ?_
          dsimp only [List.set, wMod]
          refine v_aload_n X dX8_set_100 rfl ?_
          refine v_get X (fun _ h => List.mem_cons_of_mem _ (List.mem_append_right _ h)) 0 rfl rfl 4 (by decide) rfl (List.mem_of_getElem? (i := 6) rfl) rfl dX8_set_101 ?_
          refine v_bipush X dX8_set_104 (by decide) ?_
          refine v_iload_n X dX8_set_106 rfl ?_
          refine v_imul X dX8_set_107 ?_
          refine v_iload_n X dX8_set_108 rfl ?_
          refine v_iadd X dX8_set_109 ?_
          refine v_iald X 3 rfl (by omega) (by omega) (by omega) dX8_set_110 (Bd_up hfi (by omega) (by omega)) (fun qz eqz lqz uqz => ?_)
          refine v_iret X Y dX8_set_111 (u := (0, updI fi (40 * r + i).toNat q)) ?_ (by rfl)
          have e : (40 * r + i).toNat = (r * 40 + i).toNat := by omega
          refine Or.inr ⟨by assumption, Or.inr (Or.inr ⟨by omega, by omega, ?_, by rw [e, hq]⟩)⟩
          rw [eqz, updI_s, hq]
        refine v_get X (fun _ h => List.mem_cons_of_mem _ (List.mem_append_right _ h)) 0 rfl rfl 4 (by decide) rfl (List.mem_of_getElem? (i := 6) rfl) rfl dX8_set_60 ?_
        refine v_bipush X dX8_set_63 (by decide) ?_
        refine v_iload_n X dX8_set_65 rfl ?_
        refine v_imul X dX8_set_66 ?_
        refine v_iload_n X dX8_set_67 rfl ?_
        refine v_iadd X dX8_set_68 ?_
        refine v_aload_n X dX8_set_69 rfl ?_
        refine v_get X (fun _ h => List.mem_cons_of_mem _ (List.mem_append_right _ h)) 0 rfl rfl 2 (by decide) rfl (List.mem_of_getElem? (i := 4) rfl) rfl dX8_set_70 ?_
        refine v_iload_n X dX8_set_73 rfl ?_
        refine v_iald X 1 rfl (by omega) (by omega) (by omega) dX8_set_74 hfl (fun z7 ez7 lz7 uz7 => ?_)
        refine v_if_ne (tgt := 83) X dX8_set_75 (by decide) (by omega) (fun c8 => ?_) (fun c8 => ?_)
        · skip
          refine v_aload_n X dX8_set_83 rfl ?_
          refine v_get X (fun _ h => List.mem_cons_of_mem _ (List.mem_append_right _ h)) 0 rfl rfl 2 (by decide) rfl (List.mem_of_getElem? (i := 4) rfl) rfl dX8_set_84 ?_
          refine v_iload_n X dX8_set_87 rfl ?_
          refine v_iald X 1 rfl (by omega) (by omega) (by omega) dX8_set_88 hfl (fun z9 ez9 lz9 uz9 => ?_)
          refine v_iconst X dX8_set_89 ?_
          refine v_icmp_ne (tgt := 98) X dX8_set_90 (by decide) (by omega) (by omega) (fun c10 => ?_) (fun c10 => ?_)
          · skip
            refine v_iload_n X dX8_set_98 rfl ?_
            exact J99 _ (by unfold cutI; first | rw [if_pos (by omega)] | (rw [if_neg (by omega)]; first | rw [if_pos (by omega)] | rw [if_neg (by omega)]))
          · skip
            refine v_iload_n X dX8_set_93 rfl ?_
            refine v_i2s X dX8_set_94 ?_
            refine v_goto (tgt := 99) X dX8_set_95 (by decide) ?_
            exact J99 _ (by unfold cutI; first | rw [if_pos (by omega)] | (rw [if_neg (by omega)]; first | rw [if_pos (by omega)] | rw [if_neg (by omega)]))
        · skip
          refine v_iload_n X dX8_set_78 rfl ?_
          refine v_i2b X dX8_set_79 ?_
          refine v_goto (tgt := 99) X dX8_set_80 (by decide) ?_
          exact J99 _ (by unfold cutI; first | rw [if_pos (by omega)] | (rw [if_neg (by omega)]; first | rw [if_pos (by omega)] | rw [if_neg (by omega)]))
      · skip
        refine v_aload_n X dX8_set_53 rfl ?_
        refine v_iconst X dX8_set_54 ?_
        refine res_F X (run_V X (c_X8_finding (g := g) ) gX8_set_X8_finding rfl hdX8_finding ⟨(Nat.le_of_ble_eq_true rfl), (Nat.le_of_ble_eq_true rfl)⟩ ⟨(Nat.le_of_ble_eq_true rfl), (Nat.le_of_ble_eq_true rfl)⟩ 0 rfl rfl rfl [0, 1, 2, 3, 4, 5, 6, 7, 8, 9, 10] rfl rfl rfl rfl (by simp [Value.category]) dX8_set_55) [0, 1, 2, 3, 4, 5, 6, 7, 8, 9, 10] rfl rfl rfl ?_
        dsimp only [patch, List.set, wMod]
        refine v_iret X Y dX8_set_58 (u := (2, fi)) ?_ (by rfl)
        exact Or.inr ⟨by assumption, Or.inr (Or.inl ⟨by omega, by omega, rfl, rfl⟩)⟩
    · skip
      refine v_aload_n X dX8_set_29 rfl ?_
      refine v_iconst X dX8_set_30 ?_
      refine res_F X (run_V X (c_X8_finding (g := g) ) gX8_set_X8_finding rfl hdX8_finding ⟨(Nat.le_of_ble_eq_true rfl), (Nat.le_of_ble_eq_true rfl)⟩ ⟨(Nat.le_of_ble_eq_true rfl), (Nat.le_of_ble_eq_true rfl)⟩ 0 rfl rfl rfl [0, 1, 2, 3, 4, 5, 6, 7, 8, 9, 10] rfl rfl rfl rfl (by simp [Value.category]) dX8_set_31) [0, 1, 2, 3, 4, 5, 6, 7, 8, 9, 10] rfl rfl rfl ?_
      dsimp only [patch, List.set, wMod]
      refine v_iret X Y dX8_set_34 (u := (1, fi)) ?_ (by rfl)
      exact Or.inr ⟨by assumption, Or.inl ⟨by omega, rfl, rfl⟩⟩
  · skip
    refine v_ldc X (List.mem_of_getElem? (i := 2) rfl) dX8_set_12 (n := -1000001) (by decide) ?_
    refine v_iret X Y dX8_set_14 (u := (sq, fi)) ?_ (by rfl)
    exact Or.inl ⟨by omega, rfl, rfl⟩

theorem hdX8_drop : yX8_drop.cls = RX8 ∧ yX8_drop.cls ≠ "java/lang/invoke/MethodHandle" ∧ yX8_drop.cls ≠ "java/lang/invoke/VarHandle" ∧ (parseMethodDescriptor yX8_drop.desc).map (fun d => d.parameters.length) = some 1 := ⟨rfl, by decide +kernel, by decide +kernel, by decide +kernel⟩
set_option maxHeartbeats 4000000 in
set_option maxRecDepth 100000 in
theorem c_X8_drop {g : Gx} {A : Nat → Nat} {th sq ac td lt ln cu tk sa ti ft fp le lf tr : Int} {fl fm fi fc ff fw ftp fk fe fr : Nat → Int} {r : Int} (hfl : Bd (-1) 2 fl) (hfm : Bd 0 40 fm) (hfi : Bd (-2147483648) 2147483647 fi) (hr : R32 r) : CtI (S := Int × (Nat → Int)) g yX8_drop wsX8_drop 2 45 [.ref (A 0), .int (iI r)] (wMod g A th sq ac td lt ln cu tk sa ti ft fp le lf tr fl fm fi fc ff fw ftp fk fe fr) (fun w u => (¬ (0 ≤ r ∧ r < 8) ∧ w = -1000001 ∧ u = (sq, fl)) ∨ ((0 ≤ r ∧ r < 8) ∧ ((fl r.toNat < 0 ∧ w = -1000011 ∧ u = (1, fl)) ∨ (0 ≤ fl r.toNat ∧ w = fm r.toNat ∧ u = (0, updI fl r.toNat (-1)))))) (fun u => wMod g A (0) (u.1) ac td lt ln cu tk sa ti ft fp le lf tr (u.2) fm fi fc ff fw ftp fk fe fr) := by
  refine m_go (cc := cX8_drop) (nL := 2) (by decide +kernel) rfl (Nat.le_of_ble_eq_true rfl) (fun x X Y hnm => ?_)
  refine v_eq (lo2 := [some (.ref (A 0)), some (.int (iI r))]) rfl rfl rfl rfl ?_
  refine v_aload_n X dX8_drop_0 rfl ?_
  refine v_iconst X dX8_drop_1 ?_
  refine v_put X (fun _ h => List.mem_cons_of_mem _ (List.mem_append_right _ h)) tyX8 tyX8_ok nmX8 0 rfl rfl 0 (by decide) rfl (List.mem_of_getElem? (i := 1) rfl) rfl rfl rfl (Nat.le_of_ble_eq_true rfl) dX8_drop_2 ?_
  dsimp only [List.set, wMod]
  refine v_iload_n X dX8_drop_5 rfl ?_
  refine res_E X (run_S X (c_X8_isRow (g := g) (by first | assumption | omega)) gX8_drop_X8_isRow rfl hdX8_isRow.2 ⟨(Nat.le_of_ble_eq_true rfl), (Nat.le_of_ble_eq_true rfl)⟩ ⟨(Nat.le_of_ble_eq_true rfl), (Nat.le_of_ble_eq_true rfl)⟩ [] rfl rfl rfl rfl (by simp [Value.category]) dX8_drop_6) [] rfl rfl ?_
  refine v_ifb_ne (tgt := 15) X dX8_drop_9 (by decide) (fun c1 => ?_) (fun c1 => ?_)
  · skip
    refine v_aload_n X dX8_drop_15 rfl ?_
    refine v_iconst X dX8_drop_16 ?_
    refine v_put X (fun _ h => List.mem_cons_of_mem _ (List.mem_append_right _ h)) tyX8 tyX8_ok nmX8 0 rfl rfl 1 (by decide) rfl (List.mem_of_getElem? (i := 3) rfl) rfl rfl rfl (Nat.le_of_ble_eq_true rfl) dX8_drop_17 ?_
    dsimp only [List.set, wMod]
    refine v_aload_n X dX8_drop_20 rfl ?_
    refine v_get X (fun _ h => List.mem_cons_of_mem _ (List.mem_append_right _ h)) 0 rfl rfl 2 (by decide) rfl (List.mem_of_getElem? (i := 4) rfl) rfl dX8_drop_21 ?_
    refine v_iload_n X dX8_drop_24 rfl ?_
    refine v_iald X 1 rfl (by omega) (by omega) (by omega) dX8_drop_25 hfl (fun z2 ez2 lz2 uz2 => ?_)
    refine v_if_ge (tgt := 35) X dX8_drop_26 (by decide) (by omega) (fun c3 => ?_) (fun c3 => ?_)
    · skip
      refine v_aload_n X dX8_drop_35 rfl ?_
      refine v_get X (fun _ h => List.mem_cons_of_mem _ (List.mem_append_right _ h)) 0 rfl rfl 2 (by decide) rfl (List.mem_of_getElem? (i := 4) rfl) rfl dX8_drop_36 ?_
      refine v_iload_n X dX8_drop_39 rfl ?_
      refine v_iconst X dX8_drop_40 ?_
      refine v_iast X 1 rfl (by omega) (by omega) (by omega) dX8_drop_41 ?_
      dsimp only [List.set, wMod]
      refine v_aload_n X dX8_drop_42 rfl ?_
      refine v_get X (fun _ h => List.mem_cons_of_mem _ (List.mem_append_right _ h)) 0 rfl rfl 3 (by decide) rfl (List.mem_of_getElem? (i := 5) rfl) rfl dX8_drop_43 ?_
      refine v_iload_n X dX8_drop_46 rfl ?_
      refine v_iald X 2 rfl (by omega) (by omega) (by omega) dX8_drop_47 hfm (fun z4 ez4 lz4 uz4 => ?_)
      refine v_iret X Y dX8_drop_48 (u := (0, updI fl r.toNat (-1))) ?_ (by rfl)
      exact Or.inr ⟨by assumption, Or.inr ⟨by omega, by assumption, rfl⟩⟩
    · skip
      refine v_aload_n X dX8_drop_29 rfl ?_
      refine v_iconst X dX8_drop_30 ?_
      refine res_F X (run_V X (c_X8_finding (g := g) ) gX8_drop_X8_finding rfl hdX8_finding ⟨(Nat.le_of_ble_eq_true rfl), (Nat.le_of_ble_eq_true rfl)⟩ ⟨(Nat.le_of_ble_eq_true rfl), (Nat.le_of_ble_eq_true rfl)⟩ 0 rfl rfl rfl [0, 1, 2, 3, 4, 5, 6, 7, 8, 9, 10] rfl rfl rfl rfl (by simp [Value.category]) dX8_drop_31) [0, 1, 2, 3, 4, 5, 6, 7, 8, 9, 10] rfl rfl rfl ?_
      dsimp only [patch, List.set, wMod]
      refine v_iret X Y dX8_drop_34 (u := (1, fl)) ?_ (by rfl)
      exact Or.inr ⟨by assumption, Or.inl ⟨by omega, rfl, rfl⟩⟩
  · skip
    refine v_ldc X (List.mem_of_getElem? (i := 2) rfl) dX8_drop_12 (n := -1000001) (by decide) ?_
    refine v_iret X Y dX8_drop_14 (u := (sq, fl)) ?_ (by rfl)
    exact Or.inl ⟨by omega, rfl, rfl⟩

theorem hdX8_copy : yX8_copy.cls = RX8 ∧ yX8_copy.cls ≠ "java/lang/invoke/MethodHandle" ∧ yX8_copy.cls ≠ "java/lang/invoke/VarHandle" ∧ (parseMethodDescriptor yX8_copy.desc).map (fun d => d.parameters.length) = some 5 := ⟨rfl, by decide +kernel, by decide +kernel, by decide +kernel⟩
set_option maxHeartbeats 4000000 in
set_option maxRecDepth 100000 in
theorem c_X8_copy {g : Gx} {A : Nat → Nat} {th sq ac td lt ln cu tk sa ti ft fp le lf tr : Int} {fl fm fi fc ff fw ftp fk fe fr : Nat → Int} {a i b j n : Int} (hfl : Bd (-1) 2 fl) (hfm : Bd 0 40 fm) (hfi : Bd (-2147483648) 2147483647 fi) (ha : R32 a) (hi : R32 i) (hb : R32 b) (hj : R32 j) (hn : R32 n) : CtI (S := Int × (Nat → Int)) g yX8_copy wsX8_copy 2 45 [.ref (A 0), .int (iI a), .int (iI i), .int (iI b), .int (iI j), .int (iI n)] (wMod g A th sq ac td lt ln cu tk sa ti ft fp le lf tr fl fm fi fc ff fw ftp fk fe fr) (fun w u => (¬ ((0 ≤ a ∧ a < 8) ∧ (0 ≤ b ∧ b < 8)) ∧ w = -1000001 ∧ u = (sq, fi)) ∨ (((0 ≤ a ∧ a < 8) ∧ (0 ≤ b ∧ b < 8)) ∧ (((fl a.toNat < 0 ∨ fl b.toNat < 0) ∧ w = -1000011 ∧ u = (1, fi)) ∨ ((0 ≤ fl a.toNat ∧ 0 ≤ fl b.toNat) ∧ ((fl a.toNat ≠ fl b.toNat ∧ w = -1000015 ∧ u = (5, fi)) ∨ (fl a.toNat = fl b.toNat ∧ ((¬ (0 ≤ i ∧ 0 ≤ n ∧ i + n ≤ fm a.toNat ∧ 0 ≤ j ∧ j + n ≤ fm b.toNat) ∧ w = -1000012 ∧ u = (2, fi)) ∨ ((0 ≤ i ∧ 0 ≤ n ∧ i + n ≤ fm a.toNat ∧ 0 ≤ j ∧ j + n ≤ fm b.toNat) ∧ w = n ∧ u.1 = 0 ∧ ∀ x : Nat, u.2 x = if b * 40 + j ≤ (x : Int) ∧ (x : Int) < b * 40 + j + n then fi ((a * 40 + i).toNat + (x - (b * 40 + j).toNat)) else fi x)))))))) (fun u => wMod g A (0) (u.1) ac td lt ln cu tk sa ti ft fp le lf tr fl fm (u.2) fc ff fw ftp fk fe fr) := by
  refine m_go (cc := cX8_copy) (nL := 9) (by decide +kernel) rfl (Nat.le_of_ble_eq_true rfl) (fun x X Y hnm => ?_)
  refine v_eq (lo2 := [some (.ref (A 0)), some (.int (iI a)), some (.int (iI i)), some (.int (iI b)), some (.int (iI j)), some (.int (iI n)), none, none, none]) rfl rfl rfl rfl ?_
  refine v_aload_n X dX8_copy_0 rfl ?_
  refine v_iconst X dX8_copy_1 ?_
  refine v_put X (fun _ h => List.mem_cons_of_mem _ (List.mem_append_right _ h)) tyX8 tyX8_ok nmX8 0 rfl rfl 0 (by decide) rfl (List.mem_of_getElem? (i := 1) rfl) rfl rfl rfl (Nat.le_of_ble_eq_true rfl) dX8_copy_2 ?_
  dsimp only [List.set, wMod]
  refine v_iload_n X dX8_copy_5 rfl ?_
  refine res_E X (run_S X (c_X8_isRow (g := g) (by first | assumption | omega)) gX8_copy_X8_isRow rfl hdX8_isRow.2 ⟨(Nat.le_of_ble_eq_true rfl), (Nat.le_of_ble_eq_true rfl)⟩ ⟨(Nat.le_of_ble_eq_true rfl), (Nat.le_of_ble_eq_true rfl)⟩ [] rfl rfl rfl rfl (by simp [Value.category]) dX8_copy_6) [] rfl rfl ?_
  refine v_ifb_eq (tgt := 19) X dX8_copy_9 (by decide) (fun c1 => ?_) (fun c1 => ?_)
  · skip
    refine v_ldc X (List.mem_of_getElem? (i := 2) rfl) dX8_copy_19 (n := -1000001) (by decide) ?_
    refine v_iret X Y dX8_copy_21 (u := (sq, fi)) ?_ (by rfl)
    exact Or.inl ⟨by omega, rfl, rfl⟩
  · skip
    refine v_iload_n X dX8_copy_12 rfl ?_
    refine res_E X (run_S X (c_X8_isRow (g := g) (by first | assumption | omega)) gX8_copy_X8_isRow rfl hdX8_isRow.2 ⟨(Nat.le_of_ble_eq_true rfl), (Nat.le_of_ble_eq_true rfl)⟩ ⟨(Nat.le_of_ble_eq_true rfl), (Nat.le_of_ble_eq_true rfl)⟩ [] rfl rfl rfl rfl (by simp [Value.category]) dX8_copy_13) [] rfl rfl ?_
    refine v_ifb_ne (tgt := 22) X dX8_copy_16 (by decide) (fun c2 => ?_) (fun c2 => ?_)
    · skip
      refine v_aload_n X dX8_copy_22 rfl ?_
      refine v_iconst X dX8_copy_23 ?_
      refine v_put X (fun _ h => List.mem_cons_of_mem _ (List.mem_append_right _ h)) tyX8 tyX8_ok nmX8 0 rfl rfl 1 (by decide) rfl (List.mem_of_getElem? (i := 3) rfl) rfl rfl rfl (Nat.le_of_ble_eq_true rfl) dX8_copy_24 ?_
      dsimp only [List.set, wMod]
      have g1 := hfm a.toNat
      have g2 := hfm b.toNat
      refine v_aload_n X dX8_copy_27 rfl ?_
      refine v_get X (fun _ h => List.mem_cons_of_mem _ (List.mem_append_right _ h)) 0 rfl rfl 2 (by decide) rfl (List.mem_of_getElem? (i := 4) rfl) rfl dX8_copy_28 ?_
      refine v_iload_n X dX8_copy_31 rfl ?_
      refine v_iald X 1 rfl (by omega) (by omega) (by omega) dX8_copy_32 hfl (fun z3 ez3 lz3 uz3 => ?_)
      refine v_if_lt (tgt := 45) X dX8_copy_33 (by decide) (by omega) (fun c4 => ?_) (fun c4 => ?_)
      · skip
        refine v_aload_n X dX8_copy_45 rfl ?_
        refine v_iconst X dX8_copy_46 ?_
        refine res_F X (run_V X (c_X8_finding (g := g) ) gX8_copy_X8_finding rfl hdX8_finding ⟨(Nat.le_of_ble_eq_true rfl), (Nat.le_of_ble_eq_true rfl)⟩ ⟨(Nat.le_of_ble_eq_true rfl), (Nat.le_of_ble_eq_true rfl)⟩ 0 rfl rfl rfl [0, 1, 2, 3, 4, 5, 6, 7, 8, 9, 10] rfl rfl rfl rfl (by simp [Value.category]) dX8_copy_47) [0, 1, 2, 3, 4, 5, 6, 7, 8, 9, 10] rfl rfl rfl ?_
        dsimp only [patch, List.set, wMod]
        refine v_iret X Y dX8_copy_50 (u := (1, fi)) ?_ (by rfl)
        exact Or.inr ⟨by omega, Or.inl ⟨by omega, rfl, rfl⟩⟩
      · skip
        refine v_aload_n X dX8_copy_36 rfl ?_
        refine v_get X (fun _ h => List.mem_cons_of_mem _ (List.mem_append_right _ h)) 0 rfl rfl 2 (by decide) rfl (List.mem_of_getElem? (i := 4) rfl) rfl dX8_copy_37 ?_
        refine v_iload_n X dX8_copy_40 rfl ?_
        refine v_iald X 1 rfl (by omega) (by omega) (by omega) dX8_copy_41 hfl (fun z5 ez5 lz5 uz5 => ?_)
        refine v_if_ge (tgt := 51) X dX8_copy_42 (by decide) (by omega) (fun c6 => ?_) (fun c6 => ?_)
        · skip
          refine v_aload_n X dX8_copy_51 rfl ?_
          refine v_get X (fun _ h => List.mem_cons_of_mem _ (List.mem_append_right _ h)) 0 rfl rfl 2 (by decide) rfl (List.mem_of_getElem? (i := 4) rfl) rfl dX8_copy_52 ?_
          refine v_iload_n X dX8_copy_55 rfl ?_
          refine v_iald X 1 rfl (by omega) (by omega) (by omega) dX8_copy_56 hfl (fun z7 ez7 lz7 uz7 => ?_)
          refine v_aload_n X dX8_copy_57 rfl ?_
          refine v_get X (fun _ h => List.mem_cons_of_mem _ (List.mem_append_right _ h)) 0 rfl rfl 2 (by decide) rfl (List.mem_of_getElem? (i := 4) rfl) rfl dX8_copy_58 ?_
          refine v_iload_n X dX8_copy_61 rfl ?_
          refine v_iald X 1 rfl (by omega) (by omega) (by omega) dX8_copy_62 hfl (fun z8 ez8 lz8 uz8 => ?_)
          refine v_icmp_eq (tgt := 72) X dX8_copy_63 (by decide) (by omega) (by omega) (fun c9 => ?_) (fun c9 => ?_)
          · skip
            refine v_iload_n X dX8_copy_72 rfl ?_
            refine v_if_lt (tgt := 121) X dX8_copy_73 (by decide) (by omega) (fun c10 => ?_) (fun c10 => ?_)
            · skip
              refine v_aload_n X dX8_copy_121 rfl ?_
              refine v_iconst X dX8_copy_122 ?_
              refine res_F X (run_V X (c_X8_finding (g := g) ) gX8_copy_X8_finding rfl hdX8_finding ⟨(Nat.le_of_ble_eq_true rfl), (Nat.le_of_ble_eq_true rfl)⟩ ⟨(Nat.le_of_ble_eq_true rfl), (Nat.le_of_ble_eq_true rfl)⟩ 0 rfl rfl rfl [0, 1, 2, 3, 4, 5, 6, 7, 8, 9, 10] rfl rfl rfl rfl (by simp [Value.category]) dX8_copy_123) [0, 1, 2, 3, 4, 5, 6, 7, 8, 9, 10] rfl rfl rfl ?_
              dsimp only [patch, List.set, wMod]
              refine v_iret X Y dX8_copy_126 (u := (2, fi)) ?_ (by rfl)
              exact Or.inr ⟨by omega, Or.inr ⟨by omega, Or.inr ⟨by omega, Or.inl ⟨by omega, rfl, rfl⟩⟩⟩⟩
            · skip
              refine v_iload X dX8_copy_76 rfl ?_
              refine v_if_lt (tgt := 121) X dX8_copy_78 (by decide) (by omega) (fun c11 => ?_) (fun c11 => ?_)
              · skip
                refine v_aload_n X dX8_copy_121 rfl ?_
                refine v_iconst X dX8_copy_122 ?_
                refine res_F X (run_V X (c_X8_finding (g := g) ) gX8_copy_X8_finding rfl hdX8_finding ⟨(Nat.le_of_ble_eq_true rfl), (Nat.le_of_ble_eq_true rfl)⟩ ⟨(Nat.le_of_ble_eq_true rfl), (Nat.le_of_ble_eq_true rfl)⟩ 0 rfl rfl rfl [0, 1, 2, 3, 4, 5, 6, 7, 8, 9, 10] rfl rfl rfl rfl (by simp [Value.category]) dX8_copy_123) [0, 1, 2, 3, 4, 5, 6, 7, 8, 9, 10] rfl rfl rfl ?_
                dsimp only [patch, List.set, wMod]
                refine v_iret X Y dX8_copy_126 (u := (2, fi)) ?_ (by rfl)
                exact Or.inr ⟨by omega, Or.inr ⟨by omega, Or.inr ⟨by omega, Or.inl ⟨by omega, rfl, rfl⟩⟩⟩⟩
              · skip
                refine v_iload X dX8_copy_81 rfl ?_
                refine v_if_lt (tgt := 121) X dX8_copy_83 (by decide) (by omega) (fun c12 => ?_) (fun c12 => ?_)
                · skip
                  refine v_aload_n X dX8_copy_121 rfl ?_
                  refine v_iconst X dX8_copy_122 ?_
                  refine res_F X (run_V X (c_X8_finding (g := g) ) gX8_copy_X8_finding rfl hdX8_finding ⟨(Nat.le_of_ble_eq_true rfl), (Nat.le_of_ble_eq_true rfl)⟩ ⟨(Nat.le_of_ble_eq_true rfl), (Nat.le_of_ble_eq_true rfl)⟩ 0 rfl rfl rfl [0, 1, 2, 3, 4, 5, 6, 7, 8, 9, 10] rfl rfl rfl rfl (by simp [Value.category]) dX8_copy_123) [0, 1, 2, 3, 4, 5, 6, 7, 8, 9, 10] rfl rfl rfl ?_
                  dsimp only [patch, List.set, wMod]
                  refine v_iret X Y dX8_copy_126 (u := (2, fi)) ?_ (by rfl)
                  exact Or.inr ⟨by omega, Or.inr ⟨by omega, Or.inr ⟨by omega, Or.inl ⟨by omega, rfl, rfl⟩⟩⟩⟩
                · skip
                  refine v_iload_n X dX8_copy_86 rfl ?_
                  refine v_i2l X dX8_copy_87 (by omega) ?_
                  refine v_iload X dX8_copy_88 rfl ?_
                  refine v_i2l X dX8_copy_90 (by omega) ?_
                  refine v_ladd X dX8_copy_91 ?_
                  refine v_aload_n X dX8_copy_92 rfl ?_
                  refine v_get X (fun _ h => List.mem_cons_of_mem _ (List.mem_append_right _ h)) 0 rfl rfl 3 (by decide) rfl (List.mem_of_getElem? (i := 5) rfl) rfl dX8_copy_93 ?_
                  refine v_iload_n X dX8_copy_96 rfl ?_
                  refine v_iald X 2 rfl (by omega) (by omega) (by omega) dX8_copy_97 hfm (fun z13 ez13 lz13 uz13 => ?_)
                  refine v_i2l X dX8_copy_98 (by omega) ?_
                  refine v_lcmp X dX8_copy_99 (by omega) (by omega) (fun c14 => ?_) (fun c14 => ?_) (fun c14 => ?_)
                  · skip
                    refine v_if_gt (tgt := 121) X dX8_copy_100 (by decide) (by decide) (fun hh => ?_) (fun hh => ?_)
                    · skip
                      refine v_aload_n X dX8_copy_121 rfl ?_
                      refine v_iconst X dX8_copy_122 ?_
                      refine res_F X (run_V X (c_X8_finding (g := g) ) gX8_copy_X8_finding rfl hdX8_finding ⟨(Nat.le_of_ble_eq_true rfl), (Nat.le_of_ble_eq_true rfl)⟩ ⟨(Nat.le_of_ble_eq_true rfl), (Nat.le_of_ble_eq_true rfl)⟩ 0 rfl rfl rfl [0, 1, 2, 3, 4, 5, 6, 7, 8, 9, 10] rfl rfl rfl rfl (by simp [Value.category]) dX8_copy_123) [0, 1, 2, 3, 4, 5, 6, 7, 8, 9, 10] rfl rfl rfl ?_
                      dsimp only [patch, List.set, wMod]
                      refine v_iret X Y dX8_copy_126 (u := (2, fi)) ?_ (by rfl)
                      exact Or.inr ⟨by omega, Or.inr ⟨by omega, Or.inr ⟨by omega, Or.inl ⟨by omega, rfl, rfl⟩⟩⟩⟩
                    · skip
                      exfalso; omega
                  · skip
                    refine v_if_gt (tgt := 121) X dX8_copy_100 (by decide) (by decide) (fun hh => ?_) (fun hh => ?_)
                    · skip
                      exfalso; omega
                    · skip
                      refine v_iload X dX8_copy_103 rfl ?_
                      refine v_i2l X dX8_copy_105 (by omega) ?_
                      refine v_iload X dX8_copy_106 rfl ?_
                      refine v_i2l X dX8_copy_108 (by omega) ?_
                      refine v_ladd X dX8_copy_109 ?_
                      refine v_aload_n X dX8_copy_110 rfl ?_
                      refine v_get X (fun _ h => List.mem_cons_of_mem _ (List.mem_append_right _ h)) 0 rfl rfl 3 (by decide) rfl (List.mem_of_getElem? (i := 5) rfl) rfl dX8_copy_111 ?_
                      refine v_iload_n X dX8_copy_114 rfl ?_
                      refine v_iald X 2 rfl (by omega) (by omega) (by omega) dX8_copy_115 hfm (fun z15 ez15 lz15 uz15 => ?_)
                      refine v_i2l X dX8_copy_116 (by omega) ?_
                      refine v_lcmp X dX8_copy_117 (by omega) (by omega) (fun c16 => ?_) (fun c16 => ?_) (fun c16 => ?_)
                      · skip
                        refine v_if_le (tgt := 127) X dX8_copy_118 (by decide) (by decide) (fun hh => ?_) (fun hh => ?_)
                        · skip
                          exfalso; omega
                        · skip
                          refine v_aload_n X dX8_copy_121 rfl ?_
                          refine v_iconst X dX8_copy_122 ?_
                          refine res_F X (run_V X (c_X8_finding (g := g) ) gX8_copy_X8_finding rfl hdX8_finding ⟨(Nat.le_of_ble_eq_true rfl), (Nat.le_of_ble_eq_true rfl)⟩ ⟨(Nat.le_of_ble_eq_true rfl), (Nat.le_of_ble_eq_true rfl)⟩ 0 rfl rfl rfl [0, 1, 2, 3, 4, 5, 6, 7, 8, 9, 10] rfl rfl rfl rfl (by simp [Value.category]) dX8_copy_123) [0, 1, 2, 3, 4, 5, 6, 7, 8, 9, 10] rfl rfl rfl ?_
                          dsimp only [patch, List.set, wMod]
                          refine v_iret X Y dX8_copy_126 (u := (2, fi)) ?_ (by rfl)
                          exact Or.inr ⟨by omega, Or.inr ⟨by omega, Or.inr ⟨by omega, Or.inl ⟨by omega, rfl, rfl⟩⟩⟩⟩
                      · skip
                        refine v_if_le (tgt := 127) X dX8_copy_118 (by decide) (by decide) (fun hh => ?_) (fun hh => ?_)
                        · skip
                          refine v_iload_n X dX8_copy_127 rfl ?_
                          refine v_iload X dX8_copy_128 rfl ?_
                          refine v_icmp_lt (tgt := 137) X dX8_copy_130 (by decide) (by omega) (by omega) (fun c17 => ?_) (fun c17 => ?_)
                          · skip
                            refine v_iconst X dX8_copy_137 ?_
                            refine v_istore X dX8_copy_138 (by decide) rfl ?_
                            dsimp only [List.set]
                            refine v_iconst X dX8_copy_140 ?_
                            refine v_istore X dX8_copy_141 (by decide) rfl ?_
                            dsimp only [List.set]
                            have L143 : ∀ (nf : Nat) (f : Nat → Int) (u : Int) (k : Int) (h1 : 0 ≤ k ∧ k ≤ n) (hu : (u = 1 ∧ j ≤ i) ∨ (u = 0 ∧ i < j)) (h2 : ∀ x : Nat, f x = if b * 40 + j + (if u = 1 then 0 else n - k) ≤ (x : Int) ∧ (x : Int) < b * 40 + j + (if u = 1 then k else n) then fi ((a * 40 + i).toNat + (x - (b * 40 + j).toNat)) else fi x) (h3 : Bd (-2147483648) 2147483647 f) (_ : (n - k).toNat < nf), V g x 0 0 (wMod g A (0) (0) ac td lt ln cu tk sa ti ft fp le lf tr fl fm (f) fc ff fw ftp fk fe fr) [some (.ref (A 0)), some (.int (iI a)), some (.int (iI i)), some (.int (iI b)), some (.int (iI j)), some (.int (iI n)), some (.int (iI u)), some (.int (iI k)), none] 143 [] := by
                              intro nf
                              induction nf with
                              | zero => intro f u k h1 hu h2 h3 hmu; exact absurd hmu (Nat.not_lt_zero _)
                              | succ nf ih143 =>
                                intro f u k h1 hu h2 h3 hmu
                                refine v_iload X dX8_copy_143 rfl ?_
                                refine v_iload X dX8_copy_145 rfl ?_
                                refine v_icmp_ge (tgt := 204) X dX8_copy_147 (by decide) (by omega) (by omega) (fun c18 => ?_) (fun c18 => ?_)
                                · skip
                                  refine v_iload X dX8_copy_204 rfl ?_
                                  refine v_iret X Y dX8_copy_206 (u := (0, f)) ?_ (by rfl)
                                  refine Or.inr ⟨by omega, Or.inr ⟨by omega, Or.inr ⟨by omega, Or.inr ⟨by omega, rfl, rfl, ?_⟩⟩⟩⟩
                                  intro x
                                  show f x = _
                                  have e : k = n := by omega
                                  have q := h2 x
                                  rcases hu with hu | hu
                                  · rw [q]; simp only [hu.1, e, if_true, Int.add_zero]
                                  · rw [q]; simp only [hu.1, e, if_false, Int.sub_self, Int.add_zero, show ¬ (0 : Int) = 1 by omega]
                                · skip
                                  refine v_iload X dX8_copy_150 rfl ?_
                                  refine v_if_eq (tgt := 160) X dX8_copy_152 (by decide) (by omega) (fun c19 => ?_) (fun c19 => ?_)
                                  · skip
                                    refine v_iload X dX8_copy_160 rfl ?_
                                    refine v_iconst X dX8_copy_162 ?_
                                    refine v_isub X dX8_copy_163 ?_
                                    refine v_iload X dX8_copy_164 rfl ?_
                                    refine v_isub X dX8_copy_166 ?_
                                    refine v_istore X dX8_copy_167 (by decide) rfl ?_
                                    dsimp only [List.set]
                                    refine v_aload_n X dX8_copy_169 rfl ?_
                                    refine v_get X (fun _ h => List.mem_cons_of_mem _ (List.mem_append_right _ h)) 0 rfl rfl 4 (by decide) rfl (List.mem_of_getElem? (i := 6) rfl) rfl dX8_copy_170 ?_
                                    refine v_bipush X dX8_copy_173 (by decide) ?_
                                    refine v_iload_n X dX8_copy_175 rfl ?_
                                    refine v_imul X dX8_copy_176 ?_
                                    refine v_iload X dX8_copy_177 rfl ?_
                                    refine v_iadd X dX8_copy_179 ?_
                                    refine v_iload X dX8_copy_180 rfl ?_
                                    refine v_iadd X dX8_copy_182 ?_
                                    refine v_aload_n X dX8_copy_183 rfl ?_
                                    refine v_get X (fun _ h => List.mem_cons_of_mem _ (List.mem_append_right _ h)) 0 rfl rfl 4 (by decide) rfl (List.mem_of_getElem? (i := 6) rfl) rfl dX8_copy_184 ?_
                                    refine v_bipush X dX8_copy_187 (by decide) ?_
                                    refine v_iload_n X dX8_copy_189 rfl ?_
                                    refine v_imul X dX8_copy_190 ?_
                                    refine v_iload_n X dX8_copy_191 rfl ?_
                                    refine v_iadd X dX8_copy_192 ?_
                                    refine v_iload X dX8_copy_193 rfl ?_
                                    refine v_iadd X dX8_copy_195 ?_
                                    refine v_iald X 3 rfl (by omega) (by omega) (by omega) dX8_copy_196 h3 (fun zz ezz lzz uzz => ?_)
                                    refine v_iast X 3 rfl (by omega) (by omega) (by omega) dX8_copy_197 ?_
                                    dsimp only [List.set, wMod]
                                    refine v_iinc X dX8_copy_198 rfl (by decide) rfl ?_
                                    dsimp only [List.set]
                                    refine v_goto (tgt := 143) X dX8_copy_201 (by decide) ?_
                                    refine v_drop 8 ?_
                                    dsimp only [List.set]
                                    exact ih143 _ _ _ (by omega) (by omega) (by
                                        first
                                        | exact cpy_up hu h1 h2 g1 g2 (by omega) ezz
                                        | exact cpy_dn hu h1 h2 g1 g2 (by omega) ezz) (by exact Bd_up h3 (by omega) (by omega)) (by omega)
                                  · skip
                                    refine v_iload X dX8_copy_155 rfl ?_
                                    refine v_goto (tgt := 167) X dX8_copy_157 (by decide) ?_
                                    refine v_istore X dX8_copy_167 (by decide) rfl ?_
                                    dsimp only [List.set]
                                    refine v_aload_n X dX8_copy_169 rfl ?_
                                    refine v_get X (fun _ h => List.mem_cons_of_mem _ (List.mem_append_right _ h)) 0 rfl rfl 4 (by decide) rfl (List.mem_of_getElem? (i := 6) rfl) rfl dX8_copy_170 ?_
                                    refine v_bipush X dX8_copy_173 (by decide) ?_
                                    refine v_iload_n X dX8_copy_175 rfl ?_
                                    refine v_imul X dX8_copy_176 ?_
                                    refine v_iload X dX8_copy_177 rfl ?_
                                    refine v_iadd X dX8_copy_179 ?_
                                    refine v_iload X dX8_copy_180 rfl ?_
                                    refine v_iadd X dX8_copy_182 ?_
                                    refine v_aload_n X dX8_copy_183 rfl ?_
                                    refine v_get X (fun _ h => List.mem_cons_of_mem _ (List.mem_append_right _ h)) 0 rfl rfl 4 (by decide) rfl (List.mem_of_getElem? (i := 6) rfl) rfl dX8_copy_184 ?_
                                    refine v_bipush X dX8_copy_187 (by decide) ?_
                                    refine v_iload_n X dX8_copy_189 rfl ?_
                                    refine v_imul X dX8_copy_190 ?_
                                    refine v_iload_n X dX8_copy_191 rfl ?_
                                    refine v_iadd X dX8_copy_192 ?_
                                    refine v_iload X dX8_copy_193 rfl ?_
                                    refine v_iadd X dX8_copy_195 ?_
                                    refine v_iald X 3 rfl (by omega) (by omega) (by omega) dX8_copy_196 h3 (fun zz ezz lzz uzz => ?_)
                                    refine v_iast X 3 rfl (by omega) (by omega) (by omega) dX8_copy_197 ?_
                                    dsimp only [List.set, wMod]
                                    refine v_iinc X dX8_copy_198 rfl (by decide) rfl ?_
                                    dsimp only [List.set]
                                    refine v_goto (tgt := 143) X dX8_copy_201 (by decide) ?_
                                    refine v_drop 8 ?_
                                    dsimp only [List.set]
                                    exact ih143 _ _ _ (by omega) (by omega) (by
                                        first
                                        | exact cpy_up hu h1 h2 g1 g2 (by omega) ezz
                                        | exact cpy_dn hu h1 h2 g1 g2 (by omega) ezz) (by exact Bd_up h3 (by omega) (by omega)) (by omega)
                            exact L143 _ _ _ _ (by omega) (by omega) (by intro x; rw [if_neg (by split <;> omega)]) (by assumption) (Nat.lt_succ_self _)
                          · skip
                            refine v_iconst X dX8_copy_133 ?_
                            refine v_goto (tgt := 138) X dX8_copy_134 (by decide) ?_
                            refine v_istore X dX8_copy_138 (by decide) rfl ?_
                            dsimp only [List.set]
                            refine v_iconst X dX8_copy_140 ?_
                            refine v_istore X dX8_copy_141 (by decide) rfl ?_
                            dsimp only [List.set]
                            have L143 : ∀ (nf : Nat) (f : Nat → Int) (u : Int) (k : Int) (h1 : 0 ≤ k ∧ k ≤ n) (hu : (u = 1 ∧ j ≤ i) ∨ (u = 0 ∧ i < j)) (h2 : ∀ x : Nat, f x = if b * 40 + j + (if u = 1 then 0 else n - k) ≤ (x : Int) ∧ (x : Int) < b * 40 + j + (if u = 1 then k else n) then fi ((a * 40 + i).toNat + (x - (b * 40 + j).toNat)) else fi x) (h3 : Bd (-2147483648) 2147483647 f) (_ : (n - k).toNat < nf), V g x 0 0 (wMod g A (0) (0) ac td lt ln cu tk sa ti ft fp le lf tr fl fm (f) fc ff fw ftp fk fe fr) [some (.ref (A 0)), some (.int (iI a)), some (.int (iI i)), some (.int (iI b)), some (.int (iI j)), some (.int (iI n)), some (.int (iI u)), some (.int (iI k)), none] 143 [] := by
                              intro nf
                              induction nf with
                              | zero => intro f u k h1 hu h2 h3 hmu; exact absurd hmu (Nat.not_lt_zero _)
                              | succ nf ih143 =>
                                intro f u k h1 hu h2 h3 hmu
                                refine v_iload X dX8_copy_143 rfl ?_
                                refine v_iload X dX8_copy_145 rfl ?_
                                refine v_icmp_ge (tgt := 204) X dX8_copy_147 (by decide) (by omega) (by omega) (fun c22 => ?_) (fun c22 => ?_)
                                · skip
                                  refine v_iload X dX8_copy_204 rfl ?_
                                  refine v_iret X Y dX8_copy_206 (u := (0, f)) ?_ (by rfl)
                                  refine Or.inr ⟨by omega, Or.inr ⟨by omega, Or.inr ⟨by omega, Or.inr ⟨by omega, rfl, rfl, ?_⟩⟩⟩⟩
                                  intro x
                                  show f x = _
                                  have e : k = n := by omega
                                  have q := h2 x
                                  rcases hu with hu | hu
                                  · rw [q]; simp only [hu.1, e, if_true, Int.add_zero]
                                  · rw [q]; simp only [hu.1, e, if_false, Int.sub_self, Int.add_zero, show ¬ (0 : Int) = 1 by omega]
                                · skip
                                  refine v_iload X dX8_copy_150 rfl ?_
                                  refine v_if_eq (tgt := 160) X dX8_copy_152 (by decide) (by omega) (fun c23 => ?_) (fun c23 => ?_)
                                  · skip
                                    refine v_iload X dX8_copy_160 rfl ?_
                                    refine v_iconst X dX8_copy_162 ?_
                                    refine v_isub X dX8_copy_163 ?_
                                    refine v_iload X dX8_copy_164 rfl ?_
                                    refine v_isub X dX8_copy_166 ?_
                                    refine v_istore X dX8_copy_167 (by decide) rfl ?_
                                    dsimp only [List.set]
                                    refine v_aload_n X dX8_copy_169 rfl ?_
                                    refine v_get X (fun _ h => List.mem_cons_of_mem _ (List.mem_append_right _ h)) 0 rfl rfl 4 (by decide) rfl (List.mem_of_getElem? (i := 6) rfl) rfl dX8_copy_170 ?_
                                    refine v_bipush X dX8_copy_173 (by decide) ?_
                                    refine v_iload_n X dX8_copy_175 rfl ?_
                                    refine v_imul X dX8_copy_176 ?_
                                    refine v_iload X dX8_copy_177 rfl ?_
                                    refine v_iadd X dX8_copy_179 ?_
                                    refine v_iload X dX8_copy_180 rfl ?_
                                    refine v_iadd X dX8_copy_182 ?_
                                    refine v_aload_n X dX8_copy_183 rfl ?_
                                    refine v_get X (fun _ h => List.mem_cons_of_mem _ (List.mem_append_right _ h)) 0 rfl rfl 4 (by decide) rfl (List.mem_of_getElem? (i := 6) rfl) rfl dX8_copy_184 ?_
                                    refine v_bipush X dX8_copy_187 (by decide) ?_
                                    refine v_iload_n X dX8_copy_189 rfl ?_
                                    refine v_imul X dX8_copy_190 ?_
                                    refine v_iload_n X dX8_copy_191 rfl ?_
                                    refine v_iadd X dX8_copy_192 ?_
                                    refine v_iload X dX8_copy_193 rfl ?_
                                    refine v_iadd X dX8_copy_195 ?_
                                    refine v_iald X 3 rfl (by omega) (by omega) (by omega) dX8_copy_196 h3 (fun zz ezz lzz uzz => ?_)
                                    refine v_iast X 3 rfl (by omega) (by omega) (by omega) dX8_copy_197 ?_
                                    dsimp only [List.set, wMod]
                                    refine v_iinc X dX8_copy_198 rfl (by decide) rfl ?_
                                    dsimp only [List.set]
                                    refine v_goto (tgt := 143) X dX8_copy_201 (by decide) ?_
                                    refine v_drop 8 ?_
                                    dsimp only [List.set]
                                    exact ih143 _ _ _ (by omega) (by omega) (by
                                        first
                                        | exact cpy_up hu h1 h2 g1 g2 (by omega) ezz
                                        | exact cpy_dn hu h1 h2 g1 g2 (by omega) ezz) (by exact Bd_up h3 (by omega) (by omega)) (by omega)
                                  · skip
                                    refine v_iload X dX8_copy_155 rfl ?_
                                    refine v_goto (tgt := 167) X dX8_copy_157 (by decide) ?_
                                    refine v_istore X dX8_copy_167 (by decide) rfl ?_
                                    dsimp only [List.set]
                                    refine v_aload_n X dX8_copy_169 rfl ?_
                                    refine v_get X (fun _ h => List.mem_cons_of_mem _ (List.mem_append_right _ h)) 0 rfl rfl 4 (by decide) rfl (List.mem_of_getElem? (i := 6) rfl) rfl dX8_copy_170 ?_
                                    refine v_bipush X dX8_copy_173 (by decide) ?_
                                    refine v_iload_n X dX8_copy_175 rfl ?_
                                    refine v_imul X dX8_copy_176 ?_
                                    refine v_iload X dX8_copy_177 rfl ?_
                                    refine v_iadd X dX8_copy_179 ?_
                                    refine v_iload X dX8_copy_180 rfl ?_
                                    refine v_iadd X dX8_copy_182 ?_
                                    refine v_aload_n X dX8_copy_183 rfl ?_
                                    refine v_get X (fun _ h => List.mem_cons_of_mem _ (List.mem_append_right _ h)) 0 rfl rfl 4 (by decide) rfl (List.mem_of_getElem? (i := 6) rfl) rfl dX8_copy_184 ?_
                                    refine v_bipush X dX8_copy_187 (by decide) ?_
                                    refine v_iload_n X dX8_copy_189 rfl ?_
                                    refine v_imul X dX8_copy_190 ?_
                                    refine v_iload_n X dX8_copy_191 rfl ?_
                                    refine v_iadd X dX8_copy_192 ?_
                                    refine v_iload X dX8_copy_193 rfl ?_
                                    refine v_iadd X dX8_copy_195 ?_
                                    refine v_iald X 3 rfl (by omega) (by omega) (by omega) dX8_copy_196 h3 (fun zz ezz lzz uzz => ?_)
                                    refine v_iast X 3 rfl (by omega) (by omega) (by omega) dX8_copy_197 ?_
                                    dsimp only [List.set, wMod]
                                    refine v_iinc X dX8_copy_198 rfl (by decide) rfl ?_
                                    dsimp only [List.set]
                                    refine v_goto (tgt := 143) X dX8_copy_201 (by decide) ?_
                                    refine v_drop 8 ?_
                                    dsimp only [List.set]
                                    exact ih143 _ _ _ (by omega) (by omega) (by
                                        first
                                        | exact cpy_up hu h1 h2 g1 g2 (by omega) ezz
                                        | exact cpy_dn hu h1 h2 g1 g2 (by omega) ezz) (by exact Bd_up h3 (by omega) (by omega)) (by omega)
                            exact L143 _ _ _ _ (by omega) (by omega) (by intro x; rw [if_neg (by split <;> omega)]) (by assumption) (Nat.lt_succ_self _)
                        · skip
                          exfalso; omega
                      · skip
                        refine v_if_le (tgt := 127) X dX8_copy_118 (by decide) (by decide) (fun hh => ?_) (fun hh => ?_)
                        · skip
                          refine v_iload_n X dX8_copy_127 rfl ?_
                          refine v_iload X dX8_copy_128 rfl ?_
                          refine v_icmp_lt (tgt := 137) X dX8_copy_130 (by decide) (by omega) (by omega) (fun c26 => ?_) (fun c26 => ?_)
                          · skip
                            refine v_iconst X dX8_copy_137 ?_
                            refine v_istore X dX8_copy_138 (by decide) rfl ?_
                            dsimp only [List.set]
                            refine v_iconst X dX8_copy_140 ?_
                            refine v_istore X dX8_copy_141 (by decide) rfl ?_
                            dsimp only [List.set]
                            have L143 : ∀ (nf : Nat) (f : Nat → Int) (u : Int) (k : Int) (h1 : 0 ≤ k ∧ k ≤ n) (hu : (u = 1 ∧ j ≤ i) ∨ (u = 0 ∧ i < j)) (h2 : ∀ x : Nat, f x = if b * 40 + j + (if u = 1 then 0 else n - k) ≤ (x : Int) ∧ (x : Int) < b * 40 + j + (if u = 1 then k else n) then fi ((a * 40 + i).toNat + (x - (b * 40 + j).toNat)) else fi x) (h3 : Bd (-2147483648) 2147483647 f) (_ : (n - k).toNat < nf), V g x 0 0 (wMod g A (0) (0) ac td lt ln cu tk sa ti ft fp le lf tr fl fm (f) fc ff fw ftp fk fe fr) [some (.ref (A 0)), some (.int (iI a)), some (.int (iI i)), some (.int (iI b)), some (.int (iI j)), some (.int (iI n)), some (.int (iI u)), some (.int (iI k)), none] 143 [] := by
                              intro nf
                              induction nf with
                              | zero => intro f u k h1 hu h2 h3 hmu; exact absurd hmu (Nat.not_lt_zero _)
                              | succ nf ih143 =>
                                intro f u k h1 hu h2 h3 hmu
                                refine v_iload X dX8_copy_143 rfl ?_
                                refine v_iload X dX8_copy_145 rfl ?_
                                refine v_icmp_ge (tgt := 204) X dX8_copy_147 (by decide) (by omega) (by omega) (fun c27 => ?_) (fun c27 => ?_)
                                · skip
                                  refine v_iload X dX8_copy_204 rfl ?_
                                  refine v_iret X Y dX8_copy_206 (u := (0, f)) ?_ (by rfl)
                                  refine Or.inr ⟨by omega, Or.inr ⟨by omega, Or.inr ⟨by omega, Or.inr ⟨by omega, rfl, rfl, ?_⟩⟩⟩⟩
                                  intro x
                                  show f x = _
                                  have e : k = n := by omega
                                  have q := h2 x
                                  rcases hu with hu | hu
                                  · rw [q]; simp only [hu.1, e, if_true, Int.add_zero]
                                  · rw [q]; simp only [hu.1, e, if_false, Int.sub_self, Int.add_zero, show ¬ (0 : Int) = 1 by omega]
                                · skip
                                  refine v_iload X dX8_copy_150 rfl ?_
                                  refine v_if_eq (tgt := 160) X dX8_copy_152 (by decide) (by omega) (fun c28 => ?_) (fun c28 => ?_)
                                  · skip
                                    refine v_iload X dX8_copy_160 rfl ?_
                                    refine v_iconst X dX8_copy_162 ?_
                                    refine v_isub X dX8_copy_163 ?_
                                    refine v_iload X dX8_copy_164 rfl ?_
                                    refine v_isub X dX8_copy_166 ?_
                                    refine v_istore X dX8_copy_167 (by decide) rfl ?_
                                    dsimp only [List.set]
                                    refine v_aload_n X dX8_copy_169 rfl ?_
                                    refine v_get X (fun _ h => List.mem_cons_of_mem _ (List.mem_append_right _ h)) 0 rfl rfl 4 (by decide) rfl (List.mem_of_getElem? (i := 6) rfl) rfl dX8_copy_170 ?_
                                    refine v_bipush X dX8_copy_173 (by decide) ?_
                                    refine v_iload_n X dX8_copy_175 rfl ?_
                                    refine v_imul X dX8_copy_176 ?_
                                    refine v_iload X dX8_copy_177 rfl ?_
                                    refine v_iadd X dX8_copy_179 ?_
                                    refine v_iload X dX8_copy_180 rfl ?_
                                    refine v_iadd X dX8_copy_182 ?_
                                    refine v_aload_n X dX8_copy_183 rfl ?_
                                    refine v_get X (fun _ h => List.mem_cons_of_mem _ (List.mem_append_right _ h)) 0 rfl rfl 4 (by decide) rfl (List.mem_of_getElem? (i := 6) rfl) rfl dX8_copy_184 ?_
                                    refine v_bipush X dX8_copy_187 (by decide) ?_
                                    refine v_iload_n X dX8_copy_189 rfl ?_
                                    refine v_imul X dX8_copy_190 ?_
                                    refine v_iload_n X dX8_copy_191 rfl ?_
                                    refine v_iadd X dX8_copy_192 ?_
                                    refine v_iload X dX8_copy_193 rfl ?_
                                    refine v_iadd X dX8_copy_195 ?_
                                    refine v_iald X 3 rfl (by omega) (by omega) (by omega) dX8_copy_196 h3 (fun zz ezz lzz uzz => ?_)
                                    refine v_iast X 3 rfl (by omega) (by omega) (by omega) dX8_copy_197 ?_
                                    dsimp only [List.set, wMod]
                                    refine v_iinc X dX8_copy_198 rfl (by decide) rfl ?_
                                    dsimp only [List.set]
                                    refine v_goto (tgt := 143) X dX8_copy_201 (by decide) ?_
                                    refine v_drop 8 ?_
                                    dsimp only [List.set]
                                    exact ih143 _ _ _ (by omega) (by omega) (by
                                        first
                                        | exact cpy_up hu h1 h2 g1 g2 (by omega) ezz
                                        | exact cpy_dn hu h1 h2 g1 g2 (by omega) ezz) (by exact Bd_up h3 (by omega) (by omega)) (by omega)
                                  · skip
                                    refine v_iload X dX8_copy_155 rfl ?_
                                    refine v_goto (tgt := 167) X dX8_copy_157 (by decide) ?_
                                    refine v_istore X dX8_copy_167 (by decide) rfl ?_
                                    dsimp only [List.set]
                                    refine v_aload_n X dX8_copy_169 rfl ?_
                                    refine v_get X (fun _ h => List.mem_cons_of_mem _ (List.mem_append_right _ h)) 0 rfl rfl 4 (by decide) rfl (List.mem_of_getElem? (i := 6) rfl) rfl dX8_copy_170 ?_
                                    refine v_bipush X dX8_copy_173 (by decide) ?_
                                    refine v_iload_n X dX8_copy_175 rfl ?_
                                    refine v_imul X dX8_copy_176 ?_
                                    refine v_iload X dX8_copy_177 rfl ?_
                                    refine v_iadd X dX8_copy_179 ?_
                                    refine v_iload X dX8_copy_180 rfl ?_
                                    refine v_iadd X dX8_copy_182 ?_
                                    refine v_aload_n X dX8_copy_183 rfl ?_
                                    refine v_get X (fun _ h => List.mem_cons_of_mem _ (List.mem_append_right _ h)) 0 rfl rfl 4 (by decide) rfl (List.mem_of_getElem? (i := 6) rfl) rfl dX8_copy_184 ?_
                                    refine v_bipush X dX8_copy_187 (by decide) ?_
                                    refine v_iload_n X dX8_copy_189 rfl ?_
                                    refine v_imul X dX8_copy_190 ?_
                                    refine v_iload_n X dX8_copy_191 rfl ?_
                                    refine v_iadd X dX8_copy_192 ?_
                                    refine v_iload X dX8_copy_193 rfl ?_
                                    refine v_iadd X dX8_copy_195 ?_
                                    refine v_iald X 3 rfl (by omega) (by omega) (by omega) dX8_copy_196 h3 (fun zz ezz lzz uzz => ?_)
                                    refine v_iast X 3 rfl (by omega) (by omega) (by omega) dX8_copy_197 ?_
                                    dsimp only [List.set, wMod]
                                    refine v_iinc X dX8_copy_198 rfl (by decide) rfl ?_
                                    dsimp only [List.set]
                                    refine v_goto (tgt := 143) X dX8_copy_201 (by decide) ?_
                                    refine v_drop 8 ?_
                                    dsimp only [List.set]
                                    exact ih143 _ _ _ (by omega) (by omega) (by
                                        first
                                        | exact cpy_up hu h1 h2 g1 g2 (by omega) ezz
                                        | exact cpy_dn hu h1 h2 g1 g2 (by omega) ezz) (by exact Bd_up h3 (by omega) (by omega)) (by omega)
                            exact L143 _ _ _ _ (by omega) (by omega) (by intro x; rw [if_neg (by split <;> omega)]) (by assumption) (Nat.lt_succ_self _)
                          · skip
                            refine v_iconst X dX8_copy_133 ?_
                            refine v_goto (tgt := 138) X dX8_copy_134 (by decide) ?_
                            refine v_istore X dX8_copy_138 (by decide) rfl ?_
                            dsimp only [List.set]
                            refine v_iconst X dX8_copy_140 ?_
                            refine v_istore X dX8_copy_141 (by decide) rfl ?_
                            dsimp only [List.set]
                            have L143 : ∀ (nf : Nat) (f : Nat → Int) (u : Int) (k : Int) (h1 : 0 ≤ k ∧ k ≤ n) (hu : (u = 1 ∧ j ≤ i) ∨ (u = 0 ∧ i < j)) (h2 : ∀ x : Nat, f x = if b * 40 + j + (if u = 1 then 0 else n - k) ≤ (x : Int) ∧ (x : Int) < b * 40 + j + (if u = 1 then k else n) then fi ((a * 40 + i).toNat + (x - (b * 40 + j).toNat)) else fi x) (h3 : Bd (-2147483648) 2147483647 f) (_ : (n - k).toNat < nf), V g x 0 0 (wMod g A (0) (0) ac td lt ln cu tk sa ti ft fp le lf tr fl fm (f) fc ff fw ftp fk fe fr) [some (.ref (A 0)), some (.int (iI a)), some (.int (iI i)), some (.int (iI b)), some (.int (iI j)), some (.int (iI n)), some (.int (iI u)), some (.int (iI k)), none] 143 [] := by
                              intro nf
                              induction nf with
                              | zero => intro f u k h1 hu h2 h3 hmu; exact absurd hmu (Nat.not_lt_zero _)
                              | succ nf ih143 =>
                                intro f u k h1 hu h2 h3 hmu
                                refine v_iload X dX8_copy_143 rfl ?_
                                refine v_iload X dX8_copy_145 rfl ?_
                                refine v_icmp_ge (tgt := 204) X dX8_copy_147 (by decide) (by omega) (by omega) (fun c31 => ?_) (fun c31 => ?_)
                                · skip
                                  refine v_iload X dX8_copy_204 rfl ?_
                                  refine v_iret X Y dX8_copy_206 (u := (0, f)) ?_ (by rfl)
                                  refine Or.inr ⟨by omega, Or.inr ⟨by omega, Or.inr ⟨by omega, Or.inr ⟨by omega, rfl, rfl, ?_⟩⟩⟩⟩
                                  intro x
                                  show f x = _
                                  have e : k = n := by omega
                                  have q := h2 x
                                  rcases hu with hu | hu
                                  · rw [q]; simp only [hu.1, e, if_true, Int.add_zero]
                                  · rw [q]; simp only [hu.1, e, if_false, Int.sub_self, Int.add_zero, show ¬ (0 : Int) = 1 by omega]
                                · skip
                                  refine v_iload X dX8_copy_150 rfl ?_
                                  refine v_if_eq (tgt := 160) X dX8_copy_152 (by decide) (by omega) (fun c32 => ?_) (fun c32 => ?_)
                                  · skip
                                    refine v_iload X dX8_copy_160 rfl ?_
                                    refine v_iconst X dX8_copy_162 ?_
                                    refine v_isub X dX8_copy_163 ?_
                                    refine v_iload X dX8_copy_164 rfl ?_
                                    refine v_isub X dX8_copy_166 ?_
                                    refine v_istore X dX8_copy_167 (by decide) rfl ?_
                                    dsimp only [List.set]
                                    refine v_aload_n X dX8_copy_169 rfl ?_
                                    refine v_get X (fun _ h => List.mem_cons_of_mem _ (List.mem_append_right _ h)) 0 rfl rfl 4 (by decide) rfl (List.mem_of_getElem? (i := 6) rfl) rfl dX8_copy_170 ?_
                                    refine v_bipush X dX8_copy_173 (by decide) ?_
                                    refine v_iload_n X dX8_copy_175 rfl ?_
                                    refine v_imul X dX8_copy_176 ?_
                                    refine v_iload X dX8_copy_177 rfl ?_
                                    refine v_iadd X dX8_copy_179 ?_
                                    refine v_iload X dX8_copy_180 rfl ?_
                                    refine v_iadd X dX8_copy_182 ?_
                                    refine v_aload_n X dX8_copy_183 rfl ?_
                                    refine v_get X (fun _ h => List.mem_cons_of_mem _ (List.mem_append_right _ h)) 0 rfl rfl 4 (by decide) rfl (List.mem_of_getElem? (i := 6) rfl) rfl dX8_copy_184 ?_
                                    refine v_bipush X dX8_copy_187 (by decide) ?_
                                    refine v_iload_n X dX8_copy_189 rfl ?_
                                    refine v_imul X dX8_copy_190 ?_
                                    refine v_iload_n X dX8_copy_191 rfl ?_
                                    refine v_iadd X dX8_copy_192 ?_
                                    refine v_iload X dX8_copy_193 rfl ?_
                                    refine v_iadd X dX8_copy_195 ?_
                                    refine v_iald X 3 rfl (by omega) (by omega) (by omega) dX8_copy_196 h3 (fun zz ezz lzz uzz => ?_)
                                    refine v_iast X 3 rfl (by omega) (by omega) (by omega) dX8_copy_197 ?_
                                    dsimp only [List.set, wMod]
                                    refine v_iinc X dX8_copy_198 rfl (by decide) rfl ?_
                                    dsimp only [List.set]
                                    refine v_goto (tgt := 143) X dX8_copy_201 (by decide) ?_
                                    refine v_drop 8 ?_
                                    dsimp only [List.set]
                                    exact ih143 _ _ _ (by omega) (by omega) (by
                                        first
                                        | exact cpy_up hu h1 h2 g1 g2 (by omega) ezz
                                        | exact cpy_dn hu h1 h2 g1 g2 (by omega) ezz) (by exact Bd_up h3 (by omega) (by omega)) (by omega)
                                  · skip
                                    refine v_iload X dX8_copy_155 rfl ?_
                                    refine v_goto (tgt := 167) X dX8_copy_157 (by decide) ?_
                                    refine v_istore X dX8_copy_167 (by decide) rfl ?_
                                    dsimp only [List.set]
                                    refine v_aload_n X dX8_copy_169 rfl ?_
                                    refine v_get X (fun _ h => List.mem_cons_of_mem _ (List.mem_append_right _ h)) 0 rfl rfl 4 (by decide) rfl (List.mem_of_getElem? (i := 6) rfl) rfl dX8_copy_170 ?_
                                    refine v_bipush X dX8_copy_173 (by decide) ?_
                                    refine v_iload_n X dX8_copy_175 rfl ?_
                                    refine v_imul X dX8_copy_176 ?_
                                    refine v_iload X dX8_copy_177 rfl ?_
                                    refine v_iadd X dX8_copy_179 ?_
                                    refine v_iload X dX8_copy_180 rfl ?_
                                    refine v_iadd X dX8_copy_182 ?_
                                    refine v_aload_n X dX8_copy_183 rfl ?_
                                    refine v_get X (fun _ h => List.mem_cons_of_mem _ (List.mem_append_right _ h)) 0 rfl rfl 4 (by decide) rfl (List.mem_of_getElem? (i := 6) rfl) rfl dX8_copy_184 ?_
                                    refine v_bipush X dX8_copy_187 (by decide) ?_
                                    refine v_iload_n X dX8_copy_189 rfl ?_
                                    refine v_imul X dX8_copy_190 ?_
                                    refine v_iload_n X dX8_copy_191 rfl ?_
                                    refine v_iadd X dX8_copy_192 ?_
                                    refine v_iload X dX8_copy_193 rfl ?_
                                    refine v_iadd X dX8_copy_195 ?_
                                    refine v_iald X 3 rfl (by omega) (by omega) (by omega) dX8_copy_196 h3 (fun zz ezz lzz uzz => ?_)
                                    refine v_iast X 3 rfl (by omega) (by omega) (by omega) dX8_copy_197 ?_
                                    dsimp only [List.set, wMod]
                                    refine v_iinc X dX8_copy_198 rfl (by decide) rfl ?_
                                    dsimp only [List.set]
                                    refine v_goto (tgt := 143) X dX8_copy_201 (by decide) ?_
                                    refine v_drop 8 ?_
                                    dsimp only [List.set]
                                    exact ih143 _ _ _ (by omega) (by omega) (by
                                        first
                                        | exact cpy_up hu h1 h2 g1 g2 (by omega) ezz
                                        | exact cpy_dn hu h1 h2 g1 g2 (by omega) ezz) (by exact Bd_up h3 (by omega) (by omega)) (by omega)
                            exact L143 _ _ _ _ (by omega) (by omega) (by intro x; rw [if_neg (by split <;> omega)]) (by assumption) (Nat.lt_succ_self _)
                        · skip
                          exfalso; omega
                  · skip
                    refine v_if_gt (tgt := 121) X dX8_copy_100 (by decide) (by decide) (fun hh => ?_) (fun hh => ?_)
                    · skip
                      exfalso; omega
                    · skip
                      refine v_iload X dX8_copy_103 rfl ?_
                      refine v_i2l X dX8_copy_105 (by omega) ?_
                      refine v_iload X dX8_copy_106 rfl ?_
                      refine v_i2l X dX8_copy_108 (by omega) ?_
                      refine v_ladd X dX8_copy_109 ?_
                      refine v_aload_n X dX8_copy_110 rfl ?_
                      refine v_get X (fun _ h => List.mem_cons_of_mem _ (List.mem_append_right _ h)) 0 rfl rfl 3 (by decide) rfl (List.mem_of_getElem? (i := 5) rfl) rfl dX8_copy_111 ?_
                      refine v_iload_n X dX8_copy_114 rfl ?_
                      refine v_iald X 2 rfl (by omega) (by omega) (by omega) dX8_copy_115 hfm (fun z35 ez35 lz35 uz35 => ?_)
                      refine v_i2l X dX8_copy_116 (by omega) ?_
                      refine v_lcmp X dX8_copy_117 (by omega) (by omega) (fun c36 => ?_) (fun c36 => ?_) (fun c36 => ?_)
                      · skip
                        refine v_if_le (tgt := 127) X dX8_copy_118 (by decide) (by decide) (fun hh => ?_) (fun hh => ?_)
                        · skip
                          exfalso; omega
                        · skip
                          refine v_aload_n X dX8_copy_121 rfl ?_
                          refine v_iconst X dX8_copy_122 ?_
                          refine res_F X (run_V X (c_X8_finding (g := g) ) gX8_copy_X8_finding rfl hdX8_finding ⟨(Nat.le_of_ble_eq_true rfl), (Nat.le_of_ble_eq_true rfl)⟩ ⟨(Nat.le_of_ble_eq_true rfl), (Nat.le_of_ble_eq_true rfl)⟩ 0 rfl rfl rfl [0, 1, 2, 3, 4, 5, 6, 7, 8, 9, 10] rfl rfl rfl rfl (by simp [Value.category]) dX8_copy_123) [0, 1, 2, 3, 4, 5, 6, 7, 8, 9, 10] rfl rfl rfl ?_
                          dsimp only [patch, List.set, wMod]
                          refine v_iret X Y dX8_copy_126 (u := (2, fi)) ?_ (by rfl)
                          exact Or.inr ⟨by omega, Or.inr ⟨by omega, Or.inr ⟨by omega, Or.inl ⟨by omega, rfl, rfl⟩⟩⟩⟩
                      · skip
                        refine v_if_le (tgt := 127) X dX8_copy_118 (by decide) (by decide) (fun hh => ?_) (fun hh => ?_)
                        · skip
                          refine v_iload_n X dX8_copy_127 rfl ?_
                          refine v_iload X dX8_copy_128 rfl ?_
                          refine v_icmp_lt (tgt := 137) X dX8_copy_130 (by decide) (by omega) (by omega) (fun c37 => ?_) (fun c37 => ?_)
                          · skip
                            refine v_iconst X dX8_copy_137 ?_
                            refine v_istore X dX8_copy_138 (by decide) rfl ?_
                            dsimp only [List.set]
                            refine v_iconst X dX8_copy_140 ?_
                            refine v_istore X dX8_copy_141 (by decide) rfl ?_
                            dsimp only [List.set]
                            have L143 : ∀ (nf : Nat) (f : Nat → Int) (u : Int) (k : Int) (h1 : 0 ≤ k ∧ k ≤ n) (hu : (u = 1 ∧ j ≤ i) ∨ (u = 0 ∧ i < j)) (h2 : ∀ x : Nat, f x = if b * 40 + j + (if u = 1 then 0 else n - k) ≤ (x : Int) ∧ (x : Int) < b * 40 + j + (if u = 1 then k else n) then fi ((a * 40 + i).toNat + (x - (b * 40 + j).toNat)) else fi x) (h3 : Bd (-2147483648) 2147483647 f) (_ : (n - k).toNat < nf), V g x 0 0 (wMod g A (0) (0) ac td lt ln cu tk sa ti ft fp le lf tr fl fm (f) fc ff fw ftp fk fe fr) [some (.ref (A 0)), some (.int (iI a)), some (.int (iI i)), some (.int (iI b)), some (.int (iI j)), some (.int (iI n)), some (.int (iI u)), some (.int (iI k)), none] 143 [] := by
                              intro nf
                              induction nf with
                              | zero => intro f u k h1 hu h2 h3 hmu; exact absurd hmu (Nat.not_lt_zero _)
                              | succ nf ih143 =>
                                intro f u k h1 hu h2 h3 hmu
                                refine v_iload X dX8_copy_143 rfl ?_
                                refine v_iload X dX8_copy_145 rfl ?_
                                refine v_icmp_ge (tgt := 204) X dX8_copy_147 (by decide) (by omega) (by omega) (fun c38 => ?_) (fun c38 => ?_)
                                · skip
                                  refine v_iload X dX8_copy_204 rfl ?_
                                  refine v_iret X Y dX8_copy_206 (u := (0, f)) ?_ (by rfl)
                                  refine Or.inr ⟨by omega, Or.inr ⟨by omega, Or.inr ⟨by omega, Or.inr ⟨by omega, rfl, rfl, ?_⟩⟩⟩⟩
                                  intro x
                                  show f x = _
                                  have e : k = n := by omega
                                  have q := h2 x
                                  rcases hu with hu | hu
                                  · rw [q]; simp only [hu.1, e, if_true, Int.add_zero]
                                  · rw [q]; simp only [hu.1, e, if_false, Int.sub_self, Int.add_zero, show ¬ (0 : Int) = 1 by omega]
                                · skip
                                  refine v_iload X dX8_copy_150 rfl ?_
                                  refine v_if_eq (tgt := 160) X dX8_copy_152 (by decide) (by omega) (fun c39 => ?_) (fun c39 => ?_)
                                  · skip
                                    refine v_iload X dX8_copy_160 rfl ?_
                                    refine v_iconst X dX8_copy_162 ?_
                                    refine v_isub X dX8_copy_163 ?_
                                    refine v_iload X dX8_copy_164 rfl ?_
                                    refine v_isub X dX8_copy_166 ?_
                                    refine v_istore X dX8_copy_167 (by decide) rfl ?_
                                    dsimp only [List.set]
                                    refine v_aload_n X dX8_copy_169 rfl ?_
                                    refine v_get X (fun _ h => List.mem_cons_of_mem _ (List.mem_append_right _ h)) 0 rfl rfl 4 (by decide) rfl (List.mem_of_getElem? (i := 6) rfl) rfl dX8_copy_170 ?_
                                    refine v_bipush X dX8_copy_173 (by decide) ?_
                                    refine v_iload_n X dX8_copy_175 rfl ?_
                                    refine v_imul X dX8_copy_176 ?_
                                    refine v_iload X dX8_copy_177 rfl ?_
                                    refine v_iadd X dX8_copy_179 ?_
                                    refine v_iload X dX8_copy_180 rfl ?_
                                    refine v_iadd X dX8_copy_182 ?_
                                    refine v_aload_n X dX8_copy_183 rfl ?_
                                    refine v_get X (fun _ h => List.mem_cons_of_mem _ (List.mem_append_right _ h)) 0 rfl rfl 4 (by decide) rfl (List.mem_of_getElem? (i := 6) rfl) rfl dX8_copy_184 ?_
                                    refine v_bipush X dX8_copy_187 (by decide) ?_
                                    refine v_iload_n X dX8_copy_189 rfl ?_
                                    refine v_imul X dX8_copy_190 ?_
                                    refine v_iload_n X dX8_copy_191 rfl ?_
                                    refine v_iadd X dX8_copy_192 ?_
                                    refine v_iload X dX8_copy_193 rfl ?_
                                    refine v_iadd X dX8_copy_195 ?_
                                    refine v_iald X 3 rfl (by omega) (by omega) (by omega) dX8_copy_196 h3 (fun zz ezz lzz uzz => ?_)
                                    refine v_iast X 3 rfl (by omega) (by omega) (by omega) dX8_copy_197 ?_
                                    dsimp only [List.set, wMod]
                                    refine v_iinc X dX8_copy_198 rfl (by decide) rfl ?_
                                    dsimp only [List.set]
                                    refine v_goto (tgt := 143) X dX8_copy_201 (by decide) ?_
                                    refine v_drop 8 ?_
                                    dsimp only [List.set]
                                    exact ih143 _ _ _ (by omega) (by omega) (by
                                        first
                                        | exact cpy_up hu h1 h2 g1 g2 (by omega) ezz
                                        | exact cpy_dn hu h1 h2 g1 g2 (by omega) ezz) (by exact Bd_up h3 (by omega) (by omega)) (by omega)
                                  · skip
                                    refine v_iload X dX8_copy_155 rfl ?_
                                    refine v_goto (tgt := 167) X dX8_copy_157 (by decide) ?_
                                    refine v_istore X dX8_copy_167 (by decide) rfl ?_
                                    dsimp only [List.set]
                                    refine v_aload_n X dX8_copy_169 rfl ?_
                                    refine v_get X (fun _ h => List.mem_cons_of_mem _ (List.mem_append_right _ h)) 0 rfl rfl 4 (by decide) rfl (List.mem_of_getElem? (i := 6) rfl) rfl dX8_copy_170 ?_
                                    refine v_bipush X dX8_copy_173 (by decide) ?_
                                    refine v_iload_n X dX8_copy_175 rfl ?_
                                    refine v_imul X dX8_copy_176 ?_
                                    refine v_iload X dX8_copy_177 rfl ?_
                                    refine v_iadd X dX8_copy_179 ?_
                                    refine v_iload X dX8_copy_180 rfl ?_
                                    refine v_iadd X dX8_copy_182 ?_
                                    refine v_aload_n X dX8_copy_183 rfl ?_
                                    refine v_get X (fun _ h => List.mem_cons_of_mem _ (List.mem_append_right _ h)) 0 rfl rfl 4 (by decide) rfl (List.mem_of_getElem? (i := 6) rfl) rfl dX8_copy_184 ?_
                                    refine v_bipush X dX8_copy_187 (by decide) ?_
                                    refine v_iload_n X dX8_copy_189 rfl ?_
                                    refine v_imul X dX8_copy_190 ?_
                                    refine v_iload_n X dX8_copy_191 rfl ?_
                                    refine v_iadd X dX8_copy_192 ?_
                                    refine v_iload X dX8_copy_193 rfl ?_
                                    refine v_iadd X dX8_copy_195 ?_
                                    refine v_iald X 3 rfl (by omega) (by omega) (by omega) dX8_copy_196 h3 (fun zz ezz lzz uzz => ?_)
                                    refine v_iast X 3 rfl (by omega) (by omega) (by omega) dX8_copy_197 ?_
                                    dsimp only [List.set, wMod]
                                    refine v_iinc X dX8_copy_198 rfl (by decide) rfl ?_
                                    dsimp only [List.set]
                                    refine v_goto (tgt := 143) X dX8_copy_201 (by decide) ?_
                                    refine v_drop 8 ?_
                                    dsimp only [List.set]
                                    exact ih143 _ _ _ (by omega) (by omega) (by
                                        first
                                        | exact cpy_up hu h1 h2 g1 g2 (by omega) ezz
                                        | exact cpy_dn hu h1 h2 g1 g2 (by omega) ezz) (by exact Bd_up h3 (by omega) (by omega)) (by omega)
                            exact L143 _ _ _ _ (by omega) (by omega) (by intro x; rw [if_neg (by split <;> omega)]) (by assumption) (Nat.lt_succ_self _)
                          · skip
                            refine v_iconst X dX8_copy_133 ?_
                            refine v_goto (tgt := 138) X dX8_copy_134 (by decide) ?_
                            refine v_istore X dX8_copy_138 (by decide) rfl ?_
                            dsimp only [List.set]
                            refine v_iconst X dX8_copy_140 ?_
                            refine v_istore X dX8_copy_141 (by decide) rfl ?_
                            dsimp only [List.set]
                            have L143 : ∀ (nf : Nat) (f : Nat → Int) (u : Int) (k : Int) (h1 : 0 ≤ k ∧ k ≤ n) (hu : (u = 1 ∧ j ≤ i) ∨ (u = 0 ∧ i < j)) (h2 : ∀ x : Nat, f x = if b * 40 + j + (if u = 1 then 0 else n - k) ≤ (x : Int) ∧ (x : Int) < b * 40 + j + (if u = 1 then k else n) then fi ((a * 40 + i).toNat + (x - (b * 40 + j).toNat)) else fi x) (h3 : Bd (-2147483648) 2147483647 f) (_ : (n - k).toNat < nf), V g x 0 0 (wMod g A (0) (0) ac td lt ln cu tk sa ti ft fp le lf tr fl fm (f) fc ff fw ftp fk fe fr) [some (.ref (A 0)), some (.int (iI a)), some (.int (iI i)), some (.int (iI b)), some (.int (iI j)), some (.int (iI n)), some (.int (iI u)), some (.int (iI k)), none] 143 [] := by
                              intro nf
                              induction nf with
                              | zero => intro f u k h1 hu h2 h3 hmu; exact absurd hmu (Nat.not_lt_zero _)
                              | succ nf ih143 =>
                                intro f u k h1 hu h2 h3 hmu
                                refine v_iload X dX8_copy_143 rfl ?_
                                refine v_iload X dX8_copy_145 rfl ?_
                                refine v_icmp_ge (tgt := 204) X dX8_copy_147 (by decide) (by omega) (by omega) (fun c42 => ?_) (fun c42 => ?_)
                                · skip
                                  refine v_iload X dX8_copy_204 rfl ?_
                                  refine v_iret X Y dX8_copy_206 (u := (0, f)) ?_ (by rfl)
                                  refine Or.inr ⟨by omega, Or.inr ⟨by omega, Or.inr ⟨by omega, Or.inr ⟨by omega, rfl, rfl, ?_⟩⟩⟩⟩
                                  intro x
                                  show f x = _
                                  have e : k = n := by omega
                                  have q := h2 x
                                  rcases hu with hu | hu
                                  · rw [q]; simp only [hu.1, e, if_true, Int.add_zero]
                                  · rw [q]; simp only [hu.1, e, if_false, Int.sub_self, Int.add_zero, show ¬ (0 : Int) = 1 by omega]
                                · skip
                                  refine v_iload X dX8_copy_150 rfl ?_
                                  refine v_if_eq (tgt := 160) X dX8_copy_152 (by decide) (by omega) (fun c43 => ?_) (fun c43 => ?_)
                                  · skip
                                    refine v_iload X dX8_copy_160 rfl ?_
                                    refine v_iconst X dX8_copy_162 ?_
                                    refine v_isub X dX8_copy_163 ?_
                                    refine v_iload X dX8_copy_164 rfl ?_
                                    refine v_isub X dX8_copy_166 ?_
                                    refine v_istore X dX8_copy_167 (by decide) rfl ?_
                                    dsimp only [List.set]
                                    refine v_aload_n X dX8_copy_169 rfl ?_
                                    refine v_get X (fun _ h => List.mem_cons_of_mem _ (List.mem_append_right _ h)) 0 rfl rfl 4 (by decide) rfl (List.mem_of_getElem? (i := 6) rfl) rfl dX8_copy_170 ?_
                                    refine v_bipush X dX8_copy_173 (by decide) ?_
                                    refine v_iload_n X dX8_copy_175 rfl ?_
                                    refine v_imul X dX8_copy_176 ?_
                                    refine v_iload X dX8_copy_177 rfl ?_
                                    refine v_iadd X dX8_copy_179 ?_
                                    refine v_iload X dX8_copy_180 rfl ?_
                                    refine v_iadd X dX8_copy_182 ?_
                                    refine v_aload_n X dX8_copy_183 rfl ?_
                                    refine v_get X (fun _ h => List.mem_cons_of_mem _ (List.mem_append_right _ h)) 0 rfl rfl 4 (by decide) rfl (List.mem_of_getElem? (i := 6) rfl) rfl dX8_copy_184 ?_
                                    refine v_bipush X dX8_copy_187 (by decide) ?_
                                    refine v_iload_n X dX8_copy_189 rfl ?_
                                    refine v_imul X dX8_copy_190 ?_
                                    refine v_iload_n X dX8_copy_191 rfl ?_
                                    refine v_iadd X dX8_copy_192 ?_
                                    refine v_iload X dX8_copy_193 rfl ?_
                                    refine v_iadd X dX8_copy_195 ?_
                                    refine v_iald X 3 rfl (by omega) (by omega) (by omega) dX8_copy_196 h3 (fun zz ezz lzz uzz => ?_)
                                    refine v_iast X 3 rfl (by omega) (by omega) (by omega) dX8_copy_197 ?_
                                    dsimp only [List.set, wMod]
                                    refine v_iinc X dX8_copy_198 rfl (by decide) rfl ?_
                                    dsimp only [List.set]
                                    refine v_goto (tgt := 143) X dX8_copy_201 (by decide) ?_
                                    refine v_drop 8 ?_
                                    dsimp only [List.set]
                                    exact ih143 _ _ _ (by omega) (by omega) (by
                                        first
                                        | exact cpy_up hu h1 h2 g1 g2 (by omega) ezz
                                        | exact cpy_dn hu h1 h2 g1 g2 (by omega) ezz) (by exact Bd_up h3 (by omega) (by omega)) (by omega)
                                  · skip
                                    refine v_iload X dX8_copy_155 rfl ?_
                                    refine v_goto (tgt := 167) X dX8_copy_157 (by decide) ?_
                                    refine v_istore X dX8_copy_167 (by decide) rfl ?_
                                    dsimp only [List.set]
                                    refine v_aload_n X dX8_copy_169 rfl ?_
                                    refine v_get X (fun _ h => List.mem_cons_of_mem _ (List.mem_append_right _ h)) 0 rfl rfl 4 (by decide) rfl (List.mem_of_getElem? (i := 6) rfl) rfl dX8_copy_170 ?_
                                    refine v_bipush X dX8_copy_173 (by decide) ?_
                                    refine v_iload_n X dX8_copy_175 rfl ?_
                                    refine v_imul X dX8_copy_176 ?_
                                    refine v_iload X dX8_copy_177 rfl ?_
                                    refine v_iadd X dX8_copy_179 ?_
                                    refine v_iload X dX8_copy_180 rfl ?_
                                    refine v_iadd X dX8_copy_182 ?_
                                    refine v_aload_n X dX8_copy_183 rfl ?_
                                    refine v_get X (fun _ h => List.mem_cons_of_mem _ (List.mem_append_right _ h)) 0 rfl rfl 4 (by decide) rfl (List.mem_of_getElem? (i := 6) rfl) rfl dX8_copy_184 ?_
                                    refine v_bipush X dX8_copy_187 (by decide) ?_
                                    refine v_iload_n X dX8_copy_189 rfl ?_
                                    refine v_imul X dX8_copy_190 ?_
                                    refine v_iload_n X dX8_copy_191 rfl ?_
                                    refine v_iadd X dX8_copy_192 ?_
                                    refine v_iload X dX8_copy_193 rfl ?_
                                    refine v_iadd X dX8_copy_195 ?_
                                    refine v_iald X 3 rfl (by omega) (by omega) (by omega) dX8_copy_196 h3 (fun zz ezz lzz uzz => ?_)
                                    refine v_iast X 3 rfl (by omega) (by omega) (by omega) dX8_copy_197 ?_
                                    dsimp only [List.set, wMod]
                                    refine v_iinc X dX8_copy_198 rfl (by decide) rfl ?_
                                    dsimp only [List.set]
                                    refine v_goto (tgt := 143) X dX8_copy_201 (by decide) ?_
                                    refine v_drop 8 ?_
                                    dsimp only [List.set]
                                    exact ih143 _ _ _ (by omega) (by omega) (by
                                        first
                                        | exact cpy_up hu h1 h2 g1 g2 (by omega) ezz
                                        | exact cpy_dn hu h1 h2 g1 g2 (by omega) ezz) (by exact Bd_up h3 (by omega) (by omega)) (by omega)
                            exact L143 _ _ _ _ (by omega) (by omega) (by intro x; rw [if_neg (by split <;> omega)]) (by assumption) (Nat.lt_succ_self _)
                        · skip
                          exfalso; omega
                      · skip
                        refine v_if_le (tgt := 127) X dX8_copy_118 (by decide) (by decide) (fun hh => ?_) (fun hh => ?_)
                        · skip
                          refine v_iload_n X dX8_copy_127 rfl ?_
                          refine v_iload X dX8_copy_128 rfl ?_
                          refine v_icmp_lt (tgt := 137) X dX8_copy_130 (by decide) (by omega) (by omega) (fun c46 => ?_) (fun c46 => ?_)
                          · skip
                            refine v_iconst X dX8_copy_137 ?_
                            refine v_istore X dX8_copy_138 (by decide) rfl ?_
                            dsimp only [List.set]
                            refine v_iconst X dX8_copy_140 ?_
                            refine v_istore X dX8_copy_141 (by decide) rfl ?_
                            dsimp only [List.set]
                            have L143 : ∀ (nf : Nat) (f : Nat → Int) (u : Int) (k : Int) (h1 : 0 ≤ k ∧ k ≤ n) (hu : (u = 1 ∧ j ≤ i) ∨ (u = 0 ∧ i < j)) (h2 : ∀ x : Nat, f x = if b * 40 + j + (if u = 1 then 0 else n - k) ≤ (x : Int) ∧ (x : Int) < b * 40 + j + (if u = 1 then k else n) then fi ((a * 40 + i).toNat + (x - (b * 40 + j).toNat)) else fi x) (h3 : Bd (-2147483648) 2147483647 f) (_ : (n - k).toNat < nf), V g x 0 0 (wMod g A (0) (0) ac td lt ln cu tk sa ti ft fp le lf tr fl fm (f) fc ff fw ftp fk fe fr) [some (.ref (A 0)), some (.int (iI a)), some (.int (iI i)), some (.int (iI b)), some (.int (iI j)), some (.int (iI n)), some (.int (iI u)), some (.int (iI k)), none] 143 [] := by
                              intro nf
                              induction nf with
                              | zero => intro f u k h1 hu h2 h3 hmu; exact absurd hmu (Nat.not_lt_zero _)
                              | succ nf ih143 =>
                                intro f u k h1 hu h2 h3 hmu
                                refine v_iload X dX8_copy_143 rfl ?_
                                refine v_iload X dX8_copy_145 rfl ?_
                                refine v_icmp_ge (tgt := 204) X dX8_copy_147 (by decide) (by omega) (by omega) (fun c47 => ?_) (fun c47 => ?_)
                                · skip
                                  refine v_iload X dX8_copy_204 rfl ?_
                                  refine v_iret X Y dX8_copy_206 (u := (0, f)) ?_ (by rfl)
                                  refine Or.inr ⟨by omega, Or.inr ⟨by omega, Or.inr ⟨by omega, Or.inr ⟨by omega, rfl, rfl, ?_⟩⟩⟩⟩
                                  intro x
                                  show f x = _
                                  have e : k = n := by omega
                                  have q := h2 x
                                  rcases hu with hu | hu
                                  · rw [q]; simp only [hu.1, e, if_true, Int.add_zero]
                                  · rw [q]; simp only [hu.1, e, if_false, Int.sub_self, Int.add_zero, show ¬ (0 : Int) = 1 by omega]
                                · skip
                                  refine v_iload X dX8_copy_150 rfl ?_
                                  refine v_if_eq (tgt := 160) X dX8_copy_152 (by decide) (by omega) (fun c48 => ?_) (fun c48 => ?_)
                                  · skip
                                    refine v_iload X dX8_copy_160 rfl ?_
                                    refine v_iconst X dX8_copy_162 ?_
                                    refine v_isub X dX8_copy_163 ?_
                                    refine v_iload X dX8_copy_164 rfl ?_
                                    refine v_isub X dX8_copy_166 ?_
                                    refine v_istore X dX8_copy_167 (by decide) rfl ?_
                                    dsimp only [List.set]
                                    refine v_aload_n X dX8_copy_169 rfl ?_
                                    refine v_get X (fun _ h => List.mem_cons_of_mem _ (List.mem_append_right _ h)) 0 rfl rfl 4 (by decide) rfl (List.mem_of_getElem? (i := 6) rfl) rfl dX8_copy_170 ?_
                                    refine v_bipush X dX8_copy_173 (by decide) ?_
                                    refine v_iload_n X dX8_copy_175 rfl ?_
                                    refine v_imul X dX8_copy_176 ?_
                                    refine v_iload X dX8_copy_177 rfl ?_
                                    refine v_iadd X dX8_copy_179 ?_
                                    refine v_iload X dX8_copy_180 rfl ?_
                                    refine v_iadd X dX8_copy_182 ?_
                                    refine v_aload_n X dX8_copy_183 rfl ?_
                                    refine v_get X (fun _ h => List.mem_cons_of_mem _ (List.mem_append_right _ h)) 0 rfl rfl 4 (by decide) rfl (List.mem_of_getElem? (i := 6) rfl) rfl dX8_copy_184 ?_
                                    refine v_bipush X dX8_copy_187 (by decide) ?_
                                    refine v_iload_n X dX8_copy_189 rfl ?_
                                    refine v_imul X dX8_copy_190 ?_
                                    refine v_iload_n X dX8_copy_191 rfl ?_
                                    refine v_iadd X dX8_copy_192 ?_
                                    refine v_iload X dX8_copy_193 rfl ?_
                                    refine v_iadd X dX8_copy_195 ?_
                                    refine v_iald X 3 rfl (by omega) (by omega) (by omega) dX8_copy_196 h3 (fun zz ezz lzz uzz => ?_)
                                    refine v_iast X 3 rfl (by omega) (by omega) (by omega) dX8_copy_197 ?_
                                    dsimp only [List.set, wMod]
                                    refine v_iinc X dX8_copy_198 rfl (by decide) rfl ?_
                                    dsimp only [List.set]
                                    refine v_goto (tgt := 143) X dX8_copy_201 (by decide) ?_
                                    refine v_drop 8 ?_
                                    dsimp only [List.set]
                                    exact ih143 _ _ _ (by omega) (by omega) (by
                                        first
                                        | exact cpy_up hu h1 h2 g1 g2 (by omega) ezz
                                        | exact cpy_dn hu h1 h2 g1 g2 (by omega) ezz) (by exact Bd_up h3 (by omega) (by omega)) (by omega)
                                  · skip
                                    refine v_iload X dX8_copy_155 rfl ?_
                                    refine v_goto (tgt := 167) X dX8_copy_157 (by decide) ?_
                                    refine v_istore X dX8_copy_167 (by decide) rfl ?_
                                    dsimp only [List.set]
                                    refine v_aload_n X dX8_copy_169 rfl ?_
                                    refine v_get X (fun _ h => List.mem_cons_of_mem _ (List.mem_append_right _ h)) 0 rfl rfl 4 (by decide) rfl (List.mem_of_getElem? (i := 6) rfl) rfl dX8_copy_170 ?_
                                    refine v_bipush X dX8_copy_173 (by decide) ?_
                                    refine v_iload_n X dX8_copy_175 rfl ?_
                                    refine v_imul X dX8_copy_176 ?_
                                    refine v_iload X dX8_copy_177 rfl ?_
                                    refine v_iadd X dX8_copy_179 ?_
                                    refine v_iload X dX8_copy_180 rfl ?_
                                    refine v_iadd X dX8_copy_182 ?_
                                    refine v_aload_n X dX8_copy_183 rfl ?_
                                    refine v_get X (fun _ h => List.mem_cons_of_mem _ (List.mem_append_right _ h)) 0 rfl rfl 4 (by decide) rfl (List.mem_of_getElem? (i := 6) rfl) rfl dX8_copy_184 ?_
                                    refine v_bipush X dX8_copy_187 (by decide) ?_
                                    refine v_iload_n X dX8_copy_189 rfl ?_
                                    refine v_imul X dX8_copy_190 ?_
                                    refine v_iload_n X dX8_copy_191 rfl ?_
                                    refine v_iadd X dX8_copy_192 ?_
                                    refine v_iload X dX8_copy_193 rfl ?_
                                    refine v_iadd X dX8_copy_195 ?_
                                    refine v_iald X 3 rfl (by omega) (by omega) (by omega) dX8_copy_196 h3 (fun zz ezz lzz uzz => ?_)
                                    refine v_iast X 3 rfl (by omega) (by omega) (by omega) dX8_copy_197 ?_
                                    dsimp only [List.set, wMod]
                                    refine v_iinc X dX8_copy_198 rfl (by decide) rfl ?_
                                    dsimp only [List.set]
                                    refine v_goto (tgt := 143) X dX8_copy_201 (by decide) ?_
                                    refine v_drop 8 ?_
                                    dsimp only [List.set]
                                    exact ih143 _ _ _ (by omega) (by omega) (by
                                        first
                                        | exact cpy_up hu h1 h2 g1 g2 (by omega) ezz
                                        | exact cpy_dn hu h1 h2 g1 g2 (by omega) ezz) (by exact Bd_up h3 (by omega) (by omega)) (by omega)
                            exact L143 _ _ _ _ (by omega) (by omega) (by intro x; rw [if_neg (by split <;> omega)]) (by assumption) (Nat.lt_succ_self _)
                          · skip
                            refine v_iconst X dX8_copy_133 ?_
                            refine v_goto (tgt := 138) X dX8_copy_134 (by decide) ?_
                            refine v_istore X dX8_copy_138 (by decide) rfl ?_
                            dsimp only [List.set]
                            refine v_iconst X dX8_copy_140 ?_
                            refine v_istore X dX8_copy_141 (by decide) rfl ?_
                            dsimp only [List.set]
                            have L143 : ∀ (nf : Nat) (f : Nat → Int) (u : Int) (k : Int) (h1 : 0 ≤ k ∧ k ≤ n) (hu : (u = 1 ∧ j ≤ i) ∨ (u = 0 ∧ i < j)) (h2 : ∀ x : Nat, f x = if b * 40 + j + (if u = 1 then 0 else n - k) ≤ (x : Int) ∧ (x : Int) < b * 40 + j + (if u = 1 then k else n) then fi ((a * 40 + i).toNat + (x - (b * 40 + j).toNat)) else fi x) (h3 : Bd (-2147483648) 2147483647 f) (_ : (n - k).toNat < nf), V g x 0 0 (wMod g A (0) (0) ac td lt ln cu tk sa ti ft fp le lf tr fl fm (f) fc ff fw ftp fk fe fr) [some (.ref (A 0)), some (.int (iI a)), some (.int (iI i)), some (.int (iI b)), some (.int (iI j)), some (.int (iI n)), some (.int (iI u)), some (.int (iI k)), none] 143 [] := by
                              intro nf
                              induction nf with
                              | zero => intro f u k h1 hu h2 h3 hmu; exact absurd hmu (Nat.not_lt_zero _)
                              | succ nf ih143 =>
                                intro f u k h1 hu h2 h3 hmu
                                refine v_iload X dX8_copy_143 rfl ?_
                                refine v_iload X dX8_copy_145 rfl ?_
                                refine v_icmp_ge (tgt := 204) X dX8_copy_147 (by decide) (by omega) (by omega) (fun c51 => ?_) (fun c51 => ?_)
                                · skip
                                  refine v_iload X dX8_copy_204 rfl ?_
                                  refine v_iret X Y dX8_copy_206 (u := (0, f)) ?_ (by rfl)
                                  refine Or.inr ⟨by omega, Or.inr ⟨by omega, Or.inr ⟨by omega, Or.inr ⟨by omega, rfl, rfl, ?_⟩⟩⟩⟩
                                  intro x
                                  show f x = _
                                  have e : k = n := by omega
                                  have q := h2 x
                                  rcases hu with hu | hu
                                  · rw [q]; simp only [hu.1, e, if_true, Int.add_zero]
                                  · rw [q]; simp only [hu.1, e, if_false, Int.sub_self, Int.add_zero, show ¬ (0 : Int) = 1 by omega]
                                · skip
                                  refine v_iload X dX8_copy_150 rfl ?_
                                  refine v_if_eq (tgt := 160) X dX8_copy_152 (by decide) (by omega) (fun c52 => ?_) (fun c52 => ?_)
                                  · skip
                                    refine v_iload X dX8_copy_160 rfl ?_
                                    refine v_iconst X dX8_copy_162 ?_
                                    refine v_isub X dX8_copy_163 ?_
                                    refine v_iload X dX8_copy_164 rfl ?_
                                    refine v_isub X dX8_copy_166 ?_
                                    refine v_istore X dX8_copy_167 (by decide) rfl ?_
                                    dsimp only [List.set]
                                    refine v_aload_n X dX8_copy_169 rfl ?_
                                    refine v_get X (fun _ h => List.mem_cons_of_mem _ (List.mem_append_right _ h)) 0 rfl rfl 4 (by decide) rfl (List.mem_of_getElem? (i := 6) rfl) rfl dX8_copy_170 ?_
                                    refine v_bipush X dX8_copy_173 (by decide) ?_
                                    refine v_iload_n X dX8_copy_175 rfl ?_
                                    refine v_imul X dX8_copy_176 ?_
                                    refine v_iload X dX8_copy_177 rfl ?_
                                    refine v_iadd X dX8_copy_179 ?_
                                    refine v_iload X dX8_copy_180 rfl ?_
                                    refine v_iadd X dX8_copy_182 ?_
                                    refine v_aload_n X dX8_copy_183 rfl ?_
                                    refine v_get X (fun _ h => List.mem_cons_of_mem _ (List.mem_append_right _ h)) 0 rfl rfl 4 (by decide) rfl (List.mem_of_getElem? (i := 6) rfl) rfl dX8_copy_184 ?_
                                    refine v_bipush X dX8_copy_187 (by decide) ?_
                                    refine v_iload_n X dX8_copy_189 rfl ?_
                                    refine v_imul X dX8_copy_190 ?_
                                    refine v_iload_n X dX8_copy_191 rfl ?_
                                    refine v_iadd X dX8_copy_192 ?_
                                    refine v_iload X dX8_copy_193 rfl ?_
                                    refine v_iadd X dX8_copy_195 ?_
                                    refine v_iald X 3 rfl (by omega) (by omega) (by omega) dX8_copy_196 h3 (fun zz ezz lzz uzz => ?_)
                                    refine v_iast X 3 rfl (by omega) (by omega) (by omega) dX8_copy_197 ?_
                                    dsimp only [List.set, wMod]
                                    refine v_iinc X dX8_copy_198 rfl (by decide) rfl ?_
                                    dsimp only [List.set]
                                    refine v_goto (tgt := 143) X dX8_copy_201 (by decide) ?_
                                    refine v_drop 8 ?_
                                    dsimp only [List.set]
                                    exact ih143 _ _ _ (by omega) (by omega) (by
                                        first
                                        | exact cpy_up hu h1 h2 g1 g2 (by omega) ezz
                                        | exact cpy_dn hu h1 h2 g1 g2 (by omega) ezz) (by exact Bd_up h3 (by omega) (by omega)) (by omega)
                                  · skip
                                    refine v_iload X dX8_copy_155 rfl ?_
                                    refine v_goto (tgt := 167) X dX8_copy_157 (by decide) ?_
                                    refine v_istore X dX8_copy_167 (by decide) rfl ?_
                                    dsimp only [List.set]
                                    refine v_aload_n X dX8_copy_169 rfl ?_
                                    refine v_get X (fun _ h => List.mem_cons_of_mem _ (List.mem_append_right _ h)) 0 rfl rfl 4 (by decide) rfl (List.mem_of_getElem? (i := 6) rfl) rfl dX8_copy_170 ?_
                                    refine v_bipush X dX8_copy_173 (by decide) ?_
                                    refine v_iload_n X dX8_copy_175 rfl ?_
                                    refine v_imul X dX8_copy_176 ?_
                                    refine v_iload X dX8_copy_177 rfl ?_
                                    refine v_iadd X dX8_copy_179 ?_
                                    refine v_iload X dX8_copy_180 rfl ?_
                                    refine v_iadd X dX8_copy_182 ?_
                                    refine v_aload_n X dX8_copy_183 rfl ?_
                                    refine v_get X (fun _ h => List.mem_cons_of_mem _ (List.mem_append_right _ h)) 0 rfl rfl 4 (by decide) rfl (List.mem_of_getElem? (i := 6) rfl) rfl dX8_copy_184 ?_
                                    refine v_bipush X dX8_copy_187 (by decide) ?_
                                    refine v_iload_n X dX8_copy_189 rfl ?_
                                    refine v_imul X dX8_copy_190 ?_
                                    refine v_iload_n X dX8_copy_191 rfl ?_
                                    refine v_iadd X dX8_copy_192 ?_
                                    refine v_iload X dX8_copy_193 rfl ?_
                                    refine v_iadd X dX8_copy_195 ?_
                                    refine v_iald X 3 rfl (by omega) (by omega) (by omega) dX8_copy_196 h3 (fun zz ezz lzz uzz => ?_)
                                    refine v_iast X 3 rfl (by omega) (by omega) (by omega) dX8_copy_197 ?_
                                    dsimp only [List.set, wMod]
                                    refine v_iinc X dX8_copy_198 rfl (by decide) rfl ?_
                                    dsimp only [List.set]
                                    refine v_goto (tgt := 143) X dX8_copy_201 (by decide) ?_
                                    refine v_drop 8 ?_
                                    dsimp only [List.set]
                                    exact ih143 _ _ _ (by omega) (by omega) (by
                                        first
                                        | exact cpy_up hu h1 h2 g1 g2 (by omega) ezz
                                        | exact cpy_dn hu h1 h2 g1 g2 (by omega) ezz) (by exact Bd_up h3 (by omega) (by omega)) (by omega)
                            exact L143 _ _ _ _ (by omega) (by omega) (by intro x; rw [if_neg (by split <;> omega)]) (by assumption) (Nat.lt_succ_self _)
                        · skip
                          exfalso; omega
          · skip
            refine v_aload_n X dX8_copy_66 rfl ?_
            refine v_iconst X dX8_copy_67 ?_
            refine res_F X (run_V X (c_X8_finding (g := g) ) gX8_copy_X8_finding rfl hdX8_finding ⟨(Nat.le_of_ble_eq_true rfl), (Nat.le_of_ble_eq_true rfl)⟩ ⟨(Nat.le_of_ble_eq_true rfl), (Nat.le_of_ble_eq_true rfl)⟩ 0 rfl rfl rfl [0, 1, 2, 3, 4, 5, 6, 7, 8, 9, 10] rfl rfl rfl rfl (by simp [Value.category]) dX8_copy_68) [0, 1, 2, 3, 4, 5, 6, 7, 8, 9, 10] rfl rfl rfl ?_
            dsimp only [patch, List.set, wMod]
            refine v_iret X Y dX8_copy_71 (u := (5, fi)) ?_ (by rfl)
            exact Or.inr ⟨by omega, Or.inr ⟨by omega, Or.inl ⟨by omega, rfl, rfl⟩⟩⟩
        · skip
          refine v_aload_n X dX8_copy_45 rfl ?_
          refine v_iconst X dX8_copy_46 ?_
          refine res_F X (run_V X (c_X8_finding (g := g) ) gX8_copy_X8_finding rfl hdX8_finding ⟨(Nat.le_of_ble_eq_true rfl), (Nat.le_of_ble_eq_true rfl)⟩ ⟨(Nat.le_of_ble_eq_true rfl), (Nat.le_of_ble_eq_true rfl)⟩ 0 rfl rfl rfl [0, 1, 2, 3, 4, 5, 6, 7, 8, 9, 10] rfl rfl rfl rfl (by simp [Value.category]) dX8_copy_47) [0, 1, 2, 3, 4, 5, 6, 7, 8, 9, 10] rfl rfl rfl ?_
          dsimp only [patch, List.set, wMod]
          refine v_iret X Y dX8_copy_50 (u := (1, fi)) ?_ (by rfl)
          exact Or.inr ⟨by omega, Or.inl ⟨by omega, rfl, rfl⟩⟩
    · skip
      refine v_ldc X (List.mem_of_getElem? (i := 2) rfl) dX8_copy_19 (n := -1000001) (by decide) ?_
      refine v_iret X Y dX8_copy_21 (u := (sq, fi)) ?_ (by rfl)
      exact Or.inl ⟨by omega, rfl, rfl⟩

theorem hdX7_copy : yX7_copy.cls = RX7 ∧ yX7_copy.cls ≠ "java/lang/invoke/MethodHandle" ∧ yX7_copy.cls ≠ "java/lang/invoke/VarHandle" ∧ (parseMethodDescriptor yX7_copy.desc).map (fun d => d.parameters.length) = some 5 := ⟨rfl, by decide +kernel, by decide +kernel, by decide +kernel⟩
set_option maxHeartbeats 4000000 in
set_option maxRecDepth 100000 in
theorem c_X7_copy {g : Gx} {B : Nat → Nat} {lf fi : Int} {it la le : Nat → Int} {a i b j n : Int} (hit : Bd (-2147483648) 2147483647 it) (hla : Bd (-1) 2 la) (hle : Bd 0 40 le) (ha : R32 a) (hi : R32 i) (hb : R32 b) (hj : R32 j) (hn : R32 n) : CtI (S := Int × (Nat → Int)) g yX7_copy wsX7_copy 4 89 [.ref (B 0), .int (iI a), .int (iI i), .int (iI b), .int (iI j), .int (iI n)] (oAH g B (lf) (fi) :: (wRow g (B 1) (B 11) (B 12) (B 13) it la le)) (fun w u => (¬ ((0 ≤ a ∧ a < 8) ∧ (0 ≤ b ∧ b < 8)) ∧ w = -1000001 ∧ u = (fi, it)) ∨ (((0 ≤ a ∧ a < 8) ∧ (0 ≤ b ∧ b < 8)) ∧ (((la a.toNat = -1 ∨ la b.toNat = -1) ∧ w = -1000011 ∧ u = (1, it)) ∨ ((la a.toNat ≠ -1 ∧ la b.toNat ≠ -1) ∧ ((la a.toNat ≠ la b.toNat ∧ w = -1000015 ∧ u = (5, it)) ∨ (la a.toNat = la b.toNat ∧ ((¬ (0 ≤ i ∧ 0 ≤ n ∧ i + n ≤ le a.toNat ∧ 0 ≤ j ∧ j + n ≤ le b.toNat) ∧ w = -1000012 ∧ u = (2, it)) ∨ ((0 ≤ i ∧ 0 ≤ n ∧ i + n ≤ le a.toNat ∧ 0 ≤ j ∧ j + n ≤ le b.toNat) ∧ w = n ∧ u = (0, cpyI it it (a * 40 + i).toNat (b * 40 + j).toNat n.toNat))))))))) (fun u => oAH g B (lf) (u.1) :: (wRow g (B 1) (B 11) (B 12) (B 13) (u.2) la le)) := by
  refine m_go (cc := cX7_copy) (nL := 6) (by decide +kernel) rfl (Nat.le_of_ble_eq_true rfl) (fun x X Y hnm => ?_)
  refine v_eq (lo2 := [some (.ref (B 0)), some (.int (iI a)), some (.int (iI i)), some (.int (iI b)), some (.int (iI j)), some (.int (iI n))]) rfl rfl rfl rfl ?_
  refine v_iload_n X dX7_copy_0 rfl ?_
  refine res_E X (run_S X (c_X7_isRow (g := g) (by first | assumption | omega)) gX7_copy_X7_isRow rfl hdX7_isRow.2 ⟨(Nat.le_of_ble_eq_true rfl), (Nat.le_of_ble_eq_true rfl)⟩ ⟨(Nat.le_of_ble_eq_true rfl), (Nat.le_of_ble_eq_true rfl)⟩ [] rfl rfl rfl rfl (by simp [Value.category]) dX7_copy_1) [] rfl rfl ?_
  refine v_ifb_eq (tgt := 14) X dX7_copy_4 (by decide) (fun c1 => ?_) (fun c1 => ?_)
  · skip
    refine v_ldc X (List.mem_of_getElem? (i := 1) rfl) dX7_copy_14 (n := -1000001) (by decide) ?_
    refine v_iret X Y dX7_copy_16 (u := (fi, it)) ?_ (by rfl)
    exact Or.inl ⟨by omega, rfl, rfl⟩
  · skip
    refine v_iload_n X dX7_copy_7 rfl ?_
    refine res_E X (run_S X (c_X7_isRow (g := g) (by first | assumption | omega)) gX7_copy_X7_isRow rfl hdX7_isRow.2 ⟨(Nat.le_of_ble_eq_true rfl), (Nat.le_of_ble_eq_true rfl)⟩ ⟨(Nat.le_of_ble_eq_true rfl), (Nat.le_of_ble_eq_true rfl)⟩ [] rfl rfl rfl rfl (by simp [Value.category]) dX7_copy_8) [] rfl rfl ?_
    refine v_ifb_ne (tgt := 17) X dX7_copy_11 (by decide) (fun c2 => ?_) (fun c2 => ?_)
    · skip
      have g1 := hle a.toNat
      have g2 := hle b.toNat
      have g3 : lanI la a = la a.toNat := if_pos (by omega)
      have g4 : lanI la b = la b.toNat := if_pos (by omega)
      have g5 : rchI le a i n = if 0 ≤ i ∧ 0 ≤ n ∧ i ≤ le a.toNat - n then 1 else 0 := rchI_n (by omega)
      have g6 : rchI le b j n = if 0 ≤ j ∧ 0 ≤ n ∧ j ≤ le b.toNat - n then 1 else 0 := rchI_n (by omega)
      have g7 := hla a.toNat
      have g8 := hla b.toNat
      refine v_aload_n X dX7_copy_17 rfl ?_
      refine v_get X (fun _ h => List.mem_cons_of_mem _ (List.mem_append_left _ (List.mem_append_right _ h))) 0 rfl rfl 0 (by decide) rfl (List.mem_of_getElem? (i := 2) rfl) rfl dX7_copy_18 ?_
      refine v_iload_n X dX7_copy_21 rfl ?_
      refine res_E X (run_V X (c_X5_isMissing (g := g) (by first | assumption | omega) (by first | assumption | omega)) gX7_copy_X5_isMissing rfl hdX5_isMissing ⟨(Nat.le_of_ble_eq_true rfl), (Nat.le_of_ble_eq_true rfl)⟩ ⟨(Nat.le_of_ble_eq_true rfl), (Nat.le_of_ble_eq_true rfl)⟩ 1 rfl rfl rfl [1, 2, 3, 4] rfl rfl rfl rfl (by simp [Value.category]) dX7_copy_22) [1, 2, 3, 4] rfl rfl ?_
      refine v_ifb_ne (tgt := 39) X dX7_copy_25 (by decide) (fun c3 => ?_) (fun c3 => ?_)
      · skip
        refine v_aload_n X dX7_copy_39 rfl ?_
        refine v_iconst X dX7_copy_40 ?_
        refine res_F X (run_V X (c_X7_found (g := g) ) gX7_copy_X7_found rfl hdX7_found ⟨(Nat.le_of_ble_eq_true rfl), (Nat.le_of_ble_eq_true rfl)⟩ ⟨(Nat.le_of_ble_eq_true rfl), (Nat.le_of_ble_eq_true rfl)⟩ 0 rfl rfl rfl [0] rfl rfl rfl rfl (by simp [Value.category]) dX7_copy_41) [0] rfl rfl rfl ?_
        dsimp only [patch, List.set, List.cons_append, List.nil_append, oAH, wRow]
        refine v_iret X Y dX7_copy_44 (u := (1, it)) ?_ (by rfl)
        exact Or.inr ⟨by omega, Or.inl ⟨by omega, rfl, rfl⟩⟩
      · skip
        refine v_aload_n X dX7_copy_28 rfl ?_
        refine v_get X (fun _ h => List.mem_cons_of_mem _ (List.mem_append_left _ (List.mem_append_right _ h))) 0 rfl rfl 0 (by decide) rfl (List.mem_of_getElem? (i := 2) rfl) rfl dX7_copy_29 ?_
        refine v_iload_n X dX7_copy_32 rfl ?_
        refine res_E X (run_V X (c_X5_isMissing (g := g) (by first | assumption | omega) (by first | assumption | omega)) gX7_copy_X5_isMissing rfl hdX5_isMissing ⟨(Nat.le_of_ble_eq_true rfl), (Nat.le_of_ble_eq_true rfl)⟩ ⟨(Nat.le_of_ble_eq_true rfl), (Nat.le_of_ble_eq_true rfl)⟩ 1 rfl rfl rfl [1, 2, 3, 4] rfl rfl rfl rfl (by simp [Value.category]) dX7_copy_33) [1, 2, 3, 4] rfl rfl ?_
        refine v_ifb_eq (tgt := 45) X dX7_copy_36 (by decide) (fun c4 => ?_) (fun c4 => ?_)
        · skip
          refine v_aload_n X dX7_copy_45 rfl ?_
          refine v_get X (fun _ h => List.mem_cons_of_mem _ (List.mem_append_left _ (List.mem_append_right _ h))) 0 rfl rfl 0 (by decide) rfl (List.mem_of_getElem? (i := 2) rfl) rfl dX7_copy_46 ?_
          refine v_iload_n X dX7_copy_49 rfl ?_
          refine res_E X (run_V X (c_X5_laneOf (g := g) (by first | assumption | omega) (by first | assumption | omega)) gX7_copy_X5_laneOf rfl hdX5_laneOf ⟨(Nat.le_of_ble_eq_true rfl), (Nat.le_of_ble_eq_true rfl)⟩ ⟨(Nat.le_of_ble_eq_true rfl), (Nat.le_of_ble_eq_true rfl)⟩ 1 rfl rfl rfl [1, 2, 3, 4] rfl rfl rfl rfl (by simp [Value.category]) dX7_copy_50) [1, 2, 3, 4] rfl rfl ?_
          refine v_aload_n X dX7_copy_53 rfl ?_
          refine v_get X (fun _ h => List.mem_cons_of_mem _ (List.mem_append_left _ (List.mem_append_right _ h))) 0 rfl rfl 0 (by decide) rfl (List.mem_of_getElem? (i := 2) rfl) rfl dX7_copy_54 ?_
          refine v_iload_n X dX7_copy_57 rfl ?_
          refine res_E X (run_V X (c_X5_laneOf (g := g) (by first | assumption | omega) (by first | assumption | omega)) gX7_copy_X5_laneOf rfl hdX5_laneOf ⟨(Nat.le_of_ble_eq_true rfl), (Nat.le_of_ble_eq_true rfl)⟩ ⟨(Nat.le_of_ble_eq_true rfl), (Nat.le_of_ble_eq_true rfl)⟩ 1 rfl rfl rfl [1, 2, 3, 4] rfl rfl rfl rfl (by simp [Value.category]) dX7_copy_58) [1, 2, 3, 4] rfl rfl ?_
          refine v_icmp_eq (tgt := 70) X dX7_copy_61 (by decide) (by omega) (by omega) (fun c5 => ?_) (fun c5 => ?_)
          · skip
            refine v_aload_n X dX7_copy_70 rfl ?_
            refine v_get X (fun _ h => List.mem_cons_of_mem _ (List.mem_append_left _ (List.mem_append_right _ h))) 0 rfl rfl 0 (by decide) rfl (List.mem_of_getElem? (i := 2) rfl) rfl dX7_copy_71 ?_
            refine v_iload_n X dX7_copy_74 rfl ?_
            refine v_iload_n X dX7_copy_75 rfl ?_
            refine v_iload X dX7_copy_76 rfl ?_
            refine res_E X (run_V X (c_X5_reaches (g := g) (by first | assumption | omega) (by first | assumption | omega) (by first | assumption | omega) (by first | assumption | omega)) gX7_copy_X5_reaches rfl hdX5_reaches ⟨(Nat.le_of_ble_eq_true rfl), (Nat.le_of_ble_eq_true rfl)⟩ ⟨(Nat.le_of_ble_eq_true rfl), (Nat.le_of_ble_eq_true rfl)⟩ 1 rfl rfl rfl [1, 2, 3, 4] rfl rfl rfl rfl (by simp [Value.category]) dX7_copy_78) [1, 2, 3, 4] rfl rfl ?_
            rw [g5]
            refine v_ifb_eq (tgt := 99) X dX7_copy_81 (by decide) (fun c6 => ?_) (fun c6 => ?_)
            · skip
              refine v_aload_n X dX7_copy_99 rfl ?_
              refine v_iconst X dX7_copy_100 ?_
              refine res_F X (run_V X (c_X7_found (g := g) ) gX7_copy_X7_found rfl hdX7_found ⟨(Nat.le_of_ble_eq_true rfl), (Nat.le_of_ble_eq_true rfl)⟩ ⟨(Nat.le_of_ble_eq_true rfl), (Nat.le_of_ble_eq_true rfl)⟩ 0 rfl rfl rfl [0] rfl rfl rfl rfl (by simp [Value.category]) dX7_copy_101) [0] rfl rfl rfl ?_
              dsimp only [patch, List.set, List.cons_append, List.nil_append, oAH, wRow]
              refine v_iret X Y dX7_copy_104 (u := (2, it)) ?_ (by rfl)
              exact Or.inr ⟨by omega, Or.inr ⟨by omega, Or.inr ⟨by omega, Or.inl ⟨by omega, rfl, rfl⟩⟩⟩⟩
            · skip
              refine v_aload_n X dX7_copy_84 rfl ?_
              refine v_get X (fun _ h => List.mem_cons_of_mem _ (List.mem_append_left _ (List.mem_append_right _ h))) 0 rfl rfl 0 (by decide) rfl (List.mem_of_getElem? (i := 2) rfl) rfl dX7_copy_85 ?_
              refine v_iload_n X dX7_copy_88 rfl ?_
              refine v_iload X dX7_copy_89 rfl ?_
              refine v_iload X dX7_copy_91 rfl ?_
              refine res_E X (run_V X (c_X5_reaches (g := g) (by first | assumption | omega) (by first | assumption | omega) (by first | assumption | omega) (by first | assumption | omega)) gX7_copy_X5_reaches rfl hdX5_reaches ⟨(Nat.le_of_ble_eq_true rfl), (Nat.le_of_ble_eq_true rfl)⟩ ⟨(Nat.le_of_ble_eq_true rfl), (Nat.le_of_ble_eq_true rfl)⟩ 1 rfl rfl rfl [1, 2, 3, 4] rfl rfl rfl rfl (by simp [Value.category]) dX7_copy_93) [1, 2, 3, 4] rfl rfl ?_
              rw [g6]
              refine v_ifb_ne (tgt := 105) X dX7_copy_96 (by decide) (fun c7 => ?_) (fun c7 => ?_)
              · skip
                refine v_aload_n X dX7_copy_105 rfl ?_
                refine v_get X (fun _ h => List.mem_cons_of_mem _ (List.mem_append_left _ (List.mem_append_right _ h))) 0 rfl rfl 0 (by decide) rfl (List.mem_of_getElem? (i := 2) rfl) rfl dX7_copy_106 ?_
                refine v_iload_n X dX7_copy_109 rfl ?_
                refine v_iload_n X dX7_copy_110 rfl ?_
                refine v_iload_n X dX7_copy_111 rfl ?_
                refine v_iload X dX7_copy_112 rfl ?_
                refine v_iload X dX7_copy_114 rfl ?_
                refine res_W X (run_V X (c_X5_move (g := g) (by first | assumption | omega) (by first | assumption | omega) (by first | assumption | omega) (by first | assumption | omega) (by first | assumption | omega) (by first | assumption | omega)) gX7_copy_X5_move rfl hdX5_move ⟨(Nat.le_of_ble_eq_true rfl), (Nat.le_of_ble_eq_true rfl)⟩ ⟨(Nat.le_of_ble_eq_true rfl), (Nat.le_of_ble_eq_true rfl)⟩ 1 rfl rfl rfl [1, 2, 3, 4] rfl rfl rfl rfl (by simp [Value.category]) dX7_copy_116) [1, 2, 3, 4] rfl rfl rfl ?_
                dsimp only [patch, List.set, List.cons_append, List.nil_append, oAH, wRow]
                refine v_aload_n X dX7_copy_119 rfl ?_
                refine v_iload X dX7_copy_120 rfl ?_
                refine res_F X (run_V X (c_X7_fine (g := g) ) gX7_copy_X7_fine rfl hdX7_fine ⟨(Nat.le_of_ble_eq_true rfl), (Nat.le_of_ble_eq_true rfl)⟩ ⟨(Nat.le_of_ble_eq_true rfl), (Nat.le_of_ble_eq_true rfl)⟩ 0 rfl rfl rfl [0] rfl rfl rfl rfl (by simp [Value.category]) dX7_copy_122) [0] rfl rfl rfl ?_
                dsimp only [patch, List.set, List.cons_append, List.nil_append, oAH, wRow]
                refine v_iret X Y dX7_copy_125 (u := (0, cpyI it it (a * 40 + i).toNat (b * 40 + j).toNat n.toNat)) ?_ (by rfl)
                exact Or.inr ⟨by omega, Or.inr ⟨by omega, Or.inr ⟨by omega, Or.inr ⟨by omega, rfl, rfl⟩⟩⟩⟩
              · skip
                refine v_aload_n X dX7_copy_99 rfl ?_
                refine v_iconst X dX7_copy_100 ?_
                refine res_F X (run_V X (c_X7_found (g := g) ) gX7_copy_X7_found rfl hdX7_found ⟨(Nat.le_of_ble_eq_true rfl), (Nat.le_of_ble_eq_true rfl)⟩ ⟨(Nat.le_of_ble_eq_true rfl), (Nat.le_of_ble_eq_true rfl)⟩ 0 rfl rfl rfl [0] rfl rfl rfl rfl (by simp [Value.category]) dX7_copy_101) [0] rfl rfl rfl ?_
                dsimp only [patch, List.set, List.cons_append, List.nil_append, oAH, wRow]
                refine v_iret X Y dX7_copy_104 (u := (2, it)) ?_ (by rfl)
                exact Or.inr ⟨by omega, Or.inr ⟨by omega, Or.inr ⟨by omega, Or.inl ⟨by omega, rfl, rfl⟩⟩⟩⟩
          · skip
            refine v_aload_n X dX7_copy_64 rfl ?_
            refine v_iconst X dX7_copy_65 ?_
            refine res_F X (run_V X (c_X7_found (g := g) ) gX7_copy_X7_found rfl hdX7_found ⟨(Nat.le_of_ble_eq_true rfl), (Nat.le_of_ble_eq_true rfl)⟩ ⟨(Nat.le_of_ble_eq_true rfl), (Nat.le_of_ble_eq_true rfl)⟩ 0 rfl rfl rfl [0] rfl rfl rfl rfl (by simp [Value.category]) dX7_copy_66) [0] rfl rfl rfl ?_
            dsimp only [patch, List.set, List.cons_append, List.nil_append, oAH, wRow]
            refine v_iret X Y dX7_copy_69 (u := (5, it)) ?_ (by rfl)
            exact Or.inr ⟨by omega, Or.inr ⟨by omega, Or.inl ⟨by omega, rfl, rfl⟩⟩⟩
        · skip
          refine v_aload_n X dX7_copy_39 rfl ?_
          refine v_iconst X dX7_copy_40 ?_
          refine res_F X (run_V X (c_X7_found (g := g) ) gX7_copy_X7_found rfl hdX7_found ⟨(Nat.le_of_ble_eq_true rfl), (Nat.le_of_ble_eq_true rfl)⟩ ⟨(Nat.le_of_ble_eq_true rfl), (Nat.le_of_ble_eq_true rfl)⟩ 0 rfl rfl rfl [0] rfl rfl rfl rfl (by simp [Value.category]) dX7_copy_41) [0] rfl rfl rfl ?_
          dsimp only [patch, List.set, List.cons_append, List.nil_append, oAH, wRow]
          refine v_iret X Y dX7_copy_44 (u := (1, it)) ?_ (by rfl)
          exact Or.inr ⟨by omega, Or.inl ⟨by omega, rfl, rfl⟩⟩
    · skip
      refine v_ldc X (List.mem_of_getElem? (i := 1) rfl) dX7_copy_14 (n := -1000001) (by decide) ?_
      refine v_iret X Y dX7_copy_16 (u := (fi, it)) ?_ (by rfl)
      exact Or.inl ⟨by omega, rfl, rfl⟩

theorem hdX8_kind : yX8_kind.cls = RX8 ∧ yX8_kind.cls ≠ "java/lang/invoke/MethodHandle" ∧ yX8_kind.cls ≠ "java/lang/invoke/VarHandle" ∧ (parseMethodDescriptor yX8_kind.desc).map (fun d => d.parameters.length) = some 1 := ⟨rfl, by decide +kernel, by decide +kernel, by decide +kernel⟩
set_option maxHeartbeats 4000000 in
set_option maxRecDepth 100000 in
theorem c_X8_kind {g : Gx} {A : Nat → Nat} {th sq ac td lt ln cu tk sa ti ft fp le lf tr : Int} {fl fm fi fc ff fw ftp fk fe fr : Nat → Int} {h : Int} (hfc : Bd 0 60 fc) (hc1 : 0 ≤ fc 1 ∧ fc 1 ≤ 4) (hh : R32 h) : CtE g yX8_kind wsX8_kind 2 46 [.ref (A 0), .int (iI h)] (wMod g A th sq ac td lt ln cu tk sa ti ft fp le lf tr fl fm fi fc ff fw ftp fk fe fr) (if 0 ≤ h ∧ h < fc 1 then atI 4 (kM fc) h else -1000001) (wMod g A (0) sq ac td lt ln cu tk sa ti ft fp le lf tr fl fm fi fc ff fw ftp fk fe fr) := by
  refine m_go (cc := cX8_kind) (nL := 2) (by decide +kernel) rfl (Nat.le_of_ble_eq_true rfl) (fun x X Y hnm => ?_)
  refine v_eq (lo2 := [some (.ref (A 0)), some (.int (iI h))]) rfl rfl rfl rfl ?_
  refine v_aload_n X dX8_kind_0 rfl ?_
  refine v_iconst X dX8_kind_1 ?_
  refine v_put X (fun _ h => List.mem_cons_of_mem _ (List.mem_append_right _ h)) tyX8 tyX8_ok nmX8 0 rfl rfl 0 (by decide) rfl (List.mem_of_getElem? (i := 1) rfl) rfl rfl rfl (Nat.le_of_ble_eq_true rfl) dX8_kind_2 ?_
  dsimp only [List.set, wMod]
  refine v_aload_n X dX8_kind_5 rfl ?_
  refine v_iload_n X dX8_kind_6 rfl ?_
  refine res_E X (run_V X (c_X8_isHand (g := g) (by first | assumption | omega) (by first | assumption | omega)) gX8_kind_X8_isHand rfl hdX8_isHand ⟨(Nat.le_of_ble_eq_true rfl), (Nat.le_of_ble_eq_true rfl)⟩ ⟨(Nat.le_of_ble_eq_true rfl), (Nat.le_of_ble_eq_true rfl)⟩ 0 rfl rfl rfl [0, 1, 2, 3, 4, 5, 6, 7, 8, 9, 10] rfl rfl rfl rfl (by simp [Value.category]) dX8_kind_7) [0, 1, 2, 3, 4, 5, 6, 7, 8, 9, 10] rfl rfl ?_
  refine v_ifb_eq (tgt := 22) X dX8_kind_10 (by decide) (fun c1 => ?_) (fun c1 => ?_)
  · skip
    refine v_ldc X (List.mem_of_getElem? (i := 2) rfl) dX8_kind_22 (n := -1000001) (by decide) ?_
    exact v_iret X Y dX8_kind_24 (u := ()) (by first | rw [if_pos (by assumption)] | rw [if_neg (by assumption)]) (by rfl)
  · skip
    refine v_aload_n X dX8_kind_13 rfl ?_
    refine v_iload_n X dX8_kind_14 rfl ?_
    refine v_iconst X dX8_kind_15 ?_
    refine res_E X (run_V X (c_X8_of (g := g) (by first | assumption | omega) (by first | assumption | omega) (by first | assumption | omega)) gX8_kind_X8_of rfl hdX8_of ⟨(Nat.le_of_ble_eq_true rfl), (Nat.le_of_ble_eq_true rfl)⟩ ⟨(Nat.le_of_ble_eq_true rfl), (Nat.le_of_ble_eq_true rfl)⟩ 0 rfl rfl rfl [0, 1, 2, 3, 4, 5, 6, 7, 8, 9, 10] rfl rfl rfl rfl (by simp [Value.category]) dX8_kind_16) [0, 1, 2, 3, 4, 5, 6, 7, 8, 9, 10] rfl rfl ?_
    rw [kM_at (fc := fc) (h := h) (by omega)]
    refine v_goto (tgt := 24) X dX8_kind_19 (by decide) ?_
    exact v_iret X Y dX8_kind_24 (u := ()) (by first | rw [if_pos (by assumption)] | rw [if_neg (by assumption)]) (by rfl)

theorem hdX8_as : yX8_as.cls = RX8 ∧ yX8_as.cls ≠ "java/lang/invoke/MethodHandle" ∧ yX8_as.cls ≠ "java/lang/invoke/VarHandle" ∧ (parseMethodDescriptor yX8_as.desc).map (fun d => d.parameters.length) = some 2 := ⟨rfl, by decide +kernel, by decide +kernel, by decide +kernel⟩
set_option maxHeartbeats 4000000 in
set_option maxRecDepth 100000 in
theorem c_X8_as {g : Gx} {A : Nat → Nat} {th sq ac td lt ln cu tk sa ti ft fp le lf tr : Int} {fl fm fi fc ff fw ftp fk fe fr : Nat → Int} {h w : Int} (hfc : Bd 0 60 fc) (hc1 : 0 ≤ fc 1 ∧ fc 1 ≤ 4) (hh : R32 h) (hw : R32 w) : CtI (S := Int) g yX8_as wsX8_as 2 46 [.ref (A 0), .int (iI h), .int (iI w)] (wMod g A th sq ac td lt ln cu tk sa ti ft fp le lf tr fl fm fi fc ff fw ftp fk fe fr) (fun v u => (¬ ((0 ≤ h ∧ h < fc 1) ∧ 0 ≤ w ∧ w ≤ 5) ∧ v = -1000001 ∧ u = sq) ∨ (((0 ≤ h ∧ h < fc 1) ∧ 0 ≤ w ∧ w ≤ 5) ∧ ((okM (atI 4 (kM fc) h) w ∧ v = h ∧ u = 0) ∨ (¬ okM (atI 4 (kM fc) h) w ∧ v = -1000013 ∧ u = 3)))) (fun u => wMod g A (0) (u) ac td lt ln cu tk sa ti ft fp le lf tr fl fm fi fc ff fw ftp fk fe fr) := by
  refine m_go (cc := cX8_as) (nL := 3) (by decide +kernel) rfl (Nat.le_of_ble_eq_true rfl) (fun x X Y hnm => ?_)
  refine v_eq (lo2 := [some (.ref (A 0)), some (.int (iI h)), some (.int (iI w))]) rfl rfl rfl rfl ?_
  refine v_aload_n X dX8_as_0 rfl ?_
  refine v_iconst X dX8_as_1 ?_
  refine v_put X (fun _ h => List.mem_cons_of_mem _ (List.mem_append_right _ h)) tyX8 tyX8_ok nmX8 0 rfl rfl 0 (by decide) rfl (List.mem_of_getElem? (i := 1) rfl) rfl rfl rfl (Nat.le_of_ble_eq_true rfl) dX8_as_2 ?_
  dsimp only [List.set, wMod]
  refine v_aload_n X dX8_as_5 rfl ?_
  refine v_iload_n X dX8_as_6 rfl ?_
  refine res_E X (run_V X (c_X8_isHand (g := g) (by first | assumption | omega) (by first | assumption | omega)) gX8_as_X8_isHand rfl hdX8_isHand ⟨(Nat.le_of_ble_eq_true rfl), (Nat.le_of_ble_eq_true rfl)⟩ ⟨(Nat.le_of_ble_eq_true rfl), (Nat.le_of_ble_eq_true rfl)⟩ 0 rfl rfl rfl [0, 1, 2, 3, 4, 5, 6, 7, 8, 9, 10] rfl rfl rfl rfl (by simp [Value.category]) dX8_as_7) [0, 1, 2, 3, 4, 5, 6, 7, 8, 9, 10] rfl rfl ?_
  refine v_ifb_eq (tgt := 25) X dX8_as_10 (by decide) (fun c1 => ?_) (fun c1 => ?_)
  · skip
    refine v_ldc X (List.mem_of_getElem? (i := 3) rfl) dX8_as_25 (n := -1000001) (by decide) ?_
    refine v_iret X Y dX8_as_27 (u := sq) ?_ (by rfl)
    first | exact Or.inl ⟨by omega, rfl, rfl⟩ | exact Or.inr ⟨by omega, Or.inl ⟨by unfold okM; assumption, rfl, rfl⟩⟩ | exact Or.inr ⟨by omega, Or.inr ⟨by unfold okM; assumption, rfl, rfl⟩⟩
  · skip
    refine v_iload_n X dX8_as_13 rfl ?_
    refine v_i2l X dX8_as_14 (by omega) ?_
    refine v_lconst0 X dX8_as_15 ?_
    refine v_ldc2 X (List.mem_of_getElem? (i := 2) rfl) dX8_as_16 (n := 5) (by decide) ?_
    refine res_E X (run_S X (c_X8_in (g := g) (by first | assumption | omega) (by first | assumption | omega) (by first | assumption | omega)) gX8_as_X8_in rfl hdX8_in.2 ⟨(Nat.le_of_ble_eq_true rfl), (Nat.le_of_ble_eq_true rfl)⟩ ⟨(Nat.le_of_ble_eq_true rfl), (Nat.le_of_ble_eq_true rfl)⟩ [] rfl rfl rfl rfl (by simp [Value.category]) dX8_as_19) [] rfl rfl ?_
    refine v_ifb_ne (tgt := 28) X dX8_as_22 (by decide) (fun c2 => ?_) (fun c2 => ?_)
    · skip
      refine v_aload_n X dX8_as_28 rfl ?_
      refine v_iconst X dX8_as_29 ?_
      refine v_put X (fun _ h => List.mem_cons_of_mem _ (List.mem_append_right _ h)) tyX8 tyX8_ok nmX8 0 rfl rfl 1 (by decide) rfl (List.mem_of_getElem? (i := 4) rfl) rfl rfl rfl (Nat.le_of_ble_eq_true rfl) dX8_as_30 ?_
      dsimp only [List.set, wMod]
      refine v_aload_n X dX8_as_33 rfl ?_
      refine v_iload_n X dX8_as_34 rfl ?_
      refine v_iconst X dX8_as_35 ?_
      refine res_E X (run_V X (c_X8_of (g := g) (by first | assumption | omega) (by first | assumption | omega) (by first | assumption | omega)) gX8_as_X8_of rfl hdX8_of ⟨(Nat.le_of_ble_eq_true rfl), (Nat.le_of_ble_eq_true rfl)⟩ ⟨(Nat.le_of_ble_eq_true rfl), (Nat.le_of_ble_eq_true rfl)⟩ 0 rfl rfl rfl [0, 1, 2, 3, 4, 5, 6, 7, 8, 9, 10] rfl rfl rfl rfl (by simp [Value.category]) dX8_as_36) [0, 1, 2, 3, 4, 5, 6, 7, 8, 9, 10] rfl rfl ?_
      rw [kM_at (fc := fc) (h := h) (by omega)]
      have q3 := atI_bd (cn := 4) (h := h) (f := kM fc) (lo := 0) (hi := 60) (fun j => hfc _) (by omega) (by omega)
      refine v_iload_n X dX8_as_39 rfl ?_
      refine res_E X (run_S X (c_X8_isOf (g := g) (by first | assumption | omega) (by first | assumption | omega)) gX8_as_X8_isOf rfl hdX8_isOf.2 ⟨(Nat.le_of_ble_eq_true rfl), (Nat.le_of_ble_eq_true rfl)⟩ ⟨(Nat.le_of_ble_eq_true rfl), (Nat.le_of_ble_eq_true rfl)⟩ [] rfl rfl rfl rfl (by simp [Value.category]) dX8_as_40) [] rfl rfl ?_
      refine v_ifb_eq (tgt := 50) X dX8_as_43 (by decide) (fun c3 => ?_) (fun c3 => ?_)
      · skip
        refine v_aload_n X dX8_as_50 rfl ?_
        refine v_iconst X dX8_as_51 ?_
        refine res_F X (run_V X (c_X8_finding (g := g) ) gX8_as_X8_finding rfl hdX8_finding ⟨(Nat.le_of_ble_eq_true rfl), (Nat.le_of_ble_eq_true rfl)⟩ ⟨(Nat.le_of_ble_eq_true rfl), (Nat.le_of_ble_eq_true rfl)⟩ 0 rfl rfl rfl [0, 1, 2, 3, 4, 5, 6, 7, 8, 9, 10] rfl rfl rfl rfl (by simp [Value.category]) dX8_as_52) [0, 1, 2, 3, 4, 5, 6, 7, 8, 9, 10] rfl rfl rfl ?_
        dsimp only [patch, List.set, wMod]
        refine v_iret X Y dX8_as_55 (u := _) ?_ (by rfl)
        first | exact Or.inl ⟨by omega, rfl, rfl⟩ | exact Or.inr ⟨by omega, Or.inl ⟨by unfold okM; assumption, rfl, rfl⟩⟩ | exact Or.inr ⟨by omega, Or.inr ⟨by unfold okM; assumption, rfl, rfl⟩⟩
      · skip
        refine v_iload_n X dX8_as_46 rfl ?_
        refine v_goto (tgt := 55) X dX8_as_47 (by decide) ?_
        refine v_iret X Y dX8_as_55 (u := _) ?_ (by rfl)
        first | exact Or.inl ⟨by omega, rfl, rfl⟩ | exact Or.inr ⟨by omega, Or.inl ⟨by unfold okM; assumption, rfl, rfl⟩⟩ | exact Or.inr ⟨by omega, Or.inr ⟨by unfold okM; assumption, rfl, rfl⟩⟩
    · skip
      refine v_ldc X (List.mem_of_getElem? (i := 3) rfl) dX8_as_25 (n := -1000001) (by decide) ?_
      refine v_iret X Y dX8_as_27 (u := sq) ?_ (by rfl)
      first | exact Or.inl ⟨by omega, rfl, rfl⟩ | exact Or.inr ⟨by omega, Or.inl ⟨by unfold okM; assumption, rfl, rfl⟩⟩ | exact Or.inr ⟨by omega, Or.inr ⟨by unfold okM; assumption, rfl, rfl⟩⟩

theorem hdX8_fault : yX8_fault.cls = RX8 ∧ yX8_fault.cls ≠ "java/lang/invoke/MethodHandle" ∧ yX8_fault.cls ≠ "java/lang/invoke/VarHandle" ∧ (parseMethodDescriptor yX8_fault.desc).map (fun d => d.parameters.length) = some 0 := ⟨rfl, by decide +kernel, by decide +kernel, by decide +kernel⟩
set_option maxHeartbeats 4000000 in
set_option maxRecDepth 100000 in
theorem c_X8_fault {g : Gx} {A : Nat → Nat} {th sq ac td lt ln cu tk sa ti ft fp le lf tr : Int} {fl fm fi fc ff fw ftp fk fe fr : Nat → Int}   : CtE g yX8_fault wsX8_fault 0 0 [.ref (A 0)] (wMod g A th sq ac td lt ln cu tk sa ti ft fp le lf tr fl fm fi fc ff fw ftp fk fe fr) (lt) (wMod g A (0) sq ac td lt ln cu tk sa ti ft fp le lf tr fl fm fi fc ff fw ftp fk fe fr) := by
  refine m_go (cc := cX8_fault) (nL := 1) (by decide +kernel) rfl (Nat.le_of_ble_eq_true rfl) (fun x X Y hnm => ?_)
  refine v_eq (lo2 := [some (.ref (A 0))]) rfl rfl rfl rfl ?_
  refine v_aload_n X dX8_fault_0 rfl ?_
  refine v_iconst X dX8_fault_1 ?_
  refine v_put X (fun _ h => List.mem_cons_of_mem _ (List.mem_append_right _ h)) tyX8 tyX8_ok nmX8 0 rfl rfl 0 (by decide) rfl (List.mem_of_getElem? (i := 1) rfl) rfl rfl rfl (Nat.le_of_ble_eq_true rfl) dX8_fault_2 ?_
  dsimp only [List.set, wMod]
  refine v_aload_n X dX8_fault_5 rfl ?_
  refine v_get X (fun _ h => List.mem_cons_of_mem _ (List.mem_append_right _ h)) 0 rfl rfl 11 (by decide) rfl (List.mem_of_getElem? (i := 2) rfl) rfl dX8_fault_6 ?_
  exact v_iret X Y dX8_fault_9 (u := ()) (by first | rfl | omega | (split <;> omega) | (simp [*]; done)) (by rfl)

theorem hdX8_status : yX8_status.cls = RX8 ∧ yX8_status.cls ≠ "java/lang/invoke/MethodHandle" ∧ yX8_status.cls ≠ "java/lang/invoke/VarHandle" ∧ (parseMethodDescriptor yX8_status.desc).map (fun d => d.parameters.length) = some 0 := ⟨rfl, by decide +kernel, by decide +kernel, by decide +kernel⟩
set_option maxHeartbeats 4000000 in
set_option maxRecDepth 100000 in
theorem c_X8_status {g : Gx} {A : Nat → Nat} {th sq ac td lt ln cu tk sa ti ft fp le lf tr : Int} {fl fm fi fc ff fw ftp fk fe fr : Nat → Int}   : CtE g yX8_status wsX8_status 0 0 [.ref (A 0)] (wMod g A th sq ac td lt ln cu tk sa ti ft fp le lf tr fl fm fi fc ff fw ftp fk fe fr) (sq) (wMod g A (0) sq ac td lt ln cu tk sa ti ft fp le lf tr fl fm fi fc ff fw ftp fk fe fr) := by
  refine m_go (cc := cX8_status) (nL := 1) (by decide +kernel) rfl (Nat.le_of_ble_eq_true rfl) (fun x X Y hnm => ?_)
  refine v_eq (lo2 := [some (.ref (A 0))]) rfl rfl rfl rfl ?_
  refine v_aload_n X dX8_status_0 rfl ?_
  refine v_iconst X dX8_status_1 ?_
  refine v_put X (fun _ h => List.mem_cons_of_mem _ (List.mem_append_right _ h)) tyX8 tyX8_ok nmX8 0 rfl rfl 0 (by decide) rfl (List.mem_of_getElem? (i := 1) rfl) rfl rfl rfl (Nat.le_of_ble_eq_true rfl) dX8_status_2 ?_
  dsimp only [List.set, wMod]
  refine v_aload_n X dX8_status_5 rfl ?_
  refine v_get X (fun _ h => List.mem_cons_of_mem _ (List.mem_append_right _ h)) 0 rfl rfl 1 (by decide) rfl (List.mem_of_getElem? (i := 2) rfl) rfl dX8_status_6 ?_
  exact v_iret X Y dX8_status_9 (u := ()) (by first | rfl | omega | (split <;> omega) | (simp [*]; done)) (by rfl)

theorem hdX7_doubts : yX7_doubts.cls = RX7 ∧ yX7_doubts.cls ≠ "java/lang/invoke/MethodHandle" ∧ yX7_doubts.cls ≠ "java/lang/invoke/VarHandle" ∧ (parseMethodDescriptor yX7_doubts.desc).map (fun d => d.parameters.length) = some 2 := ⟨rfl, by decide +kernel, by decide +kernel, by decide +kernel⟩
set_option maxHeartbeats 4000000 in
set_option maxRecDepth 100000 in
theorem c_X7_doubts {g : Gx} {B : Nat → Nat} {lf fi : Int} {mk cn : Int} {so tu sp : Nat → Int} {wh sh mo fo : Int} {a b : Int} (hcn : 0 ≤ cn ∧ cn ≤ 4) (hmk : 0 ≤ mk ∧ mk ≤ 60) (hso : Bd 0 5 so) (htu : Bd 0 12 tu) (hsp : Bd 0 59 sp) (ha : R32 a) (hb : R32 b) : CtI (S := Int × Int × Int × Int) g yX7_doubts wsX7_doubts 4 88 [.ref (B 0), .int (iI a), .int (iI b)] (oAH g B (lf) (fi) :: (wClk g (B 3) (B 15) (B 16) (B 17) mk cn so tu sp ++ (wDou g (B 8) wh sh mo fo))) (fun v u => (¬ ((0 ≤ a ∧ a < cn) ∧ (0 ≤ b ∧ b < cn) ∧ a ≠ b) ∧ v = -1000001 ∧ u = (wh, sh, mo, fo)) ∨ (((0 ≤ a ∧ a < cn) ∧ (0 ≤ b ∧ b < cn) ∧ a ≠ b) ∧ u.1 = whoI (spdI cn so tu a) (spdI cn so tu b) ∧ u.2.1 = shaI (spdI cn so tu a) (spdI cn so tu b) ∧ u.2.2.1 = momI (spdI cn so tu a) (spdI cn so tu b) ∧ LsO (whoI (spdI cn so tu a) (spdI cn so tu b)) (shaI (spdI cn so tu a) (spdI cn so tu b)) (momI (spdI cn so tu a) (spdI cn so tu b)) (spdI cn so tu a) (spdI cn so tu b) u.2.2.2 ∧ (v = if momI (spdI cn so tu a) (spdI cn so tu b) = 0 then -1000000 else cntN (fun k => decide (0 ≤ othI (momI (spdI cn so tu a) (spdI cn so tu b)) (shaI (spdI cn so tu a) (spdI cn so tu b)) u.2.2.2 k)) (momI (spdI cn so tu a) (spdI cn so tu b)).toNat))) (fun u => oAH g B (lf) (fi) :: (wClk g (B 3) (B 15) (B 16) (B 17) mk cn so tu sp ++ (wDou g (B 8) (u.1) (u.2.1) (u.2.2.1) (u.2.2.2)))) := by
  refine m_go (cc := cX7_doubts) (nL := 3) (by decide +kernel) rfl (Nat.le_of_ble_eq_true rfl) (fun x X Y hnm => ?_)
  refine v_eq (lo2 := [some (.ref (B 0)), some (.int (iI a)), some (.int (iI b))]) rfl rfl rfl rfl ?_
  have qs := fun (i : Int) => spdI_bd (cn := cn) (so := so) (h := i) htu
  have q1 := qs a
  have q2 := qs b
  have q3 := whoI_bd q1 q2
  have q4 : 0 ≤ shaI (spdI cn so tu a) (spdI cn so tu b) ∧ shaI (spdI cn so tu a) (spdI cn so tu b) ≤ 24 := ⟨by unfold shaI; omega, gcd_le (absI_bd q1).1 (absI_bd q2).1 (by omega) (absI_bd q1).2 (absI_bd q2).2⟩
  have q5 := momI_bd q3 q4
  refine v_aload_n X dX7_doubts_0 rfl ?_
  refine v_iload_n X dX7_doubts_1 rfl ?_
  refine v_iload_n X dX7_doubts_2 rfl ?_
  refine res_E X (run_V X (c_X7_isPair (g := g) (by first | assumption | omega) (by first | assumption | omega) (by first | assumption | omega)) gX7_doubts_X7_isPair rfl hdX7_isPair ⟨(Nat.le_of_ble_eq_true rfl), (Nat.le_of_ble_eq_true rfl)⟩ ⟨(Nat.le_of_ble_eq_true rfl), (Nat.le_of_ble_eq_true rfl)⟩ 0 rfl rfl rfl [0, 1, 2, 3, 4] rfl rfl rfl rfl (by simp [Value.category]) dX7_doubts_3) [0, 1, 2, 3, 4] rfl rfl ?_
  refine v_ifb_ne (tgt := 12) X dX7_doubts_6 (by decide) (fun c1 => ?_) (fun c1 => ?_)
  · skip
    refine v_aload_n X dX7_doubts_12 rfl ?_
    refine v_get X (fun _ h => List.mem_cons_of_mem _ (List.mem_append_left _ (List.mem_append_left _ (List.mem_append_right _ h)))) 0 rfl rfl 7 (by decide) rfl (List.mem_of_getElem? (i := 2) rfl) rfl dX7_doubts_13 ?_
    refine v_aload_n X dX7_doubts_16 rfl ?_
    refine v_get X (fun _ h => List.mem_cons_of_mem _ (List.mem_append_left _ (List.mem_append_left _ (List.mem_append_right _ h)))) 0 rfl rfl 2 (by decide) rfl (List.mem_of_getElem? (i := 3) rfl) rfl dX7_doubts_17 ?_
    refine v_iload_n X dX7_doubts_20 rfl ?_
    refine res_E X (run_V X (c_X2_speedOf (g := g) (by first | assumption | omega) (by first | assumption | omega) (by first | assumption | omega) (by first | assumption | omega)) gX7_doubts_X2_speedOf rfl hdX2_speedOf ⟨(Nat.le_of_ble_eq_true rfl), (Nat.le_of_ble_eq_true rfl)⟩ ⟨(Nat.le_of_ble_eq_true rfl), (Nat.le_of_ble_eq_true rfl)⟩ 1 rfl rfl rfl [1, 2, 3, 4] rfl rfl rfl rfl (by simp [Value.category]) dX7_doubts_21) [1, 2, 3, 4] rfl rfl ?_
    refine v_aload_n X dX7_doubts_24 rfl ?_
    refine v_get X (fun _ h => List.mem_cons_of_mem _ (List.mem_append_left _ (List.mem_append_left _ (List.mem_append_right _ h)))) 0 rfl rfl 2 (by decide) rfl (List.mem_of_getElem? (i := 3) rfl) rfl dX7_doubts_25 ?_
    refine v_iload_n X dX7_doubts_28 rfl ?_
    refine res_E X (run_V X (c_X2_speedOf (g := g) (by first | assumption | omega) (by first | assumption | omega) (by first | assumption | omega) (by first | assumption | omega)) gX7_doubts_X2_speedOf rfl hdX2_speedOf ⟨(Nat.le_of_ble_eq_true rfl), (Nat.le_of_ble_eq_true rfl)⟩ ⟨(Nat.le_of_ble_eq_true rfl), (Nat.le_of_ble_eq_true rfl)⟩ 1 rfl rfl rfl [1, 2, 3, 4] rfl rfl rfl rfl (by simp [Value.category]) dX7_doubts_29) [1, 2, 3, 4] rfl rfl ?_
    refine res_V X (run_V X (c_X3_of (g := g) (by first | assumption | omega) (by first | assumption | omega)) gX7_doubts_X3_of rfl hdX3_of ⟨(Nat.le_of_ble_eq_true rfl), (Nat.le_of_ble_eq_true rfl)⟩ ⟨(Nat.le_of_ble_eq_true rfl), (Nat.le_of_ble_eq_true rfl)⟩ 5 rfl rfl rfl [5] rfl rfl rfl rfl (by simp [Value.category]) dX7_doubts_32) [5] rfl rfl (fun _ => rfl) (fun u1 hu1 => ?_)
    dsimp only [patch, List.set, List.cons_append, List.nil_append, oAH, wClk, wDou]
    have q6 := LsO_bd q5 hu1
    refine v_aload_n X dX7_doubts_35 rfl ?_
    refine v_get X (fun _ h => List.mem_cons_of_mem _ (List.mem_append_left _ (List.mem_append_left _ (List.mem_append_right _ h)))) 0 rfl rfl 7 (by decide) rfl (List.mem_of_getElem? (i := 2) rfl) rfl dX7_doubts_36 ?_
    refine res_E X (run_V X (c_X3_isNone (g := g) (by first | assumption | omega)) gX7_doubts_X3_isNone rfl hdX3_isNone ⟨(Nat.le_of_ble_eq_true rfl), (Nat.le_of_ble_eq_true rfl)⟩ ⟨(Nat.le_of_ble_eq_true rfl), (Nat.le_of_ble_eq_true rfl)⟩ 5 rfl rfl rfl [5] rfl rfl rfl rfl (by simp [Value.category]) dX7_doubts_39) [5] rfl rfl ?_
    refine v_ifb_eq (tgt := 50) X dX7_doubts_42 (by decide) (fun c3 => ?_) (fun c3 => ?_)
    · skip
      refine v_aload_n X dX7_doubts_50 rfl ?_
      refine v_get X (fun _ h => List.mem_cons_of_mem _ (List.mem_append_left _ (List.mem_append_left _ (List.mem_append_right _ h)))) 0 rfl rfl 7 (by decide) rfl (List.mem_of_getElem? (i := 2) rfl) rfl dX7_doubts_51 ?_
      refine res_E X (run_V X (c_X3_howMany (g := g) (by first | assumption | omega) (by first | assumption | omega) (by first | assumption | omega)) gX7_doubts_X3_howMany rfl hdX3_howMany ⟨(Nat.le_of_ble_eq_true rfl), (Nat.le_of_ble_eq_true rfl)⟩ ⟨(Nat.le_of_ble_eq_true rfl), (Nat.le_of_ble_eq_true rfl)⟩ 5 rfl rfl rfl [5] rfl rfl rfl rfl (by simp [Value.category]) dX7_doubts_54) [5] rfl rfl ?_
      refine v_iret X Y dX7_doubts_57 (u := (whoI (spdI cn so tu a) (spdI cn so tu b), shaI (spdI cn so tu a) (spdI cn so tu b), momI (spdI cn so tu a) (spdI cn so tu b), u1)) ?_ (by rfl)
      refine Or.inr ⟨by omega, rfl, rfl, rfl, hu1, ?_⟩
      first | rw [if_pos (by assumption)] | rw [if_neg (by assumption)]
    · skip
      refine v_ldc X (List.mem_of_getElem? (i := 4) rfl) dX7_doubts_45 (n := -1000000) (by decide) ?_
      refine v_goto (tgt := 57) X dX7_doubts_47 (by decide) ?_
      refine v_iret X Y dX7_doubts_57 (u := (whoI (spdI cn so tu a) (spdI cn so tu b), shaI (spdI cn so tu a) (spdI cn so tu b), momI (spdI cn so tu a) (spdI cn so tu b), u1)) ?_ (by rfl)
      refine Or.inr ⟨by omega, rfl, rfl, rfl, hu1, ?_⟩
      first | rw [if_pos (by assumption)] | rw [if_neg (by assumption)]
  · skip
    refine v_ldc X (List.mem_of_getElem? (i := 1) rfl) dX7_doubts_9 (n := -1000001) (by decide) ?_
    refine v_iret X Y dX7_doubts_11 (u := (wh, sh, mo, fo)) ?_ (by rfl)
    exact Or.inl ⟨by omega, rfl, rfl⟩

theorem hdX7_doubt : yX7_doubt.cls = RX7 ∧ yX7_doubt.cls ≠ "java/lang/invoke/MethodHandle" ∧ yX7_doubt.cls ≠ "java/lang/invoke/VarHandle" ∧ (parseMethodDescriptor yX7_doubt.desc).map (fun d => d.parameters.length) = some 4 := ⟨rfl, by decide +kernel, by decide +kernel, by decide +kernel⟩
set_option maxHeartbeats 4000000 in
set_option maxRecDepth 100000 in
theorem c_X7_doubt {g : Gx} {B : Nat → Nat} {lf fi : Int} {mk cn : Int} {so tu sp : Nat → Int} {wh sh mo fo : Int} {a b i w : Int} (hcn : 0 ≤ cn ∧ cn ≤ 4) (hmk : 0 ≤ mk ∧ mk ≤ 60) (hso : Bd 0 5 so) (htu : Bd 0 12 tu) (hsp : Bd 0 59 sp) (ha : R32 a) (hb : R32 b) (hi : R32 i) (hw : R32 w) : CtI (S := Int × Int × Int × Int) g yX7_doubt wsX7_doubt 4 88 [.ref (B 0), .int (iI a), .int (iI b), .int (iI i), .int (iI w)] (oAH g B (lf) (fi) :: (wClk g (B 3) (B 15) (B 16) (B 17) mk cn so tu sp ++ (wDou g (B 8) wh sh mo fo))) (fun v u => (¬ (((0 ≤ a ∧ a < cn) ∧ (0 ≤ b ∧ b < cn) ∧ a ≠ b) ∧ 0 ≤ i ∧ 0 ≤ w ∧ w ≤ 3) ∧ v = -1000001 ∧ u = (wh, sh, mo, fo)) ∨ ((((0 ≤ a ∧ a < cn) ∧ (0 ≤ b ∧ b < cn) ∧ a ≠ b) ∧ 0 ≤ i ∧ 0 ≤ w ∧ w ≤ 3) ∧ u.1 = whoI (spdI cn so tu a) (spdI cn so tu b) ∧ u.2.1 = shaI (spdI cn so tu a) (spdI cn so tu b) ∧ u.2.2.1 = momI (spdI cn so tu a) (spdI cn so tu b) ∧ LsO (whoI (spdI cn so tu a) (spdI cn so tu b)) (shaI (spdI cn so tu a) (spdI cn so tu b)) (momI (spdI cn so tu a) (spdI cn so tu b)) (spdI cn so tu a) (spdI cn so tu b) u.2.2.2 ∧ ((∃ k : Int, 0 ≤ k ∧ k < momI (spdI cn so tu a) (spdI cn so tu b) ∧ 0 ≤ othI (momI (spdI cn so tu a) (spdI cn so tu b)) (shaI (spdI cn so tu a) (spdI cn so tu b)) u.2.2.2 k ∧ cntN (fun k => decide (0 ≤ othI (momI (spdI cn so tu a) (spdI cn so tu b)) (shaI (spdI cn so tu a) (spdI cn so tu b)) u.2.2.2 k)) k.toNat = i ∧ v = (if w < 2 then toldI k (momI (spdI cn so tu a) (spdI cn so tu b)) w else toldI (othI (momI (spdI cn so tu a) (spdI cn so tu b)) (shaI (spdI cn so tu a) (spdI cn so tu b)) u.2.2.2 k) (whoI (spdI cn so tu a) (spdI cn so tu b)) (w - 2))) ∨ (cntN (fun k => decide (0 ≤ othI (momI (spdI cn so tu a) (spdI cn so tu b)) (shaI (spdI cn so tu a) (spdI cn so tu b)) u.2.2.2 k)) (momI (spdI cn so tu a) (spdI cn so tu b)).toNat ≤ i ∧ v = -1000000)))) (fun u => oAH g B (lf) (fi) :: (wClk g (B 3) (B 15) (B 16) (B 17) mk cn so tu sp ++ (wDou g (B 8) (u.1) (u.2.1) (u.2.2.1) (u.2.2.2)))) := by
  refine m_go (cc := cX7_doubt) (nL := 6) (by decide +kernel) rfl (Nat.le_of_ble_eq_true rfl) (fun x X Y hnm => ?_)
  refine v_eq (lo2 := [some (.ref (B 0)), some (.int (iI a)), some (.int (iI b)), some (.int (iI i)), some (.int (iI w)), none]) rfl rfl rfl rfl ?_
  have qs := fun (i : Int) => spdI_bd (cn := cn) (so := so) (h := i) htu
  have q1 := qs a
  have q2 := qs b
  have q3 := whoI_bd q1 q2
  have q4 : 0 ≤ shaI (spdI cn so tu a) (spdI cn so tu b) ∧ shaI (spdI cn so tu a) (spdI cn so tu b) ≤ 24 := ⟨by unfold shaI; omega, gcd_le (absI_bd q1).1 (absI_bd q2).1 (by omega) (absI_bd q1).2 (absI_bd q2).2⟩
  have q5 := momI_bd q3 q4
  refine v_aload_n X dX7_doubt_0 rfl ?_
  refine v_iload_n X dX7_doubt_1 rfl ?_
  refine v_iload_n X dX7_doubt_2 rfl ?_
  refine res_E X (run_V X (c_X7_isPair (g := g) (by first | assumption | omega) (by first | assumption | omega) (by first | assumption | omega)) gX7_doubt_X7_isPair rfl hdX7_isPair ⟨(Nat.le_of_ble_eq_true rfl), (Nat.le_of_ble_eq_true rfl)⟩ ⟨(Nat.le_of_ble_eq_true rfl), (Nat.le_of_ble_eq_true rfl)⟩ 0 rfl rfl rfl [0, 1, 2, 3, 4] rfl rfl rfl rfl (by simp [Value.category]) dX7_doubt_3) [0, 1, 2, 3, 4] rfl rfl ?_
  refine v_ifb_eq (tgt := 23) X dX7_doubt_6 (by decide) (fun c1 => ?_) (fun c1 => ?_)
  · skip
    refine v_ldc X (List.mem_of_getElem? (i := 1) rfl) dX7_doubt_23 (n := -1000001) (by decide) ?_
    refine v_iret X Y dX7_doubt_25 (u := (wh, sh, mo, fo)) ?_ (by rfl)
    exact Or.inl ⟨by omega, rfl, rfl⟩
  · skip
    refine v_iload_n X dX7_doubt_9 rfl ?_
    refine v_if_lt (tgt := 23) X dX7_doubt_10 (by decide) (by omega) (fun c2 => ?_) (fun c2 => ?_)
    · skip
      refine v_ldc X (List.mem_of_getElem? (i := 1) rfl) dX7_doubt_23 (n := -1000001) (by decide) ?_
      refine v_iret X Y dX7_doubt_25 (u := (wh, sh, mo, fo)) ?_ (by rfl)
      exact Or.inl ⟨by omega, rfl, rfl⟩
    · skip
      refine v_iload X dX7_doubt_13 rfl ?_
      refine v_iconst X dX7_doubt_15 ?_
      refine v_iconst X dX7_doubt_16 ?_
      refine res_E X (run_S X (c_X7_isWithin (g := g) (by first | assumption | omega) (by first | assumption | omega) (by first | assumption | omega)) gX7_doubt_X7_isWithin rfl hdX7_isWithin.2 ⟨(Nat.le_of_ble_eq_true rfl), (Nat.le_of_ble_eq_true rfl)⟩ ⟨(Nat.le_of_ble_eq_true rfl), (Nat.le_of_ble_eq_true rfl)⟩ [] rfl rfl rfl rfl (by simp [Value.category]) dX7_doubt_17) [] rfl rfl ?_
      refine v_ifb_ne (tgt := 26) X dX7_doubt_20 (by decide) (fun c3 => ?_) (fun c3 => ?_)
      · skip
        refine v_aload_n X dX7_doubt_26 rfl ?_
        refine v_get X (fun _ h => List.mem_cons_of_mem _ (List.mem_append_left _ (List.mem_append_left _ (List.mem_append_right _ h)))) 0 rfl rfl 7 (by decide) rfl (List.mem_of_getElem? (i := 2) rfl) rfl dX7_doubt_27 ?_
        refine v_aload_n X dX7_doubt_30 rfl ?_
        refine v_get X (fun _ h => List.mem_cons_of_mem _ (List.mem_append_left _ (List.mem_append_left _ (List.mem_append_right _ h)))) 0 rfl rfl 2 (by decide) rfl (List.mem_of_getElem? (i := 3) rfl) rfl dX7_doubt_31 ?_
        refine v_iload_n X dX7_doubt_34 rfl ?_
        refine res_E X (run_V X (c_X2_speedOf (g := g) (by first | assumption | omega) (by first | assumption | omega) (by first | assumption | omega) (by first | assumption | omega)) gX7_doubt_X2_speedOf rfl hdX2_speedOf ⟨(Nat.le_of_ble_eq_true rfl), (Nat.le_of_ble_eq_true rfl)⟩ ⟨(Nat.le_of_ble_eq_true rfl), (Nat.le_of_ble_eq_true rfl)⟩ 1 rfl rfl rfl [1, 2, 3, 4] rfl rfl rfl rfl (by simp [Value.category]) dX7_doubt_35) [1, 2, 3, 4] rfl rfl ?_
        refine v_aload_n X dX7_doubt_38 rfl ?_
        refine v_get X (fun _ h => List.mem_cons_of_mem _ (List.mem_append_left _ (List.mem_append_left _ (List.mem_append_right _ h)))) 0 rfl rfl 2 (by decide) rfl (List.mem_of_getElem? (i := 3) rfl) rfl dX7_doubt_39 ?_
        refine v_iload_n X dX7_doubt_42 rfl ?_
        refine res_E X (run_V X (c_X2_speedOf (g := g) (by first | assumption | omega) (by first | assumption | omega) (by first | assumption | omega) (by first | assumption | omega)) gX7_doubt_X2_speedOf rfl hdX2_speedOf ⟨(Nat.le_of_ble_eq_true rfl), (Nat.le_of_ble_eq_true rfl)⟩ ⟨(Nat.le_of_ble_eq_true rfl), (Nat.le_of_ble_eq_true rfl)⟩ 1 rfl rfl rfl [1, 2, 3, 4] rfl rfl rfl rfl (by simp [Value.category]) dX7_doubt_43) [1, 2, 3, 4] rfl rfl ?_
        refine res_V X (run_V X (c_X3_of (g := g) (by first | assumption | omega) (by first | assumption | omega)) gX7_doubt_X3_of rfl hdX3_of ⟨(Nat.le_of_ble_eq_true rfl), (Nat.le_of_ble_eq_true rfl)⟩ ⟨(Nat.le_of_ble_eq_true rfl), (Nat.le_of_ble_eq_true rfl)⟩ 5 rfl rfl rfl [5] rfl rfl rfl rfl (by simp [Value.category]) dX7_doubt_46) [5] rfl rfl (fun _ => rfl) (fun u1 hu1 => ?_)
        dsimp only [patch, List.set, List.cons_append, List.nil_append, oAH, wClk, wDou]
        have q6 := LsO_bd q5 hu1
        refine v_aload_n X dX7_doubt_49 rfl ?_
        refine v_get X (fun _ h => List.mem_cons_of_mem _ (List.mem_append_left _ (List.mem_append_left _ (List.mem_append_right _ h)))) 0 rfl rfl 7 (by decide) rfl (List.mem_of_getElem? (i := 2) rfl) rfl dX7_doubt_50 ?_
        refine v_iload_n X dX7_doubt_53 rfl ?_
        refine res_I X (run_V X (c_X3_number (g := g) (by first | assumption | omega) (by first | assumption | omega) (by first | assumption | omega) (by first | assumption | omega)) gX7_doubt_X3_number rfl hdX3_number ⟨(Nat.le_of_ble_eq_true rfl), (Nat.le_of_ble_eq_true rfl)⟩ ⟨(Nat.le_of_ble_eq_true rfl), (Nat.le_of_ble_eq_true rfl)⟩ 5 rfl rfl rfl [5] rfl rfl rfl rfl (by simp [Value.category]) dX7_doubt_54) [5] rfl rfl (fun _ => rfl) (fun k1 e1 hk1 => ?_)
        dsimp only [patch, List.set, List.cons_append, List.nil_append, oAH, wClk, wDou]
        have q7 := othI_bd (sh := shaI (spdI cn so tu a) (spdI cn so tu b)) (fo := u1) (k := k1) q5
        refine v_istore X dX7_doubt_57 (by decide) rfl ?_
        dsimp only [List.set]
        refine v_iload X dX7_doubt_59 rfl ?_
        refine v_if_ge (tgt := 67) X dX7_doubt_61 (by decide) (by omega) (fun c7 => ?_) (fun c7 => ?_)
        · skip
          refine v_iload X dX7_doubt_67 rfl ?_
          refine v_iconst X dX7_doubt_69 ?_
          refine v_icmp_ge (tgt := 88) X dX7_doubt_70 (by decide) (by omega) (by omega) (fun c8 => ?_) (fun c8 => ?_)
          · skip
            refine v_aload_n X dX7_doubt_88 rfl ?_
            refine v_get X (fun _ h => List.mem_cons_of_mem _ (List.mem_append_left _ (List.mem_append_left _ (List.mem_append_right _ h)))) 0 rfl rfl 7 (by decide) rfl (List.mem_of_getElem? (i := 2) rfl) rfl dX7_doubt_89 ?_
            refine v_iload X dX7_doubt_92 rfl ?_
            refine res_E X (run_V X (c_X3_otherOf (g := g) (by first | assumption | omega) (by first | assumption | omega) (by first | assumption | omega) (by first | assumption | omega)) gX7_doubt_X3_otherOf rfl hdX3_otherOf ⟨(Nat.le_of_ble_eq_true rfl), (Nat.le_of_ble_eq_true rfl)⟩ ⟨(Nat.le_of_ble_eq_true rfl), (Nat.le_of_ble_eq_true rfl)⟩ 5 rfl rfl rfl [5] rfl rfl rfl rfl (by simp [Value.category]) dX7_doubt_94) [5] rfl rfl ?_
            refine v_aload_n X dX7_doubt_97 rfl ?_
            refine v_get X (fun _ h => List.mem_cons_of_mem _ (List.mem_append_left _ (List.mem_append_left _ (List.mem_append_right _ h)))) 0 rfl rfl 7 (by decide) rfl (List.mem_of_getElem? (i := 2) rfl) rfl dX7_doubt_98 ?_
            refine v_get X (fun _ h => List.mem_cons_of_mem _ (List.mem_append_left _ (List.mem_append_right _ h))) 5 rfl rfl 0 (by decide) rfl (List.mem_of_getElem? (i := 6) rfl) rfl dX7_doubt_101 ?_
            refine v_iload X dX7_doubt_104 rfl ?_
            refine v_iconst X dX7_doubt_106 ?_
            refine v_isub X dX7_doubt_107 ?_
            refine res_E X (run_S X (c_X7_part (g := g) (by first | assumption | omega) (by first | assumption | omega) (by first | assumption | omega) (by first | assumption | omega) (by first | assumption | omega)) gX7_doubt_X7_part rfl hdX7_part.2 ⟨(Nat.le_of_ble_eq_true rfl), (Nat.le_of_ble_eq_true rfl)⟩ ⟨(Nat.le_of_ble_eq_true rfl), (Nat.le_of_ble_eq_true rfl)⟩ [] rfl rfl rfl rfl (by simp [Value.category]) dX7_doubt_108) [] rfl rfl ?_
            refine v_iret X Y dX7_doubt_111 (u := (whoI (spdI cn so tu a) (spdI cn so tu b), shaI (spdI cn so tu a) (spdI cn so tu b), momI (spdI cn so tu a) (spdI cn so tu b), u1)) ?_ (by rfl)
            refine Or.inr ⟨by omega, rfl, rfl, rfl, hu1, Or.inl ?_⟩
            rcases hk1 with q | q
            · exact ⟨k1, q.1, q.2.1, q.2.2.1, q.2.2.2, by rw [if_neg (by omega)]⟩
            · exfalso; omega
          · skip
            refine v_iload X dX7_doubt_73 rfl ?_
            refine v_aload_n X dX7_doubt_75 rfl ?_
            refine v_get X (fun _ h => List.mem_cons_of_mem _ (List.mem_append_left _ (List.mem_append_left _ (List.mem_append_right _ h)))) 0 rfl rfl 7 (by decide) rfl (List.mem_of_getElem? (i := 2) rfl) rfl dX7_doubt_76 ?_
            refine v_get X (fun _ h => List.mem_cons_of_mem _ (List.mem_append_left _ (List.mem_append_right _ h))) 5 rfl rfl 2 (by decide) rfl (List.mem_of_getElem? (i := 5) rfl) rfl dX7_doubt_79 ?_
            refine v_iload X dX7_doubt_82 rfl ?_
            refine res_E X (run_S X (c_X7_part (g := g) (by first | assumption | omega) (by first | assumption | omega) (by first | assumption | omega) (by first | assumption | omega) (by first | assumption | omega)) gX7_doubt_X7_part rfl hdX7_part.2 ⟨(Nat.le_of_ble_eq_true rfl), (Nat.le_of_ble_eq_true rfl)⟩ ⟨(Nat.le_of_ble_eq_true rfl), (Nat.le_of_ble_eq_true rfl)⟩ [] rfl rfl rfl rfl (by simp [Value.category]) dX7_doubt_84) [] rfl rfl ?_
            refine v_iret X Y dX7_doubt_87 (u := (whoI (spdI cn so tu a) (spdI cn so tu b), shaI (spdI cn so tu a) (spdI cn so tu b), momI (spdI cn so tu a) (spdI cn so tu b), u1)) ?_ (by rfl)
            refine Or.inr ⟨by omega, rfl, rfl, rfl, hu1, Or.inl ?_⟩
            rcases hk1 with q | q
            · exact ⟨k1, q.1, q.2.1, q.2.2.1, q.2.2.2, by rw [if_pos (by assumption)]⟩
            · exfalso; omega
        · skip
          refine v_ldc X (List.mem_of_getElem? (i := 4) rfl) dX7_doubt_64 (n := -1000000) (by decide) ?_
          refine v_iret X Y dX7_doubt_66 (u := (whoI (spdI cn so tu a) (spdI cn so tu b), shaI (spdI cn so tu a) (spdI cn so tu b), momI (spdI cn so tu a) (spdI cn so tu b), u1)) ?_ (by rfl)
          refine Or.inr ⟨by omega, rfl, rfl, rfl, hu1, Or.inr ⟨?_, rfl⟩⟩
          rcases hk1 with q | q
          · exfalso; omega
          · exact q.2
      · skip
        refine v_ldc X (List.mem_of_getElem? (i := 1) rfl) dX7_doubt_23 (n := -1000001) (by decide) ?_
        refine v_iret X Y dX7_doubt_25 (u := (wh, sh, mo, fo)) ?_ (by rfl)
        exact Or.inl ⟨by omega, rfl, rfl⟩

theorem hdX7_isDoubt : yX7_isDoubt.cls = RX7 ∧ yX7_isDoubt.cls ≠ "java/lang/invoke/MethodHandle" ∧ yX7_isDoubt.cls ≠ "java/lang/invoke/VarHandle" ∧ (parseMethodDescriptor yX7_isDoubt.desc).map (fun d => d.parameters.length) = some 4 := ⟨rfl, by decide +kernel, by decide +kernel, by decide +kernel⟩
set_option maxHeartbeats 4000000 in
set_option maxRecDepth 100000 in
theorem c_X7_isDoubt {g : Gx} {B : Nat → Nat} {lf fi : Int} {mk cn : Int} {so tu sp : Nat → Int} {wh sh mo fo : Int} {a b p q : Int} (hcn : 0 ≤ cn ∧ cn ≤ 4) (hmk : 0 ≤ mk ∧ mk ≤ 60) (hso : Bd 0 5 so) (htu : Bd 0 12 tu) (hsp : Bd 0 59 sp) (ha : R32 a) (hb : R32 b) (hp : R32 p) (hq : R32 q) : CtI (S := Int × Int × Int × Int) g yX7_isDoubt wsX7_isDoubt 4 88 [.ref (B 0), .int (iI a), .int (iI b), .int (iI p), .int (iI q)] (oAH g B (lf) (fi) :: (wClk g (B 3) (B 15) (B 16) (B 17) mk cn so tu sp ++ (wDou g (B 8) wh sh mo fo))) (fun v u => (¬ (((0 ≤ a ∧ a < cn) ∧ (0 ≤ b ∧ b < cn) ∧ a ≠ b) ∧ (1 ≤ q ∧ q ≤ 9999 ∧ 0 ≤ p ∧ p < q)) ∧ v = -1000001 ∧ u = (wh, sh, mo, fo)) ∨ ((((0 ≤ a ∧ a < cn) ∧ (0 ≤ b ∧ b < cn) ∧ a ≠ b) ∧ (1 ≤ q ∧ q ≤ 9999 ∧ 0 ≤ p ∧ p < q)) ∧ u.1 = whoI (spdI cn so tu a) (spdI cn so tu b) ∧ u.2.1 = shaI (spdI cn so tu a) (spdI cn so tu b) ∧ u.2.2.1 = momI (spdI cn so tu a) (spdI cn so tu b) ∧ LsO (whoI (spdI cn so tu a) (spdI cn so tu b)) (shaI (spdI cn so tu a) (spdI cn so tu b)) (momI (spdI cn so tu a) (spdI cn so tu b)) (spdI cn so tu a) (spdI cn so tu b) u.2.2.2 ∧ (v = if momI (spdI cn so tu a) (spdI cn so tu b) = 0 then -1000000 else if (momI (spdI cn so tu a) (spdI cn so tu b) * p) % q = 0 ∧ 0 ≤ othI (momI (spdI cn so tu a) (spdI cn so tu b)) (shaI (spdI cn so tu a) (spdI cn so tu b)) u.2.2.2 (momI (spdI cn so tu a) (spdI cn so tu b) * p / q) then 1 else 0))) (fun u => oAH g B (lf) (fi) :: (wClk g (B 3) (B 15) (B 16) (B 17) mk cn so tu sp ++ (wDou g (B 8) (u.1) (u.2.1) (u.2.2.1) (u.2.2.2)))) := by
  refine m_go (cc := cX7_isDoubt) (nL := 5) (by decide +kernel) rfl (Nat.le_of_ble_eq_true rfl) (fun x X Y hnm => ?_)
  refine v_eq (lo2 := [some (.ref (B 0)), some (.int (iI a)), some (.int (iI b)), some (.int (iI p)), some (.int (iI q))]) rfl rfl rfl rfl ?_
  have qs := fun (i : Int) => spdI_bd (cn := cn) (so := so) (h := i) htu
  have q1 := qs a
  have q2 := qs b
  have q3 := whoI_bd q1 q2
  have q4 : 0 ≤ shaI (spdI cn so tu a) (spdI cn so tu b) ∧ shaI (spdI cn so tu a) (spdI cn so tu b) ≤ 24 := ⟨by unfold shaI; omega, gcd_le (absI_bd q1).1 (absI_bd q2).1 (by omega) (absI_bd q1).2 (absI_bd q2).2⟩
  have q5 := momI_bd q3 q4
  refine v_aload_n X dX7_isDoubt_0 rfl ?_
  refine v_iload_n X dX7_isDoubt_1 rfl ?_
  refine v_iload_n X dX7_isDoubt_2 rfl ?_
  refine res_E X (run_V X (c_X7_isPair (g := g) (by first | assumption | omega) (by first | assumption | omega) (by first | assumption | omega)) gX7_isDoubt_X7_isPair rfl hdX7_isPair ⟨(Nat.le_of_ble_eq_true rfl), (Nat.le_of_ble_eq_true rfl)⟩ ⟨(Nat.le_of_ble_eq_true rfl), (Nat.le_of_ble_eq_true rfl)⟩ 0 rfl rfl rfl [0, 1, 2, 3, 4] rfl rfl rfl rfl (by simp [Value.category]) dX7_isDoubt_3) [0, 1, 2, 3, 4] rfl rfl ?_
  refine v_ifb_eq (tgt := 18) X dX7_isDoubt_6 (by decide) (fun c1 => ?_) (fun c1 => ?_)
  · skip
    refine v_ldc X (List.mem_of_getElem? (i := 1) rfl) dX7_isDoubt_18 (n := -1000001) (by decide) ?_
    refine v_iret X Y dX7_isDoubt_20 (u := (wh, sh, mo, fo)) ?_ (by rfl)
    exact Or.inl ⟨by omega, rfl, rfl⟩
  · skip
    refine v_iload_n X dX7_isDoubt_9 rfl ?_
    refine v_iload X dX7_isDoubt_10 rfl ?_
    refine res_E X (run_S X (c_X7_isMoment (g := g) (by first | assumption | omega) (by first | assumption | omega)) gX7_isDoubt_X7_isMoment rfl hdX7_isMoment.2 ⟨(Nat.le_of_ble_eq_true rfl), (Nat.le_of_ble_eq_true rfl)⟩ ⟨(Nat.le_of_ble_eq_true rfl), (Nat.le_of_ble_eq_true rfl)⟩ [] rfl rfl rfl rfl (by simp [Value.category]) dX7_isDoubt_12) [] rfl rfl ?_
    refine v_ifb_ne (tgt := 21) X dX7_isDoubt_15 (by decide) (fun c2 => ?_) (fun c2 => ?_)
    · skip
      refine v_aload_n X dX7_isDoubt_21 rfl ?_
      refine v_get X (fun _ h => List.mem_cons_of_mem _ (List.mem_append_left _ (List.mem_append_left _ (List.mem_append_right _ h)))) 0 rfl rfl 7 (by decide) rfl (List.mem_of_getElem? (i := 2) rfl) rfl dX7_isDoubt_22 ?_
      refine v_aload_n X dX7_isDoubt_25 rfl ?_
      refine v_get X (fun _ h => List.mem_cons_of_mem _ (List.mem_append_left _ (List.mem_append_left _ (List.mem_append_right _ h)))) 0 rfl rfl 2 (by decide) rfl (List.mem_of_getElem? (i := 3) rfl) rfl dX7_isDoubt_26 ?_
      refine v_iload_n X dX7_isDoubt_29 rfl ?_
      refine res_E X (run_V X (c_X2_speedOf (g := g) (by first | assumption | omega) (by first | assumption | omega) (by first | assumption | omega) (by first | assumption | omega)) gX7_isDoubt_X2_speedOf rfl hdX2_speedOf ⟨(Nat.le_of_ble_eq_true rfl), (Nat.le_of_ble_eq_true rfl)⟩ ⟨(Nat.le_of_ble_eq_true rfl), (Nat.le_of_ble_eq_true rfl)⟩ 1 rfl rfl rfl [1, 2, 3, 4] rfl rfl rfl rfl (by simp [Value.category]) dX7_isDoubt_30) [1, 2, 3, 4] rfl rfl ?_
      refine v_aload_n X dX7_isDoubt_33 rfl ?_
      refine v_get X (fun _ h => List.mem_cons_of_mem _ (List.mem_append_left _ (List.mem_append_left _ (List.mem_append_right _ h)))) 0 rfl rfl 2 (by decide) rfl (List.mem_of_getElem? (i := 3) rfl) rfl dX7_isDoubt_34 ?_
      refine v_iload_n X dX7_isDoubt_37 rfl ?_
      refine res_E X (run_V X (c_X2_speedOf (g := g) (by first | assumption | omega) (by first | assumption | omega) (by first | assumption | omega) (by first | assumption | omega)) gX7_isDoubt_X2_speedOf rfl hdX2_speedOf ⟨(Nat.le_of_ble_eq_true rfl), (Nat.le_of_ble_eq_true rfl)⟩ ⟨(Nat.le_of_ble_eq_true rfl), (Nat.le_of_ble_eq_true rfl)⟩ 1 rfl rfl rfl [1, 2, 3, 4] rfl rfl rfl rfl (by simp [Value.category]) dX7_isDoubt_38) [1, 2, 3, 4] rfl rfl ?_
      refine res_V X (run_V X (c_X3_of (g := g) (by first | assumption | omega) (by first | assumption | omega)) gX7_isDoubt_X3_of rfl hdX3_of ⟨(Nat.le_of_ble_eq_true rfl), (Nat.le_of_ble_eq_true rfl)⟩ ⟨(Nat.le_of_ble_eq_true rfl), (Nat.le_of_ble_eq_true rfl)⟩ 5 rfl rfl rfl [5] rfl rfl rfl rfl (by simp [Value.category]) dX7_isDoubt_41) [5] rfl rfl (fun _ => rfl) (fun u1 hu1 => ?_)
      dsimp only [patch, List.set, List.cons_append, List.nil_append, oAH, wClk, wDou]
      have q6 := LsO_bd q5 hu1
      refine v_aload_n X dX7_isDoubt_44 rfl ?_
      refine v_get X (fun _ h => List.mem_cons_of_mem _ (List.mem_append_left _ (List.mem_append_left _ (List.mem_append_right _ h)))) 0 rfl rfl 7 (by decide) rfl (List.mem_of_getElem? (i := 2) rfl) rfl dX7_isDoubt_45 ?_
      refine res_E X (run_V X (c_X3_isNone (g := g) (by first | assumption | omega)) gX7_isDoubt_X3_isNone rfl hdX3_isNone ⟨(Nat.le_of_ble_eq_true rfl), (Nat.le_of_ble_eq_true rfl)⟩ ⟨(Nat.le_of_ble_eq_true rfl), (Nat.le_of_ble_eq_true rfl)⟩ 5 rfl rfl rfl [5] rfl rfl rfl rfl (by simp [Value.category]) dX7_isDoubt_48) [5] rfl rfl ?_
      refine v_ifb_eq (tgt := 57) X dX7_isDoubt_51 (by decide) (fun c4 => ?_) (fun c4 => ?_)
      · skip
        refine v_aload_n X dX7_isDoubt_57 rfl ?_
        refine v_get X (fun _ h => List.mem_cons_of_mem _ (List.mem_append_left _ (List.mem_append_left _ (List.mem_append_right _ h)))) 0 rfl rfl 7 (by decide) rfl (List.mem_of_getElem? (i := 2) rfl) rfl dX7_isDoubt_58 ?_
        refine v_iload_n X dX7_isDoubt_61 rfl ?_
        refine v_iload X dX7_isDoubt_62 rfl ?_
        refine res_E X (run_V X (c_X3_isAt (g := g) (by first | assumption | omega) (by first | assumption | omega) (by first | assumption | omega) (by first | assumption | omega) (by first | assumption | omega)) gX7_isDoubt_X3_isAt rfl hdX3_isAt ⟨(Nat.le_of_ble_eq_true rfl), (Nat.le_of_ble_eq_true rfl)⟩ ⟨(Nat.le_of_ble_eq_true rfl), (Nat.le_of_ble_eq_true rfl)⟩ 5 rfl rfl rfl [5] rfl rfl rfl rfl (by simp [Value.category]) dX7_isDoubt_64) [5] rfl rfl ?_
        refine v_ifb_eq (tgt := 74) X dX7_isDoubt_67 (by decide) (fun c5 => ?_) (fun c5 => ?_)
        · skip
          refine v_iconst X dX7_isDoubt_74 ?_
          refine v_iret X Y dX7_isDoubt_75 (u := (whoI (spdI cn so tu a) (spdI cn so tu b), shaI (spdI cn so tu a) (spdI cn so tu b), momI (spdI cn so tu a) (spdI cn so tu b), u1)) ?_ (by rfl)
          refine Or.inr ⟨by omega, rfl, rfl, rfl, hu1, ?_⟩
          rw [if_neg (by assumption)]; first | rw [if_pos (by assumption)] | rw [if_neg (by assumption)]
        · skip
          refine v_iconst X dX7_isDoubt_70 ?_
          refine v_goto (tgt := 75) X dX7_isDoubt_71 (by decide) ?_
          refine v_iret X Y dX7_isDoubt_75 (u := (whoI (spdI cn so tu a) (spdI cn so tu b), shaI (spdI cn so tu a) (spdI cn so tu b), momI (spdI cn so tu a) (spdI cn so tu b), u1)) ?_ (by rfl)
          refine Or.inr ⟨by omega, rfl, rfl, rfl, hu1, ?_⟩
          rw [if_neg (by assumption)]; first | rw [if_pos (by assumption)] | rw [if_neg (by assumption)]
      · skip
        refine v_ldc X (List.mem_of_getElem? (i := 4) rfl) dX7_isDoubt_54 (n := -1000000) (by decide) ?_
        refine v_iret X Y dX7_isDoubt_56 (u := (whoI (spdI cn so tu a) (spdI cn so tu b), shaI (spdI cn so tu a) (spdI cn so tu b), momI (spdI cn so tu a) (spdI cn so tu b), u1)) ?_ (by rfl)
        refine Or.inr ⟨by omega, rfl, rfl, rfl, hu1, ?_⟩
        rw [if_pos (by assumption)]
    · skip
      refine v_ldc X (List.mem_of_getElem? (i := 1) rfl) dX7_isDoubt_18 (n := -1000001) (by decide) ?_
      refine v_iret X Y dX7_isDoubt_20 (u := (wh, sh, mo, fo)) ?_ (by rfl)
      exact Or.inl ⟨by omega, rfl, rfl⟩

theorem hdX7_next : yX7_next.cls = RX7 ∧ yX7_next.cls ≠ "java/lang/invoke/MethodHandle" ∧ yX7_next.cls ≠ "java/lang/invoke/VarHandle" ∧ (parseMethodDescriptor yX7_next.desc).map (fun d => d.parameters.length) = some 6 := ⟨rfl, by decide +kernel, by decide +kernel, by decide +kernel⟩
set_option maxHeartbeats 4000000 in
set_option maxRecDepth 100000 in
theorem c_X7_next {g : Gx} {B : Nat → Nat} {lf fi : Int} {mk cn : Int} {so tu sp : Nat → Int} {a b h p q w : Int} (hcn : 0 ≤ cn ∧ cn ≤ 4) (hmk : 0 ≤ mk ∧ mk ≤ 60) (hso : Bd 0 5 so) (htu : Bd 0 12 tu) (hsp : Bd 0 59 sp) (ha : R32 a) (hb : R32 b) (hh : R32 h) (hp : R32 p) (hq : R32 q) (hw : R32 w) : CtE g yX7_next wsX7_next 4 86 [.ref (B 0), .int (iI a), .int (iI b), .int (iI h), .int (iI p), .int (iI q), .int (iI w)] (oAH g B (lf) (fi) :: (wClk g (B 3) (B 15) (B 16) (B 17) mk cn so tu sp)) (if ((0 ≤ a ∧ a < cn) ∧ (0 ≤ b ∧ b < cn) ∧ a ≠ b) ∧ (0 ≤ h ∧ h ≤ 2) ∧ (1 ≤ q ∧ q ≤ 9999 ∧ 0 ≤ p ∧ p < q) ∧ 0 ≤ w ∧ w ≤ 1 then (if absI (spdI cn so tu a - spdI cn so tu b) = 0 then -1000000 else toldI (fmI (belI (absI (spdI cn so tu a - spdI cn so tu b)) h) h p q) (belI (absI (spdI cn so tu a - spdI cn so tu b)) h) w) else -1000001) (oAH g B (lf) (fi) :: (wClk g (B 3) (B 15) (B 16) (B 17) mk cn so tu sp)) := by
  refine m_go (cc := cX7_next) (nL := 9) (by decide +kernel) rfl (Nat.le_of_ble_eq_true rfl) (fun x X Y hnm => ?_)
  refine v_eq (lo2 := [some (.ref (B 0)), some (.int (iI a)), some (.int (iI b)), some (.int (iI h)), some (.int (iI p)), some (.int (iI q)), some (.int (iI w)), none, none]) rfl rfl rfl rfl ?_
  have qs := fun (i : Int) => spdI_bd (cn := cn) (so := so) (h := i) htu
  have q1 := qs a
  have q2 := qs b
  have q5 := absI_bd (a := spdI cn so tu a - spdI cn so tu b) (M := 48) (by omega)
  refine v_aload_n X dX7_next_0 rfl ?_
  refine v_iload_n X dX7_next_1 rfl ?_
  refine v_iload_n X dX7_next_2 rfl ?_
  refine res_E X (run_V X (c_X7_isPair (g := g) (by first | assumption | omega) (by first | assumption | omega) (by first | assumption | omega)) gX7_next_X7_isPair rfl hdX7_isPair ⟨(Nat.le_of_ble_eq_true rfl), (Nat.le_of_ble_eq_true rfl)⟩ ⟨(Nat.le_of_ble_eq_true rfl), (Nat.le_of_ble_eq_true rfl)⟩ 0 rfl rfl rfl [0, 1, 2, 3, 4] rfl rfl rfl rfl (by simp [Value.category]) dX7_next_3) [0, 1, 2, 3, 4] rfl rfl ?_
  refine v_ifb_eq (tgt := 38) X dX7_next_6 (by decide) (fun c1 => ?_) (fun c1 => ?_)
  · skip
    refine v_ldc X (List.mem_of_getElem? (i := 1) rfl) dX7_next_38 (n := -1000001) (by decide) ?_
    exact v_iret X Y dX7_next_40 (u := ()) (by rw [if_neg (by omega)]) (by rfl)
  · skip
    refine v_iload_n X dX7_next_9 rfl ?_
    refine v_iconst X dX7_next_10 ?_
    refine v_iconst X dX7_next_11 ?_
    refine res_E X (run_S X (c_X7_isWithin (g := g) (by first | assumption | omega) (by first | assumption | omega) (by first | assumption | omega)) gX7_next_X7_isWithin rfl hdX7_isWithin.2 ⟨(Nat.le_of_ble_eq_true rfl), (Nat.le_of_ble_eq_true rfl)⟩ ⟨(Nat.le_of_ble_eq_true rfl), (Nat.le_of_ble_eq_true rfl)⟩ [] rfl rfl rfl rfl (by simp [Value.category]) dX7_next_12) [] rfl rfl ?_
    refine v_ifb_eq (tgt := 38) X dX7_next_15 (by decide) (fun c2 => ?_) (fun c2 => ?_)
    · skip
      refine v_ldc X (List.mem_of_getElem? (i := 1) rfl) dX7_next_38 (n := -1000001) (by decide) ?_
      exact v_iret X Y dX7_next_40 (u := ()) (by rw [if_neg (by omega)]) (by rfl)
    · skip
      refine v_iload X dX7_next_18 rfl ?_
      refine v_iload X dX7_next_20 rfl ?_
      refine res_E X (run_S X (c_X7_isMoment (g := g) (by first | assumption | omega) (by first | assumption | omega)) gX7_next_X7_isMoment rfl hdX7_isMoment.2 ⟨(Nat.le_of_ble_eq_true rfl), (Nat.le_of_ble_eq_true rfl)⟩ ⟨(Nat.le_of_ble_eq_true rfl), (Nat.le_of_ble_eq_true rfl)⟩ [] rfl rfl rfl rfl (by simp [Value.category]) dX7_next_22) [] rfl rfl ?_
      refine v_ifb_eq (tgt := 38) X dX7_next_25 (by decide) (fun c3 => ?_) (fun c3 => ?_)
      · skip
        refine v_ldc X (List.mem_of_getElem? (i := 1) rfl) dX7_next_38 (n := -1000001) (by decide) ?_
        exact v_iret X Y dX7_next_40 (u := ()) (by rw [if_neg (by omega)]) (by rfl)
      · skip
        refine v_iload X dX7_next_28 rfl ?_
        refine v_iconst X dX7_next_30 ?_
        refine v_iconst X dX7_next_31 ?_
        refine res_E X (run_S X (c_X7_isWithin (g := g) (by first | assumption | omega) (by first | assumption | omega) (by first | assumption | omega)) gX7_next_X7_isWithin rfl hdX7_isWithin.2 ⟨(Nat.le_of_ble_eq_true rfl), (Nat.le_of_ble_eq_true rfl)⟩ ⟨(Nat.le_of_ble_eq_true rfl), (Nat.le_of_ble_eq_true rfl)⟩ [] rfl rfl rfl rfl (by simp [Value.category]) dX7_next_32) [] rfl rfl ?_
        refine v_ifb_ne (tgt := 41) X dX7_next_35 (by decide) (fun c4 => ?_) (fun c4 => ?_)
        · skip
          refine v_aload_n X dX7_next_41 rfl ?_
          refine v_iload_n X dX7_next_42 rfl ?_
          refine v_iload_n X dX7_next_43 rfl ?_
          refine res_E X (run_V X (c_X7_speedApart (g := g) (by first | assumption | omega) (by first | assumption | omega) (by first | assumption | omega) (by first | assumption | omega) (by first | assumption | omega)) gX7_next_X7_speedApart rfl hdX7_speedApart ⟨(Nat.le_of_ble_eq_true rfl), (Nat.le_of_ble_eq_true rfl)⟩ ⟨(Nat.le_of_ble_eq_true rfl), (Nat.le_of_ble_eq_true rfl)⟩ 0 rfl rfl rfl [0, 1, 2, 3, 4] rfl rfl rfl rfl (by simp [Value.category]) dX7_next_44) [0, 1, 2, 3, 4] rfl rfl ?_
          refine v_istore X dX7_next_47 (by decide) rfl ?_
          dsimp only [List.set]
          refine v_iload X dX7_next_49 rfl ?_
          refine v_if_ne (tgt := 57) X dX7_next_51 (by decide) (by omega) (fun c5 => ?_) (fun c5 => ?_)
          · skip
            refine v_iload X dX7_next_57 rfl ?_
            refine v_iload_n X dX7_next_59 rfl ?_
            refine v_ishl X dX7_next_60 ?_
            have g2 := iShl_bel (d := absI (spdI cn so tu a - spdI cn so tu b)) (h := h) q5 (by omega)
            have g3 : 0 < belI (absI (spdI cn so tu a - spdI cn so tu b)) h ∧ belI (absI (spdI cn so tu a - spdI cn so tu b)) h ≤ 192 := by unfold belI; (repeat split) <;> omega
            have g4 := fmI_bd (h := h) g3 (p := p) (q := q) (by omega) (by omega)
            rw [g2]
            refine v_istore X dX7_next_61 (by decide) rfl ?_
            dsimp only [List.set]
            refine v_iload X dX7_next_63 rfl ?_
            refine v_iload_n X dX7_next_65 rfl ?_
            refine v_iload X dX7_next_66 rfl ?_
            refine v_iload X dX7_next_68 rfl ?_
            refine res_E X (run_S X (c_X7_firstMeeting (g := g) (by first | assumption | omega) (by first | assumption | omega) (by first | assumption | omega) (by first | assumption | omega)) gX7_next_X7_firstMeeting rfl hdX7_firstMeeting.2 ⟨(Nat.le_of_ble_eq_true rfl), (Nat.le_of_ble_eq_true rfl)⟩ ⟨(Nat.le_of_ble_eq_true rfl), (Nat.le_of_ble_eq_true rfl)⟩ [] rfl rfl rfl rfl (by simp [Value.category]) dX7_next_70) [] rfl rfl ?_
            refine v_iload X dX7_next_73 rfl ?_
            refine v_iload X dX7_next_75 rfl ?_
            refine res_E X (run_S X (c_X7_part (g := g) (by first | assumption | omega) (by first | assumption | omega) (by first | assumption | omega) (by first | assumption | omega) (by first | assumption | omega)) gX7_next_X7_part rfl hdX7_part.2 ⟨(Nat.le_of_ble_eq_true rfl), (Nat.le_of_ble_eq_true rfl)⟩ ⟨(Nat.le_of_ble_eq_true rfl), (Nat.le_of_ble_eq_true rfl)⟩ [] rfl rfl rfl rfl (by simp [Value.category]) dX7_next_77) [] rfl rfl ?_
            exact v_iret X Y dX7_next_80 (u := ()) (by rw [if_pos (by omega), if_neg (by assumption)]) (by rfl)
          · skip
            refine v_ldc X (List.mem_of_getElem? (i := 2) rfl) dX7_next_54 (n := -1000000) (by decide) ?_
            exact v_iret X Y dX7_next_56 (u := ()) (by rw [if_pos (by omega), if_pos (by assumption)]) (by rfl)
        · skip
          refine v_ldc X (List.mem_of_getElem? (i := 1) rfl) dX7_next_38 (n := -1000001) (by decide) ?_
          exact v_iret X Y dX7_next_40 (u := ()) (by rw [if_neg (by omega)]) (by rfl)

theorem hdX7_lieOfReading : yX7_lieOfReading.cls = RX7 ∧ yX7_lieOfReading.cls ≠ "java/lang/invoke/MethodHandle" ∧ yX7_lieOfReading.cls ≠ "java/lang/invoke/VarHandle" ∧ (parseMethodDescriptor yX7_lieOfReading.desc).map (fun d => d.parameters.length) = some 1 := ⟨rfl, by decide +kernel, by decide +kernel, by decide +kernel⟩
set_option maxHeartbeats 4000000 in
set_option maxRecDepth 100000 in
theorem c_X7_lieOfReading {g : Gx} {B : Nat → Nat} {lf fi : Int} {ar rs : Nat → Int} {rc pa0 : Int} {w : Int} (har : Bd 0 719 ar) (hrs : Bd (-24) 24 rs) (hrc : 0 ≤ rc ∧ rc ≤ 4) (hpa : 1 ≤ pa0 ∧ pa0 ≤ 720) (hw : 0 ≤ w ∧ w ≤ 3) : CtE g yX7_lieOfReading wsX7_lieOfReading 6 140 [.ref (B 0), .int (iI w)] (oAH g B (lf) (fi) :: (wRea g (B 9) (B 29) (B 30) ar rs rc pa0)) (lieV ar rs rc pa0 w) (oAH g B (lf) (fi) :: (wRea g (B 9) (B 29) (B 30) ar rs rc pa0)) := by
  refine m_go (cc := cX7_lieOfReading) (nL := 3) (by decide +kernel) rfl (Nat.le_of_ble_eq_true rfl) (fun x X Y hnm => ?_)
  refine v_eq (lo2 := [some (.ref (B 0)), some (.int (iI w)), none]) rfl rfl rfl rfl ?_
  have m1 := atI_bd (cn := 4) (h := 0) hrs (by omega) (by omega)
  have m2 := absI_bd m1
  have m3 := mul_nn m2 (show 0 ≤ pa0 ∧ pa0 ≤ 720 by omega)
  have m4 := lmI_bd (ar := ar) (cn := rc) hrs hpa
  have m5 := bitsN_r (fun h => pB (FitW ar rs rc pa0 h)) rc.toNat
  have f1 : (if 1 < absI (atI 4 rs 0) * pa0 then absI (atI 4 rs 0) * pa0 else 1) = whlI rs pa0 := rfl
  have m6 : 0 ≤ whlI rs pa0 ∧ whlI rs pa0 ≤ 17280 := by unfold whlI; split <;> omega
  refine v_iload_n X dX7_lieOfReading_0 rfl ?_
  refine v_if_ne (tgt := 21) X dX7_lieOfReading_1 (by decide) (by omega) (fun c1 => ?_) (fun c1 => ?_)
  · skip
    refine v_iload_n X dX7_lieOfReading_21 rfl ?_
    refine v_iconst X dX7_lieOfReading_22 ?_
    refine v_icmp_ne (tgt := 34) X dX7_lieOfReading_23 (by decide) (by omega) (by omega) (fun c2 => ?_) (fun c2 => ?_)
    · skip
      refine v_aload_n X dX7_lieOfReading_34 rfl ?_
      refine v_get X (fun _ h => List.mem_cons_of_mem _ (List.mem_append_left _ (List.mem_append_right _ h))) 0 rfl rfl 8 (by decide) rfl (List.mem_of_getElem? (i := 1) rfl) rfl dX7_lieOfReading_35 ?_
      refine res_E X (run_V X (c_X4_leastMove (g := g) (by first | assumption | omega) (by first | assumption | omega) (by first | assumption | omega) (by first | assumption | omega)) gX7_lieOfReading_X4_leastMove rfl hdX4_leastMove ⟨(Nat.le_of_ble_eq_true rfl), (Nat.le_of_ble_eq_true rfl)⟩ ⟨(Nat.le_of_ble_eq_true rfl), (Nat.le_of_ble_eq_true rfl)⟩ 1 rfl rfl rfl [1, 2, 3] rfl rfl rfl rfl (by simp [Value.category]) dX7_lieOfReading_38) [1, 2, 3] rfl rfl ?_
      refine v_istore_n X dX7_lieOfReading_41 2 rfl (by decide) rfl ?_
      dsimp only [List.set]
      refine v_iload_n X dX7_lieOfReading_42 rfl ?_
      refine v_if_ge (tgt := 51) X dX7_lieOfReading_43 (by decide) (by omega) (fun c3 => ?_) (fun c3 => ?_)
      · skip
        refine v_iload_n X dX7_lieOfReading_51 rfl ?_
        refine v_aload_n X dX7_lieOfReading_52 rfl ?_
        refine v_get X (fun _ h => List.mem_cons_of_mem _ (List.mem_append_left _ (List.mem_append_right _ h))) 0 rfl rfl 8 (by decide) rfl (List.mem_of_getElem? (i := 1) rfl) rfl dX7_lieOfReading_53 ?_
        refine res_E X (run_V X (c_X4_whole (g := g) (by first | assumption | omega) (by first | assumption | omega)) gX7_lieOfReading_X4_whole rfl hdX4_whole ⟨(Nat.le_of_ble_eq_true rfl), (Nat.le_of_ble_eq_true rfl)⟩ ⟨(Nat.le_of_ble_eq_true rfl), (Nat.le_of_ble_eq_true rfl)⟩ 1 rfl rfl rfl [1, 2, 3] rfl rfl rfl rfl (by simp [Value.category]) dX7_lieOfReading_56) [1, 2, 3] rfl rfl ?_
        rw [f1]
        refine v_iload_n X dX7_lieOfReading_59 rfl ?_
        refine v_iconst X dX7_lieOfReading_60 ?_
        refine v_isub X dX7_lieOfReading_61 ?_
        refine res_E X (run_S X (c_X7_part (g := g) (by first | assumption | omega) (by first | assumption | omega) (by first | assumption | omega) (by first | assumption | omega) (by first | assumption | omega)) gX7_lieOfReading_X7_part rfl hdX7_part.2 ⟨(Nat.le_of_ble_eq_true rfl), (Nat.le_of_ble_eq_true rfl)⟩ ⟨(Nat.le_of_ble_eq_true rfl), (Nat.le_of_ble_eq_true rfl)⟩ [] rfl rfl rfl rfl (by simp [Value.category]) dX7_lieOfReading_62) [] rfl rfl ?_
        exact v_iret X Y dX7_lieOfReading_65 (u := ()) (by unfold lieV; rw [if_neg (by assumption), if_neg (by assumption)]; first | rw [if_pos (by omega)] | rw [if_neg (by omega)]) (by rfl)
      · skip
        refine v_ldc X (List.mem_of_getElem? (i := 2) rfl) dX7_lieOfReading_46 (n := -1000000) (by decide) ?_
        refine v_goto (tgt := 65) X dX7_lieOfReading_48 (by decide) ?_
        exact v_iret X Y dX7_lieOfReading_65 (u := ()) (by unfold lieV; rw [if_neg (by assumption), if_neg (by assumption)]; first | rw [if_pos (by omega)] | rw [if_neg (by omega)]) (by rfl)
    · skip
      refine v_aload_n X dX7_lieOfReading_26 rfl ?_
      refine v_get X (fun _ h => List.mem_cons_of_mem _ (List.mem_append_left _ (List.mem_append_right _ h))) 0 rfl rfl 8 (by decide) rfl (List.mem_of_getElem? (i := 1) rfl) rfl dX7_lieOfReading_27 ?_
      refine res_E X (run_V X (c_X4_moved (g := g) (by first | assumption | omega) (by first | assumption | omega) (by first | assumption | omega) (by first | assumption | omega)) gX7_lieOfReading_X4_moved rfl hdX4_moved ⟨(Nat.le_of_ble_eq_true rfl), (Nat.le_of_ble_eq_true rfl)⟩ ⟨(Nat.le_of_ble_eq_true rfl), (Nat.le_of_ble_eq_true rfl)⟩ 1 rfl rfl rfl [1, 2, 3] rfl rfl rfl rfl (by simp [Value.category]) dX7_lieOfReading_30) [1, 2, 3] rfl rfl ?_
      exact v_iret X Y dX7_lieOfReading_33 (u := ()) (by unfold lieV; rw [if_neg (by assumption), if_pos (by assumption)]) (by rfl)
  · skip
    refine v_aload_n X dX7_lieOfReading_4 rfl ?_
    refine v_get X (fun _ h => List.mem_cons_of_mem _ (List.mem_append_left _ (List.mem_append_right _ h))) 0 rfl rfl 8 (by decide) rfl (List.mem_of_getElem? (i := 1) rfl) rfl dX7_lieOfReading_5 ?_
    refine v_iconst X dX7_lieOfReading_8 ?_
    refine res_E X (run_V X (c_X4_fitsWithout (g := g) (by first | assumption | omega) (by first | assumption | omega) (by first | assumption | omega) (by first | assumption | omega) (by first | assumption | omega)) gX7_lieOfReading_X4_fitsWithout rfl hdX4_fitsWithout ⟨(Nat.le_of_ble_eq_true rfl), (Nat.le_of_ble_eq_true rfl)⟩ ⟨(Nat.le_of_ble_eq_true rfl), (Nat.le_of_ble_eq_true rfl)⟩ 1 rfl rfl rfl [1, 2, 3] rfl rfl rfl rfl (by simp [Value.category]) dX7_lieOfReading_9) [1, 2, 3] rfl rfl ?_
    refine v_ifp_eq (tgt := 19) X dX7_lieOfReading_12 (by decide) (fun c4 => ?_) (fun c4 => ?_)
    · skip
      refine v_iconst X dX7_lieOfReading_19 ?_
      exact v_iret X Y dX7_lieOfReading_20 (u := ()) (by unfold lieV; rw [if_pos (by assumption)]; first | exact (pI_1 (by assumption)).symm | exact (pI_0 (by assumption)).symm) (by rfl)
    · skip
      refine v_iconst X dX7_lieOfReading_15 ?_
      refine v_goto (tgt := 20) X dX7_lieOfReading_16 (by decide) ?_
      exact v_iret X Y dX7_lieOfReading_20 (u := ()) (by unfold lieV; rw [if_pos (by assumption)]; first | exact (pI_1 (by assumption)).symm | exact (pI_0 (by assumption)).symm) (by rfl)

theorem hdX7_trueInGlass : yX7_trueInGlass.cls = RX7 ∧ yX7_trueInGlass.cls ≠ "java/lang/invoke/MethodHandle" ∧ yX7_trueInGlass.cls ≠ "java/lang/invoke/VarHandle" ∧ (parseMethodDescriptor yX7_trueInGlass.desc).map (fun d => d.parameters.length) = some 2 := ⟨rfl, by decide +kernel, by decide +kernel, by decide +kernel⟩
set_option maxHeartbeats 4000000 in
set_option maxRecDepth 100000 in
theorem c_X7_trueInGlass {g : Gx} {B : Nat → Nat} {lf fi : Int} {mk cn : Int} {so tu sp : Nat → Int} {p q : Int} (hcn : 0 ≤ cn ∧ cn ≤ 4) (hmk : 0 ≤ mk ∧ mk ≤ 60) (hso : Bd 0 5 so) (htu : Bd 0 12 tu) (hsp : Bd 0 59 sp) (hp : 0 ≤ p ∧ p ≤ 9998) (hq : 1 ≤ q ∧ q ≤ 9999) : CtE g yX7_trueInGlass wsX7_trueInGlass 4 87 [.ref (B 0), .int (iI p), .int (iI q)] (oAH g B (lf) (fi) :: (wClk g (B 3) (B 15) (B 16) (B 17) mk cn so tu sp)) (trueI cn mk so tu sp p q) (oAH g B (lf) (fi) :: (wClk g (B 3) (B 15) (B 16) (B 17) mk cn so tu sp)) := by
  refine m_go (cc := cX7_trueInGlass) (nL := 5) (by decide +kernel) rfl (Nat.le_of_ble_eq_true rfl) (fun x X Y hnm => ?_)
  refine v_eq (lo2 := [some (.ref (B 0)), some (.int (iI p)), some (.int (iI q)), none, none]) rfl rfl rfl rfl ?_
  have q6 := mul_nn (show 0 ≤ q ∧ q ≤ 9999 by omega) hmk
  have q8 := fun (h : Int) => restI_le (n := spdI cn so tu h * p * mk + atI cn sp h * q) q6.2 (by decide)
  have q9 := fun (h : Int) => restI_bd (n := spdI cn so tu h * p * mk + atI cn sp h * q) (w := q * mk)
  refine v_iconst X dX7_trueInGlass_0 ?_
  refine v_istore_n X dX7_trueInGlass_1 3 rfl (by decide) rfl ?_
  dsimp only [List.set]
  refine v_iconst X dX7_trueInGlass_2 ?_
  refine v_istore X dX7_trueInGlass_3 (by decide) rfl ?_
  dsimp only [List.set]
  have L5 : ∀ (nf : Nat) (b : Int) (h : Int) (h1 : 0 ≤ h ∧ h ≤ cn) (h2 : b = bitsN (fun h => decide (restI (2 * restI (spdI cn so tu h * p * mk + atI cn sp h * q) (q * mk)) (q * mk) = 0)) h.toNat) (_ : (cn - h).toNat < nf), V g x 0 0 (oAH g B (lf) (fi) :: (wClk g (B 3) (B 15) (B 16) (B 17) mk cn so tu sp)) [some (.ref (B 0)), some (.int (iI p)), some (.int (iI q)), some (.int (iI b)), some (.int (iI h))] 5 [] := by
    intro nf
    induction nf with
    | zero => intro b h h1 h2 hmu; exact absurd hmu (Nat.not_lt_zero _)
    | succ nf ih5 =>
      intro b h h1 h2 hmu
      refine v_iload X dX7_trueInGlass_5 rfl ?_
      refine v_aload_n X dX7_trueInGlass_7 rfl ?_
      refine v_get X (fun _ h => List.mem_cons_of_mem _ (List.mem_append_left _ (List.mem_append_right _ h))) 0 rfl rfl 2 (by decide) rfl (List.mem_of_getElem? (i := 1) rfl) rfl dX7_trueInGlass_8 ?_
      refine v_get X (fun _ h => List.mem_cons_of_mem _ (List.mem_append_right _ h)) 1 rfl rfl 4 (by decide) rfl (List.mem_of_getElem? (i := 2) rfl) rfl dX7_trueInGlass_11 ?_
      refine v_icmp_ge (tgt := 57) X dX7_trueInGlass_14 (by decide) (by omega) (by omega) (fun c1 => ?_) (fun c1 => ?_)
      · skip
        refine v_iload_n X dX7_trueInGlass_57 rfl ?_
        exact v_iret X Y dX7_trueInGlass_58 (u := ()) (by
            have e : h = cn := by omega
            unfold trueI; rw [h2, e]) (by rfl)
      · skip
        refine v_iconst X dX7_trueInGlass_17 ?_
        refine v_aload_n X dX7_trueInGlass_18 rfl ?_
        refine v_get X (fun _ h => List.mem_cons_of_mem _ (List.mem_append_left _ (List.mem_append_right _ h))) 0 rfl rfl 2 (by decide) rfl (List.mem_of_getElem? (i := 1) rfl) rfl dX7_trueInGlass_19 ?_
        refine v_iload X dX7_trueInGlass_22 rfl ?_
        refine v_iload_n X dX7_trueInGlass_24 rfl ?_
        refine v_iload_n X dX7_trueInGlass_25 rfl ?_
        refine res_E X (run_V X (c_X2_arcAbove (g := g) (by first | assumption | omega) (by first | assumption | omega) (by first | assumption | omega) (by first | assumption | omega) (by first | assumption | omega) (by first | assumption | omega) (by first | assumption | omega) (by first | assumption | omega)) gX7_trueInGlass_X2_arcAbove rfl hdX2_arcAbove ⟨(Nat.le_of_ble_eq_true rfl), (Nat.le_of_ble_eq_true rfl)⟩ ⟨(Nat.le_of_ble_eq_true rfl), (Nat.le_of_ble_eq_true rfl)⟩ 1 rfl rfl rfl [1, 2, 3, 4] rfl rfl rfl rfl (by simp [Value.category]) dX7_trueInGlass_26) [1, 2, 3, 4] rfl rfl ?_
        refine v_imul X dX7_trueInGlass_29 ?_
        refine v_aload_n X dX7_trueInGlass_30 rfl ?_
        refine v_get X (fun _ h => List.mem_cons_of_mem _ (List.mem_append_left _ (List.mem_append_right _ h))) 0 rfl rfl 2 (by decide) rfl (List.mem_of_getElem? (i := 1) rfl) rfl dX7_trueInGlass_31 ?_
        refine v_iload_n X dX7_trueInGlass_34 rfl ?_
        refine res_E X (run_V X (c_X2_arcBelow (g := g) ) gX7_trueInGlass_X2_arcBelow rfl hdX2_arcBelow ⟨(Nat.le_of_ble_eq_true rfl), (Nat.le_of_ble_eq_true rfl)⟩ ⟨(Nat.le_of_ble_eq_true rfl), (Nat.le_of_ble_eq_true rfl)⟩ 1 rfl rfl rfl [1, 2, 3, 4] rfl rfl rfl rfl (by simp [Value.category]) dX7_trueInGlass_35) [1, 2, 3, 4] rfl rfl ?_
        have g1 := q8 h
        have g2 := q9 h
        refine res_E X (run_S X (c_X7_rest (g := g) (by first | assumption | omega) (by first | assumption | omega)) gX7_trueInGlass_X7_rest rfl hdX7_rest.2 ⟨(Nat.le_of_ble_eq_true rfl), (Nat.le_of_ble_eq_true rfl)⟩ ⟨(Nat.le_of_ble_eq_true rfl), (Nat.le_of_ble_eq_true rfl)⟩ [] rfl rfl rfl rfl (by simp [Value.category]) dX7_trueInGlass_38) [] rfl rfl ?_
        refine v_if_ne (tgt := 51) X dX7_trueInGlass_41 (by decide) (by exact restI_r (by omega)) (fun c2 => ?_) (fun c2 => ?_)
        · skip
          refine v_iinc X dX7_trueInGlass_51 rfl (by decide) rfl ?_
          dsimp only [List.set]
          refine v_goto (tgt := 5) X dX7_trueInGlass_54 (by decide) ?_
          exact ih5 _ _ (by omega) (by rw [bitsN_s h1.1, ← h2]; simp only [show ((h.toNat : Nat) : Int) = h by omega, decide_eq_true_eq]; first | rw [if_pos (by assumption)] | rw [if_neg (by assumption)]) (by omega)
        · skip
          refine v_iload_n X dX7_trueInGlass_44 rfl ?_
          refine v_iconst X dX7_trueInGlass_45 ?_
          refine v_iload X dX7_trueInGlass_46 rfl ?_
          refine v_ishl X dX7_trueInGlass_48 ?_
          refine v_ior X dX7_trueInGlass_49 ?_
          refine v_istore_n X dX7_trueInGlass_50 3 rfl (by decide) rfl ?_
          dsimp only [List.set]
          refine v_iinc X dX7_trueInGlass_51 rfl (by decide) rfl ?_
          dsimp only [List.set]
          refine v_goto (tgt := 5) X dX7_trueInGlass_54 (by decide) ?_
          exact ih5 _ _ (by omega) (by rw [bitsN_s h1.1, ← h2]; simp only [show ((h.toNat : Nat) : Int) = h by omega, decide_eq_true_eq]; first | rw [if_pos (by assumption)] | rw [if_neg (by assumption)]) (by omega)
  exact L5 _ _ _ (by omega) (by rfl) (Nat.lt_succ_self _)

theorem hdX7_glass : yX7_glass.cls = RX7 ∧ yX7_glass.cls ≠ "java/lang/invoke/MethodHandle" ∧ yX7_glass.cls ≠ "java/lang/invoke/VarHandle" ∧ (parseMethodDescriptor yX7_glass.desc).map (fun d => d.parameters.length) = some 3 := ⟨rfl, by decide +kernel, by decide +kernel, by decide +kernel⟩
set_option maxHeartbeats 4000000 in
set_option maxRecDepth 100000 in
theorem c_X7_glass {g : Gx} {B : Nat → Nat} {lf fi : Int} {mk cn : Int} {so tu sp : Nat → Int} {p q w : Int} (hcn : 0 ≤ cn ∧ cn ≤ 4) (hmk : 0 ≤ mk ∧ mk ≤ 60) (hso : Bd 0 5 so) (htu : Bd 0 12 tu) (hsp : Bd 0 59 sp) (hp : R32 p) (hq : R32 q) (hw : R32 w) : CtE g yX7_glass wsX7_glass 5 111 [.ref (B 0), .int (iI p), .int (iI q), .int (iI w)] (oAH g B (lf) (fi) :: (wClk g (B 3) (B 15) (B 16) (B 17) mk cn so tu sp)) (if cn = 0 then -1000002 else if (1 ≤ q ∧ q ≤ 9999 ∧ 0 ≤ p ∧ p < q) ∧ 0 ≤ w ∧ w ≤ 2 then (if w = 2 then trueI cn mk so tu sp p q else toldI (restI (-p) q) q w) else -1000001) (oAH g B (lf) (fi) :: (wClk g (B 3) (B 15) (B 16) (B 17) mk cn so tu sp)) := by
  refine m_go (cc := cX7_glass) (nL := 4) (by decide +kernel) rfl (Nat.le_of_ble_eq_true rfl) (fun x X Y hnm => ?_)
  refine v_eq (lo2 := [some (.ref (B 0)), some (.int (iI p)), some (.int (iI q)), some (.int (iI w))]) rfl rfl rfl rfl ?_
  refine v_aload_n X dX7_glass_0 rfl ?_
  refine v_get X (fun _ h => List.mem_cons_of_mem _ (List.mem_append_left _ (List.mem_append_right _ h))) 0 rfl rfl 2 (by decide) rfl (List.mem_of_getElem? (i := 1) rfl) rfl dX7_glass_1 ?_
  refine res_E X (run_V X (c_X2_isNone (g := g) (by first | assumption | omega)) gX7_glass_X2_isNone rfl hdX2_isNone ⟨(Nat.le_of_ble_eq_true rfl), (Nat.le_of_ble_eq_true rfl)⟩ ⟨(Nat.le_of_ble_eq_true rfl), (Nat.le_of_ble_eq_true rfl)⟩ 1 rfl rfl rfl [1, 2, 3, 4] rfl rfl rfl rfl (by simp [Value.category]) dX7_glass_4) [1, 2, 3, 4] rfl rfl ?_
  refine v_ifb_eq (tgt := 13) X dX7_glass_7 (by decide) (fun c1 => ?_) (fun c1 => ?_)
  · skip
    refine v_iload_n X dX7_glass_13 rfl ?_
    refine v_iload_n X dX7_glass_14 rfl ?_
    refine res_E X (run_S X (c_X7_isMoment (g := g) (by first | assumption | omega) (by first | assumption | omega)) gX7_glass_X7_isMoment rfl hdX7_isMoment.2 ⟨(Nat.le_of_ble_eq_true rfl), (Nat.le_of_ble_eq_true rfl)⟩ ⟨(Nat.le_of_ble_eq_true rfl), (Nat.le_of_ble_eq_true rfl)⟩ [] rfl rfl rfl rfl (by simp [Value.category]) dX7_glass_15) [] rfl rfl ?_
    refine v_ifb_eq (tgt := 30) X dX7_glass_18 (by decide) (fun c2 => ?_) (fun c2 => ?_)
    · skip
      refine v_ldc X (List.mem_of_getElem? (i := 3) rfl) dX7_glass_30 (n := -1000001) (by decide) ?_
      exact v_iret X Y dX7_glass_32 (u := ()) (by rw [if_neg (by assumption), if_neg (by omega)]) (by rfl)
    · skip
      refine v_iload_n X dX7_glass_21 rfl ?_
      refine v_iconst X dX7_glass_22 ?_
      refine v_iconst X dX7_glass_23 ?_
      refine res_E X (run_S X (c_X7_isWithin (g := g) (by first | assumption | omega) (by first | assumption | omega) (by first | assumption | omega)) gX7_glass_X7_isWithin rfl hdX7_isWithin.2 ⟨(Nat.le_of_ble_eq_true rfl), (Nat.le_of_ble_eq_true rfl)⟩ ⟨(Nat.le_of_ble_eq_true rfl), (Nat.le_of_ble_eq_true rfl)⟩ [] rfl rfl rfl rfl (by simp [Value.category]) dX7_glass_24) [] rfl rfl ?_
      refine v_ifb_ne (tgt := 33) X dX7_glass_27 (by decide) (fun c3 => ?_) (fun c3 => ?_)
      · skip
        refine v_iload_n X dX7_glass_33 rfl ?_
        refine v_iconst X dX7_glass_34 ?_
        refine v_icmp_ne (tgt := 45) X dX7_glass_35 (by decide) (by omega) (by omega) (fun c4 => ?_) (fun c4 => ?_)
        · skip
          refine v_iload_n X dX7_glass_45 rfl ?_
          refine v_ineg X dX7_glass_46 ?_
          refine v_iload_n X dX7_glass_47 rfl ?_
          refine res_E X (run_S X (c_X7_rest (g := g) (by first | assumption | omega) (by first | assumption | omega)) gX7_glass_X7_rest rfl hdX7_rest.2 ⟨(Nat.le_of_ble_eq_true rfl), (Nat.le_of_ble_eq_true rfl)⟩ ⟨(Nat.le_of_ble_eq_true rfl), (Nat.le_of_ble_eq_true rfl)⟩ [] rfl rfl rfl rfl (by simp [Value.category]) dX7_glass_48) [] rfl rfl ?_
          have q7 := restI_bd (n := -p) (w := q)
          have q8 : restI (-p) q ≤ 9999 := restI_le (by omega) (by decide)
          refine v_iload_n X dX7_glass_51 rfl ?_
          refine v_iload_n X dX7_glass_52 rfl ?_
          refine res_E X (run_S X (c_X7_part (g := g) (by first | assumption | omega) (by first | assumption | omega) (by first | assumption | omega) (by first | assumption | omega) (by first | assumption | omega)) gX7_glass_X7_part rfl hdX7_part.2 ⟨(Nat.le_of_ble_eq_true rfl), (Nat.le_of_ble_eq_true rfl)⟩ ⟨(Nat.le_of_ble_eq_true rfl), (Nat.le_of_ble_eq_true rfl)⟩ [] rfl rfl rfl rfl (by simp [Value.category]) dX7_glass_53) [] rfl rfl ?_
          exact v_iret X Y dX7_glass_56 (u := ()) (by rw [if_neg (by assumption), if_pos (by omega), if_neg (by assumption)]) (by rfl)
        · skip
          refine v_aload_n X dX7_glass_38 rfl ?_
          refine v_iload_n X dX7_glass_39 rfl ?_
          refine v_iload_n X dX7_glass_40 rfl ?_
          refine res_E X (run_V X (c_X7_trueInGlass (g := g) (by first | assumption | omega) (by first | assumption | omega) (by first | assumption | omega) (by first | assumption | omega) (by first | assumption | omega) (by first | assumption | omega) (by first | assumption | omega)) gX7_glass_X7_trueInGlass rfl hdX7_trueInGlass ⟨(Nat.le_of_ble_eq_true rfl), (Nat.le_of_ble_eq_true rfl)⟩ ⟨(Nat.le_of_ble_eq_true rfl), (Nat.le_of_ble_eq_true rfl)⟩ 0 rfl rfl rfl [0, 1, 2, 3, 4] rfl rfl rfl rfl (by simp [Value.category]) dX7_glass_41) [0, 1, 2, 3, 4] rfl rfl ?_
          exact v_iret X Y dX7_glass_44 (u := ()) (by rw [if_neg (by assumption), if_pos (by omega), if_pos (by assumption)]) (by rfl)
      · skip
        refine v_ldc X (List.mem_of_getElem? (i := 3) rfl) dX7_glass_30 (n := -1000001) (by decide) ?_
        exact v_iret X Y dX7_glass_32 (u := ()) (by rw [if_neg (by assumption), if_neg (by omega)]) (by rfl)
  · skip
    refine v_ldc X (List.mem_of_getElem? (i := 2) rfl) dX7_glass_10 (n := -1000002) (by decide) ?_
    exact v_iret X Y dX7_glass_12 (u := ()) (by rw [if_pos (by assumption)]) (by rfl)

theorem hdX7_ask : yX7_ask.cls = RX7 ∧ yX7_ask.cls ≠ "java/lang/invoke/MethodHandle" ∧ yX7_ask.cls ≠ "java/lang/invoke/VarHandle" ∧ (parseMethodDescriptor yX7_ask.desc).map (fun d => d.parameters.length) = some 2 := ⟨rfl, by decide +kernel, by decide +kernel, by decide +kernel⟩
set_option maxHeartbeats 4000000 in
set_option maxRecDepth 100000 in
theorem c_X7_ask {g : Gx} {B : Nat → Nat} {lf fi : Int} {mk cn : Int} {so tu sp : Nat → Int} {t : TS} {h w : Int} (hcn : 0 ≤ cn ∧ cn ≤ 4) (hmk : 0 ≤ mk ∧ mk ≤ 60) (hso : Bd 0 5 so) (htu : Bd 0 12 tu) (hsp : Bd 0 59 sp) (hh : R32 h) (hw : R32 w) : CtI (S := TS) g yX7_ask wsX7_ask 6 132 [.ref (B 0), .int (iI h), .int (iI w)] (oAH g B (lf) (fi) :: (wClk g (B 3) (B 15) (B 16) (B 17) mk cn so tu sp ++ (wAsk g (B 10) (B 31) (t.1) (t.2)))) (fun v u => (¬ ((0 ≤ h ∧ h < cn) ∧ 0 ≤ w ∧ w ≤ 1) ∧ v = -1000001 ∧ u = t) ∨ (((0 ≤ h ∧ h < cn) ∧ 0 ≤ w ∧ w ≤ 1) ∧ v = askF cn so tu sp h w ∧ u = askT cn so h w t)) (fun u => oAH g B (lf) (fi) :: (wClk g (B 3) (B 15) (B 16) (B 17) mk cn so tu sp ++ (wAsk g (B 10) (B 31) (u.1) (u.2)))) := by
  refine m_go (cc := cX7_ask) (nL := 3) (by decide +kernel) rfl (Nat.le_of_ble_eq_true rfl) (fun x X Y hnm => ?_)
  refine v_eq (lo2 := [some (.ref (B 0)), some (.int (iI h)), some (.int (iI w))]) rfl rfl rfl rfl ?_
  have q1 := atI_bd (cn := cn) (h := h) hso (by omega) (by omega)
  have q0 : 0 ≤ ((t.1, 0) : TS).2 ∧ ((t.1, 0) : TS).2 ≤ 16 := ⟨Int.le_refl _, by show (0 : Int) ≤ 16; decide⟩
  refine v_aload_n X dX7_ask_0 rfl ?_
  refine v_get X (fun _ h => List.mem_cons_of_mem _ (List.mem_append_left _ (List.mem_append_left _ (List.mem_append_right _ h)))) 0 rfl rfl 2 (by decide) rfl (List.mem_of_getElem? (i := 1) rfl) rfl dX7_ask_1 ?_
  refine v_iload_n X dX7_ask_4 rfl ?_
  refine res_E X (run_V X (c_X2_has (g := g) (by first | assumption | omega) (by first | assumption | omega)) gX7_ask_X2_has rfl hdX2_has ⟨(Nat.le_of_ble_eq_true rfl), (Nat.le_of_ble_eq_true rfl)⟩ ⟨(Nat.le_of_ble_eq_true rfl), (Nat.le_of_ble_eq_true rfl)⟩ 1 rfl rfl rfl [1, 2, 3, 4] rfl rfl rfl rfl (by simp [Value.category]) dX7_ask_5) [1, 2, 3, 4] rfl rfl ?_
  refine v_ifb_eq (tgt := 20) X dX7_ask_8 (by decide) (fun c1 => ?_) (fun c1 => ?_)
  · skip
    refine v_ldc X (List.mem_of_getElem? (i := 2) rfl) dX7_ask_20 (n := -1000001) (by decide) ?_
    refine v_iret X Y dX7_ask_22 (u := t) ?_ (by rfl)
    exact Or.inl ⟨by omega, rfl, rfl⟩
  · skip
    refine v_iload_n X dX7_ask_11 rfl ?_
    refine v_iconst X dX7_ask_12 ?_
    refine v_iconst X dX7_ask_13 ?_
    refine res_E X (run_S X (c_X7_isWithin (g := g) (by first | assumption | omega) (by first | assumption | omega) (by first | assumption | omega)) gX7_ask_X7_isWithin rfl hdX7_isWithin.2 ⟨(Nat.le_of_ble_eq_true rfl), (Nat.le_of_ble_eq_true rfl)⟩ ⟨(Nat.le_of_ble_eq_true rfl), (Nat.le_of_ble_eq_true rfl)⟩ [] rfl rfl rfl rfl (by simp [Value.category]) dX7_ask_14) [] rfl rfl ?_
    refine v_ifb_ne (tgt := 23) X dX7_ask_17 (by decide) (fun c2 => ?_) (fun c2 => ?_)
    · skip
      refine v_aload_n X dX7_ask_23 rfl ?_
      refine v_get X (fun _ h => List.mem_cons_of_mem _ (List.mem_append_left _ (List.mem_append_left _ (List.mem_append_right _ h)))) 0 rfl rfl 9 (by decide) rfl (List.mem_of_getElem? (i := 3) rfl) rfl dX7_ask_24 ?_
      refine v_iconst X dX7_ask_27 ?_
      refine v_put X (fun _ h => List.mem_cons_of_mem _ (List.mem_append_left _ (List.mem_append_right _ h))) tyX1 tyX1_ok nmX1 5 rfl rfl 1 (by decide) rfl (List.mem_of_getElem? (i := 4) rfl) rfl rfl rfl (Nat.le_of_ble_eq_true rfl) dX7_ask_28 ?_
      dsimp only [List.set, oAH, wAsk, wClk, List.cons_append, List.nil_append]
      refine v_aload_n X dX7_ask_31 rfl ?_
      refine v_get X (fun _ h => List.mem_cons_of_mem _ (List.mem_append_left _ (List.mem_append_left _ (List.mem_append_right _ h)))) 0 rfl rfl 2 (by decide) rfl (List.mem_of_getElem? (i := 1) rfl) rfl dX7_ask_32 ?_
      refine v_iload_n X dX7_ask_35 rfl ?_
      refine res_E X (run_V X (c_X2_sortOf (g := g) (by first | assumption | omega) (by first | assumption | omega) (by first | assumption | omega)) gX7_ask_X2_sortOf rfl hdX2_sortOf ⟨(Nat.le_of_ble_eq_true rfl), (Nat.le_of_ble_eq_true rfl)⟩ ⟨(Nat.le_of_ble_eq_true rfl), (Nat.le_of_ble_eq_true rfl)⟩ 1 rfl rfl rfl [1, 2, 3, 4] rfl rfl rfl rfl (by simp [Value.category]) dX7_ask_36) [1, 2, 3, 4] rfl rfl ?_
      refine v_iconst X dX7_ask_39 ?_
      refine res_E X (run_S X (c_X7_isOfKind (g := g) (by first | assumption | omega) (by first | assumption | omega)) gX7_ask_X7_isOfKind rfl hdX7_isOfKind.2 ⟨(Nat.le_of_ble_eq_true rfl), (Nat.le_of_ble_eq_true rfl)⟩ ⟨(Nat.le_of_ble_eq_true rfl), (Nat.le_of_ble_eq_true rfl)⟩ [] rfl rfl rfl rfl (by simp [Value.category]) dX7_ask_40) [] rfl rfl ?_
      refine v_ifb_eq (tgt := 78) X dX7_ask_43 (by decide) (fun c3 => ?_) (fun c3 => ?_)
      · skip
        refine v_iload_n X dX7_ask_78 rfl ?_
        refine v_if_ne (tgt := 97) X dX7_ask_79 (by decide) (by omega) (fun c4 => ?_) (fun c4 => ?_)
        · skip
          refine v_aload_n X dX7_ask_97 rfl ?_
          refine v_get X (fun _ h => List.mem_cons_of_mem _ (List.mem_append_left _ (List.mem_append_left _ (List.mem_append_right _ h)))) 0 rfl rfl 9 (by decide) rfl (List.mem_of_getElem? (i := 3) rfl) rfl dX7_ask_98 ?_
          refine v_aload_n X dX7_ask_101 rfl ?_
          refine v_get X (fun _ h => List.mem_cons_of_mem _ (List.mem_append_left _ (List.mem_append_left _ (List.mem_append_right _ h)))) 0 rfl rfl 2 (by decide) rfl (List.mem_of_getElem? (i := 1) rfl) rfl dX7_ask_102 ?_
          refine v_iload_n X dX7_ask_105 rfl ?_
          refine res_F X (run_V X (c_X1_markOfHours (g := g) (t := ((t.1, 0) : TS)) (by exact q0) (by first | assumption | omega) (by first | assumption | omega) (by first | assumption | omega) (by first | assumption | omega)) gX7_ask_X1_markOfHours rfl hdX1_markOfHours ⟨(Nat.le_of_ble_eq_true rfl), (Nat.le_of_ble_eq_true rfl)⟩ ⟨(Nat.le_of_ble_eq_true rfl), (Nat.le_of_ble_eq_true rfl)⟩ 5 rfl rfl rfl [5, 6, 1, 2, 3, 4] rfl rfl rfl rfl (by simp [Value.category]) dX7_ask_106) [5, 6, 1, 2, 3, 4] rfl rfl rfl ?_
          dsimp only [patch, List.set, List.cons_append, List.nil_append, oAH, wAsk, wClk]
          refine v_iret X Y dX7_ask_109 (u := askT cn so h w t) ?_ (by unfold askT; (first | rw [if_pos (by omega)] | rw [if_neg (by omega)]) <;> (first | rw [if_pos (by assumption)] | rw [if_neg (by assumption)]) <;> rfl)
          exact Or.inr ⟨by omega, by unfold askF; first | rw [if_pos (by omega)] | rw [if_neg (by omega)]; first | rw [if_pos (by assumption)] | rw [if_neg (by assumption)], rfl⟩
        · skip
          refine v_aload_n X dX7_ask_82 rfl ?_
          refine v_get X (fun _ h => List.mem_cons_of_mem _ (List.mem_append_left _ (List.mem_append_left _ (List.mem_append_right _ h)))) 0 rfl rfl 9 (by decide) rfl (List.mem_of_getElem? (i := 3) rfl) rfl dX7_ask_83 ?_
          refine v_aload_n X dX7_ask_86 rfl ?_
          refine v_get X (fun _ h => List.mem_cons_of_mem _ (List.mem_append_left _ (List.mem_append_left _ (List.mem_append_right _ h)))) 0 rfl rfl 2 (by decide) rfl (List.mem_of_getElem? (i := 1) rfl) rfl dX7_ask_87 ?_
          refine v_iload_n X dX7_ask_90 rfl ?_
          refine res_F X (run_V X (c_X1_sizeOfHours (g := g) (t := ((t.1, 0) : TS)) (by exact q0) (by first | assumption | omega) (by first | assumption | omega) (by first | assumption | omega) (by first | assumption | omega) (by first | assumption | omega)) gX7_ask_X1_sizeOfHours rfl hdX1_sizeOfHours ⟨(Nat.le_of_ble_eq_true rfl), (Nat.le_of_ble_eq_true rfl)⟩ ⟨(Nat.le_of_ble_eq_true rfl), (Nat.le_of_ble_eq_true rfl)⟩ 5 rfl rfl rfl [5, 6, 1, 2, 3, 4] rfl rfl rfl rfl (by simp [Value.category]) dX7_ask_91) [5, 6, 1, 2, 3, 4] rfl rfl rfl ?_
          dsimp only [patch, List.set, List.cons_append, List.nil_append, oAH, wAsk, wClk]
          refine v_goto (tgt := 109) X dX7_ask_94 (by decide) ?_
          refine v_iret X Y dX7_ask_109 (u := askT cn so h w t) ?_ (by unfold askT; (first | rw [if_pos (by omega)] | rw [if_neg (by omega)]) <;> (first | rw [if_pos (by assumption)] | rw [if_neg (by assumption)]) <;> rfl)
          exact Or.inr ⟨by omega, by unfold askF; first | rw [if_pos (by omega)] | rw [if_neg (by omega)]; first | rw [if_pos (by assumption)] | rw [if_neg (by assumption)], rfl⟩
      · skip
        refine v_iload_n X dX7_ask_46 rfl ?_
        refine v_if_ne (tgt := 65) X dX7_ask_47 (by decide) (by omega) (fun c5 => ?_) (fun c5 => ?_)
        · skip
          refine v_aload_n X dX7_ask_65 rfl ?_
          refine v_get X (fun _ h => List.mem_cons_of_mem _ (List.mem_append_left _ (List.mem_append_left _ (List.mem_append_right _ h)))) 0 rfl rfl 9 (by decide) rfl (List.mem_of_getElem? (i := 3) rfl) rfl dX7_ask_66 ?_
          refine v_aload_n X dX7_ask_69 rfl ?_
          refine v_get X (fun _ h => List.mem_cons_of_mem _ (List.mem_append_left _ (List.mem_append_left _ (List.mem_append_right _ h)))) 0 rfl rfl 2 (by decide) rfl (List.mem_of_getElem? (i := 1) rfl) rfl dX7_ask_70 ?_
          refine v_iload_n X dX7_ask_73 rfl ?_
          refine res_F X (run_V X (c_X1_markOfBacks (g := g) (t := ((t.1, 0) : TS)) (by exact q0) (by first | assumption | omega) (by first | assumption | omega) (by first | assumption | omega) (by first | assumption | omega)) gX7_ask_X1_markOfBacks rfl hdX1_markOfBacks ⟨(Nat.le_of_ble_eq_true rfl), (Nat.le_of_ble_eq_true rfl)⟩ ⟨(Nat.le_of_ble_eq_true rfl), (Nat.le_of_ble_eq_true rfl)⟩ 5 rfl rfl rfl [5, 6, 1, 2, 3, 4] rfl rfl rfl rfl (by simp [Value.category]) dX7_ask_74) [5, 6, 1, 2, 3, 4] rfl rfl rfl ?_
          dsimp only [patch, List.set, List.cons_append, List.nil_append, oAH, wAsk, wClk]
          refine v_iret X Y dX7_ask_77 (u := askT cn so h w t) ?_ (by unfold askT; (first | rw [if_pos (by omega)] | rw [if_neg (by omega)]) <;> (first | rw [if_pos (by assumption)] | rw [if_neg (by assumption)]) <;> rfl)
          exact Or.inr ⟨by omega, by unfold askF; first | rw [if_pos (by omega)] | rw [if_neg (by omega)]; first | rw [if_pos (by assumption)] | rw [if_neg (by assumption)], rfl⟩
        · skip
          refine v_aload_n X dX7_ask_50 rfl ?_
          refine v_get X (fun _ h => List.mem_cons_of_mem _ (List.mem_append_left _ (List.mem_append_left _ (List.mem_append_right _ h)))) 0 rfl rfl 9 (by decide) rfl (List.mem_of_getElem? (i := 3) rfl) rfl dX7_ask_51 ?_
          refine v_aload_n X dX7_ask_54 rfl ?_
          refine v_get X (fun _ h => List.mem_cons_of_mem _ (List.mem_append_left _ (List.mem_append_left _ (List.mem_append_right _ h)))) 0 rfl rfl 2 (by decide) rfl (List.mem_of_getElem? (i := 1) rfl) rfl dX7_ask_55 ?_
          refine v_iload_n X dX7_ask_58 rfl ?_
          refine res_F X (run_V X (c_X1_sizeOfBacks (g := g) (t := ((t.1, 0) : TS)) (by exact q0) (by first | assumption | omega) (by first | assumption | omega) (by first | assumption | omega) (by first | assumption | omega)) gX7_ask_X1_sizeOfBacks rfl hdX1_sizeOfBacks ⟨(Nat.le_of_ble_eq_true rfl), (Nat.le_of_ble_eq_true rfl)⟩ ⟨(Nat.le_of_ble_eq_true rfl), (Nat.le_of_ble_eq_true rfl)⟩ 5 rfl rfl rfl [5, 6, 1, 2, 3, 4] rfl rfl rfl rfl (by simp [Value.category]) dX7_ask_59) [5, 6, 1, 2, 3, 4] rfl rfl rfl ?_
          dsimp only [patch, List.set, List.cons_append, List.nil_append, oAH, wAsk, wClk]
          refine v_goto (tgt := 77) X dX7_ask_62 (by decide) ?_
          refine v_iret X Y dX7_ask_77 (u := askT cn so h w t) ?_ (by unfold askT; (first | rw [if_pos (by omega)] | rw [if_neg (by omega)]) <;> (first | rw [if_pos (by assumption)] | rw [if_neg (by assumption)]) <;> rfl)
          exact Or.inr ⟨by omega, by unfold askF; first | rw [if_pos (by omega)] | rw [if_neg (by omega)]; first | rw [if_pos (by assumption)] | rw [if_neg (by assumption)], rfl⟩
    · skip
      refine v_ldc X (List.mem_of_getElem? (i := 2) rfl) dX7_ask_20 (n := -1000001) (by decide) ?_
      refine v_iret X Y dX7_ask_22 (u := t) ?_ (by rfl)
      exact Or.inl ⟨by omega, rfl, rfl⟩

theorem hdX7_count : yX7_count.cls = RX7 ∧ yX7_count.cls ≠ "java/lang/invoke/MethodHandle" ∧ yX7_count.cls ≠ "java/lang/invoke/VarHandle" ∧ (parseMethodDescriptor yX7_count.desc).map (fun d => d.parameters.length) = some 1 := ⟨rfl, by decide +kernel, by decide +kernel, by decide +kernel⟩
set_option maxHeartbeats 4000000 in
set_option maxRecDepth 100000 in
theorem c_X7_count {g : Gx} {B : Nat → Nat} {lf fi : Int} {it la le : Nat → Int} {bt : Nat → Int} {tln tk fm tt tf : Int} {mk cn : Int} {so tu sp : Nat → Int} {hs ss : Nat → Int} {ln : Int} {w : Int} (hla : Bd (-1) 2 la) (hcn : 0 ≤ cn ∧ cn ≤ 4) (hmk : 0 ≤ mk ∧ mk ≤ 60) (hso : Bd 0 5 so) (htu : Bd 0 12 tu) (hsp : Bd 0 59 sp) (hln : 0 ≤ ln ∧ ln ≤ 24) (htl : 0 ≤ tln ∧ tln ≤ 200) (hw : R32 w) : CtE g yX7_count wsX7_count 4 84 [.ref (B 0), .int (iI w)] (oAH g B (lf) (fi) :: (wRow g (B 1) (B 11) (B 12) (B 13) it la le ++ (wTap g (B 2) (B 14) bt tln tk fm tt tf ++ (wClk g (B 3) (B 15) (B 16) (B 17) mk cn so tu sp ++ (wAct g (B 7) (B 27) (B 28) hs ss ln))))) (if w = 0 then cntN (fun j => decide (la j ≠ -1)) 8 else if w = 1 then cn else if w = 2 then mk else if w = 3 then cntN (fun j => decide (sp j ≠ 0)) cn.toNat else if w = 4 then ln else if w = 5 then tln else -1000001) (oAH g B (lf) (fi) :: (wRow g (B 1) (B 11) (B 12) (B 13) it la le ++ (wTap g (B 2) (B 14) bt tln tk fm tt tf ++ (wClk g (B 3) (B 15) (B 16) (B 17) mk cn so tu sp ++ (wAct g (B 7) (B 27) (B 28) hs ss ln))))) := by
  refine m_go (cc := cX7_count) (nL := 2) (by decide +kernel) rfl (Nat.le_of_ble_eq_true rfl) (fun x X Y hnm => ?_)
  refine v_eq (lo2 := [some (.ref (B 0)), some (.int (iI w))]) rfl rfl rfl rfl ?_
  refine v_iload_n X dX7_count_0 rfl ?_
  by_cases sw0 : w = 0
  · subst sw0
    refine v_tabIn (off := 39) (tgt := 40) X dX7_count_1 (by decide) (by decide) (by decide) rfl (by decide) ?_
    refine v_aload_n X dX7_count_40 rfl ?_
    refine v_get X (fun _ h => List.mem_cons_of_mem _ (List.mem_append_left _ (List.mem_append_left _ (List.mem_append_left _ (List.mem_append_left _ (List.mem_append_right _ h)))))) 0 rfl rfl 0 (by decide) rfl (List.mem_of_getElem? (i := 1) rfl) rfl dX7_count_41 ?_
    refine res_E X (run_V X (c_X5_present (g := g) (by first | assumption | omega)) gX7_count_X5_present rfl hdX5_present ⟨(Nat.le_of_ble_eq_true rfl), (Nat.le_of_ble_eq_true rfl)⟩ ⟨(Nat.le_of_ble_eq_true rfl), (Nat.le_of_ble_eq_true rfl)⟩ 1 rfl rfl rfl [1, 2, 3, 4] rfl rfl rfl rfl (by simp [Value.category]) dX7_count_44) [1, 2, 3, 4] rfl rfl ?_
    exact v_iret X Y dX7_count_47 (u := ()) (by first | rfl | ((repeat split) <;> first | rfl | omega)) (by rfl)
  by_cases sw1 : w = 1
  · subst sw1
    refine v_tabIn (off := 47) (tgt := 48) X dX7_count_1 (by decide) (by decide) (by decide) rfl (by decide) ?_
    refine v_aload_n X dX7_count_48 rfl ?_
    refine v_get X (fun _ h => List.mem_cons_of_mem _ (List.mem_append_left _ (List.mem_append_left _ (List.mem_append_left _ (List.mem_append_left _ (List.mem_append_right _ h)))))) 0 rfl rfl 2 (by decide) rfl (List.mem_of_getElem? (i := 2) rfl) rfl dX7_count_49 ?_
    refine v_get X (fun _ h => List.mem_cons_of_mem _ (List.mem_append_left _ (List.mem_append_left _ (List.mem_append_left _ (List.mem_append_right _ h))))) 7 rfl rfl 4 (by decide) rfl (List.mem_of_getElem? (i := 3) rfl) rfl dX7_count_52 ?_
    exact v_iret X Y dX7_count_55 (u := ()) (by first | rfl | ((repeat split) <;> first | rfl | omega)) (by rfl)
  by_cases sw2 : w = 2
  · subst sw2
    refine v_tabIn (off := 55) (tgt := 56) X dX7_count_1 (by decide) (by decide) (by decide) rfl (by decide) ?_
    refine v_aload_n X dX7_count_56 rfl ?_
    refine v_get X (fun _ h => List.mem_cons_of_mem _ (List.mem_append_left _ (List.mem_append_left _ (List.mem_append_left _ (List.mem_append_left _ (List.mem_append_right _ h)))))) 0 rfl rfl 2 (by decide) rfl (List.mem_of_getElem? (i := 2) rfl) rfl dX7_count_57 ?_
    refine v_get X (fun _ h => List.mem_cons_of_mem _ (List.mem_append_left _ (List.mem_append_left _ (List.mem_append_left _ (List.mem_append_right _ h))))) 7 rfl rfl 3 (by decide) rfl (List.mem_of_getElem? (i := 4) rfl) rfl dX7_count_60 ?_
    exact v_iret X Y dX7_count_63 (u := ()) (by first | rfl | ((repeat split) <;> first | rfl | omega)) (by rfl)
  by_cases sw3 : w = 3
  · subst sw3
    refine v_tabIn (off := 63) (tgt := 64) X dX7_count_1 (by decide) (by decide) (by decide) rfl (by decide) ?_
    refine v_aload_n X dX7_count_64 rfl ?_
    refine v_get X (fun _ h => List.mem_cons_of_mem _ (List.mem_append_left _ (List.mem_append_left _ (List.mem_append_left _ (List.mem_append_left _ (List.mem_append_right _ h)))))) 0 rfl rfl 2 (by decide) rfl (List.mem_of_getElem? (i := 2) rfl) rfl dX7_count_65 ?_
    refine res_E X (run_V X (c_X2_slippedHands (g := g) (by first | assumption | omega) (by first | assumption | omega)) gX7_count_X2_slippedHands rfl hdX2_slippedHands ⟨(Nat.le_of_ble_eq_true rfl), (Nat.le_of_ble_eq_true rfl)⟩ ⟨(Nat.le_of_ble_eq_true rfl), (Nat.le_of_ble_eq_true rfl)⟩ 7 rfl rfl rfl [7, 8, 9, 10] rfl rfl rfl rfl (by simp [Value.category]) dX7_count_68) [7, 8, 9, 10] rfl rfl ?_
    exact v_iret X Y dX7_count_71 (u := ()) (by first | rfl | ((repeat split) <;> first | rfl | omega)) (by rfl)
  by_cases sw4 : w = 4
  · subst sw4
    refine v_tabIn (off := 71) (tgt := 72) X dX7_count_1 (by decide) (by decide) (by decide) rfl (by decide) ?_
    refine v_aload_n X dX7_count_72 rfl ?_
    refine v_get X (fun _ h => List.mem_cons_of_mem _ (List.mem_append_left _ (List.mem_append_left _ (List.mem_append_left _ (List.mem_append_left _ (List.mem_append_right _ h)))))) 0 rfl rfl 6 (by decide) rfl (List.mem_of_getElem? (i := 5) rfl) rfl dX7_count_73 ?_
    refine v_get X (fun _ h => List.mem_cons_of_mem _ (List.mem_append_left _ (List.mem_append_left _ (List.mem_append_right _ h)))) 11 rfl rfl 2 (by decide) rfl (List.mem_of_getElem? (i := 6) rfl) rfl dX7_count_76 ?_
    exact v_iret X Y dX7_count_79 (u := ()) (by first | rfl | ((repeat split) <;> first | rfl | omega)) (by rfl)
  by_cases sw5 : w = 5
  · subst sw5
    refine v_tabIn (off := 79) (tgt := 80) X dX7_count_1 (by decide) (by decide) (by decide) rfl (by decide) ?_
    refine v_aload_n X dX7_count_80 rfl ?_
    refine v_get X (fun _ h => List.mem_cons_of_mem _ (List.mem_append_left _ (List.mem_append_left _ (List.mem_append_left _ (List.mem_append_left _ (List.mem_append_right _ h)))))) 0 rfl rfl 1 (by decide) rfl (List.mem_of_getElem? (i := 7) rfl) rfl dX7_count_81 ?_
    refine v_get X (fun _ h => List.mem_cons_of_mem _ (List.mem_append_left _ (List.mem_append_right _ h))) 5 rfl rfl 1 (by decide) rfl (List.mem_of_getElem? (i := 8) rfl) rfl dX7_count_84 ?_
    exact v_iret X Y dX7_count_87 (u := ()) (by first | rfl | ((repeat split) <;> first | rfl | omega)) (by rfl)
  refine v_tabOut (tgt := 88) X dX7_count_1 (by omega) (by omega) (by decide) ?_
  refine v_ldc X (List.mem_of_getElem? (i := 9) rfl) dX7_count_88 (n := -1000001) (by decide) ?_
  exact v_iret X Y dX7_count_90 (u := ()) (by first | rfl | ((repeat split) <;> first | rfl | omega)) (by rfl)

theorem hdX8_slip : yX8_slip.cls = RX8 ∧ yX8_slip.cls ≠ "java/lang/invoke/MethodHandle" ∧ yX8_slip.cls ≠ "java/lang/invoke/VarHandle" ∧ (parseMethodDescriptor yX8_slip.desc).map (fun d => d.parameters.length) = some 2 := ⟨rfl, by decide +kernel, by decide +kernel, by decide +kernel⟩
set_option maxHeartbeats 4000000 in
set_option maxRecDepth 100000 in
theorem c_X8_slip {g : Gx} {A : Nat → Nat} {th sq ac td lt ln cu tk sa ti ft fp le lf tr : Int} {fl fm fi fc ff fw ftp fk fe fr : Nat → Int} {h m : Int} (hfc : Bd 0 60 fc) (hc1 : 0 ≤ fc 1 ∧ fc 1 ≤ 4) (ht3 : Bd 0 12 (tM fc)) (hfw : Bd 0 60 fw) (hac : 0 ≤ ac ∧ ac ≤ 24) (h0 : 0 < fc 1 → 0 < fc 0) (hh : R32 h) (hm : R32 m) : CtI (S := (Nat → Int) × (Nat → Int) × Int) g yX8_slip wsX8_slip 2 46 [.ref (A 0), .int (iI h), .int (iI m)] (wMod g A th sq ac td lt ln cu tk sa ti ft fp le lf tr fl fm fi fc ff fw ftp fk fe fr) (fun v u => (¬ ((0 ≤ h ∧ h < fc 1) ∧ -60 ≤ m ∧ m ≤ 60) ∧ v = -1000001 ∧ u = (fc, fw, ac)) ∨ (((0 ≤ h ∧ h < fc 1) ∧ -60 ≤ m ∧ m ≤ 60) ∧ v = (sM fc h.toNat + m) % fc 0 ∧ u = (updI fc (4 + 3 * h.toNat) ((sM fc h.toNat + m) % fc 0), kpW fc fw ac, acN ac + 1))) (fun u => wMod g A (0) sq (u.2.2) td lt ln cu tk sa ti ft fp le lf tr fl fm fi (u.1) ff (u.2.1) ftp fk fe fr) := by
  refine m_go (cc := cX8_slip) (nL := 4) (by decide +kernel) rfl (Nat.le_of_ble_eq_true rfl) (fun x X Y hnm => ?_)
  refine v_eq (lo2 := [some (.ref (A 0)), some (.int (iI h)), some (.int (iI m)), none]) rfl rfl rfl rfl ?_
  refine v_aload_n X dX8_slip_0 rfl ?_
  refine v_iconst X dX8_slip_1 ?_
  refine v_put X (fun _ h => List.mem_cons_of_mem _ (List.mem_append_right _ h)) tyX8 tyX8_ok nmX8 0 rfl rfl 0 (by decide) rfl (List.mem_of_getElem? (i := 1) rfl) rfl rfl rfl (Nat.le_of_ble_eq_true rfl) dX8_slip_2 ?_
  dsimp only [List.set, wMod]
  refine v_aload_n X dX8_slip_5 rfl ?_
  refine v_iload_n X dX8_slip_6 rfl ?_
  refine res_E X (run_V X (c_X8_isHand (g := g) (by first | assumption | omega) (by first | assumption | omega)) gX8_slip_X8_isHand rfl hdX8_isHand ⟨(Nat.le_of_ble_eq_true rfl), (Nat.le_of_ble_eq_true rfl)⟩ ⟨(Nat.le_of_ble_eq_true rfl), (Nat.le_of_ble_eq_true rfl)⟩ 0 rfl rfl rfl [0, 1, 2, 3, 4, 5, 6, 7, 8, 9, 10] rfl rfl rfl rfl (by simp [Value.category]) dX8_slip_7) [0, 1, 2, 3, 4, 5, 6, 7, 8, 9, 10] rfl rfl ?_
  refine v_ifb_eq (tgt := 27) X dX8_slip_10 (by decide) (fun c1 => ?_) (fun c1 => ?_)
  · skip
    refine v_ldc X (List.mem_of_getElem? (i := 4) rfl) dX8_slip_27 (n := -1000001) (by decide) ?_
    refine v_iret X Y dX8_slip_29 (u := (fc, fw, ac)) ?_ (by rfl)
    exact Or.inl ⟨by omega, rfl, rfl⟩
  · skip
    refine v_iload_n X dX8_slip_13 rfl ?_
    refine v_i2l X dX8_slip_14 (by omega) ?_
    refine v_ldc2 X (List.mem_of_getElem? (i := 2) rfl) dX8_slip_15 (n := -60) (by decide) ?_
    refine v_ldc2 X (List.mem_of_getElem? (i := 3) rfl) dX8_slip_18 (n := 60) (by decide) ?_
    refine res_E X (run_S X (c_X8_in (g := g) (by first | assumption | omega) (by first | assumption | omega) (by first | assumption | omega)) gX8_slip_X8_in rfl hdX8_in.2 ⟨(Nat.le_of_ble_eq_true rfl), (Nat.le_of_ble_eq_true rfl)⟩ ⟨(Nat.le_of_ble_eq_true rfl), (Nat.le_of_ble_eq_true rfl)⟩ [] rfl rfl rfl rfl (by simp [Value.category]) dX8_slip_21) [] rfl rfl ?_
    refine v_ifb_ne (tgt := 30) X dX8_slip_24 (by decide) (fun c2 => ?_) (fun c2 => ?_)
    · skip
      have g0 : (0 ≤ h ∧ h < fc 1) ∧ -60 ≤ m ∧ m ≤ 60 := by omega
      refine v_aload_n X dX8_slip_30 rfl ?_
      refine v_get X (fun _ h => List.mem_cons_of_mem _ (List.mem_append_right _ h)) 0 rfl rfl 8 (by decide) rfl (List.mem_of_getElem? (i := 5) rfl) rfl dX8_slip_31 ?_
      refine v_bipush X dX8_slip_34 (by decide) ?_
      refine v_icmp_ne (tgt := 79) X dX8_slip_36 (by decide) (by omega) (by omega) (fun c3 => ?_) (fun c3 => ?_)
      · skip
        refine v_iconst X dX8_slip_79 ?_
        refine v_istore_n X dX8_slip_80 3 rfl (by decide) rfl ?_
        dsimp only [List.set]
        have L81 : ∀ (nf : Nat) (f2 : Nat → Int) (aq : Int) (k2 : Int) (g1 : 0 ≤ k2 ∧ k2 ≤ 14) (g2 : aq = acN ac) (g3 : ∀ j : Nat, f2 j = if 14 * acN ac ≤ (j : Int) ∧ (j : Int) < 14 * acN ac + k2 then fc (j - (14 * acN ac).toNat) else shW fw ac j) (_ : (14 - k2).toNat < nf), V g x 0 0 (wMod g A (0) sq (aq) td lt ln cu tk sa ti ft fp le lf tr fl fm fi fc ff (f2) ftp fk fe fr) [some (.ref (A 0)), some (.int (iI h)), some (.int (iI m)), some (.int (iI k2))] 81 [] := by
          intro nf
          induction nf with
          | zero => intro f2 aq k2 g1 g2 g3 hmu; exact absurd hmu (Nat.not_lt_zero _)
          | succ nf ih81 =>
            intro f2 aq k2 g1 g2 g3 hmu
            refine v_iload_n X dX8_slip_81 rfl ?_
            refine v_bipush X dX8_slip_82 (by decide) ?_
            refine v_icmp_ge (tgt := 113) X dX8_slip_84 (by decide) (by omega) (by omega) (fun c4 => ?_) (fun c4 => ?_)
            · skip
              have e7 : k2 = 14 := by omega
              have q8 := hfc 0
              have q7 := hfc (4 + 3 * h.toNat)
              have e9 : (2 + 3 * h + 2).toNat = 4 + 3 * h.toNat := by omega
              have q6 := Int.emod_nonneg (sM fc h.toNat + m) (show fc 0 ≠ 0 by omega)
              have q5 := Int.emod_lt_of_pos (sM fc h.toNat + m) (show 0 < fc 0 by omega)
              have q4 : restI (fc (4 + 3 * h.toNat) + m) (fc 0) = (sM fc h.toNat + m) % fc 0 := if_neg (by omega)
              refine v_aload_n X dX8_slip_113 rfl ?_
              refine v_dup X dX8_slip_114 rfl ?_
              refine v_get X (fun _ h => List.mem_cons_of_mem _ (List.mem_append_right _ h)) 0 rfl rfl 8 (by decide) rfl (List.mem_of_getElem? (i := 5) rfl) rfl dX8_slip_115 ?_
              refine v_iconst X dX8_slip_118 ?_
              refine v_iadd X dX8_slip_119 ?_
              refine v_put X (fun _ h => List.mem_cons_of_mem _ (List.mem_append_right _ h)) tyX8 tyX8_ok nmX8 0 rfl rfl 8 (by decide) rfl (List.mem_of_getElem? (i := 5) rfl) rfl rfl rfl (Nat.le_of_ble_eq_true rfl) dX8_slip_120 ?_
              dsimp only [List.set, wMod]
              refine v_aload_n X dX8_slip_123 rfl ?_
              refine v_get X (fun _ h => List.mem_cons_of_mem _ (List.mem_append_right _ h)) 0 rfl rfl 5 (by decide) rfl (List.mem_of_getElem? (i := 7) rfl) rfl dX8_slip_124 ?_
              refine v_iconst X dX8_slip_127 ?_
              refine v_iconst X dX8_slip_128 ?_
              refine v_iload_n X dX8_slip_129 rfl ?_
              refine v_imul X dX8_slip_130 ?_
              refine v_iadd X dX8_slip_131 ?_
              refine v_iconst X dX8_slip_132 ?_
              refine v_iadd X dX8_slip_133 ?_
              refine v_aload_n X dX8_slip_134 rfl ?_
              refine v_iload_n X dX8_slip_135 rfl ?_
              refine v_iconst X dX8_slip_136 ?_
              refine res_E X (run_V X (c_X8_of (g := g) (by first | assumption | omega) (by first | assumption | omega) (by first | assumption | omega)) gX8_slip_X8_of rfl hdX8_of ⟨(Nat.le_of_ble_eq_true rfl), (Nat.le_of_ble_eq_true rfl)⟩ ⟨(Nat.le_of_ble_eq_true rfl), (Nat.le_of_ble_eq_true rfl)⟩ 0 rfl rfl rfl [0, 1, 2, 3, 4, 5, 6, 7, 8, 9, 10] rfl rfl rfl rfl (by simp [Value.category]) dX8_slip_137) [0, 1, 2, 3, 4, 5, 6, 7, 8, 9, 10] rfl rfl ?_
              rw [e9]
              refine v_iload_n X dX8_slip_140 rfl ?_
              refine v_iadd X dX8_slip_141 ?_
              refine v_aload_n X dX8_slip_142 rfl ?_
              refine v_get X (fun _ h => List.mem_cons_of_mem _ (List.mem_append_right _ h)) 0 rfl rfl 5 (by decide) rfl (List.mem_of_getElem? (i := 7) rfl) rfl dX8_slip_143 ?_
              refine v_iconst X dX8_slip_146 ?_
              refine v_iald X 4 rfl (by omega) (by omega) (by omega) dX8_slip_147 hfc (fun z0 ez0 lz0 uz0 => ?_)
              rw [show z0 = fc 0 from ez0]
              refine res_E X (run_S X (c_X8_rest (g := g) (by first | assumption | omega) (by first | assumption | omega) (by first | assumption | omega)) gX8_slip_X8_rest rfl hdX8_rest.2 ⟨(Nat.le_of_ble_eq_true rfl), (Nat.le_of_ble_eq_true rfl)⟩ ⟨(Nat.le_of_ble_eq_true rfl), (Nat.le_of_ble_eq_true rfl)⟩ [] rfl rfl rfl rfl (by simp [Value.category]) dX8_slip_148) [] rfl rfl ?_
              rw [q4]
              refine v_iast X 4 rfl (by omega) (by omega) (by omega) dX8_slip_151 ?_
              dsimp only [List.set, wMod]
              refine v_aload_n X dX8_slip_152 rfl ?_
              refine v_iload_n X dX8_slip_153 rfl ?_
              refine v_iconst X dX8_slip_154 ?_
              refine res_E X (run_V X (c_X8_of (g := g) (by exact Bd_up hfc (by omega) (by omega)) (by first | assumption | omega) (by first | assumption | omega)) gX8_slip_X8_of rfl hdX8_of ⟨(Nat.le_of_ble_eq_true rfl), (Nat.le_of_ble_eq_true rfl)⟩ ⟨(Nat.le_of_ble_eq_true rfl), (Nat.le_of_ble_eq_true rfl)⟩ 0 rfl rfl rfl [0, 1, 2, 3, 4, 5, 6, 7, 8, 9, 10] rfl rfl rfl rfl (by simp [Value.category]) dX8_slip_155) [0, 1, 2, 3, 4, 5, 6, 7, 8, 9, 10] rfl rfl ?_
              rw [show updI fc (2 + 3 * h + 2).toNat ((sM fc h.toNat + m) % fc 0) (2 + 3 * h + 2).toNat = (sM fc h.toNat + m) % fc 0 from updI_s _ _ _]
              refine v_iret X Y dX8_slip_158 (u := (updI fc (4 + 3 * h.toNat) ((sM fc h.toNat + m) % fc 0), kpW fc fw ac, acN ac + 1)) ?_ (by rw [e9, g2, show f2 = kpW fc fw ac from funext (fun j => by rw [g3 j, e7]; rfl)])
              exact Or.inr ⟨g0, rfl, rfl⟩
            · skip
              have q9 : 0 ≤ acN ac ∧ acN ac ≤ 23 := by unfold acN; split <;> omega
              refine v_aload_n X dX8_slip_87 rfl ?_
              refine v_get X (fun _ h => List.mem_cons_of_mem _ (List.mem_append_right _ h)) 0 rfl rfl 7 (by decide) rfl (List.mem_of_getElem? (i := 6) rfl) rfl dX8_slip_88 ?_
              refine v_bipush X dX8_slip_91 (by decide) ?_
              refine v_aload_n X dX8_slip_93 rfl ?_
              refine v_get X (fun _ h => List.mem_cons_of_mem _ (List.mem_append_right _ h)) 0 rfl rfl 8 (by decide) rfl (List.mem_of_getElem? (i := 5) rfl) rfl dX8_slip_94 ?_
              refine v_imul X dX8_slip_97 ?_
              refine v_iload_n X dX8_slip_98 rfl ?_
              refine v_iadd X dX8_slip_99 ?_
              refine v_aload_n X dX8_slip_100 rfl ?_
              refine v_get X (fun _ h => List.mem_cons_of_mem _ (List.mem_append_right _ h)) 0 rfl rfl 5 (by decide) rfl (List.mem_of_getElem? (i := 7) rfl) rfl dX8_slip_101 ?_
              refine v_iload_n X dX8_slip_104 rfl ?_
              refine v_iald X 4 rfl (by omega) (by omega) (by omega) dX8_slip_105 hfc (fun zy ezy lzy uzy => ?_)
              refine v_iast X 6 rfl (by omega) (by omega) (by omega) dX8_slip_106 ?_
              dsimp only [List.set, wMod]
              refine v_iinc X dX8_slip_107 rfl (by decide) rfl ?_
              dsimp only [List.set]
              refine v_goto (tgt := 81) X dX8_slip_110 (by decide) ?_
              exact ih81 _ _ _ (by omega) (by assumption) (by
                  intro j
                  have q := g3 j
                  have q9 : 0 ≤ acN ac ∧ acN ac ≤ 23 := by unfold acN; split <;> omega
                  rw [updI_e]
                  by_cases e : j = (14 * aq + k2).toNat
                  · rw [if_pos e, if_pos (by omega), ezy]; congr 1; omega
                  · rw [if_neg e, q]
                    by_cases e2 : 14 * acN ac ≤ (j : Int) ∧ (j : Int) < 14 * acN ac + k2
                    · rw [if_pos e2, if_pos (by omega)]
                    · rw [if_neg e2, if_neg (by omega)]) (by omega)
        exact L81 _ _ _ _ (by omega) (by unfold acN; split <;> omega) (by
            first
            | (intro j; rw [if_neg (by omega)]; unfold shW; rw [if_pos (by omega)])
            | (intro j; rw [if_neg (by omega)]; exact shW_of (by omega) (by omega) h2 j)) (Nat.lt_succ_self _)
      · skip
        refine v_iconst X dX8_slip_39 ?_
        refine v_istore_n X dX8_slip_40 3 rfl (by decide) rfl ?_
        dsimp only [List.set]
        have L41 : ∀ (nf : Nat) (f : Nat → Int) (k : Int) (h1 : 0 ≤ k ∧ k ≤ 322) (h2 : ∀ j : Nat, f j = if (j : Int) < k then fw (j + 14) else fw j) (h3 : Bd 0 60 f) (_ : (322 - k).toNat < nf), V g x 0 0 (wMod g A (0) sq ac td lt ln cu tk sa ti ft fp le lf tr fl fm fi fc ff (f) ftp fk fe fr) [some (.ref (A 0)), some (.int (iI h)), some (.int (iI m)), some (.int (iI k))] 41 [] := by
          intro nf
          induction nf with
          | zero => intro f k h1 h2 h3 hmu; exact absurd hmu (Nat.not_lt_zero _)
          | succ nf ih41 =>
            intro f k h1 h2 h3 hmu
            refine v_iload_n X dX8_slip_41 rfl ?_
            refine v_sipush X dX8_slip_42 (by decide) ?_
            refine v_icmp_ge (tgt := 69) X dX8_slip_45 (by decide) (by omega) (by omega) (fun c7 => ?_) (fun c7 => ?_)
            · skip
              refine v_aload_n X dX8_slip_69 rfl ?_
              refine v_dup X dX8_slip_70 rfl ?_
              refine v_get X (fun _ h => List.mem_cons_of_mem _ (List.mem_append_right _ h)) 0 rfl rfl 8 (by decide) rfl (List.mem_of_getElem? (i := 5) rfl) rfl dX8_slip_71 ?_
              refine v_iconst X dX8_slip_74 ?_
              refine v_isub X dX8_slip_75 ?_
              refine v_put X (fun _ h => List.mem_cons_of_mem _ (List.mem_append_right _ h)) tyX8 tyX8_ok nmX8 0 rfl rfl 8 (by decide) rfl (List.mem_of_getElem? (i := 5) rfl) rfl rfl rfl (Nat.le_of_ble_eq_true rfl) dX8_slip_76 ?_
              dsimp only [List.set, wMod]
              refine v_iconst X dX8_slip_79 ?_
              refine v_istore_n X dX8_slip_80 3 rfl (by decide) rfl ?_
              dsimp only [List.set]
              have L81 : ∀ (nf : Nat) (f2 : Nat → Int) (aq : Int) (k2 : Int) (g1 : 0 ≤ k2 ∧ k2 ≤ 14) (g2 : aq = acN ac) (g3 : ∀ j : Nat, f2 j = if 14 * acN ac ≤ (j : Int) ∧ (j : Int) < 14 * acN ac + k2 then fc (j - (14 * acN ac).toNat) else shW fw ac j) (_ : (14 - k2).toNat < nf), V g x 0 0 (wMod g A (0) sq (aq) td lt ln cu tk sa ti ft fp le lf tr fl fm fi fc ff (f2) ftp fk fe fr) [some (.ref (A 0)), some (.int (iI h)), some (.int (iI m)), some (.int (iI k2))] 81 [] := by
                intro nf
                induction nf with
                | zero => intro f2 aq k2 g1 g2 g3 hmu; exact absurd hmu (Nat.not_lt_zero _)
                | succ nf ih81 =>
                  intro f2 aq k2 g1 g2 g3 hmu
                  refine v_iload_n X dX8_slip_81 rfl ?_
                  refine v_bipush X dX8_slip_82 (by decide) ?_
                  refine v_icmp_ge (tgt := 113) X dX8_slip_84 (by decide) (by omega) (by omega) (fun c8 => ?_) (fun c8 => ?_)
                  · skip
                    have e7 : k2 = 14 := by omega
                    have q8 := hfc 0
                    have q7 := hfc (4 + 3 * h.toNat)
                    have e9 : (2 + 3 * h + 2).toNat = 4 + 3 * h.toNat := by omega
                    have q6 := Int.emod_nonneg (sM fc h.toNat + m) (show fc 0 ≠ 0 by omega)
                    have q5 := Int.emod_lt_of_pos (sM fc h.toNat + m) (show 0 < fc 0 by omega)
                    have q4 : restI (fc (4 + 3 * h.toNat) + m) (fc 0) = (sM fc h.toNat + m) % fc 0 := if_neg (by omega)
                    refine v_aload_n X dX8_slip_113 rfl ?_
                    refine v_dup X dX8_slip_114 rfl ?_
                    refine v_get X (fun _ h => List.mem_cons_of_mem _ (List.mem_append_right _ h)) 0 rfl rfl 8 (by decide) rfl (List.mem_of_getElem? (i := 5) rfl) rfl dX8_slip_115 ?_
                    refine v_iconst X dX8_slip_118 ?_
                    refine v_iadd X dX8_slip_119 ?_
                    refine v_put X (fun _ h => List.mem_cons_of_mem _ (List.mem_append_right _ h)) tyX8 tyX8_ok nmX8 0 rfl rfl 8 (by decide) rfl (List.mem_of_getElem? (i := 5) rfl) rfl rfl rfl (Nat.le_of_ble_eq_true rfl) dX8_slip_120 ?_
                    dsimp only [List.set, wMod]
                    refine v_aload_n X dX8_slip_123 rfl ?_
                    refine v_get X (fun _ h => List.mem_cons_of_mem _ (List.mem_append_right _ h)) 0 rfl rfl 5 (by decide) rfl (List.mem_of_getElem? (i := 7) rfl) rfl dX8_slip_124 ?_
                    refine v_iconst X dX8_slip_127 ?_
                    refine v_iconst X dX8_slip_128 ?_
                    refine v_iload_n X dX8_slip_129 rfl ?_
                    refine v_imul X dX8_slip_130 ?_
                    refine v_iadd X dX8_slip_131 ?_
                    refine v_iconst X dX8_slip_132 ?_
                    refine v_iadd X dX8_slip_133 ?_
                    refine v_aload_n X dX8_slip_134 rfl ?_
                    refine v_iload_n X dX8_slip_135 rfl ?_
                    refine v_iconst X dX8_slip_136 ?_
                    refine res_E X (run_V X (c_X8_of (g := g) (by first | assumption | omega) (by first | assumption | omega) (by first | assumption | omega)) gX8_slip_X8_of rfl hdX8_of ⟨(Nat.le_of_ble_eq_true rfl), (Nat.le_of_ble_eq_true rfl)⟩ ⟨(Nat.le_of_ble_eq_true rfl), (Nat.le_of_ble_eq_true rfl)⟩ 0 rfl rfl rfl [0, 1, 2, 3, 4, 5, 6, 7, 8, 9, 10] rfl rfl rfl rfl (by simp [Value.category]) dX8_slip_137) [0, 1, 2, 3, 4, 5, 6, 7, 8, 9, 10] rfl rfl ?_
                    rw [e9]
                    refine v_iload_n X dX8_slip_140 rfl ?_
                    refine v_iadd X dX8_slip_141 ?_
                    refine v_aload_n X dX8_slip_142 rfl ?_
                    refine v_get X (fun _ h => List.mem_cons_of_mem _ (List.mem_append_right _ h)) 0 rfl rfl 5 (by decide) rfl (List.mem_of_getElem? (i := 7) rfl) rfl dX8_slip_143 ?_
                    refine v_iconst X dX8_slip_146 ?_
                    refine v_iald X 4 rfl (by omega) (by omega) (by omega) dX8_slip_147 hfc (fun z0 ez0 lz0 uz0 => ?_)
                    rw [show z0 = fc 0 from ez0]
                    refine res_E X (run_S X (c_X8_rest (g := g) (by first | assumption | omega) (by first | assumption | omega) (by first | assumption | omega)) gX8_slip_X8_rest rfl hdX8_rest.2 ⟨(Nat.le_of_ble_eq_true rfl), (Nat.le_of_ble_eq_true rfl)⟩ ⟨(Nat.le_of_ble_eq_true rfl), (Nat.le_of_ble_eq_true rfl)⟩ [] rfl rfl rfl rfl (by simp [Value.category]) dX8_slip_148) [] rfl rfl ?_
                    rw [q4]
                    refine v_iast X 4 rfl (by omega) (by omega) (by omega) dX8_slip_151 ?_
                    dsimp only [List.set, wMod]
                    refine v_aload_n X dX8_slip_152 rfl ?_
                    refine v_iload_n X dX8_slip_153 rfl ?_
                    refine v_iconst X dX8_slip_154 ?_
                    refine res_E X (run_V X (c_X8_of (g := g) (by exact Bd_up hfc (by omega) (by omega)) (by first | assumption | omega) (by first | assumption | omega)) gX8_slip_X8_of rfl hdX8_of ⟨(Nat.le_of_ble_eq_true rfl), (Nat.le_of_ble_eq_true rfl)⟩ ⟨(Nat.le_of_ble_eq_true rfl), (Nat.le_of_ble_eq_true rfl)⟩ 0 rfl rfl rfl [0, 1, 2, 3, 4, 5, 6, 7, 8, 9, 10] rfl rfl rfl rfl (by simp [Value.category]) dX8_slip_155) [0, 1, 2, 3, 4, 5, 6, 7, 8, 9, 10] rfl rfl ?_
                    rw [show updI fc (2 + 3 * h + 2).toNat ((sM fc h.toNat + m) % fc 0) (2 + 3 * h + 2).toNat = (sM fc h.toNat + m) % fc 0 from updI_s _ _ _]
                    refine v_iret X Y dX8_slip_158 (u := (updI fc (4 + 3 * h.toNat) ((sM fc h.toNat + m) % fc 0), kpW fc fw ac, acN ac + 1)) ?_ (by rw [e9, g2, show f2 = kpW fc fw ac from funext (fun j => by rw [g3 j, e7]; rfl)])
                    exact Or.inr ⟨g0, rfl, rfl⟩
                  · skip
                    have q9 : 0 ≤ acN ac ∧ acN ac ≤ 23 := by unfold acN; split <;> omega
                    refine v_aload_n X dX8_slip_87 rfl ?_
                    refine v_get X (fun _ h => List.mem_cons_of_mem _ (List.mem_append_right _ h)) 0 rfl rfl 7 (by decide) rfl (List.mem_of_getElem? (i := 6) rfl) rfl dX8_slip_88 ?_
                    refine v_bipush X dX8_slip_91 (by decide) ?_
                    refine v_aload_n X dX8_slip_93 rfl ?_
                    refine v_get X (fun _ h => List.mem_cons_of_mem _ (List.mem_append_right _ h)) 0 rfl rfl 8 (by decide) rfl (List.mem_of_getElem? (i := 5) rfl) rfl dX8_slip_94 ?_
                    refine v_imul X dX8_slip_97 ?_
                    refine v_iload_n X dX8_slip_98 rfl ?_
                    refine v_iadd X dX8_slip_99 ?_
                    refine v_aload_n X dX8_slip_100 rfl ?_
                    refine v_get X (fun _ h => List.mem_cons_of_mem _ (List.mem_append_right _ h)) 0 rfl rfl 5 (by decide) rfl (List.mem_of_getElem? (i := 7) rfl) rfl dX8_slip_101 ?_
                    refine v_iload_n X dX8_slip_104 rfl ?_
                    refine v_iald X 4 rfl (by omega) (by omega) (by omega) dX8_slip_105 hfc (fun zy ezy lzy uzy => ?_)
                    refine v_iast X 6 rfl (by omega) (by omega) (by omega) dX8_slip_106 ?_
                    dsimp only [List.set, wMod]
                    refine v_iinc X dX8_slip_107 rfl (by decide) rfl ?_
                    dsimp only [List.set]
                    refine v_goto (tgt := 81) X dX8_slip_110 (by decide) ?_
                    exact ih81 _ _ _ (by omega) (by assumption) (by
                        intro j
                        have q := g3 j
                        have q9 : 0 ≤ acN ac ∧ acN ac ≤ 23 := by unfold acN; split <;> omega
                        rw [updI_e]
                        by_cases e : j = (14 * aq + k2).toNat
                        · rw [if_pos e, if_pos (by omega), ezy]; congr 1; omega
                        · rw [if_neg e, q]
                          by_cases e2 : 14 * acN ac ≤ (j : Int) ∧ (j : Int) < 14 * acN ac + k2
                          · rw [if_pos e2, if_pos (by omega)]
                          · rw [if_neg e2, if_neg (by omega)]) (by omega)
              exact L81 _ _ _ _ (by omega) (by unfold acN; split <;> omega) (by
                  first
                  | (intro j; rw [if_neg (by omega)]; unfold shW; rw [if_pos (by omega)])
                  | (intro j; rw [if_neg (by omega)]; exact shW_of (by omega) (by omega) h2 j)) (Nat.lt_succ_self _)
            · skip
              refine v_aload_n X dX8_slip_48 rfl ?_
              refine v_get X (fun _ h => List.mem_cons_of_mem _ (List.mem_append_right _ h)) 0 rfl rfl 7 (by decide) rfl (List.mem_of_getElem? (i := 6) rfl) rfl dX8_slip_49 ?_
              refine v_iload_n X dX8_slip_52 rfl ?_
              refine v_aload_n X dX8_slip_53 rfl ?_
              refine v_get X (fun _ h => List.mem_cons_of_mem _ (List.mem_append_right _ h)) 0 rfl rfl 7 (by decide) rfl (List.mem_of_getElem? (i := 6) rfl) rfl dX8_slip_54 ?_
              refine v_iload_n X dX8_slip_57 rfl ?_
              refine v_bipush X dX8_slip_58 (by decide) ?_
              refine v_iadd X dX8_slip_60 ?_
              refine v_iald X 6 rfl (by omega) (by omega) (by omega) dX8_slip_61 h3 (fun zz ezz lzz uzz => ?_)
              refine v_iast X 6 rfl (by omega) (by omega) (by omega) dX8_slip_62 ?_
              dsimp only [List.set, wMod]
              refine v_iinc X dX8_slip_63 rfl (by decide) rfl ?_
              dsimp only [List.set]
              refine v_goto (tgt := 41) X dX8_slip_66 (by decide) ?_
              exact ih41 _ _ (by omega) (by
                  intro j
                  have q := h2 j
                  have q2 := h2 (k + 14).toNat
                  rw [if_neg (by omega)] at q2
                  rw [updI_e]
                  by_cases e : j = k.toNat
                  · rw [if_pos e, if_pos (by omega), ezz, q2]; congr 1; omega
                  · rw [if_neg e, q]
                    by_cases e2 : (j : Int) < k
                    · rw [if_pos e2, if_pos (by omega)]
                    · rw [if_neg e2, if_neg (by omega)]) (by exact Bd_up h3 (by omega) (by omega)) (by omega)
        exact L41 _ _ _ (by omega) (by intro j; rw [if_neg (by omega)]) (by assumption) (Nat.lt_succ_self _)
    · skip
      refine v_ldc X (List.mem_of_getElem? (i := 4) rfl) dX8_slip_27 (n := -1000001) (by decide) ?_
      refine v_iret X Y dX8_slip_29 (u := (fc, fw, ac)) ?_ (by rfl)
      exact Or.inl ⟨by omega, rfl, rfl⟩

theorem hdX8_undo : yX8_undo.cls = RX8 ∧ yX8_undo.cls ≠ "java/lang/invoke/MethodHandle" ∧ yX8_undo.cls ≠ "java/lang/invoke/VarHandle" ∧ (parseMethodDescriptor yX8_undo.desc).map (fun d => d.parameters.length) = some 0 := ⟨rfl, by decide +kernel, by decide +kernel, by decide +kernel⟩
set_option maxHeartbeats 4000000 in
set_option maxRecDepth 100000 in
theorem c_X8_undo {g : Gx} {A : Nat → Nat} {th sq ac td lt ln cu tk sa ti ft fp le lf tr : Int} {fl fm fi fc ff fw ftp fk fe fr : Nat → Int}  (hfc : Bd 0 60 fc) (hfw : Bd 0 60 fw) (hac : 0 ≤ ac ∧ ac ≤ 24) : CtE g yX8_undo wsX8_undo 0 0 [.ref (A 0)] (wMod g A th sq ac td lt ln cu tk sa ti ft fp le lf tr fl fm fi fc ff fw ftp fk fe fr) (if ac = 0 then -1000002 else ac - 1) (wMod g A (0) sq (if ac = 0 then ac else ac - 1) td lt ln cu tk sa ti ft fp le lf tr fl fm fi (if ac = 0 then fc else unC fc fw ac) ff fw ftp fk fe fr) := by
  refine m_go (cc := cX8_undo) (nL := 2) (by decide +kernel) rfl (Nat.le_of_ble_eq_true rfl) (fun x X Y hnm => ?_)
  refine v_eq (lo2 := [some (.ref (A 0)), none]) rfl rfl rfl rfl ?_
  refine v_aload_n X dX8_undo_0 rfl ?_
  refine v_iconst X dX8_undo_1 ?_
  refine v_put X (fun _ h => List.mem_cons_of_mem _ (List.mem_append_right _ h)) tyX8 tyX8_ok nmX8 0 rfl rfl 0 (by decide) rfl (List.mem_of_getElem? (i := 1) rfl) rfl rfl rfl (Nat.le_of_ble_eq_true rfl) dX8_undo_2 ?_
  dsimp only [List.set, wMod]
  refine v_aload_n X dX8_undo_5 rfl ?_
  refine v_get X (fun _ h => List.mem_cons_of_mem _ (List.mem_append_right _ h)) 0 rfl rfl 8 (by decide) rfl (List.mem_of_getElem? (i := 2) rfl) rfl dX8_undo_6 ?_
  refine v_if_ne (tgt := 15) X dX8_undo_9 (by decide) (by omega) (fun c1 => ?_) (fun c1 => ?_)
  · skip
    refine v_aload_n X dX8_undo_15 rfl ?_
    refine v_dup X dX8_undo_16 rfl ?_
    refine v_get X (fun _ h => List.mem_cons_of_mem _ (List.mem_append_right _ h)) 0 rfl rfl 8 (by decide) rfl (List.mem_of_getElem? (i := 2) rfl) rfl dX8_undo_17 ?_
    refine v_iconst X dX8_undo_20 ?_
    refine v_isub X dX8_undo_21 ?_
    refine v_put X (fun _ h => List.mem_cons_of_mem _ (List.mem_append_right _ h)) tyX8 tyX8_ok nmX8 0 rfl rfl 8 (by decide) rfl (List.mem_of_getElem? (i := 2) rfl) rfl rfl rfl (Nat.le_of_ble_eq_true rfl) dX8_undo_22 ?_
    dsimp only [List.set, wMod]
    refine v_iconst X dX8_undo_25 ?_
    refine v_istore_n X dX8_undo_26 1 rfl (by decide) rfl ?_
    dsimp only [List.set]
    have L27 : ∀ (nf : Nat) (f : Nat → Int) (k : Int) (h1 : 0 ≤ k ∧ k ≤ 14) (h2 : ∀ j : Nat, f j = if (j : Int) < k then fw ((14 * (ac - 1)).toNat + j) else fc j) (_ : (14 - k).toNat < nf), V g x 0 0 (wMod g A (0) sq (ac - 1) td lt ln cu tk sa ti ft fp le lf tr fl fm fi (f) ff fw ftp fk fe fr) [some (.ref (A 0)), some (.int (iI k))] 27 [] := by
      intro nf
      induction nf with
      | zero => intro f k h1 h2 hmu; exact absurd hmu (Nat.not_lt_zero _)
      | succ nf ih27 =>
        intro f k h1 h2 hmu
        refine v_iload_n X dX8_undo_27 rfl ?_
        refine v_bipush X dX8_undo_28 (by decide) ?_
        refine v_icmp_ge (tgt := 59) X dX8_undo_30 (by decide) (by omega) (by omega) (fun c2 => ?_) (fun c2 => ?_)
        · skip
          refine v_aload_n X dX8_undo_59 rfl ?_
          refine v_get X (fun _ h => List.mem_cons_of_mem _ (List.mem_append_right _ h)) 0 rfl rfl 8 (by decide) rfl (List.mem_of_getElem? (i := 2) rfl) rfl dX8_undo_60 ?_
          exact v_iret X Y dX8_undo_63 (u := ()) (by rw [if_neg (by omega)]) (by
              have e : k = 14 := by omega
              rw [if_neg (by omega), if_neg (by omega), show f = unC fc fw ac from funext (fun j => unC_of (e ▸ h2 j))])
        · skip
          refine v_aload_n X dX8_undo_33 rfl ?_
          refine v_get X (fun _ h => List.mem_cons_of_mem _ (List.mem_append_right _ h)) 0 rfl rfl 5 (by decide) rfl (List.mem_of_getElem? (i := 4) rfl) rfl dX8_undo_34 ?_
          refine v_iload_n X dX8_undo_37 rfl ?_
          refine v_aload_n X dX8_undo_38 rfl ?_
          refine v_get X (fun _ h => List.mem_cons_of_mem _ (List.mem_append_right _ h)) 0 rfl rfl 7 (by decide) rfl (List.mem_of_getElem? (i := 5) rfl) rfl dX8_undo_39 ?_
          refine v_bipush X dX8_undo_42 (by decide) ?_
          refine v_aload_n X dX8_undo_44 rfl ?_
          refine v_get X (fun _ h => List.mem_cons_of_mem _ (List.mem_append_right _ h)) 0 rfl rfl 8 (by decide) rfl (List.mem_of_getElem? (i := 2) rfl) rfl dX8_undo_45 ?_
          refine v_imul X dX8_undo_48 ?_
          refine v_iload_n X dX8_undo_49 rfl ?_
          refine v_iadd X dX8_undo_50 ?_
          refine v_iald X 6 rfl (by omega) (by omega) (by omega) dX8_undo_51 hfw (fun zz ezz lzz uzz => ?_)
          refine v_iast X 4 rfl (by omega) (by omega) (by omega) dX8_undo_52 ?_
          dsimp only [List.set, wMod]
          refine v_iinc X dX8_undo_53 rfl (by decide) rfl ?_
          dsimp only [List.set]
          refine v_goto (tgt := 27) X dX8_undo_56 (by decide) ?_
          exact ih27 _ _ (by omega) (by
              intro j
              have q := h2 j
              rw [updI_e]
              by_cases e : j = k.toNat
              · rw [if_pos e, if_pos (by omega), ezz]; congr 1; omega
              · rw [if_neg e, q]
                by_cases e2 : (j : Int) < k
                · rw [if_pos e2, if_pos (by omega)]
                · rw [if_neg e2, if_neg (by omega)]) (by omega)
    exact L27 _ _ _ (by omega) (by intro j; rw [if_neg (by omega)]) (Nat.lt_succ_self _)
  · skip
    refine v_ldc X (List.mem_of_getElem? (i := 3) rfl) dX8_undo_12 (n := -1000002) (by decide) ?_
    exact v_iret X Y dX8_undo_14 (u := ()) (by rw [if_pos (by assumption)]) (by rw [if_pos (by assumption), if_pos (by assumption)])

theorem hdX8_lacks : yX8_lacks.cls = RX8 ∧ yX8_lacks.cls ≠ "java/lang/invoke/MethodHandle" ∧ yX8_lacks.cls ≠ "java/lang/invoke/VarHandle" ∧ (parseMethodDescriptor yX8_lacks.desc).map (fun d => d.parameters.length) = some 3 := ⟨rfl, by decide +kernel, by decide +kernel, by decide +kernel⟩
set_option maxHeartbeats 4000000 in
set_option maxRecDepth 100000 in
theorem c_X8_lacks {g : Gx} {A : Nat → Nat} {th sq ac td lt ln cu tk sa ti ft fp le lf tr : Int} {fl fm fi fc ff fw ftp fk fe fr : Nat → Int} {r i n : Int} (hfl : Bd (-1) 2 fl) (hfm : Bd 0 40 fm) (hr : 0 ≤ r ∧ r < 8) (hi : R32 i) (hn : R32 n) : CtE g yX8_lacks wsX8_lacks 0 0 [.ref (A 0), .int (iI r), .int (iI i), .int (iI n)] (wMod g A th sq ac td lt ln cu tk sa ti ft fp le lf tr fl fm fi fc ff fw ftp fk fe fr) (if fl r.toNat < 0 then 1 else if i < 0 ∨ fm r.toNat < i + n then 2 else 0) (wMod g A th sq ac td lt ln cu tk sa ti ft fp le lf tr fl fm fi fc ff fw ftp fk fe fr) := by
  refine m_go (cc := cX8_lacks) (nL := 4) (by decide +kernel) rfl (Nat.le_of_ble_eq_true rfl) (fun x X Y hnm => ?_)
  refine v_eq (lo2 := [some (.ref (A 0)), some (.int (iI r)), some (.int (iI i)), some (.int (iI n))]) rfl rfl rfl rfl ?_
  refine v_aload_n X dX8_lacks_0 rfl ?_
  refine v_get X (fun _ h => List.mem_cons_of_mem _ (List.mem_append_right _ h)) 0 rfl rfl 2 (by decide) rfl (List.mem_of_getElem? (i := 1) rfl) rfl dX8_lacks_1 ?_
  refine v_iload_n X dX8_lacks_4 rfl ?_
  refine v_iald X 1 rfl (by omega) (by omega) (by omega) dX8_lacks_5 hfl (fun z1 ez1 lz1 uz1 => ?_)
  refine v_if_ge (tgt := 13) X dX8_lacks_6 (by decide) (by omega) (fun c2 => ?_) (fun c2 => ?_)
  · skip
    refine v_iload_n X dX8_lacks_13 rfl ?_
    refine v_if_lt (tgt := 33) X dX8_lacks_14 (by decide) (by omega) (fun c3 => ?_) (fun c3 => ?_)
    · skip
      refine v_iconst X dX8_lacks_33 ?_
      refine v_goto (tgt := 38) X dX8_lacks_34 (by decide) ?_
      exact v_iret X Y dX8_lacks_38 (u := ()) (by (repeat split) <;> first | rfl | omega) (by rfl)
    · skip
      refine v_iload_n X dX8_lacks_17 rfl ?_
      refine v_i2l X dX8_lacks_18 (by omega) ?_
      refine v_iload_n X dX8_lacks_19 rfl ?_
      refine v_i2l X dX8_lacks_20 (by omega) ?_
      refine v_ladd X dX8_lacks_21 ?_
      refine v_aload_n X dX8_lacks_22 rfl ?_
      refine v_get X (fun _ h => List.mem_cons_of_mem _ (List.mem_append_right _ h)) 0 rfl rfl 3 (by decide) rfl (List.mem_of_getElem? (i := 2) rfl) rfl dX8_lacks_23 ?_
      refine v_iload_n X dX8_lacks_26 rfl ?_
      refine v_iald X 2 rfl (by omega) (by omega) (by omega) dX8_lacks_27 hfm (fun z4 ez4 lz4 uz4 => ?_)
      refine v_i2l X dX8_lacks_28 (by omega) ?_
      refine v_lcmp X dX8_lacks_29 (by omega) (by omega) (fun c5 => ?_) (fun c5 => ?_) (fun c5 => ?_)
      · skip
        refine v_if_le (tgt := 37) X dX8_lacks_30 (by decide) (by decide) (fun hh => ?_) (fun hh => ?_)
        · skip
          exfalso; omega
        · skip
          refine v_iconst X dX8_lacks_33 ?_
          refine v_goto (tgt := 38) X dX8_lacks_34 (by decide) ?_
          exact v_iret X Y dX8_lacks_38 (u := ()) (by (repeat split) <;> first | rfl | omega) (by rfl)
      · skip
        refine v_if_le (tgt := 37) X dX8_lacks_30 (by decide) (by decide) (fun hh => ?_) (fun hh => ?_)
        · skip
          refine v_iconst X dX8_lacks_37 ?_
          exact v_iret X Y dX8_lacks_38 (u := ()) (by (repeat split) <;> first | rfl | omega) (by rfl)
        · skip
          exfalso; omega
      · skip
        refine v_if_le (tgt := 37) X dX8_lacks_30 (by decide) (by decide) (fun hh => ?_) (fun hh => ?_)
        · skip
          refine v_iconst X dX8_lacks_37 ?_
          exact v_iret X Y dX8_lacks_38 (u := ()) (by (repeat split) <;> first | rfl | omega) (by rfl)
        · skip
          exfalso; omega
  · skip
    refine v_iconst X dX8_lacks_9 ?_
    refine v_goto (tgt := 38) X dX8_lacks_10 (by decide) ?_
    exact v_iret X Y dX8_lacks_38 (u := ()) (by (repeat split) <;> first | rfl | omega) (by rfl)

theorem hdX8_areArcs : yX8_areArcs.cls = RX8 ∧ yX8_areArcs.cls ≠ "java/lang/invoke/MethodHandle" ∧ yX8_areArcs.cls ≠ "java/lang/invoke/VarHandle" ∧ (parseMethodDescriptor yX8_areArcs.desc).map (fun d => d.parameters.length) = some 3 := ⟨rfl, by decide +kernel, by decide +kernel, by decide +kernel⟩
set_option maxHeartbeats 4000000 in
set_option maxRecDepth 100000 in
theorem c_X8_areArcs {g : Gx} {A : Nat → Nat} {th sq ac td lt ln cu tk sa ti ft fp le lf tr : Int} {fl fm fi fc ff fw ftp fk fe fr : Nat → Int} {fr n pa : Int} (hfi : Bd (-2147483648) 2147483647 fi) (hf : 0 ≤ fr) (hn : R32 n ∧ fr + n ≤ 320) (hp : 1 ≤ pa ∧ pa ≤ 720) : CtE g yX8_areArcs wsX8_areArcs 1 25 [.ref (A 0), .int (iI fr), .int (iI n), .int (iI pa)] (wMod g A th sq ac td lt ln cu tk sa ti ft fp le lf tr fl fm fi fc ff fw ftp fk fe fr) (pI (∀ k : Int, 0 ≤ k → k < n → 0 ≤ fi (fr + k).toNat ∧ fi (fr + k).toNat < pa)) (wMod g A th sq ac td lt ln cu tk sa ti ft fp le lf tr fl fm fi fc ff fw ftp fk fe fr) := by
  refine m_go (cc := cX8_areArcs) (nL := 6) (by decide +kernel) rfl (Nat.le_of_ble_eq_true rfl) (fun x X Y hnm => ?_)
  refine v_eq (lo2 := [some (.ref (A 0)), some (.int (iI fr)), some (.int (iI n)), some (.int (iI pa)), none, none]) rfl rfl rfl rfl ?_
  refine v_iconst X dX8_areArcs_0 ?_
  refine v_istore X dX8_areArcs_1 (by decide) rfl ?_
  dsimp only [List.set]
  refine v_iconst X dX8_areArcs_3 ?_
  refine v_istore X dX8_areArcs_4 (by decide) rfl ?_
  dsimp only [List.set]
  have L6 : ∀ (nf : Nat) (u : Int) (k : Int) (h1 : 0 ≤ k ∧ (k ≤ n ∨ k = 0)) (h2 : (u = 1 ∧ ∀ q : Int, 0 ≤ q → q < k → 0 ≤ fi (fr + q).toNat ∧ fi (fr + q).toNat < pa) ∨ (u = 0 ∧ ∃ q : Int, 0 ≤ q ∧ q < k ∧ ¬ (0 ≤ fi (fr + q).toNat ∧ fi (fr + q).toNat < pa))) (_ : (n - k).toNat < nf), V g x 0 0 (wMod g A th sq ac td lt ln cu tk sa ti ft fp le lf tr fl fm fi fc ff fw ftp fk fe fr) [some (.ref (A 0)), some (.int (iI fr)), some (.int (iI n)), some (.int (iI pa)), some (.int (iI u)), some (.int (iI k))] 6 [] := by
    intro nf
    induction nf with
    | zero => intro u k h1 h2 hmu; exact absurd hmu (Nat.not_lt_zero _)
    | succ nf ih6 =>
      intro u k h1 h2 hmu
      refine v_iload X dX8_areArcs_6 rfl ?_
      refine v_iload_n X dX8_areArcs_8 rfl ?_
      refine v_icmp_ge (tgt := 51) X dX8_areArcs_9 (by decide) (by omega) (by omega) (fun c1 => ?_) (fun c1 => ?_)
      · skip
        refine v_iload X dX8_areArcs_51 rfl ?_
        exact v_zret X Y dX8_areArcs_53 (by first | decide | omega | (split <;> omega)) (u := ()) (by
            rcases h2 with h2 | h2
            · rw [h2.1]; exact (pI_1 (fun q g1 g2 => h2.2 q g1 (by omega))).symm
            · obtain ⟨e0, q, g1, g2, g3⟩ := h2
              rw [e0]; exact (pI_0 (fun z => g3 (z q g1 (by omega)))).symm) (by rfl)
      · skip
        refine v_iload X dX8_areArcs_12 rfl ?_
        refine v_if_eq (tgt := 42) X dX8_areArcs_14 (by decide) (by omega) (fun c2 => ?_) (fun c2 => ?_)
        · skip
          refine v_iconst X dX8_areArcs_42 ?_
          refine v_istore X dX8_areArcs_43 (by decide) rfl ?_
          dsimp only [List.set]
          refine v_iinc X dX8_areArcs_45 rfl (by decide) rfl ?_
          dsimp only [List.set]
          refine v_goto (tgt := 6) X dX8_areArcs_48 (by decide) ?_
          exact ih6 _ _ (by omega) (by
              rcases h2 with h2 | h2
              · first
                | exact Or.inl ⟨rfl, fun q g1 g2 => by
                    by_cases e : q = k
                    · subst e; omega
                    · exact h2.2 q g1 (by omega)⟩
                | exact Or.inr ⟨rfl, k, h1.1, by omega, by omega⟩
                | (exfalso; omega)
              · obtain ⟨e0, q, g1, g2, g3⟩ := h2
                first
                | exact Or.inr ⟨rfl, q, g1, by omega, g3⟩
                | (exfalso; omega)) (by omega)
        · skip
          refine v_aload_n X dX8_areArcs_17 rfl ?_
          refine v_get X (fun _ h => List.mem_cons_of_mem _ (List.mem_append_right _ h)) 0 rfl rfl 4 (by decide) rfl (List.mem_of_getElem? (i := 1) rfl) rfl dX8_areArcs_18 ?_
          refine v_iload_n X dX8_areArcs_21 rfl ?_
          refine v_iload X dX8_areArcs_22 rfl ?_
          refine v_iadd X dX8_areArcs_24 ?_
          refine v_iald X 3 rfl (by omega) (by omega) (by omega) dX8_areArcs_25 hfi (fun z3 ez3 lz3 uz3 => ?_)
          refine v_i2l X dX8_areArcs_26 (by omega) ?_
          refine v_lconst0 X dX8_areArcs_27 ?_
          refine v_iload_n X dX8_areArcs_28 rfl ?_
          refine v_iconst X dX8_areArcs_29 ?_
          refine v_isub X dX8_areArcs_30 ?_
          refine v_i2l X dX8_areArcs_31 (by omega) ?_
          refine res_E X (run_S X (c_X8_in (g := g) (by first | assumption | omega) (by first | assumption | omega) (by first | assumption | omega)) gX8_areArcs_X8_in rfl hdX8_in.2 ⟨(Nat.le_of_ble_eq_true rfl), (Nat.le_of_ble_eq_true rfl)⟩ ⟨(Nat.le_of_ble_eq_true rfl), (Nat.le_of_ble_eq_true rfl)⟩ [] rfl rfl rfl rfl (by simp [Value.category]) dX8_areArcs_32) [] rfl rfl ?_
          refine v_ifb_eq (tgt := 42) X dX8_areArcs_35 (by decide) (fun c4 => ?_) (fun c4 => ?_)
          · skip
            refine v_iconst X dX8_areArcs_42 ?_
            refine v_istore X dX8_areArcs_43 (by decide) rfl ?_
            dsimp only [List.set]
            refine v_iinc X dX8_areArcs_45 rfl (by decide) rfl ?_
            dsimp only [List.set]
            refine v_goto (tgt := 6) X dX8_areArcs_48 (by decide) ?_
            exact ih6 _ _ (by omega) (by
                rcases h2 with h2 | h2
                · first
                  | exact Or.inl ⟨rfl, fun q g1 g2 => by
                      by_cases e : q = k
                      · subst e; omega
                      · exact h2.2 q g1 (by omega)⟩
                  | exact Or.inr ⟨rfl, k, h1.1, by omega, by omega⟩
                  | (exfalso; omega)
                · obtain ⟨e0, q, g1, g2, g3⟩ := h2
                  first
                  | exact Or.inr ⟨rfl, q, g1, by omega, g3⟩
                  | (exfalso; omega)) (by omega)
          · skip
            refine v_iconst X dX8_areArcs_38 ?_
            refine v_goto (tgt := 43) X dX8_areArcs_39 (by decide) ?_
            refine v_istore X dX8_areArcs_43 (by decide) rfl ?_
            dsimp only [List.set]
            refine v_iinc X dX8_areArcs_45 rfl (by decide) rfl ?_
            dsimp only [List.set]
            refine v_goto (tgt := 6) X dX8_areArcs_48 (by decide) ?_
            exact ih6 _ _ (by omega) (by
                rcases h2 with h2 | h2
                · first
                  | exact Or.inl ⟨rfl, fun q g1 g2 => by
                      by_cases e : q = k
                      · subst e; omega
                      · exact h2.2 q g1 (by omega)⟩
                  | exact Or.inr ⟨rfl, k, h1.1, by omega, by omega⟩
                  | (exfalso; omega)
                · obtain ⟨e0, q, g1, g2, g3⟩ := h2
                  first
                  | exact Or.inr ⟨rfl, q, g1, by omega, g3⟩
                  | (exfalso; omega)) (by omega)
  exact L6 _ _ _ (by omega) (by exact Or.inl ⟨rfl, fun q g1 g2 => by exfalso; omega⟩) (Nat.lt_succ_self _)

theorem hdX8_isTrue : yX8_isTrue.cls = RX8 ∧ yX8_isTrue.cls ≠ "java/lang/invoke/MethodHandle" ∧ yX8_isTrue.cls ≠ "java/lang/invoke/VarHandle" ∧ (parseMethodDescriptor yX8_isTrue.desc).map (fun d => d.parameters.length) = some 3 := ⟨rfl, by decide +kernel, by decide +kernel, by decide +kernel⟩
set_option maxHeartbeats 4000000 in
set_option maxRecDepth 100000 in
theorem c_X8_isTrue {g : Gx} {A : Nat → Nat} {th sq ac td lt ln cu tk sa ti ft fp le lf tr : Int} {fl fm fi fc ff fw ftp fk fe fr : Nat → Int} {fr pa bu : Int} (hfc : Bd 0 60 fc) (hc1 : 0 ≤ fc 1 ∧ fc 1 ≤ 4) (ht3 : Bd 0 12 (tM fc)) (hfi : Bd (-2147483648) 2147483647 fi) (hf : 0 ≤ fr ∧ fr + fc 1 ≤ 320) (hp : 1 ≤ pa ∧ pa ≤ 720) (hb : R32 bu) (h1c : 1 ≤ fc 1) (hai : ∀ h : Int, 0 ≤ h → h < fc 1 → 0 ≤ fi (fr + h).toNat ∧ fi (fr + h).toNat < pa) : CtI (S := Int × Int) g yX8_isTrue wsX8_isTrue 2 43 [.ref (A 0), .int (iI fr), .int (iI pa), .int (iI bu)] (wMod g A th sq ac td lt ln cu tk sa ti ft fp le lf tr fl fm fi fc ff fw ftp fk fe fr) (fun v u => v = pI (mFitW fc fi fr pa bu) ∧ u.1 = mLs fc fi fr pa bu ∧ (v = 1 → u.2 = mLo fc pa bu)) (fun u => wMod g A th sq ac td lt ln cu tk sa ti ft fp (u.1) (u.2) tr fl fm fi fc ff fw ftp fk fe fr) := by
  refine m_go (cc := cX8_isTrue) (nL := 14) (by decide +kernel) rfl (Nat.le_of_ble_eq_true rfl) (fun x X Y hnm => ?_)
  refine v_eq (lo2 := [some (.ref (A 0)), some (.int (iI fr)), some (.int (iI pa)), some (.int (iI bu)), none, none, none, none, none, none, none, none, none, none]) rfl rfl rfl rfl ?_
  have b0 := basI_bd bu
  have s0 := spdM_bd (fc := fc) (h := basI bu) ht3
  have t0 := absI_bd s0
  have w0 := mul_nn (show 0 ≤ pa ∧ pa ≤ 720 by omega) t0
  have wb : 0 ≤ mWh fc pa bu ∧ mWh fc pa bu ≤ 17280 := w0
  have ft : absI (spdM fc (basI bu)) = mTu fc bu := rfl
  have fw2 : pa * mTu fc bu = mWh fc pa bu := rfl
  have J11 : V g x 0 0 (wMod g A th sq ac td lt ln cu tk sa ti ft fp le lf tr fl fm fi fc ff fw ftp fk fe fr) [some (.ref (A 0)), some (.int (iI fr)), some (.int (iI pa)), some (.int (iI bu)), some (.int (iI (basI bu))), none, none, none, none, none, none, none, none, none] 11 [] := by
    refine v_aload_n X dX8_isTrue_11 rfl ?_
    refine v_ldc X (List.mem_of_getElem? (i := 1) rfl) dX8_isTrue_12 (n := -1000000) (by decide) ?_
    refine v_put X (fun _ h => List.mem_cons_of_mem _ (List.mem_append_right _ h)) tyX8 tyX8_ok nmX8 0 rfl rfl 19 (by decide) rfl (List.mem_of_getElem? (i := 2) rfl) rfl rfl rfl (Nat.le_of_ble_eq_true rfl) dX8_isTrue_14 ?_
    dsimp only [List.set, wMod]
    refine v_aload_n X dX8_isTrue_17 rfl ?_
    refine v_iconst X dX8_isTrue_18 ?_
    refine v_put X (fun _ h => List.mem_cons_of_mem _ (List.mem_append_right _ h)) tyX8 tyX8_ok nmX8 0 rfl rfl 20 (by decide) rfl (List.mem_of_getElem? (i := 3) rfl) rfl rfl rfl (Nat.le_of_ble_eq_true rfl) dX8_isTrue_19 ?_
    dsimp only [List.set, wMod]
    refine v_iload X dX8_isTrue_22 rfl ?_
    refine v_aload_n X dX8_isTrue_24 rfl ?_
    refine v_get X (fun _ h => List.mem_cons_of_mem _ (List.mem_append_right _ h)) 0 rfl rfl 5 (by decide) rfl (List.mem_of_getElem? (i := 4) rfl) rfl dX8_isTrue_25 ?_
    refine v_iconst X dX8_isTrue_28 ?_
    refine v_iald X 4 rfl (by omega) (by omega) (by omega) dX8_isTrue_29 hfc (fun zq ezq lzq uzq => ?_)
    rw [show zq = fc 1 from ezq]
    refine v_icmp_ne (tgt := 40) X dX8_isTrue_30 (by decide) (by omega) (by omega) (fun c2 => ?_) (fun c2 => ?_)
    · skip
      refine v_aload_n X dX8_isTrue_40 rfl ?_
      refine v_iload X dX8_isTrue_41 rfl ?_
      refine res_E X (run_V X (c_X8_speed (g := g) (by first | assumption | omega) (by first | assumption | omega) (by first | assumption | omega)) gX8_isTrue_X8_speed rfl hdX8_speed ⟨(Nat.le_of_ble_eq_true rfl), (Nat.le_of_ble_eq_true rfl)⟩ ⟨(Nat.le_of_ble_eq_true rfl), (Nat.le_of_ble_eq_true rfl)⟩ 0 rfl rfl rfl [0, 1, 2, 3, 4, 5, 6, 7, 8, 9, 10] rfl rfl rfl rfl (by simp [Value.category]) dX8_isTrue_43) [0, 1, 2, 3, 4, 5, 6, 7, 8, 9, 10] rfl rfl ?_
      refine res_E X (run_S X (c_X8_size (g := g) (by first | assumption | omega)) gX8_isTrue_X8_size rfl hdX8_size.2 ⟨(Nat.le_of_ble_eq_true rfl), (Nat.le_of_ble_eq_true rfl)⟩ ⟨(Nat.le_of_ble_eq_true rfl), (Nat.le_of_ble_eq_true rfl)⟩ [] rfl rfl rfl rfl (by simp [Value.category]) dX8_isTrue_46) [] rfl rfl ?_
      rw [ft]
      refine v_istore X dX8_isTrue_49 (by decide) rfl ?_
      dsimp only [List.set]
      refine v_iload_n X dX8_isTrue_51 rfl ?_
      refine v_iload X dX8_isTrue_52 rfl ?_
      refine v_imul X dX8_isTrue_54 ?_
      rw [fw2]
      refine v_istore X dX8_isTrue_55 (by decide) rfl ?_
      dsimp only [List.set]
      refine v_iconst X dX8_isTrue_57 ?_
      refine v_istore X dX8_isTrue_58 (by decide) rfl ?_
      dsimp only [List.set]
      refine v_iconst X dX8_isTrue_60 ?_
      refine v_istore X dX8_isTrue_61 (by decide) rfl ?_
      dsimp only [List.set]
      have L63 : ∀ (nf : Nat) (ls : Int) (lo2 : Int) (v : Int) (t : Int) (h1 : 0 ≤ t ∧ t ≤ mTu fc bu) (h2 : ls = lnN (fun t => pB (mFit fc fi fr pa bu t)) (fun t => mBy fc fi fr pa bu t) t.toNat) (h3 : (v = 0 ∧ (∀ i : Int, 0 ≤ i → i < t → ¬ mFit fc fi fr pa bu i) ∧ ls = -1000000) ∨ (v = 1 ∧ (∃ i : Int, 0 ≤ i ∧ i < t ∧ mFit fc fi fr pa bu i) ∧ lo2 = mWh fc pa bu ∧ 0 ≤ ls ∧ ls ≤ 17280)) (_ : (mTu fc bu - t).toNat < nf), V g x 0 0 (wMod g A th sq ac td lt ln cu tk sa ti ft fp (ls) (lo2) tr fl fm fi fc ff fw ftp fk fe fr) [some (.ref (A 0)), some (.int (iI fr)), some (.int (iI pa)), some (.int (iI bu)), some (.int (iI (basI bu))), some (.int (iI (mTu fc bu))), some (.int (iI (mWh fc pa bu))), some (.int (iI v)), some (.int (iI t)), none, none, none, none, none] 63 [] := by
        intro nf
        induction nf with
        | zero => intro ls lo2 v t h1 h2 h3 hmu; exact absurd hmu (Nat.not_lt_zero _)
        | succ nf ih63 =>
          intro ls lo2 v t h1 h2 h3 hmu
          refine v_iload X dX8_isTrue_63 rfl ?_
          refine v_iload X dX8_isTrue_65 rfl ?_
          refine v_icmp_ge (tgt := 289) X dX8_isTrue_67 (by decide) (by omega) (by omega) (fun c3 => ?_) (fun c3 => ?_)
          · skip
            refine v_iload X dX8_isTrue_289 rfl ?_
            refine v_zret X Y dX8_isTrue_291 (by first | decide | omega | (split <;> omega)) (u := (ls, lo2)) ?_ (by rfl)
            have e : t = mTu fc bu := by omega
            refine ⟨?_, ?_, ?_⟩
            · rcases h3 with h3 | h3
              · rw [h3.1]
                refine (pI_0 ?_).symm
                rintro (q | ⟨i, g1, g2, g3⟩)
                · omega
                · exact h3.2.1 i g1 (by omega) g3
              · obtain ⟨e1, ⟨i, g1, g2, g3⟩, e2⟩ := h3
                rw [e1]
                exact (pI_1 (Or.inr ⟨i, g1, by omega, g3⟩)).symm
            · unfold mLs
              rw [if_neg (by omega), h2, e]
            · intro hv
              unfold mLo
              rw [if_neg (by omega)]
              rcases h3 with h3 | h3
              · omega
              · exact h3.2.2.1
          · skip
            have a1 : 0 ≤ mAr fi fr (basI bu) ∧ mAr fi fr (basI bu) < pa := hai _ (by omega) (by omega)
            have a2 := mul_nn (show 0 ≤ t ∧ t ≤ 24 by omega) (show 0 ≤ pa ∧ pa ≤ 720 by omega)
            have a3 : 0 ≤ mAt fi fr pa bu t ∧ mAt fi fr pa bu t ≤ 17999 := by unfold mAt; omega
            have a4 := mX_bd wb a3
            have a5 : 0 < mWh fc pa bu := Int.mul_pos (by omega) (by omega)
            refine v_aload_n X dX8_isTrue_70 rfl ?_
            refine v_get X (fun _ h => List.mem_cons_of_mem _ (List.mem_append_right _ h)) 0 rfl rfl 4 (by decide) rfl (List.mem_of_getElem? (i := 5) rfl) rfl dX8_isTrue_71 ?_
            refine v_iload_n X dX8_isTrue_74 rfl ?_
            refine v_iload X dX8_isTrue_75 rfl ?_
            refine v_iadd X dX8_isTrue_77 ?_
            refine v_iald X 3 rfl (by omega) (by omega) (by omega) dX8_isTrue_78 hfi (fun zb ezb lzb uzb => ?_)
            rw [show zb = mAr fi fr (basI bu) from ezb]
            refine v_iload X dX8_isTrue_79 rfl ?_
            refine v_iload_n X dX8_isTrue_81 rfl ?_
            refine v_imul X dX8_isTrue_82 ?_
            refine v_iadd X dX8_isTrue_83 ?_
            rw [show mAr fi fr (basI bu) + t * pa = mAt fi fr pa bu t from rfl]
            refine v_istore X dX8_isTrue_84 (by decide) rfl ?_
            dsimp only [List.set]
            refine v_aload_n X dX8_isTrue_86 rfl ?_
            refine v_iload X dX8_isTrue_87 rfl ?_
            refine res_E X (run_V X (c_X8_speed (g := g) (by first | assumption | omega) (by first | assumption | omega) (by first | assumption | omega)) gX8_isTrue_X8_speed rfl hdX8_speed ⟨(Nat.le_of_ble_eq_true rfl), (Nat.le_of_ble_eq_true rfl)⟩ ⟨(Nat.le_of_ble_eq_true rfl), (Nat.le_of_ble_eq_true rfl)⟩ 0 rfl rfl rfl [0, 1, 2, 3, 4, 5, 6, 7, 8, 9, 10] rfl rfl rfl rfl (by simp [Value.category]) dX8_isTrue_89) [0, 1, 2, 3, 4, 5, 6, 7, 8, 9, 10] rfl rfl ?_
            refine v_if_ge (tgt := 106) X dX8_isTrue_92 (by decide) (by omega) (fun c5 => ?_) (fun c5 => ?_)
            · skip
              refine v_iload X dX8_isTrue_106 rfl ?_
              refine v_istore X dX8_isTrue_108 (by decide) rfl ?_
              dsimp only [List.set]
              refine v_iconst X dX8_isTrue_110 ?_
              refine v_istore X dX8_isTrue_111 (by decide) rfl ?_
              dsimp only [List.set]
              refine v_iconst X dX8_isTrue_113 ?_
              refine v_istore X dX8_isTrue_114 (by decide) rfl ?_
              dsimp only [List.set]
              have L116 : ∀ (nf : Nat) (xx : Int) (u : Int) (h : Int) (hxx : xx = mX fc fi fr pa bu t) (k1 : 0 ≤ h ∧ h ≤ fc 1) (k2 : (u = 1 ∧ ∀ i : Int, 0 ≤ i → i < h → i = bu ∨ mTm fc fi fr pa bu i (mX fc fi fr pa bu t) = 0) ∨ (u = 0 ∧ ∃ i : Int, 0 ≤ i ∧ i < fc 1 ∧ ¬ (i = bu ∨ mTm fc fi fr pa bu i (mX fc fi fr pa bu t) = 0))) (_ : (fc 1 - h).toNat < nf), V g x 0 0 (wMod g A th sq ac td lt ln cu tk sa ti ft fp (ls) (lo2) tr fl fm fi fc ff fw ftp fk fe fr) [some (.ref (A 0)), some (.int (iI fr)), some (.int (iI pa)), some (.int (iI bu)), some (.int (iI (basI bu))), some (.int (iI (mTu fc bu))), some (.int (iI (mWh fc pa bu))), some (.int (iI v)), some (.int (iI t)), some (.int (iI (mAt fi fr pa bu t))), some (.int (iI xx)), some (.int (iI u)), some (.int (iI h)), none] 116 [] := by
                intro nf
                induction nf with
                | zero => intro xx u h hxx k1 k2 hmu; exact absurd hmu (Nat.not_lt_zero _)
                | succ nf ih116 =>
                  intro xx u h hxx k1 k2 hmu
                  subst hxx
                  refine v_iload X dX8_isTrue_116 rfl ?_
                  refine v_aload_n X dX8_isTrue_118 rfl ?_
                  refine v_get X (fun _ h => List.mem_cons_of_mem _ (List.mem_append_right _ h)) 0 rfl rfl 5 (by decide) rfl (List.mem_of_getElem? (i := 4) rfl) rfl dX8_isTrue_119 ?_
                  refine v_iconst X dX8_isTrue_122 ?_
                  refine v_iald X 4 rfl (by omega) (by omega) (by omega) dX8_isTrue_123 hfc (fun zc ezc lzc uzc => ?_)
                  rw [show zc = fc 1 from ezc]
                  refine v_icmp_ge (tgt := 181) X dX8_isTrue_124 (by decide) (by omega) (by omega) (fun c7 => ?_) (fun c7 => ?_)
                  · skip
                    have f1 : (u = 1 ∧ mFit fc fi fr pa bu t) ∨ (u = 0 ∧ ¬ mFit fc fi fr pa bu t) := by
                      rcases k2 with k2 | k2
                      · exact Or.inl ⟨k2.1, fun i g1 g2 => k2.2 i g1 (by omega)⟩
                      · obtain ⟨e0, i, g1, g2, g3⟩ := k2
                        exact Or.inr ⟨e0, fun z => g3 (z i g1 g2)⟩
                    refine v_iload X dX8_isTrue_181 rfl ?_
                    refine v_if_eq (tgt := 283) X dX8_isTrue_183 (by decide) (by omega) (fun c8 => ?_) (fun c8 => ?_)
                    · skip
                      refine v_iinc X dX8_isTrue_283 rfl (by decide) rfl ?_
                      dsimp only [List.set]
                      refine v_goto (tgt := 63) X dX8_isTrue_286 (by decide) ?_
                      refine v_drop 9 ?_
                      dsimp only [List.set]
                      refine v_drop 10 ?_
                      dsimp only [List.set]
                      refine v_drop 11 ?_
                      dsimp only [List.set]
                      refine v_drop 12 ?_
                      dsimp only [List.set]
                      exact ih63 _ _ _ _ (by omega) (by
                          rw [lnN_s h1.1, ← h2]; simp only [show ((t.toNat : Nat) : Int) = t by omega]
                          rcases f1 with f1 | f1
                          · first
                            | (exfalso; omega)
                            | (rw [if_pos (pB_iff.mpr f1.2)]; first | (rw [if_pos (by omega)]; omega) | (rw [if_neg (by omega)]))
                          · first
                            | (exfalso; omega)
                            | rw [if_neg (fun z => f1.2 (pB_iff.mp z))]) (by
                          rcases f1 with f1 | f1
                          · first
                            | (exfalso; omega)
                            | exact Or.inr ⟨rfl, ⟨t, h1.1, by omega, f1.2⟩, rfl, by omega, by omega⟩
                          · rcases h3 with h3 | h3
                            · first
                              | exact Or.inl ⟨h3.1, fun i g1 g2 => by
                                  by_cases e : i = t
                                  · rw [e]; exact f1.2
                                  · exact h3.2.1 i g1 (by omega), h3.2.2⟩
                              | (exfalso; omega)
                            · first
                              | exact Or.inr ⟨h3.1, h3.2.1.elim (fun i q => ⟨i, q.1, by omega, q.2.2⟩), h3.2.2⟩
                              | (exfalso; omega)) (by omega)
                    · skip
                      have l1 := spdM_bd (fc := fc) (h := fc 1 - 1) ht3
                      have l2 : 0 ≤ mAr fi fr (fc 1 - 1) ∧ mAr fi fr (fc 1 - 1) < pa := hai _ (by omega) (by omega)
                      have l3 := mul_bd l1 a4
                      have l4 := mul_nn (show 0 ≤ mAr fi fr (fc 1 - 1) ∧ mAr fi fr (fc 1 - 1) ≤ 720 by omega) (show 0 ≤ mTu fc bu ∧ mTu fc bu ≤ 24 from t0)
                      have l5 := mTm_bd (fi := fi) (fr := fr) (h := fc 1 - 1) (x := mX fc fi fr pa bu t) wb
                      have l6 : mWh fc pa bu - mTm fc fi fr pa bu (fc 1 - 1) (mX fc fi fr pa bu t) < mTm fc fi fr pa bu (fc 1 - 1) (mX fc fi fr pa bu t) → mBy fc fi fr pa bu t = mWh fc pa bu - mTm fc fi fr pa bu (fc 1 - 1) (mX fc fi fr pa bu t) := fun q => if_pos q
                      have l7 : ¬ mWh fc pa bu - mTm fc fi fr pa bu (fc 1 - 1) (mX fc fi fr pa bu t) < mTm fc fi fr pa bu (fc 1 - 1) (mX fc fi fr pa bu t) → mBy fc fi fr pa bu t = mTm fc fi fr pa bu (fc 1 - 1) (mX fc fi fr pa bu t) := fun q => if_neg q
                      refine v_aload_n X dX8_isTrue_186 rfl ?_
                      refine v_get X (fun _ h => List.mem_cons_of_mem _ (List.mem_append_right _ h)) 0 rfl rfl 5 (by decide) rfl (List.mem_of_getElem? (i := 4) rfl) rfl dX8_isTrue_187 ?_
                      refine v_iconst X dX8_isTrue_190 ?_
                      rw [show zl = fc 1 from ezl]
                      refine v_iald X 4 rfl (by omega) (by omega) (by omega) dX8_isTrue_191 hfc (fun z9 ez9 lz9 uz9 => ?_)
                      refine v_iconst X dX8_isTrue_192 ?_
                      refine v_isub X dX8_isTrue_193 ?_
                      refine v_istore X dX8_isTrue_194 (by decide) rfl ?_
                      dsimp only [List.set]
                      refine v_aload_n X dX8_isTrue_196 rfl ?_
                      refine v_iload X dX8_isTrue_197 rfl ?_
                      refine res_E X (run_V X (c_X8_speed (g := g) (by first | assumption | omega) (by first | assumption | omega) (by first | assumption | omega)) gX8_isTrue_X8_speed rfl hdX8_speed ⟨(Nat.le_of_ble_eq_true rfl), (Nat.le_of_ble_eq_true rfl)⟩ ⟨(Nat.le_of_ble_eq_true rfl), (Nat.le_of_ble_eq_true rfl)⟩ 0 rfl rfl rfl [0, 1, 2, 3, 4, 5, 6, 7, 8, 9, 10] rfl rfl rfl rfl (by simp [Value.category]) dX8_isTrue_199) [0, 1, 2, 3, 4, 5, 6, 7, 8, 9, 10] rfl rfl ?_
                      refine v_iload X dX8_isTrue_202 rfl ?_
                      refine v_imul X dX8_isTrue_204 ?_
                      refine v_aload_n X dX8_isTrue_205 rfl ?_
                      refine v_get X (fun _ h => List.mem_cons_of_mem _ (List.mem_append_right _ h)) 0 rfl rfl 4 (by decide) rfl (List.mem_of_getElem? (i := 5) rfl) rfl dX8_isTrue_206 ?_
                      refine v_iload_n X dX8_isTrue_209 rfl ?_
                      refine v_iload X dX8_isTrue_210 rfl ?_
                      refine v_iadd X dX8_isTrue_212 ?_
                      refine v_iald X 3 rfl (by omega) (by omega) (by omega) dX8_isTrue_213 hfi (fun zj ezj lzj uzj => ?_)
                      rw [show zj = mAr fi fr (fc 1 - 1) from ezj]
                      refine v_iload X dX8_isTrue_214 rfl ?_
                      refine v_imul X dX8_isTrue_216 ?_
                      refine v_isub X dX8_isTrue_217 ?_
                      refine v_iload X dX8_isTrue_218 rfl ?_
                      refine res_E X (run_S X (c_X8_rest (g := g) (by first | assumption | omega) (by first | assumption | omega) (by first | assumption | omega)) gX8_isTrue_X8_rest rfl hdX8_rest.2 ⟨(Nat.le_of_ble_eq_true rfl), (Nat.le_of_ble_eq_true rfl)⟩ ⟨(Nat.le_of_ble_eq_true rfl), (Nat.le_of_ble_eq_true rfl)⟩ [] rfl rfl rfl rfl (by simp [Value.category]) dX8_isTrue_220) [] rfl rfl ?_
                      rw [show restI (spdM fc (fc 1 - 1) * mX fc fi fr pa bu t - mAr fi fr (fc 1 - 1) * mTu fc bu) (mWh fc pa bu) = mTm fc fi fr pa bu (fc 1 - 1) (mX fc fi fr pa bu t) from rfl]
                      refine v_istore X dX8_isTrue_223 (by decide) rfl ?_
                      dsimp only [List.set]
                      refine v_iload X dX8_isTrue_225 rfl ?_
                      refine v_iload X dX8_isTrue_227 rfl ?_
                      refine v_iload X dX8_isTrue_229 rfl ?_
                      refine v_isub X dX8_isTrue_231 ?_
                      refine v_icmp_le (tgt := 243) X dX8_isTrue_232 (by decide) (by omega) (by omega) (fun c11 => ?_) (fun c11 => ?_)
                      · skip
                        refine v_iload X dX8_isTrue_243 rfl ?_
                        refine v_istore X dX8_isTrue_245 (by decide) rfl ?_
                        dsimp only [List.set]
                        refine v_aload_n X dX8_isTrue_247 rfl ?_
                        refine v_iload X dX8_isTrue_248 rfl ?_
                        refine v_if_eq (tgt := 262) X dX8_isTrue_250 (by decide) (by omega) (fun c12 => ?_) (fun c12 => ?_)
                        · skip
                          refine v_iload X dX8_isTrue_262 rfl ?_
                          refine v_goto (tgt := 271) X dX8_isTrue_264 (by decide) ?_
                          refine v_put X (fun _ h => List.mem_cons_of_mem _ (List.mem_append_right _ h)) tyX8 tyX8_ok nmX8 0 rfl rfl 19 (by decide) rfl (List.mem_of_getElem? (i := 2) rfl) rfl rfl rfl (Nat.le_of_ble_eq_true rfl) dX8_isTrue_271 ?_
                          dsimp only [List.set, wMod]
                          refine v_aload_n X dX8_isTrue_274 rfl ?_
                          refine v_iload X dX8_isTrue_275 rfl ?_
                          refine v_put X (fun _ h => List.mem_cons_of_mem _ (List.mem_append_right _ h)) tyX8 tyX8_ok nmX8 0 rfl rfl 20 (by decide) rfl (List.mem_of_getElem? (i := 3) rfl) rfl rfl rfl (Nat.le_of_ble_eq_true rfl) dX8_isTrue_277 ?_
                          dsimp only [List.set, wMod]
                          refine v_iconst X dX8_isTrue_280 ?_
                          refine v_istore X dX8_isTrue_281 (by decide) rfl ?_
                          dsimp only [List.set]
                          refine v_iinc X dX8_isTrue_283 rfl (by decide) rfl ?_
                          dsimp only [List.set]
                          refine v_goto (tgt := 63) X dX8_isTrue_286 (by decide) ?_
                          refine v_drop 9 ?_
                          dsimp only [List.set]
                          refine v_drop 10 ?_
                          dsimp only [List.set]
                          refine v_drop 11 ?_
                          dsimp only [List.set]
                          refine v_drop 12 ?_
                          dsimp only [List.set]
                          refine v_drop 13 ?_
                          dsimp only [List.set]
                          exact ih63 _ _ _ _ (by omega) (by
                              rw [lnN_s h1.1, ← h2]; simp only [show ((t.toNat : Nat) : Int) = t by omega]
                              rcases f1 with f1 | f1
                              · first
                                | (exfalso; omega)
                                | (rw [if_pos (pB_iff.mpr f1.2)]; first | (rw [if_pos (by omega)]; omega) | (rw [if_neg (by omega)]))
                              · first
                                | (exfalso; omega)
                                | rw [if_neg (fun z => f1.2 (pB_iff.mp z))]) (by
                              rcases f1 with f1 | f1
                              · first
                                | (exfalso; omega)
                                | exact Or.inr ⟨rfl, ⟨t, h1.1, by omega, f1.2⟩, rfl, by omega, by omega⟩
                              · rcases h3 with h3 | h3
                                · first
                                  | exact Or.inl ⟨h3.1, fun i g1 g2 => by
                                      by_cases e : i = t
                                      · rw [e]; exact f1.2
                                      · exact h3.2.1 i g1 (by omega), h3.2.2⟩
                                  | (exfalso; omega)
                                · first
                                  | exact Or.inr ⟨h3.1, h3.2.1.elim (fun i q => ⟨i, q.1, by omega, q.2.2⟩), h3.2.2⟩
                                  | (exfalso; omega)) (by omega)
                        · skip
                          refine v_iload X dX8_isTrue_253 rfl ?_
                          refine v_aload_n X dX8_isTrue_255 rfl ?_
                          refine v_get X (fun _ h => List.mem_cons_of_mem _ (List.mem_append_right _ h)) 0 rfl rfl 19 (by decide) rfl (List.mem_of_getElem? (i := 2) rfl) rfl dX8_isTrue_256 ?_
                          refine v_icmp_ge (tgt := 267) X dX8_isTrue_259 (by decide) (by omega) (by omega) (fun c13 => ?_) (fun c13 => ?_)
                          · skip
                            refine v_aload_n X dX8_isTrue_267 rfl ?_
                            refine v_get X (fun _ h => List.mem_cons_of_mem _ (List.mem_append_right _ h)) 0 rfl rfl 19 (by decide) rfl (List.mem_of_getElem? (i := 2) rfl) rfl dX8_isTrue_268 ?_
                            refine v_put X (fun _ h => List.mem_cons_of_mem _ (List.mem_append_right _ h)) tyX8 tyX8_ok nmX8 0 rfl rfl 19 (by decide) rfl (List.mem_of_getElem? (i := 2) rfl) rfl rfl rfl (Nat.le_of_ble_eq_true rfl) dX8_isTrue_271 ?_
                            dsimp only [List.set, wMod]
                            refine v_aload_n X dX8_isTrue_274 rfl ?_
                            refine v_iload X dX8_isTrue_275 rfl ?_
                            refine v_put X (fun _ h => List.mem_cons_of_mem _ (List.mem_append_right _ h)) tyX8 tyX8_ok nmX8 0 rfl rfl 20 (by decide) rfl (List.mem_of_getElem? (i := 3) rfl) rfl rfl rfl (Nat.le_of_ble_eq_true rfl) dX8_isTrue_277 ?_
                            dsimp only [List.set, wMod]
                            refine v_iconst X dX8_isTrue_280 ?_
                            refine v_istore X dX8_isTrue_281 (by decide) rfl ?_
                            dsimp only [List.set]
                            refine v_iinc X dX8_isTrue_283 rfl (by decide) rfl ?_
                            dsimp only [List.set]
                            refine v_goto (tgt := 63) X dX8_isTrue_286 (by decide) ?_
                            refine v_drop 9 ?_
                            dsimp only [List.set]
                            refine v_drop 10 ?_
                            dsimp only [List.set]
                            refine v_drop 11 ?_
                            dsimp only [List.set]
                            refine v_drop 12 ?_
                            dsimp only [List.set]
                            refine v_drop 13 ?_
                            dsimp only [List.set]
                            exact ih63 _ _ _ _ (by omega) (by
                                rw [lnN_s h1.1, ← h2]; simp only [show ((t.toNat : Nat) : Int) = t by omega]
                                rcases f1 with f1 | f1
                                · first
                                  | (exfalso; omega)
                                  | (rw [if_pos (pB_iff.mpr f1.2)]; first | (rw [if_pos (by omega)]; omega) | (rw [if_neg (by omega)]))
                                · first
                                  | (exfalso; omega)
                                  | rw [if_neg (fun z => f1.2 (pB_iff.mp z))]) (by
                                rcases f1 with f1 | f1
                                · first
                                  | (exfalso; omega)
                                  | exact Or.inr ⟨rfl, ⟨t, h1.1, by omega, f1.2⟩, rfl, by omega, by omega⟩
                                · rcases h3 with h3 | h3
                                  · first
                                    | exact Or.inl ⟨h3.1, fun i g1 g2 => by
                                        by_cases e : i = t
                                        · rw [e]; exact f1.2
                                        · exact h3.2.1 i g1 (by omega), h3.2.2⟩
                                    | (exfalso; omega)
                                  · first
                                    | exact Or.inr ⟨h3.1, h3.2.1.elim (fun i q => ⟨i, q.1, by omega, q.2.2⟩), h3.2.2⟩
                                    | (exfalso; omega)) (by omega)
                          · skip
                            refine v_iload X dX8_isTrue_262 rfl ?_
                            refine v_goto (tgt := 271) X dX8_isTrue_264 (by decide) ?_
                            refine v_put X (fun _ h => List.mem_cons_of_mem _ (List.mem_append_right _ h)) tyX8 tyX8_ok nmX8 0 rfl rfl 19 (by decide) rfl (List.mem_of_getElem? (i := 2) rfl) rfl rfl rfl (Nat.le_of_ble_eq_true rfl) dX8_isTrue_271 ?_
                            dsimp only [List.set, wMod]
                            refine v_aload_n X dX8_isTrue_274 rfl ?_
                            refine v_iload X dX8_isTrue_275 rfl ?_
                            refine v_put X (fun _ h => List.mem_cons_of_mem _ (List.mem_append_right _ h)) tyX8 tyX8_ok nmX8 0 rfl rfl 20 (by decide) rfl (List.mem_of_getElem? (i := 3) rfl) rfl rfl rfl (Nat.le_of_ble_eq_true rfl) dX8_isTrue_277 ?_
                            dsimp only [List.set, wMod]
                            refine v_iconst X dX8_isTrue_280 ?_
                            refine v_istore X dX8_isTrue_281 (by decide) rfl ?_
                            dsimp only [List.set]
                            refine v_iinc X dX8_isTrue_283 rfl (by decide) rfl ?_
                            dsimp only [List.set]
                            refine v_goto (tgt := 63) X dX8_isTrue_286 (by decide) ?_
                            refine v_drop 9 ?_
                            dsimp only [List.set]
                            refine v_drop 10 ?_
                            dsimp only [List.set]
                            refine v_drop 11 ?_
                            dsimp only [List.set]
                            refine v_drop 12 ?_
                            dsimp only [List.set]
                            refine v_drop 13 ?_
                            dsimp only [List.set]
                            exact ih63 _ _ _ _ (by omega) (by
                                rw [lnN_s h1.1, ← h2]; simp only [show ((t.toNat : Nat) : Int) = t by omega]
                                rcases f1 with f1 | f1
                                · first
                                  | (exfalso; omega)
                                  | (rw [if_pos (pB_iff.mpr f1.2)]; first | (rw [if_pos (by omega)]; omega) | (rw [if_neg (by omega)]))
                                · first
                                  | (exfalso; omega)
                                  | rw [if_neg (fun z => f1.2 (pB_iff.mp z))]) (by
                                rcases f1 with f1 | f1
                                · first
                                  | (exfalso; omega)
                                  | exact Or.inr ⟨rfl, ⟨t, h1.1, by omega, f1.2⟩, rfl, by omega, by omega⟩
                                · rcases h3 with h3 | h3
                                  · first
                                    | exact Or.inl ⟨h3.1, fun i g1 g2 => by
                                        by_cases e : i = t
                                        · rw [e]; exact f1.2
                                        · exact h3.2.1 i g1 (by omega), h3.2.2⟩
                                    | (exfalso; omega)
                                  · first
                                    | exact Or.inr ⟨h3.1, h3.2.1.elim (fun i q => ⟨i, q.1, by omega, q.2.2⟩), h3.2.2⟩
                                    | (exfalso; omega)) (by omega)
                      · skip
                        refine v_iload X dX8_isTrue_235 rfl ?_
                        refine v_iload X dX8_isTrue_237 rfl ?_
                        refine v_isub X dX8_isTrue_239 ?_
                        refine v_goto (tgt := 245) X dX8_isTrue_240 (by decide) ?_
                        refine v_istore X dX8_isTrue_245 (by decide) rfl ?_
                        dsimp only [List.set]
                        refine v_aload_n X dX8_isTrue_247 rfl ?_
                        refine v_iload X dX8_isTrue_248 rfl ?_
                        refine v_if_eq (tgt := 262) X dX8_isTrue_250 (by decide) (by omega) (fun c14 => ?_) (fun c14 => ?_)
                        · skip
                          refine v_iload X dX8_isTrue_262 rfl ?_
                          refine v_goto (tgt := 271) X dX8_isTrue_264 (by decide) ?_
                          refine v_put X (fun _ h => List.mem_cons_of_mem _ (List.mem_append_right _ h)) tyX8 tyX8_ok nmX8 0 rfl rfl 19 (by decide) rfl (List.mem_of_getElem? (i := 2) rfl) rfl rfl rfl (Nat.le_of_ble_eq_true rfl) dX8_isTrue_271 ?_
                          dsimp only [List.set, wMod]
                          refine v_aload_n X dX8_isTrue_274 rfl ?_
                          refine v_iload X dX8_isTrue_275 rfl ?_
                          refine v_put X (fun _ h => List.mem_cons_of_mem _ (List.mem_append_right _ h)) tyX8 tyX8_ok nmX8 0 rfl rfl 20 (by decide) rfl (List.mem_of_getElem? (i := 3) rfl) rfl rfl rfl (Nat.le_of_ble_eq_true rfl) dX8_isTrue_277 ?_
                          dsimp only [List.set, wMod]
                          refine v_iconst X dX8_isTrue_280 ?_
                          refine v_istore X dX8_isTrue_281 (by decide) rfl ?_
                          dsimp only [List.set]
                          refine v_iinc X dX8_isTrue_283 rfl (by decide) rfl ?_
                          dsimp only [List.set]
                          refine v_goto (tgt := 63) X dX8_isTrue_286 (by decide) ?_
                          refine v_drop 9 ?_
                          dsimp only [List.set]
                          refine v_drop 10 ?_
                          dsimp only [List.set]
                          refine v_drop 11 ?_
                          dsimp only [List.set]
                          refine v_drop 12 ?_
                          dsimp only [List.set]
                          refine v_drop 13 ?_
                          dsimp only [List.set]
                          exact ih63 _ _ _ _ (by omega) (by
                              rw [lnN_s h1.1, ← h2]; simp only [show ((t.toNat : Nat) : Int) = t by omega]
                              rcases f1 with f1 | f1
                              · first
                                | (exfalso; omega)
                                | (rw [if_pos (pB_iff.mpr f1.2)]; first | (rw [if_pos (by omega)]; omega) | (rw [if_neg (by omega)]))
                              · first
                                | (exfalso; omega)
                                | rw [if_neg (fun z => f1.2 (pB_iff.mp z))]) (by
                              rcases f1 with f1 | f1
                              · first
                                | (exfalso; omega)
                                | exact Or.inr ⟨rfl, ⟨t, h1.1, by omega, f1.2⟩, rfl, by omega, by omega⟩
                              · rcases h3 with h3 | h3
                                · first
                                  | exact Or.inl ⟨h3.1, fun i g1 g2 => by
                                      by_cases e : i = t
                                      · rw [e]; exact f1.2
                                      · exact h3.2.1 i g1 (by omega), h3.2.2⟩
                                  | (exfalso; omega)
                                · first
                                  | exact Or.inr ⟨h3.1, h3.2.1.elim (fun i q => ⟨i, q.1, by omega, q.2.2⟩), h3.2.2⟩
                                  | (exfalso; omega)) (by omega)
                        · skip
                          refine v_iload X dX8_isTrue_253 rfl ?_
                          refine v_aload_n X dX8_isTrue_255 rfl ?_
                          refine v_get X (fun _ h => List.mem_cons_of_mem _ (List.mem_append_right _ h)) 0 rfl rfl 19 (by decide) rfl (List.mem_of_getElem? (i := 2) rfl) rfl dX8_isTrue_256 ?_
                          refine v_icmp_ge (tgt := 267) X dX8_isTrue_259 (by decide) (by omega) (by omega) (fun c15 => ?_) (fun c15 => ?_)
                          · skip
                            refine v_aload_n X dX8_isTrue_267 rfl ?_
                            refine v_get X (fun _ h => List.mem_cons_of_mem _ (List.mem_append_right _ h)) 0 rfl rfl 19 (by decide) rfl (List.mem_of_getElem? (i := 2) rfl) rfl dX8_isTrue_268 ?_
                            refine v_put X (fun _ h => List.mem_cons_of_mem _ (List.mem_append_right _ h)) tyX8 tyX8_ok nmX8 0 rfl rfl 19 (by decide) rfl (List.mem_of_getElem? (i := 2) rfl) rfl rfl rfl (Nat.le_of_ble_eq_true rfl) dX8_isTrue_271 ?_
                            dsimp only [List.set, wMod]
                            refine v_aload_n X dX8_isTrue_274 rfl ?_
                            refine v_iload X dX8_isTrue_275 rfl ?_
                            refine v_put X (fun _ h => List.mem_cons_of_mem _ (List.mem_append_right _ h)) tyX8 tyX8_ok nmX8 0 rfl rfl 20 (by decide) rfl (List.mem_of_getElem? (i := 3) rfl) rfl rfl rfl (Nat.le_of_ble_eq_true rfl) dX8_isTrue_277 ?_
                            dsimp only [List.set, wMod]
                            refine v_iconst X dX8_isTrue_280 ?_
                            refine v_istore X dX8_isTrue_281 (by decide) rfl ?_
                            dsimp only [List.set]
                            refine v_iinc X dX8_isTrue_283 rfl (by decide) rfl ?_
                            dsimp only [List.set]
                            refine v_goto (tgt := 63) X dX8_isTrue_286 (by decide) ?_
                            refine v_drop 9 ?_
                            dsimp only [List.set]
                            refine v_drop 10 ?_
                            dsimp only [List.set]
                            refine v_drop 11 ?_
                            dsimp only [List.set]
                            refine v_drop 12 ?_
                            dsimp only [List.set]
                            refine v_drop 13 ?_
                            dsimp only [List.set]
                            exact ih63 _ _ _ _ (by omega) (by
                                rw [lnN_s h1.1, ← h2]; simp only [show ((t.toNat : Nat) : Int) = t by omega]
                                rcases f1 with f1 | f1
                                · first
                                  | (exfalso; omega)
                                  | (rw [if_pos (pB_iff.mpr f1.2)]; first | (rw [if_pos (by omega)]; omega) | (rw [if_neg (by omega)]))
                                · first
                                  | (exfalso; omega)
                                  | rw [if_neg (fun z => f1.2 (pB_iff.mp z))]) (by
                                rcases f1 with f1 | f1
                                · first
                                  | (exfalso; omega)
                                  | exact Or.inr ⟨rfl, ⟨t, h1.1, by omega, f1.2⟩, rfl, by omega, by omega⟩
                                · rcases h3 with h3 | h3
                                  · first
                                    | exact Or.inl ⟨h3.1, fun i g1 g2 => by
                                        by_cases e : i = t
                                        · rw [e]; exact f1.2
                                        · exact h3.2.1 i g1 (by omega), h3.2.2⟩
                                    | (exfalso; omega)
                                  · first
                                    | exact Or.inr ⟨h3.1, h3.2.1.elim (fun i q => ⟨i, q.1, by omega, q.2.2⟩), h3.2.2⟩
                                    | (exfalso; omega)) (by omega)
                          · skip
                            refine v_iload X dX8_isTrue_262 rfl ?_
                            refine v_goto (tgt := 271) X dX8_isTrue_264 (by decide) ?_
                            refine v_put X (fun _ h => List.mem_cons_of_mem _ (List.mem_append_right _ h)) tyX8 tyX8_ok nmX8 0 rfl rfl 19 (by decide) rfl (List.mem_of_getElem? (i := 2) rfl) rfl rfl rfl (Nat.le_of_ble_eq_true rfl) dX8_isTrue_271 ?_
                            dsimp only [List.set, wMod]
                            refine v_aload_n X dX8_isTrue_274 rfl ?_
                            refine v_iload X dX8_isTrue_275 rfl ?_
                            refine v_put X (fun _ h => List.mem_cons_of_mem _ (List.mem_append_right _ h)) tyX8 tyX8_ok nmX8 0 rfl rfl 20 (by decide) rfl (List.mem_of_getElem? (i := 3) rfl) rfl rfl rfl (Nat.le_of_ble_eq_true rfl) dX8_isTrue_277 ?_
                            dsimp only [List.set, wMod]
                            refine v_iconst X dX8_isTrue_280 ?_
                            refine v_istore X dX8_isTrue_281 (by decide) rfl ?_
                            dsimp only [List.set]
                            refine v_iinc X dX8_isTrue_283 rfl (by decide) rfl ?_
                            dsimp only [List.set]
                            refine v_goto (tgt := 63) X dX8_isTrue_286 (by decide) ?_
                            refine v_drop 9 ?_
                            dsimp only [List.set]
                            refine v_drop 10 ?_
                            dsimp only [List.set]
                            refine v_drop 11 ?_
                            dsimp only [List.set]
                            refine v_drop 12 ?_
                            dsimp only [List.set]
                            refine v_drop 13 ?_
                            dsimp only [List.set]
                            exact ih63 _ _ _ _ (by omega) (by
                                rw [lnN_s h1.1, ← h2]; simp only [show ((t.toNat : Nat) : Int) = t by omega]
                                rcases f1 with f1 | f1
                                · first
                                  | (exfalso; omega)
                                  | (rw [if_pos (pB_iff.mpr f1.2)]; first | (rw [if_pos (by omega)]; omega) | (rw [if_neg (by omega)]))
                                · first
                                  | (exfalso; omega)
                                  | rw [if_neg (fun z => f1.2 (pB_iff.mp z))]) (by
                                rcases f1 with f1 | f1
                                · first
                                  | (exfalso; omega)
                                  | exact Or.inr ⟨rfl, ⟨t, h1.1, by omega, f1.2⟩, rfl, by omega, by omega⟩
                                · rcases h3 with h3 | h3
                                  · first
                                    | exact Or.inl ⟨h3.1, fun i g1 g2 => by
                                        by_cases e : i = t
                                        · rw [e]; exact f1.2
                                        · exact h3.2.1 i g1 (by omega), h3.2.2⟩
                                    | (exfalso; omega)
                                  · first
                                    | exact Or.inr ⟨h3.1, h3.2.1.elim (fun i q => ⟨i, q.1, by omega, q.2.2⟩), h3.2.2⟩
                                    | (exfalso; omega)) (by omega)
                  · skip
                    refine v_iload X dX8_isTrue_127 rfl ?_
                    refine v_if_eq (tgt := 172) X dX8_isTrue_129 (by decide) (by omega) (fun c16 => ?_) (fun c16 => ?_)
                    · skip
                      refine v_iconst X dX8_isTrue_172 ?_
                      refine v_istore X dX8_isTrue_173 (by decide) rfl ?_
                      dsimp only [List.set]
                      refine v_iinc X dX8_isTrue_175 rfl (by decide) rfl ?_
                      dsimp only [List.set]
                      refine v_goto (tgt := 116) X dX8_isTrue_178 (by decide) ?_
                      exact ih116 _ _ _ (by rfl) (by omega) (by
                          rcases k2 with k2 | k2
                          · first
                            | (exfalso; omega)
                            | exact Or.inl ⟨rfl, fun i g1 g2 => by
                                by_cases e : i = h
                                · rw [e]; first | exact Or.inl (by assumption) | exact Or.inr (by assumption)
                                · exact k2.2 i g1 (by omega)⟩
                            | exact Or.inr ⟨rfl, h, k1.1, by assumption, fun q => q.elim (fun q => absurd q (by assumption)) (fun q => absurd q (by assumption))⟩
                          · obtain ⟨e0, i, g1, g2, g3⟩ := k2
                            first
                            | exact Or.inr ⟨rfl, i, g1, g2, g3⟩
                            | (exfalso; omega)) (by omega)
                    · skip
                      refine v_iload X dX8_isTrue_132 rfl ?_
                      refine v_iload_n X dX8_isTrue_134 rfl ?_
                      refine v_icmp_eq (tgt := 168) X dX8_isTrue_135 (by decide) (by omega) (by omega) (fun c17 => ?_) (fun c17 => ?_)
                      · skip
                        refine v_iconst X dX8_isTrue_168 ?_
                        refine v_goto (tgt := 173) X dX8_isTrue_169 (by decide) ?_
                        refine v_istore X dX8_isTrue_173 (by decide) rfl ?_
                        dsimp only [List.set]
                        refine v_iinc X dX8_isTrue_175 rfl (by decide) rfl ?_
                        dsimp only [List.set]
                        refine v_goto (tgt := 116) X dX8_isTrue_178 (by decide) ?_
                        exact ih116 _ _ _ (by rfl) (by omega) (by
                            rcases k2 with k2 | k2
                            · first
                              | (exfalso; omega)
                              | exact Or.inl ⟨rfl, fun i g1 g2 => by
                                  by_cases e : i = h
                                  · rw [e]; first | exact Or.inl (by assumption) | exact Or.inr (by assumption)
                                  · exact k2.2 i g1 (by omega)⟩
                              | exact Or.inr ⟨rfl, h, k1.1, by assumption, fun q => q.elim (fun q => absurd q (by assumption)) (fun q => absurd q (by assumption))⟩
                            · obtain ⟨e0, i, g1, g2, g3⟩ := k2
                              first
                              | exact Or.inr ⟨rfl, i, g1, g2, g3⟩
                              | (exfalso; omega)) (by omega)
                      · skip
                        have d1 := spdM_bd (fc := fc) (h := h) ht3
                        have d2 : 0 ≤ mAr fi fr h ∧ mAr fi fr h < pa := hai h (by omega) (by omega)
                        have d3 := mul_bd d1 a4
                        have d4 := mul_nn (show 0 ≤ mAr fi fr h ∧ mAr fi fr h ≤ 720 by omega) (show 0 ≤ mTu fc bu ∧ mTu fc bu ≤ 24 from t0)
                        refine v_aload_n X dX8_isTrue_138 rfl ?_
                        refine v_iload X dX8_isTrue_139 rfl ?_
                        refine res_E X (run_V X (c_X8_speed (g := g) (by first | assumption | omega) (by first | assumption | omega) (by first | assumption | omega)) gX8_isTrue_X8_speed rfl hdX8_speed ⟨(Nat.le_of_ble_eq_true rfl), (Nat.le_of_ble_eq_true rfl)⟩ ⟨(Nat.le_of_ble_eq_true rfl), (Nat.le_of_ble_eq_true rfl)⟩ 0 rfl rfl rfl [0, 1, 2, 3, 4, 5, 6, 7, 8, 9, 10] rfl rfl rfl rfl (by simp [Value.category]) dX8_isTrue_141) [0, 1, 2, 3, 4, 5, 6, 7, 8, 9, 10] rfl rfl ?_
                        refine v_iload X dX8_isTrue_144 rfl ?_
                        refine v_imul X dX8_isTrue_146 ?_
                        refine v_aload_n X dX8_isTrue_147 rfl ?_
                        refine v_get X (fun _ h => List.mem_cons_of_mem _ (List.mem_append_right _ h)) 0 rfl rfl 4 (by decide) rfl (List.mem_of_getElem? (i := 5) rfl) rfl dX8_isTrue_148 ?_
                        refine v_iload_n X dX8_isTrue_151 rfl ?_
                        refine v_iload X dX8_isTrue_152 rfl ?_
                        refine v_iadd X dX8_isTrue_154 ?_
                        refine v_iald X 3 rfl (by omega) (by omega) (by omega) dX8_isTrue_155 hfi (fun zi ezi lzi uzi => ?_)
                        rw [show zi = mAr fi fr h from ezi]
                        refine v_iload X dX8_isTrue_156 rfl ?_
                        refine v_imul X dX8_isTrue_158 ?_
                        refine v_isub X dX8_isTrue_159 ?_
                        refine v_iload X dX8_isTrue_160 rfl ?_
                        refine res_E X (run_S X (c_X8_rest (g := g) (by first | assumption | omega) (by first | assumption | omega) (by first | assumption | omega)) gX8_isTrue_X8_rest rfl hdX8_rest.2 ⟨(Nat.le_of_ble_eq_true rfl), (Nat.le_of_ble_eq_true rfl)⟩ ⟨(Nat.le_of_ble_eq_true rfl), (Nat.le_of_ble_eq_true rfl)⟩ [] rfl rfl rfl rfl (by simp [Value.category]) dX8_isTrue_162) [] rfl rfl ?_
                        rw [show restI (spdM fc h * mX fc fi fr pa bu t - mAr fi fr h * mTu fc bu) (mWh fc pa bu) = mTm fc fi fr pa bu h (mX fc fi fr pa bu t) from rfl]
                        refine v_if_ne (tgt := 172) X dX8_isTrue_165 (by decide) (by have := mTm_bd (fi := fi) (fr := fr) (h := h) (x := mX fc fi fr pa bu t) wb; omega) (fun c19 => ?_) (fun c19 => ?_)
                        · skip
                          refine v_iconst X dX8_isTrue_172 ?_
                          refine v_istore X dX8_isTrue_173 (by decide) rfl ?_
                          dsimp only [List.set]
                          refine v_iinc X dX8_isTrue_175 rfl (by decide) rfl ?_
                          dsimp only [List.set]
                          refine v_goto (tgt := 116) X dX8_isTrue_178 (by decide) ?_
                          exact ih116 _ _ _ (by rfl) (by omega) (by
                              rcases k2 with k2 | k2
                              · first
                                | (exfalso; omega)
                                | exact Or.inl ⟨rfl, fun i g1 g2 => by
                                    by_cases e : i = h
                                    · rw [e]; first | exact Or.inl (by assumption) | exact Or.inr (by assumption)
                                    · exact k2.2 i g1 (by omega)⟩
                                | exact Or.inr ⟨rfl, h, k1.1, by assumption, fun q => q.elim (fun q => absurd q (by assumption)) (fun q => absurd q (by assumption))⟩
                              · obtain ⟨e0, i, g1, g2, g3⟩ := k2
                                first
                                | exact Or.inr ⟨rfl, i, g1, g2, g3⟩
                                | (exfalso; omega)) (by omega)
                        · skip
                          refine v_iconst X dX8_isTrue_168 ?_
                          refine v_goto (tgt := 173) X dX8_isTrue_169 (by decide) ?_
                          refine v_istore X dX8_isTrue_173 (by decide) rfl ?_
                          dsimp only [List.set]
                          refine v_iinc X dX8_isTrue_175 rfl (by decide) rfl ?_
                          dsimp only [List.set]
                          refine v_goto (tgt := 116) X dX8_isTrue_178 (by decide) ?_
                          exact ih116 _ _ _ (by rfl) (by omega) (by
                              rcases k2 with k2 | k2
                              · first
                                | (exfalso; omega)
                                | exact Or.inl ⟨rfl, fun i g1 g2 => by
                                    by_cases e : i = h
                                    · rw [e]; first | exact Or.inl (by assumption) | exact Or.inr (by assumption)
                                    · exact k2.2 i g1 (by omega)⟩
                                | exact Or.inr ⟨rfl, h, k1.1, by assumption, fun q => q.elim (fun q => absurd q (by assumption)) (fun q => absurd q (by assumption))⟩
                              · obtain ⟨e0, i, g1, g2, g3⟩ := k2
                                first
                                | exact Or.inr ⟨rfl, i, g1, g2, g3⟩
                                | (exfalso; omega)) (by omega)
              exact L116 _ _ _ _ (by unfold mX; (first | rw [if_pos (by assumption)] | rw [if_neg (by omega)]) <;> rfl) (by omega) (by exact Or.inl ⟨rfl, fun i g1 g2 => by exfalso; omega⟩) (Nat.lt_succ_self _)
            · skip
              refine v_iload X dX8_isTrue_95 rfl ?_
              refine v_ineg X dX8_isTrue_97 ?_
              refine v_iload X dX8_isTrue_98 rfl ?_
              refine res_E X (run_S X (c_X8_rest (g := g) (by first | assumption | omega) (by first | assumption | omega) (by first | assumption | omega)) gX8_isTrue_X8_rest rfl hdX8_rest.2 ⟨(Nat.le_of_ble_eq_true rfl), (Nat.le_of_ble_eq_true rfl)⟩ ⟨(Nat.le_of_ble_eq_true rfl), (Nat.le_of_ble_eq_true rfl)⟩ [] rfl rfl rfl rfl (by simp [Value.category]) dX8_isTrue_100) [] rfl rfl ?_
              refine v_goto (tgt := 108) X dX8_isTrue_103 (by decide) ?_
              refine v_istore X dX8_isTrue_108 (by decide) rfl ?_
              dsimp only [List.set]
              refine v_iconst X dX8_isTrue_110 ?_
              refine v_istore X dX8_isTrue_111 (by decide) rfl ?_
              dsimp only [List.set]
              refine v_iconst X dX8_isTrue_113 ?_
              refine v_istore X dX8_isTrue_114 (by decide) rfl ?_
              dsimp only [List.set]
              have L116 : ∀ (nf : Nat) (xx : Int) (u : Int) (h : Int) (hxx : xx = mX fc fi fr pa bu t) (k1 : 0 ≤ h ∧ h ≤ fc 1) (k2 : (u = 1 ∧ ∀ i : Int, 0 ≤ i → i < h → i = bu ∨ mTm fc fi fr pa bu i (mX fc fi fr pa bu t) = 0) ∨ (u = 0 ∧ ∃ i : Int, 0 ≤ i ∧ i < fc 1 ∧ ¬ (i = bu ∨ mTm fc fi fr pa bu i (mX fc fi fr pa bu t) = 0))) (_ : (fc 1 - h).toNat < nf), V g x 0 0 (wMod g A th sq ac td lt ln cu tk sa ti ft fp (ls) (lo2) tr fl fm fi fc ff fw ftp fk fe fr) [some (.ref (A 0)), some (.int (iI fr)), some (.int (iI pa)), some (.int (iI bu)), some (.int (iI (basI bu))), some (.int (iI (mTu fc bu))), some (.int (iI (mWh fc pa bu))), some (.int (iI v)), some (.int (iI t)), some (.int (iI (mAt fi fr pa bu t))), some (.int (iI xx)), some (.int (iI u)), some (.int (iI h)), none] 116 [] := by
                intro nf
                induction nf with
                | zero => intro xx u h hxx k1 k2 hmu; exact absurd hmu (Nat.not_lt_zero _)
                | succ nf ih116 =>
                  intro xx u h hxx k1 k2 hmu
                  subst hxx
                  refine v_iload X dX8_isTrue_116 rfl ?_
                  refine v_aload_n X dX8_isTrue_118 rfl ?_
                  refine v_get X (fun _ h => List.mem_cons_of_mem _ (List.mem_append_right _ h)) 0 rfl rfl 5 (by decide) rfl (List.mem_of_getElem? (i := 4) rfl) rfl dX8_isTrue_119 ?_
                  refine v_iconst X dX8_isTrue_122 ?_
                  refine v_iald X 4 rfl (by omega) (by omega) (by omega) dX8_isTrue_123 hfc (fun zc ezc lzc uzc => ?_)
                  rw [show zc = fc 1 from ezc]
                  refine v_icmp_ge (tgt := 181) X dX8_isTrue_124 (by decide) (by omega) (by omega) (fun c21 => ?_) (fun c21 => ?_)
                  · skip
                    have f1 : (u = 1 ∧ mFit fc fi fr pa bu t) ∨ (u = 0 ∧ ¬ mFit fc fi fr pa bu t) := by
                      rcases k2 with k2 | k2
                      · exact Or.inl ⟨k2.1, fun i g1 g2 => k2.2 i g1 (by omega)⟩
                      · obtain ⟨e0, i, g1, g2, g3⟩ := k2
                        exact Or.inr ⟨e0, fun z => g3 (z i g1 g2)⟩
                    refine v_iload X dX8_isTrue_181 rfl ?_
                    refine v_if_eq (tgt := 283) X dX8_isTrue_183 (by decide) (by omega) (fun c22 => ?_) (fun c22 => ?_)
                    · skip
                      refine v_iinc X dX8_isTrue_283 rfl (by decide) rfl ?_
                      dsimp only [List.set]
                      refine v_goto (tgt := 63) X dX8_isTrue_286 (by decide) ?_
                      refine v_drop 9 ?_
                      dsimp only [List.set]
                      refine v_drop 10 ?_
                      dsimp only [List.set]
                      refine v_drop 11 ?_
                      dsimp only [List.set]
                      refine v_drop 12 ?_
                      dsimp only [List.set]
                      exact ih63 _ _ _ _ (by omega) (by
                          rw [lnN_s h1.1, ← h2]; simp only [show ((t.toNat : Nat) : Int) = t by omega]
                          rcases f1 with f1 | f1
                          · first
                            | (exfalso; omega)
                            | (rw [if_pos (pB_iff.mpr f1.2)]; first | (rw [if_pos (by omega)]; omega) | (rw [if_neg (by omega)]))
                          · first
                            | (exfalso; omega)
                            | rw [if_neg (fun z => f1.2 (pB_iff.mp z))]) (by
                          rcases f1 with f1 | f1
                          · first
                            | (exfalso; omega)
                            | exact Or.inr ⟨rfl, ⟨t, h1.1, by omega, f1.2⟩, rfl, by omega, by omega⟩
                          · rcases h3 with h3 | h3
                            · first
                              | exact Or.inl ⟨h3.1, fun i g1 g2 => by
                                  by_cases e : i = t
                                  · rw [e]; exact f1.2
                                  · exact h3.2.1 i g1 (by omega), h3.2.2⟩
                              | (exfalso; omega)
                            · first
                              | exact Or.inr ⟨h3.1, h3.2.1.elim (fun i q => ⟨i, q.1, by omega, q.2.2⟩), h3.2.2⟩
                              | (exfalso; omega)) (by omega)
                    · skip
                      have l1 := spdM_bd (fc := fc) (h := fc 1 - 1) ht3
                      have l2 : 0 ≤ mAr fi fr (fc 1 - 1) ∧ mAr fi fr (fc 1 - 1) < pa := hai _ (by omega) (by omega)
                      have l3 := mul_bd l1 a4
                      have l4 := mul_nn (show 0 ≤ mAr fi fr (fc 1 - 1) ∧ mAr fi fr (fc 1 - 1) ≤ 720 by omega) (show 0 ≤ mTu fc bu ∧ mTu fc bu ≤ 24 from t0)
                      have l5 := mTm_bd (fi := fi) (fr := fr) (h := fc 1 - 1) (x := mX fc fi fr pa bu t) wb
                      have l6 : mWh fc pa bu - mTm fc fi fr pa bu (fc 1 - 1) (mX fc fi fr pa bu t) < mTm fc fi fr pa bu (fc 1 - 1) (mX fc fi fr pa bu t) → mBy fc fi fr pa bu t = mWh fc pa bu - mTm fc fi fr pa bu (fc 1 - 1) (mX fc fi fr pa bu t) := fun q => if_pos q
                      have l7 : ¬ mWh fc pa bu - mTm fc fi fr pa bu (fc 1 - 1) (mX fc fi fr pa bu t) < mTm fc fi fr pa bu (fc 1 - 1) (mX fc fi fr pa bu t) → mBy fc fi fr pa bu t = mTm fc fi fr pa bu (fc 1 - 1) (mX fc fi fr pa bu t) := fun q => if_neg q
                      refine v_aload_n X dX8_isTrue_186 rfl ?_
                      refine v_get X (fun _ h => List.mem_cons_of_mem _ (List.mem_append_right _ h)) 0 rfl rfl 5 (by decide) rfl (List.mem_of_getElem? (i := 4) rfl) rfl dX8_isTrue_187 ?_
                      refine v_iconst X dX8_isTrue_190 ?_
                      rw [show zl = fc 1 from ezl]
                      refine v_iald X 4 rfl (by omega) (by omega) (by omega) dX8_isTrue_191 hfc (fun z23 ez23 lz23 uz23 => ?_)
                      refine v_iconst X dX8_isTrue_192 ?_
                      refine v_isub X dX8_isTrue_193 ?_
                      refine v_istore X dX8_isTrue_194 (by decide) rfl ?_
                      dsimp only [List.set]
                      refine v_aload_n X dX8_isTrue_196 rfl ?_
                      refine v_iload X dX8_isTrue_197 rfl ?_
                      refine res_E X (run_V X (c_X8_speed (g := g) (by first | assumption | omega) (by first | assumption | omega) (by first | assumption | omega)) gX8_isTrue_X8_speed rfl hdX8_speed ⟨(Nat.le_of_ble_eq_true rfl), (Nat.le_of_ble_eq_true rfl)⟩ ⟨(Nat.le_of_ble_eq_true rfl), (Nat.le_of_ble_eq_true rfl)⟩ 0 rfl rfl rfl [0, 1, 2, 3, 4, 5, 6, 7, 8, 9, 10] rfl rfl rfl rfl (by simp [Value.category]) dX8_isTrue_199) [0, 1, 2, 3, 4, 5, 6, 7, 8, 9, 10] rfl rfl ?_
                      refine v_iload X dX8_isTrue_202 rfl ?_
                      refine v_imul X dX8_isTrue_204 ?_
                      refine v_aload_n X dX8_isTrue_205 rfl ?_
                      refine v_get X (fun _ h => List.mem_cons_of_mem _ (List.mem_append_right _ h)) 0 rfl rfl 4 (by decide) rfl (List.mem_of_getElem? (i := 5) rfl) rfl dX8_isTrue_206 ?_
                      refine v_iload_n X dX8_isTrue_209 rfl ?_
                      refine v_iload X dX8_isTrue_210 rfl ?_
                      refine v_iadd X dX8_isTrue_212 ?_
                      refine v_iald X 3 rfl (by omega) (by omega) (by omega) dX8_isTrue_213 hfi (fun zj ezj lzj uzj => ?_)
                      rw [show zj = mAr fi fr (fc 1 - 1) from ezj]
                      refine v_iload X dX8_isTrue_214 rfl ?_
                      refine v_imul X dX8_isTrue_216 ?_
                      refine v_isub X dX8_isTrue_217 ?_
                      refine v_iload X dX8_isTrue_218 rfl ?_
                      refine res_E X (run_S X (c_X8_rest (g := g) (by first | assumption | omega) (by first | assumption | omega) (by first | assumption | omega)) gX8_isTrue_X8_rest rfl hdX8_rest.2 ⟨(Nat.le_of_ble_eq_true rfl), (Nat.le_of_ble_eq_true rfl)⟩ ⟨(Nat.le_of_ble_eq_true rfl), (Nat.le_of_ble_eq_true rfl)⟩ [] rfl rfl rfl rfl (by simp [Value.category]) dX8_isTrue_220) [] rfl rfl ?_
                      rw [show restI (spdM fc (fc 1 - 1) * mX fc fi fr pa bu t - mAr fi fr (fc 1 - 1) * mTu fc bu) (mWh fc pa bu) = mTm fc fi fr pa bu (fc 1 - 1) (mX fc fi fr pa bu t) from rfl]
                      refine v_istore X dX8_isTrue_223 (by decide) rfl ?_
                      dsimp only [List.set]
                      refine v_iload X dX8_isTrue_225 rfl ?_
                      refine v_iload X dX8_isTrue_227 rfl ?_
                      refine v_iload X dX8_isTrue_229 rfl ?_
                      refine v_isub X dX8_isTrue_231 ?_
                      refine v_icmp_le (tgt := 243) X dX8_isTrue_232 (by decide) (by omega) (by omega) (fun c25 => ?_) (fun c25 => ?_)
                      · skip
                        refine v_iload X dX8_isTrue_243 rfl ?_
                        refine v_istore X dX8_isTrue_245 (by decide) rfl ?_
                        dsimp only [List.set]
                        refine v_aload_n X dX8_isTrue_247 rfl ?_
                        refine v_iload X dX8_isTrue_248 rfl ?_
                        refine v_if_eq (tgt := 262) X dX8_isTrue_250 (by decide) (by omega) (fun c26 => ?_) (fun c26 => ?_)
                        · skip
                          refine v_iload X dX8_isTrue_262 rfl ?_
                          refine v_goto (tgt := 271) X dX8_isTrue_264 (by decide) ?_
                          refine v_put X (fun _ h => List.mem_cons_of_mem _ (List.mem_append_right _ h)) tyX8 tyX8_ok nmX8 0 rfl rfl 19 (by decide) rfl (List.mem_of_getElem? (i := 2) rfl) rfl rfl rfl (Nat.le_of_ble_eq_true rfl) dX8_isTrue_271 ?_
                          dsimp only [List.set, wMod]
                          refine v_aload_n X dX8_isTrue_274 rfl ?_
                          refine v_iload X dX8_isTrue_275 rfl ?_
                          refine v_put X (fun _ h => List.mem_cons_of_mem _ (List.mem_append_right _ h)) tyX8 tyX8_ok nmX8 0 rfl rfl 20 (by decide) rfl (List.mem_of_getElem? (i := 3) rfl) rfl rfl rfl (Nat.le_of_ble_eq_true rfl) dX8_isTrue_277 ?_
                          dsimp only [List.set, wMod]
                          refine v_iconst X dX8_isTrue_280 ?_
                          refine v_istore X dX8_isTrue_281 (by decide) rfl ?_
                          dsimp only [List.set]
                          refine v_iinc X dX8_isTrue_283 rfl (by decide) rfl ?_
                          dsimp only [List.set]
                          refine v_goto (tgt := 63) X dX8_isTrue_286 (by decide) ?_
                          refine v_drop 9 ?_
                          dsimp only [List.set]
                          refine v_drop 10 ?_
                          dsimp only [List.set]
                          refine v_drop 11 ?_
                          dsimp only [List.set]
                          refine v_drop 12 ?_
                          dsimp only [List.set]
                          refine v_drop 13 ?_
                          dsimp only [List.set]
                          exact ih63 _ _ _ _ (by omega) (by
                              rw [lnN_s h1.1, ← h2]; simp only [show ((t.toNat : Nat) : Int) = t by omega]
                              rcases f1 with f1 | f1
                              · first
                                | (exfalso; omega)
                                | (rw [if_pos (pB_iff.mpr f1.2)]; first | (rw [if_pos (by omega)]; omega) | (rw [if_neg (by omega)]))
                              · first
                                | (exfalso; omega)
                                | rw [if_neg (fun z => f1.2 (pB_iff.mp z))]) (by
                              rcases f1 with f1 | f1
                              · first
                                | (exfalso; omega)
                                | exact Or.inr ⟨rfl, ⟨t, h1.1, by omega, f1.2⟩, rfl, by omega, by omega⟩
                              · rcases h3 with h3 | h3
                                · first
                                  | exact Or.inl ⟨h3.1, fun i g1 g2 => by
                                      by_cases e : i = t
                                      · rw [e]; exact f1.2
                                      · exact h3.2.1 i g1 (by omega), h3.2.2⟩
                                  | (exfalso; omega)
                                · first
                                  | exact Or.inr ⟨h3.1, h3.2.1.elim (fun i q => ⟨i, q.1, by omega, q.2.2⟩), h3.2.2⟩
                                  | (exfalso; omega)) (by omega)
                        · skip
                          refine v_iload X dX8_isTrue_253 rfl ?_
                          refine v_aload_n X dX8_isTrue_255 rfl ?_
                          refine v_get X (fun _ h => List.mem_cons_of_mem _ (List.mem_append_right _ h)) 0 rfl rfl 19 (by decide) rfl (List.mem_of_getElem? (i := 2) rfl) rfl dX8_isTrue_256 ?_
                          refine v_icmp_ge (tgt := 267) X dX8_isTrue_259 (by decide) (by omega) (by omega) (fun c27 => ?_) (fun c27 => ?_)
                          · skip
                            refine v_aload_n X dX8_isTrue_267 rfl ?_
                            refine v_get X (fun _ h => List.mem_cons_of_mem _ (List.mem_append_right _ h)) 0 rfl rfl 19 (by decide) rfl (List.mem_of_getElem? (i := 2) rfl) rfl dX8_isTrue_268 ?_
                            refine v_put X (fun _ h => List.mem_cons_of_mem _ (List.mem_append_right _ h)) tyX8 tyX8_ok nmX8 0 rfl rfl 19 (by decide) rfl (List.mem_of_getElem? (i := 2) rfl) rfl rfl rfl (Nat.le_of_ble_eq_true rfl) dX8_isTrue_271 ?_
                            dsimp only [List.set, wMod]
                            refine v_aload_n X dX8_isTrue_274 rfl ?_
                            refine v_iload X dX8_isTrue_275 rfl ?_
                            refine v_put X (fun _ h => List.mem_cons_of_mem _ (List.mem_append_right _ h)) tyX8 tyX8_ok nmX8 0 rfl rfl 20 (by decide) rfl (List.mem_of_getElem? (i := 3) rfl) rfl rfl rfl (Nat.le_of_ble_eq_true rfl) dX8_isTrue_277 ?_
                            dsimp only [List.set, wMod]
                            refine v_iconst X dX8_isTrue_280 ?_
                            refine v_istore X dX8_isTrue_281 (by decide) rfl ?_
                            dsimp only [List.set]
                            refine v_iinc X dX8_isTrue_283 rfl (by decide) rfl ?_
                            dsimp only [List.set]
                            refine v_goto (tgt := 63) X dX8_isTrue_286 (by decide) ?_
                            refine v_drop 9 ?_
                            dsimp only [List.set]
                            refine v_drop 10 ?_
                            dsimp only [List.set]
                            refine v_drop 11 ?_
                            dsimp only [List.set]
                            refine v_drop 12 ?_
                            dsimp only [List.set]
                            refine v_drop 13 ?_
                            dsimp only [List.set]
                            exact ih63 _ _ _ _ (by omega) (by
                                rw [lnN_s h1.1, ← h2]; simp only [show ((t.toNat : Nat) : Int) = t by omega]
                                rcases f1 with f1 | f1
                                · first
                                  | (exfalso; omega)
                                  | (rw [if_pos (pB_iff.mpr f1.2)]; first | (rw [if_pos (by omega)]; omega) | (rw [if_neg (by omega)]))
                                · first
                                  | (exfalso; omega)
                                  | rw [if_neg (fun z => f1.2 (pB_iff.mp z))]) (by
                                rcases f1 with f1 | f1
                                · first
                                  | (exfalso; omega)
                                  | exact Or.inr ⟨rfl, ⟨t, h1.1, by omega, f1.2⟩, rfl, by omega, by omega⟩
                                · rcases h3 with h3 | h3
                                  · first
                                    | exact Or.inl ⟨h3.1, fun i g1 g2 => by
                                        by_cases e : i = t
                                        · rw [e]; exact f1.2
                                        · exact h3.2.1 i g1 (by omega), h3.2.2⟩
                                    | (exfalso; omega)
                                  · first
                                    | exact Or.inr ⟨h3.1, h3.2.1.elim (fun i q => ⟨i, q.1, by omega, q.2.2⟩), h3.2.2⟩
                                    | (exfalso; omega)) (by omega)
                          · skip
                            refine v_iload X dX8_isTrue_262 rfl ?_
                            refine v_goto (tgt := 271) X dX8_isTrue_264 (by decide) ?_
                            refine v_put X (fun _ h => List.mem_cons_of_mem _ (List.mem_append_right _ h)) tyX8 tyX8_ok nmX8 0 rfl rfl 19 (by decide) rfl (List.mem_of_getElem? (i := 2) rfl) rfl rfl rfl (Nat.le_of_ble_eq_true rfl) dX8_isTrue_271 ?_
                            dsimp only [List.set, wMod]
                            refine v_aload_n X dX8_isTrue_274 rfl ?_
                            refine v_iload X dX8_isTrue_275 rfl ?_
                            refine v_put X (fun _ h => List.mem_cons_of_mem _ (List.mem_append_right _ h)) tyX8 tyX8_ok nmX8 0 rfl rfl 20 (by decide) rfl (List.mem_of_getElem? (i := 3) rfl) rfl rfl rfl (Nat.le_of_ble_eq_true rfl) dX8_isTrue_277 ?_
                            dsimp only [List.set, wMod]
                            refine v_iconst X dX8_isTrue_280 ?_
                            refine v_istore X dX8_isTrue_281 (by decide) rfl ?_
                            dsimp only [List.set]
                            refine v_iinc X dX8_isTrue_283 rfl (by decide) rfl ?_
                            dsimp only [List.set]
                            refine v_goto (tgt := 63) X dX8_isTrue_286 (by decide) ?_
                            refine v_drop 9 ?_
                            dsimp only [List.set]
                            refine v_drop 10 ?_
                            dsimp only [List.set]
                            refine v_drop 11 ?_
                            dsimp only [List.set]
                            refine v_drop 12 ?_
                            dsimp only [List.set]
                            refine v_drop 13 ?_
                            dsimp only [List.set]
                            exact ih63 _ _ _ _ (by omega) (by
                                rw [lnN_s h1.1, ← h2]; simp only [show ((t.toNat : Nat) : Int) = t by omega]
                                rcases f1 with f1 | f1
                                · first
                                  | (exfalso; omega)
                                  | (rw [if_pos (pB_iff.mpr f1.2)]; first | (rw [if_pos (by omega)]; omega) | (rw [if_neg (by omega)]))
                                · first
                                  | (exfalso; omega)
                                  | rw [if_neg (fun z => f1.2 (pB_iff.mp z))]) (by
                                rcases f1 with f1 | f1
                                · first
                                  | (exfalso; omega)
                                  | exact Or.inr ⟨rfl, ⟨t, h1.1, by omega, f1.2⟩, rfl, by omega, by omega⟩
                                · rcases h3 with h3 | h3
                                  · first
                                    | exact Or.inl ⟨h3.1, fun i g1 g2 => by
                                        by_cases e : i = t
                                        · rw [e]; exact f1.2
                                        · exact h3.2.1 i g1 (by omega), h3.2.2⟩
                                    | (exfalso; omega)
                                  · first
                                    | exact Or.inr ⟨h3.1, h3.2.1.elim (fun i q => ⟨i, q.1, by omega, q.2.2⟩), h3.2.2⟩
                                    | (exfalso; omega)) (by omega)
                      · skip
                        refine v_iload X dX8_isTrue_235 rfl ?_
                        refine v_iload X dX8_isTrue_237 rfl ?_
                        refine v_isub X dX8_isTrue_239 ?_
                        refine v_goto (tgt := 245) X dX8_isTrue_240 (by decide) ?_
                        refine v_istore X dX8_isTrue_245 (by decide) rfl ?_
                        dsimp only [List.set]
                        refine v_aload_n X dX8_isTrue_247 rfl ?_
                        refine v_iload X dX8_isTrue_248 rfl ?_
                        refine v_if_eq (tgt := 262) X dX8_isTrue_250 (by decide) (by omega) (fun c28 => ?_) (fun c28 => ?_)
                        · skip
                          refine v_iload X dX8_isTrue_262 rfl ?_
                          refine v_goto (tgt := 271) X dX8_isTrue_264 (by decide) ?_
                          refine v_put X (fun _ h => List.mem_cons_of_mem _ (List.mem_append_right _ h)) tyX8 tyX8_ok nmX8 0 rfl rfl 19 (by decide) rfl (List.mem_of_getElem? (i := 2) rfl) rfl rfl rfl (Nat.le_of_ble_eq_true rfl) dX8_isTrue_271 ?_
                          dsimp only [List.set, wMod]
                          refine v_aload_n X dX8_isTrue_274 rfl ?_
                          refine v_iload X dX8_isTrue_275 rfl ?_
                          refine v_put X (fun _ h => List.mem_cons_of_mem _ (List.mem_append_right _ h)) tyX8 tyX8_ok nmX8 0 rfl rfl 20 (by decide) rfl (List.mem_of_getElem? (i := 3) rfl) rfl rfl rfl (Nat.le_of_ble_eq_true rfl) dX8_isTrue_277 ?_
                          dsimp only [List.set, wMod]
                          refine v_iconst X dX8_isTrue_280 ?_
                          refine v_istore X dX8_isTrue_281 (by decide) rfl ?_
                          dsimp only [List.set]
                          refine v_iinc X dX8_isTrue_283 rfl (by decide) rfl ?_
                          dsimp only [List.set]
                          refine v_goto (tgt := 63) X dX8_isTrue_286 (by decide) ?_
                          refine v_drop 9 ?_
                          dsimp only [List.set]
                          refine v_drop 10 ?_
                          dsimp only [List.set]
                          refine v_drop 11 ?_
                          dsimp only [List.set]
                          refine v_drop 12 ?_
                          dsimp only [List.set]
                          refine v_drop 13 ?_
                          dsimp only [List.set]
                          exact ih63 _ _ _ _ (by omega) (by
                              rw [lnN_s h1.1, ← h2]; simp only [show ((t.toNat : Nat) : Int) = t by omega]
                              rcases f1 with f1 | f1
                              · first
                                | (exfalso; omega)
                                | (rw [if_pos (pB_iff.mpr f1.2)]; first | (rw [if_pos (by omega)]; omega) | (rw [if_neg (by omega)]))
                              · first
                                | (exfalso; omega)
                                | rw [if_neg (fun z => f1.2 (pB_iff.mp z))]) (by
                              rcases f1 with f1 | f1
                              · first
                                | (exfalso; omega)
                                | exact Or.inr ⟨rfl, ⟨t, h1.1, by omega, f1.2⟩, rfl, by omega, by omega⟩
                              · rcases h3 with h3 | h3
                                · first
                                  | exact Or.inl ⟨h3.1, fun i g1 g2 => by
                                      by_cases e : i = t
                                      · rw [e]; exact f1.2
                                      · exact h3.2.1 i g1 (by omega), h3.2.2⟩
                                  | (exfalso; omega)
                                · first
                                  | exact Or.inr ⟨h3.1, h3.2.1.elim (fun i q => ⟨i, q.1, by omega, q.2.2⟩), h3.2.2⟩
                                  | (exfalso; omega)) (by omega)
                        · skip
                          refine v_iload X dX8_isTrue_253 rfl ?_
                          refine v_aload_n X dX8_isTrue_255 rfl ?_
                          refine v_get X (fun _ h => List.mem_cons_of_mem _ (List.mem_append_right _ h)) 0 rfl rfl 19 (by decide) rfl (List.mem_of_getElem? (i := 2) rfl) rfl dX8_isTrue_256 ?_
                          refine v_icmp_ge (tgt := 267) X dX8_isTrue_259 (by decide) (by omega) (by omega) (fun c29 => ?_) (fun c29 => ?_)
                          · skip
                            refine v_aload_n X dX8_isTrue_267 rfl ?_
                            refine v_get X (fun _ h => List.mem_cons_of_mem _ (List.mem_append_right _ h)) 0 rfl rfl 19 (by decide) rfl (List.mem_of_getElem? (i := 2) rfl) rfl dX8_isTrue_268 ?_
                            refine v_put X (fun _ h => List.mem_cons_of_mem _ (List.mem_append_right _ h)) tyX8 tyX8_ok nmX8 0 rfl rfl 19 (by decide) rfl (List.mem_of_getElem? (i := 2) rfl) rfl rfl rfl (Nat.le_of_ble_eq_true rfl) dX8_isTrue_271 ?_
                            dsimp only [List.set, wMod]
                            refine v_aload_n X dX8_isTrue_274 rfl ?_
                            refine v_iload X dX8_isTrue_275 rfl ?_
                            refine v_put X (fun _ h => List.mem_cons_of_mem _ (List.mem_append_right _ h)) tyX8 tyX8_ok nmX8 0 rfl rfl 20 (by decide) rfl (List.mem_of_getElem? (i := 3) rfl) rfl rfl rfl (Nat.le_of_ble_eq_true rfl) dX8_isTrue_277 ?_
                            dsimp only [List.set, wMod]
                            refine v_iconst X dX8_isTrue_280 ?_
                            refine v_istore X dX8_isTrue_281 (by decide) rfl ?_
                            dsimp only [List.set]
                            refine v_iinc X dX8_isTrue_283 rfl (by decide) rfl ?_
                            dsimp only [List.set]
                            refine v_goto (tgt := 63) X dX8_isTrue_286 (by decide) ?_
                            refine v_drop 9 ?_
                            dsimp only [List.set]
                            refine v_drop 10 ?_
                            dsimp only [List.set]
                            refine v_drop 11 ?_
                            dsimp only [List.set]
                            refine v_drop 12 ?_
                            dsimp only [List.set]
                            refine v_drop 13 ?_
                            dsimp only [List.set]
                            exact ih63 _ _ _ _ (by omega) (by
                                rw [lnN_s h1.1, ← h2]; simp only [show ((t.toNat : Nat) : Int) = t by omega]
                                rcases f1 with f1 | f1
                                · first
                                  | (exfalso; omega)
                                  | (rw [if_pos (pB_iff.mpr f1.2)]; first | (rw [if_pos (by omega)]; omega) | (rw [if_neg (by omega)]))
                                · first
                                  | (exfalso; omega)
                                  | rw [if_neg (fun z => f1.2 (pB_iff.mp z))]) (by
                                rcases f1 with f1 | f1
                                · first
                                  | (exfalso; omega)
                                  | exact Or.inr ⟨rfl, ⟨t, h1.1, by omega, f1.2⟩, rfl, by omega, by omega⟩
                                · rcases h3 with h3 | h3
                                  · first
                                    | exact Or.inl ⟨h3.1, fun i g1 g2 => by
                                        by_cases e : i = t
                                        · rw [e]; exact f1.2
                                        · exact h3.2.1 i g1 (by omega), h3.2.2⟩
                                    | (exfalso; omega)
                                  · first
                                    | exact Or.inr ⟨h3.1, h3.2.1.elim (fun i q => ⟨i, q.1, by omega, q.2.2⟩), h3.2.2⟩
                                    | (exfalso; omega)) (by omega)
                          · skip
                            refine v_iload X dX8_isTrue_262 rfl ?_
                            refine v_goto (tgt := 271) X dX8_isTrue_264 (by decide) ?_
                            refine v_put X (fun _ h => List.mem_cons_of_mem _ (List.mem_append_right _ h)) tyX8 tyX8_ok nmX8 0 rfl rfl 19 (by decide) rfl (List.mem_of_getElem? (i := 2) rfl) rfl rfl rfl (Nat.le_of_ble_eq_true rfl) dX8_isTrue_271 ?_
                            dsimp only [List.set, wMod]
                            refine v_aload_n X dX8_isTrue_274 rfl ?_
                            refine v_iload X dX8_isTrue_275 rfl ?_
                            refine v_put X (fun _ h => List.mem_cons_of_mem _ (List.mem_append_right _ h)) tyX8 tyX8_ok nmX8 0 rfl rfl 20 (by decide) rfl (List.mem_of_getElem? (i := 3) rfl) rfl rfl rfl (Nat.le_of_ble_eq_true rfl) dX8_isTrue_277 ?_
                            dsimp only [List.set, wMod]
                            refine v_iconst X dX8_isTrue_280 ?_
                            refine v_istore X dX8_isTrue_281 (by decide) rfl ?_
                            dsimp only [List.set]
                            refine v_iinc X dX8_isTrue_283 rfl (by decide) rfl ?_
                            dsimp only [List.set]
                            refine v_goto (tgt := 63) X dX8_isTrue_286 (by decide) ?_
                            refine v_drop 9 ?_
                            dsimp only [List.set]
                            refine v_drop 10 ?_
                            dsimp only [List.set]
                            refine v_drop 11 ?_
                            dsimp only [List.set]
                            refine v_drop 12 ?_
                            dsimp only [List.set]
                            refine v_drop 13 ?_
                            dsimp only [List.set]
                            exact ih63 _ _ _ _ (by omega) (by
                                rw [lnN_s h1.1, ← h2]; simp only [show ((t.toNat : Nat) : Int) = t by omega]
                                rcases f1 with f1 | f1
                                · first
                                  | (exfalso; omega)
                                  | (rw [if_pos (pB_iff.mpr f1.2)]; first | (rw [if_pos (by omega)]; omega) | (rw [if_neg (by omega)]))
                                · first
                                  | (exfalso; omega)
                                  | rw [if_neg (fun z => f1.2 (pB_iff.mp z))]) (by
                                rcases f1 with f1 | f1
                                · first
                                  | (exfalso; omega)
                                  | exact Or.inr ⟨rfl, ⟨t, h1.1, by omega, f1.2⟩, rfl, by omega, by omega⟩
                                · rcases h3 with h3 | h3
                                  · first
                                    | exact Or.inl ⟨h3.1, fun i g1 g2 => by
                                        by_cases e : i = t
                                        · rw [e]; exact f1.2
                                        · exact h3.2.1 i g1 (by omega), h3.2.2⟩
                                    | (exfalso; omega)
                                  · first
                                    | exact Or.inr ⟨h3.1, h3.2.1.elim (fun i q => ⟨i, q.1, by omega, q.2.2⟩), h3.2.2⟩
                                    | (exfalso; omega)) (by omega)
                  · skip
                    refine v_iload X dX8_isTrue_127 rfl ?_
                    refine v_if_eq (tgt := 172) X dX8_isTrue_129 (by decide) (by omega) (fun c30 => ?_) (fun c30 => ?_)
                    · skip
                      refine v_iconst X dX8_isTrue_172 ?_
                      refine v_istore X dX8_isTrue_173 (by decide) rfl ?_
                      dsimp only [List.set]
                      refine v_iinc X dX8_isTrue_175 rfl (by decide) rfl ?_
                      dsimp only [List.set]
                      refine v_goto (tgt := 116) X dX8_isTrue_178 (by decide) ?_
                      exact ih116 _ _ _ (by rfl) (by omega) (by
                          rcases k2 with k2 | k2
                          · first
                            | (exfalso; omega)
                            | exact Or.inl ⟨rfl, fun i g1 g2 => by
                                by_cases e : i = h
                                · rw [e]; first | exact Or.inl (by assumption) | exact Or.inr (by assumption)
                                · exact k2.2 i g1 (by omega)⟩
                            | exact Or.inr ⟨rfl, h, k1.1, by assumption, fun q => q.elim (fun q => absurd q (by assumption)) (fun q => absurd q (by assumption))⟩
                          · obtain ⟨e0, i, g1, g2, g3⟩ := k2
                            first
                            | exact Or.inr ⟨rfl, i, g1, g2, g3⟩
                            | (exfalso; omega)) (by omega)
                    · skip
                      refine v_iload X dX8_isTrue_132 rfl ?_
                      refine v_iload_n X dX8_isTrue_134 rfl ?_
                      refine v_icmp_eq (tgt := 168) X dX8_isTrue_135 (by decide) (by omega) (by omega) (fun c31 => ?_) (fun c31 => ?_)
                      · skip
                        refine v_iconst X dX8_isTrue_168 ?_
                        refine v_goto (tgt := 173) X dX8_isTrue_169 (by decide) ?_
                        refine v_istore X dX8_isTrue_173 (by decide) rfl ?_
                        dsimp only [List.set]
                        refine v_iinc X dX8_isTrue_175 rfl (by decide) rfl ?_
                        dsimp only [List.set]
                        refine v_goto (tgt := 116) X dX8_isTrue_178 (by decide) ?_
                        exact ih116 _ _ _ (by rfl) (by omega) (by
                            rcases k2 with k2 | k2
                            · first
                              | (exfalso; omega)
                              | exact Or.inl ⟨rfl, fun i g1 g2 => by
                                  by_cases e : i = h
                                  · rw [e]; first | exact Or.inl (by assumption) | exact Or.inr (by assumption)
                                  · exact k2.2 i g1 (by omega)⟩
                              | exact Or.inr ⟨rfl, h, k1.1, by assumption, fun q => q.elim (fun q => absurd q (by assumption)) (fun q => absurd q (by assumption))⟩
                            · obtain ⟨e0, i, g1, g2, g3⟩ := k2
                              first
                              | exact Or.inr ⟨rfl, i, g1, g2, g3⟩
                              | (exfalso; omega)) (by omega)
                      · skip
                        have d1 := spdM_bd (fc := fc) (h := h) ht3
                        have d2 : 0 ≤ mAr fi fr h ∧ mAr fi fr h < pa := hai h (by omega) (by omega)
                        have d3 := mul_bd d1 a4
                        have d4 := mul_nn (show 0 ≤ mAr fi fr h ∧ mAr fi fr h ≤ 720 by omega) (show 0 ≤ mTu fc bu ∧ mTu fc bu ≤ 24 from t0)
                        refine v_aload_n X dX8_isTrue_138 rfl ?_
                        refine v_iload X dX8_isTrue_139 rfl ?_
                        refine res_E X (run_V X (c_X8_speed (g := g) (by first | assumption | omega) (by first | assumption | omega) (by first | assumption | omega)) gX8_isTrue_X8_speed rfl hdX8_speed ⟨(Nat.le_of_ble_eq_true rfl), (Nat.le_of_ble_eq_true rfl)⟩ ⟨(Nat.le_of_ble_eq_true rfl), (Nat.le_of_ble_eq_true rfl)⟩ 0 rfl rfl rfl [0, 1, 2, 3, 4, 5, 6, 7, 8, 9, 10] rfl rfl rfl rfl (by simp [Value.category]) dX8_isTrue_141) [0, 1, 2, 3, 4, 5, 6, 7, 8, 9, 10] rfl rfl ?_
                        refine v_iload X dX8_isTrue_144 rfl ?_
                        refine v_imul X dX8_isTrue_146 ?_
                        refine v_aload_n X dX8_isTrue_147 rfl ?_
                        refine v_get X (fun _ h => List.mem_cons_of_mem _ (List.mem_append_right _ h)) 0 rfl rfl 4 (by decide) rfl (List.mem_of_getElem? (i := 5) rfl) rfl dX8_isTrue_148 ?_
                        refine v_iload_n X dX8_isTrue_151 rfl ?_
                        refine v_iload X dX8_isTrue_152 rfl ?_
                        refine v_iadd X dX8_isTrue_154 ?_
                        refine v_iald X 3 rfl (by omega) (by omega) (by omega) dX8_isTrue_155 hfi (fun zi ezi lzi uzi => ?_)
                        rw [show zi = mAr fi fr h from ezi]
                        refine v_iload X dX8_isTrue_156 rfl ?_
                        refine v_imul X dX8_isTrue_158 ?_
                        refine v_isub X dX8_isTrue_159 ?_
                        refine v_iload X dX8_isTrue_160 rfl ?_
                        refine res_E X (run_S X (c_X8_rest (g := g) (by first | assumption | omega) (by first | assumption | omega) (by first | assumption | omega)) gX8_isTrue_X8_rest rfl hdX8_rest.2 ⟨(Nat.le_of_ble_eq_true rfl), (Nat.le_of_ble_eq_true rfl)⟩ ⟨(Nat.le_of_ble_eq_true rfl), (Nat.le_of_ble_eq_true rfl)⟩ [] rfl rfl rfl rfl (by simp [Value.category]) dX8_isTrue_162) [] rfl rfl ?_
                        rw [show restI (spdM fc h * mX fc fi fr pa bu t - mAr fi fr h * mTu fc bu) (mWh fc pa bu) = mTm fc fi fr pa bu h (mX fc fi fr pa bu t) from rfl]
                        refine v_if_ne (tgt := 172) X dX8_isTrue_165 (by decide) (by have := mTm_bd (fi := fi) (fr := fr) (h := h) (x := mX fc fi fr pa bu t) wb; omega) (fun c33 => ?_) (fun c33 => ?_)
                        · skip
                          refine v_iconst X dX8_isTrue_172 ?_
                          refine v_istore X dX8_isTrue_173 (by decide) rfl ?_
                          dsimp only [List.set]
                          refine v_iinc X dX8_isTrue_175 rfl (by decide) rfl ?_
                          dsimp only [List.set]
                          refine v_goto (tgt := 116) X dX8_isTrue_178 (by decide) ?_
                          exact ih116 _ _ _ (by rfl) (by omega) (by
                              rcases k2 with k2 | k2
                              · first
                                | (exfalso; omega)
                                | exact Or.inl ⟨rfl, fun i g1 g2 => by
                                    by_cases e : i = h
                                    · rw [e]; first | exact Or.inl (by assumption) | exact Or.inr (by assumption)
                                    · exact k2.2 i g1 (by omega)⟩
                                | exact Or.inr ⟨rfl, h, k1.1, by assumption, fun q => q.elim (fun q => absurd q (by assumption)) (fun q => absurd q (by assumption))⟩
                              · obtain ⟨e0, i, g1, g2, g3⟩ := k2
                                first
                                | exact Or.inr ⟨rfl, i, g1, g2, g3⟩
                                | (exfalso; omega)) (by omega)
                        · skip
                          refine v_iconst X dX8_isTrue_168 ?_
                          refine v_goto (tgt := 173) X dX8_isTrue_169 (by decide) ?_
                          refine v_istore X dX8_isTrue_173 (by decide) rfl ?_
                          dsimp only [List.set]
                          refine v_iinc X dX8_isTrue_175 rfl (by decide) rfl ?_
                          dsimp only [List.set]
                          refine v_goto (tgt := 116) X dX8_isTrue_178 (by decide) ?_
                          exact ih116 _ _ _ (by rfl) (by omega) (by
                              rcases k2 with k2 | k2
                              · first
                                | (exfalso; omega)
                                | exact Or.inl ⟨rfl, fun i g1 g2 => by
                                    by_cases e : i = h
                                    · rw [e]; first | exact Or.inl (by assumption) | exact Or.inr (by assumption)
                                    · exact k2.2 i g1 (by omega)⟩
                                | exact Or.inr ⟨rfl, h, k1.1, by assumption, fun q => q.elim (fun q => absurd q (by assumption)) (fun q => absurd q (by assumption))⟩
                              · obtain ⟨e0, i, g1, g2, g3⟩ := k2
                                first
                                | exact Or.inr ⟨rfl, i, g1, g2, g3⟩
                                | (exfalso; omega)) (by omega)
              exact L116 _ _ _ _ (by unfold mX; (first | rw [if_pos (by assumption)] | rw [if_neg (by omega)]) <;> rfl) (by omega) (by exact Or.inl ⟨rfl, fun i g1 g2 => by exfalso; omega⟩) (Nat.lt_succ_self _)
      exact L63 _ _ _ _ _ (by omega) (by rfl) (by exact Or.inl ⟨rfl, fun i g1 g2 => by exfalso; omega, rfl⟩) (Nat.lt_succ_self _)
    · skip
      refine v_aload_n X dX8_isTrue_33 rfl ?_
      refine v_iconst X dX8_isTrue_34 ?_
      refine v_put X (fun _ h => List.mem_cons_of_mem _ (List.mem_append_right _ h)) tyX8 tyX8_ok nmX8 0 rfl rfl 19 (by decide) rfl (List.mem_of_getElem? (i := 2) rfl) rfl rfl rfl (Nat.le_of_ble_eq_true rfl) dX8_isTrue_35 ?_
      dsimp only [List.set, wMod]
      refine v_iconst X dX8_isTrue_38 ?_
      refine v_zret X Y dX8_isTrue_39 (by first | decide | omega | (split <;> omega)) (u := (0, 1)) ?_ (by rfl)
      exact ⟨(pI_1 (Or.inl (by omega))).symm, by unfold mLs; rw [if_pos (by omega)], fun _ => by unfold mLo; rw [if_pos (by omega)]⟩
  refine v_iload_n X dX8_isTrue_0 rfl ?_
  refine v_if_ne (tgt := 8) X dX8_isTrue_1 (by decide) (by omega) (fun c34 => ?_) (fun c34 => ?_)
  · skip
    have e0 : (0 : Int) = basI bu := (if_neg (by assumption)).symm
    refine v_iconst X dX8_isTrue_8 ?_
    rw [e0]
    refine v_istore X dX8_isTrue_9 (by decide) rfl ?_
    dsimp only [List.set]
    exact J11
  · skip
    have e0 : (1 : Int) = basI bu := (if_pos (by assumption)).symm
    refine v_iconst X dX8_isTrue_4 ?_
    refine v_goto (tgt := 9) X dX8_isTrue_5 (by decide) ?_
    rw [e0]
    refine v_istore X dX8_isTrue_9 (by decide) rfl ?_
    dsimp only [List.set]
    exact J11

