theorem hdJ3_checkIndex_8e157 : yJ3_checkIndex_8e157.cls = RJ3 ∧ yJ3_checkIndex_8e157.cls ≠ "java/lang/invoke/MethodHandle" ∧ yJ3_checkIndex_8e157.cls ≠ "java/lang/invoke/VarHandle" ∧ (parseMethodDescriptor yJ3_checkIndex_8e157.desc).map (fun d => d.parameters.length) = some 3 := ⟨rfl, by decide +kernel, by decide +kernel, by decide +kernel⟩
theorem hdJ0_checkIndex_df160 : yJ0_checkIndex_df160.cls = RJ0 ∧ yJ0_checkIndex_df160.cls ≠ "java/lang/invoke/MethodHandle" ∧ yJ0_checkIndex_df160.cls ≠ "java/lang/invoke/VarHandle" ∧ (parseMethodDescriptor yJ0_checkIndex_df160.desc).map (fun d => d.parameters.length) = some 2 := ⟨rfl, by decide +kernel, by decide +kernel, by decide +kernel⟩
theorem hdJ1_charAt_3b067 : yJ1_charAt_3b067.cls = RJ1 ∧ yJ1_charAt_3b067.cls ≠ "java/lang/invoke/MethodHandle" ∧ yJ1_charAt_3b067.cls ≠ "java/lang/invoke/VarHandle" ∧ (parseMethodDescriptor yJ1_charAt_3b067.desc).map (fun d => d.parameters.length) = some 2 := ⟨rfl, by decide +kernel, by decide +kernel, by decide +kernel⟩
theorem hdJ0_charAt_5068e : yJ0_charAt_5068e.cls = RJ0 ∧ yJ0_charAt_5068e.cls ≠ "java/lang/invoke/MethodHandle" ∧ yJ0_charAt_5068e.cls ≠ "java/lang/invoke/VarHandle" ∧ (parseMethodDescriptor yJ0_charAt_5068e.desc).map (fun d => d.parameters.length) = some 1 := ⟨rfl, by decide +kernel, by decide +kernel, by decide +kernel⟩

theorem c_J3_checkIndex {g : Gx} {i n : Int} {v : Value} (hv : v = .null ∨ ∃ t : Nat, v = .ref t) (h0 : 0 ≤ i) (h1 : i < n) (h2 : n ≤ 2147483647) : CtE g yJ3_checkIndex_8e157 wsJ3_checkIndex_8e157 0 0 [.int (iI i), .int (iI n), v] ([]) (i) ([]) := by
  rcases hv with rfl | ⟨t, rfl⟩
  · refine m_go (cc := cJ3_checkIndex_8e157) (nL := 3) (by decide +kernel) rfl (Nat.le_of_ble_eq_true rfl) (fun x X Y hnm => ?_)
    refine v_eq (lo2 := [some (.int (iI i)), some (.int (iI n)), some (.null)]) rfl rfl rfl rfl ?_
    refine v_iload_n X dJ3_checkIndex_8e157_0 rfl ?_
    refine v_if_lt (tgt := 9) X dJ3_checkIndex_8e157_1 (by decide) (by omega) (fun c1 => ?_) (fun c1 => ?_)
    · exfalso; omega
    refine v_iload_n X dJ3_checkIndex_8e157_4 rfl ?_
    refine v_iload_n X dJ3_checkIndex_8e157_5 rfl ?_
    refine v_icmp_lt (tgt := 16) X dJ3_checkIndex_8e157_6 (by decide) (by omega) (by omega) (fun c2 => ?_) (fun c2 => ?_)
    · refine v_iload_n X dJ3_checkIndex_8e157_16 rfl ?_
      exact v_iret X Y dJ3_checkIndex_8e157_17 (u := ()) rfl rfl
    · exfalso; omega
  · refine m_go (cc := cJ3_checkIndex_8e157) (nL := 3) (by decide +kernel) rfl (Nat.le_of_ble_eq_true rfl) (fun x X Y hnm => ?_)
    refine v_eq (lo2 := [some (.int (iI i)), some (.int (iI n)), some (.ref t)]) rfl rfl rfl rfl ?_
    refine v_iload_n X dJ3_checkIndex_8e157_0 rfl ?_
    refine v_if_lt (tgt := 9) X dJ3_checkIndex_8e157_1 (by decide) (by omega) (fun c1 => ?_) (fun c1 => ?_)
    · exfalso; omega
    refine v_iload_n X dJ3_checkIndex_8e157_4 rfl ?_
    refine v_iload_n X dJ3_checkIndex_8e157_5 rfl ?_
    refine v_icmp_lt (tgt := 16) X dJ3_checkIndex_8e157_6 (by decide) (by omega) (by omega) (fun c2 => ?_) (fun c2 => ?_)
    · refine v_iload_n X dJ3_checkIndex_8e157_16 rfl ?_
      exact v_iret X Y dJ3_checkIndex_8e157_17 (u := ()) rfl rfl
    · exfalso; omega

theorem c_J0_checkIndex {g : Gx} {i n : Int} (h0 : 0 ≤ i) (h1 : i < n) (h2 : n ≤ 2147483647) : CtW g yJ0_checkIndex_df160 wsJ0_checkIndex_df160 1 22 [.int (iI i), .int (iI n)] ([]) ([]) := by
  refine m_go (cc := cJ0_checkIndex_df160) (nL := 2) (by decide +kernel) rfl (Nat.le_of_ble_eq_true rfl) (fun x X Y hnm => ?_)
  refine v_eq (lo2 := [some (.int (iI i)), some (.int (iI n))]) rfl rfl rfl rfl ?_
  refine v_iload_n X dJ0_checkIndex_df160_0 rfl ?_
  refine v_iload_n X dJ0_checkIndex_df160_1 rfl ?_
  refine v_getsF X (List.mem_of_getElem? (i := 1) rfl) dJ0_checkIndex_df160_2 (fun v hv => ?_)
  refine res_E X (run_S X (c_J3_checkIndex (g := g) hv h0 h1 h2) gJ0_checkIndex_df160_J3_checkIndex_8e157 rfl hdJ3_checkIndex_8e157.2 ⟨(Nat.le_of_ble_eq_true rfl), (Nat.le_of_ble_eq_true rfl)⟩ ⟨(Nat.le_of_ble_eq_true rfl), (Nat.le_of_ble_eq_true rfl)⟩ [] rfl rfl rfl rfl (by simp [Value.category]) dJ0_checkIndex_df160_5) [] rfl rfl ?_
  refine v_pop X dJ0_checkIndex_df160_8 rfl ?_
  exact v_vret X Y dJ0_checkIndex_df160_9 (u := ()) trivial rfl

theorem c_J1_charAt {g : Gx} (i : Nat) {j : Int} (hi : i < 7) (h0 : 0 ≤ j) (h1 : j < (lenQ.getD i 0 : Nat)) : CtE g yJ1_charAt_3b067 wsJ1_charAt_3b067 2 43 [.ref (g.2.2.2.2.2 i), .int (iI j)] ([]) (chQ i j) ([]) := by
  have h5 := lenQ_5 hi
  refine m_go (cc := cJ1_charAt_3b067) (nL := 2) (by decide +kernel) rfl (Nat.le_of_ble_eq_true rfl) (fun x X Y hnm => ?_)
  refine v_eq (lo2 := [some (.ref (g.2.2.2.2.2 i)), some (.int (iI j))]) rfl rfl rfl rfl ?_
  refine v_iload_n X dJ1_charAt_3b067_0 rfl ?_
  refine v_aload_n X dJ1_charAt_3b067_1 rfl ?_
  refine v_alenS X i hi dJ1_charAt_3b067_2 ?_
  refine res_W X (run_S X (c_J0_checkIndex (g := g) h0 h1 (by omega)) gJ1_charAt_3b067_J0_checkIndex_df160 rfl hdJ0_checkIndex_df160.2 ⟨(Nat.le_of_ble_eq_true rfl), (Nat.le_of_ble_eq_true rfl)⟩ ⟨(Nat.le_of_ble_eq_true rfl), (Nat.le_of_ble_eq_true rfl)⟩ [] rfl rfl rfl rfl (by simp [Value.category]) dJ1_charAt_3b067_3) [] rfl rfl rfl ?_
  dsimp only [patch]
  refine v_aload_n X dJ1_charAt_3b067_6 rfl ?_
  refine v_iload_n X dJ1_charAt_3b067_7 rfl ?_
  refine v_baldS X i hi h0 h1 (by omega) dJ1_charAt_3b067_8 ?_
  refine v_sipush X dJ1_charAt_3b067_9 (by decide) ?_
  refine v_iand X dJ1_charAt_3b067_12 ?_
  refine v_i2c X dJ1_charAt_3b067_13 ?_
  rw [chQ_c hi h0 h1]
  exact v_cret X Y dJ1_charAt_3b067_14 hi h0 h1 (u := ()) rfl rfl

theorem c_J0_charAt {g : Gx} (i : Nat) {j : Int} (hi : i < 7) (h0 : 0 ≤ j) (h1 : j < (lenQ.getD i 0 : Nat)) : CtE g yJ0_charAt_5068e wsJ0_charAt_5068e 3 64 [.ref (g.2.2.2.2.1 i), .int (iI j)] ([]) (chQ i j) ([]) := by
  refine m_go (cc := cJ0_charAt_5068e) (nL := 2) (by decide +kernel) rfl (Nat.le_of_ble_eq_true rfl) (fun x X Y hnm => ?_)
  refine v_eq (lo2 := [some (.ref (g.2.2.2.2.1 i)), some (.int (iI j))]) rfl rfl rfl rfl ?_
  refine v_aload_n X dJ0_charAt_5068e_0 rfl ?_
  refine res_E X (run_VT X i hi (c_J0_isLatin1 (g := g) i hi) gJ0_charAt_5068e_J0_isLatin1_aae02 rfl hdJ0_isLatin1_aae02 ⟨(Nat.le_of_ble_eq_true rfl), (Nat.le_of_ble_eq_true rfl)⟩ ⟨(Nat.le_of_ble_eq_true rfl), (Nat.le_of_ble_eq_true rfl)⟩ [] rfl rfl rfl rfl (by simp [Value.category]) dJ0_charAt_5068e_1) [] rfl rfl ?_
  refine v_if_eq (tgt := 16) X dJ0_charAt_5068e_4 (by decide) (by omega) (fun c1 => ?_) (fun c1 => ?_)
  · exfalso; omega
  refine v_aload_n X dJ0_charAt_5068e_7 rfl ?_
  refine v_getSv X i hi (List.mem_of_getElem? (i := 1) rfl) dJ0_charAt_5068e_8 ?_
  refine v_iload_n X dJ0_charAt_5068e_11 rfl ?_
  refine res_E X (run_S X (c_J1_charAt (g := g) i hi h0 h1) gJ0_charAt_5068e_J1_charAt_3b067 rfl hdJ1_charAt_3b067.2 ⟨(Nat.le_of_ble_eq_true rfl), (Nat.le_of_ble_eq_true rfl)⟩ ⟨(Nat.le_of_ble_eq_true rfl), (Nat.le_of_ble_eq_true rfl)⟩ [] rfl rfl rfl rfl (by simp [Value.category]) dJ0_charAt_5068e_12) [] rfl rfl ?_
  exact v_cret X Y dJ0_charAt_5068e_15 hi h0 h1 (u := ()) rfl rfl
