theorem hdJ0_coder_7d493 : yJ0_coder_7d493.cls = RJ0 ∧ yJ0_coder_7d493.cls ≠ "java/lang/invoke/MethodHandle" ∧ yJ0_coder_7d493.cls ≠ "java/lang/invoke/VarHandle" ∧ (parseMethodDescriptor yJ0_coder_7d493.desc).map (fun d => d.parameters.length) = some 0 := ⟨rfl, by decide +kernel, by decide +kernel, by decide +kernel⟩
theorem hdJ0_length_8abf5 : yJ0_length_8abf5.cls = RJ0 ∧ yJ0_length_8abf5.cls ≠ "java/lang/invoke/MethodHandle" ∧ yJ0_length_8abf5.cls ≠ "java/lang/invoke/VarHandle" ∧ (parseMethodDescriptor yJ0_length_8abf5.desc).map (fun d => d.parameters.length) = some 0 := ⟨rfl, by decide +kernel, by decide +kernel, by decide +kernel⟩
theorem hdJ0_isLatin1_aae02 : yJ0_isLatin1_aae02.cls = RJ0 ∧ yJ0_isLatin1_aae02.cls ≠ "java/lang/invoke/MethodHandle" ∧ yJ0_isLatin1_aae02.cls ≠ "java/lang/invoke/VarHandle" ∧ (parseMethodDescriptor yJ0_isLatin1_aae02.desc).map (fun d => d.parameters.length) = some 0 := ⟨rfl, by decide +kernel, by decide +kernel, by decide +kernel⟩

theorem c_J0_coder {g : Gx} (i : Nat) (hi : i < 7) : CtE g yJ0_coder_7d493 wsJ0_coder_7d493 0 0 [.ref (g.2.2.2.2.1 i)] ([]) (0) ([]) := by
  refine m_go (cc := cJ0_coder_7d493) (nL := 1) (by decide +kernel) rfl (Nat.le_of_ble_eq_true rfl) (fun x X Y hnm => ?_)
  refine v_eq (lo2 := [some (.ref (g.2.2.2.2.1 i))]) rfl rfl rfl rfl ?_
  refine v_getsC X (List.mem_of_getElem? (i := 1) rfl) dJ0_coder_7d493_0 ?_
  refine v_if_eq (tgt := 13) X dJ0_coder_7d493_3 (by decide) (by omega) (fun c1 => ?_) (fun c1 => ?_)
  · exfalso; omega
  refine v_aload_n X dJ0_coder_7d493_6 rfl ?_
  refine v_getSc X i hi (List.mem_of_getElem? (i := 2) rfl) dJ0_coder_7d493_7 ?_
  refine v_goto (tgt := 14) X dJ0_coder_7d493_10 (by decide) ?_
  exact v_bret X Y dJ0_coder_7d493_14 (Or.inl rfl) (u := ()) rfl rfl

theorem c_J0_isLatin1 {g : Gx} (i : Nat) (hi : i < 7) : CtE g yJ0_isLatin1_aae02 wsJ0_isLatin1_aae02 0 0 [.ref (g.2.2.2.2.1 i)] ([]) (1) ([]) := by
  refine m_go (cc := cJ0_isLatin1_aae02) (nL := 1) (by decide +kernel) rfl (Nat.le_of_ble_eq_true rfl) (fun x X Y hnm => ?_)
  refine v_eq (lo2 := [some (.ref (g.2.2.2.2.1 i))]) rfl rfl rfl rfl ?_
  refine v_getsC X (List.mem_of_getElem? (i := 1) rfl) dJ0_isLatin1_aae02_0 ?_
  refine v_if_eq (tgt := 17) X dJ0_isLatin1_aae02_3 (by decide) (by omega) (fun c1 => ?_) (fun c1 => ?_)
  · exfalso; omega
  refine v_aload_n X dJ0_isLatin1_aae02_6 rfl ?_
  refine v_getSc X i hi (List.mem_of_getElem? (i := 2) rfl) dJ0_isLatin1_aae02_7 ?_
  refine v_if_ne (tgt := 17) X dJ0_isLatin1_aae02_10 (by decide) (by omega) (fun c1 => ?_) (fun c1 => ?_)
  · exfalso; omega
  refine v_iconst X dJ0_isLatin1_aae02_13 ?_
  refine v_goto (tgt := 18) X dJ0_isLatin1_aae02_14 (by decide) ?_
  exact v_zret X Y dJ0_isLatin1_aae02_18 (Or.inr rfl) (u := ()) rfl rfl
theorem c_J0_length {g : Gx} (i : Nat) (hi : i < 7) : CtE g yJ0_length_8abf5 wsJ0_length_8abf5 1 20 [.ref (g.2.2.2.2.1 i)] ([]) ((lenQ.getD i 0 : Nat)) ([]) := by
  refine m_go (cc := cJ0_length_8abf5) (nL := 1) (by decide +kernel) rfl (Nat.le_of_ble_eq_true rfl) (fun x X Y hnm => ?_)
  refine v_eq (lo2 := [some (.ref (g.2.2.2.2.1 i))]) rfl rfl rfl rfl ?_
  refine v_aload_n X dJ0_length_8abf5_0 rfl ?_
  refine v_getSv X i hi (List.mem_of_getElem? (i := 1) rfl) dJ0_length_8abf5_1 ?_
  refine v_alenS X i hi dJ0_length_8abf5_4 ?_
  refine v_aload_n X dJ0_length_8abf5_5 rfl ?_
  refine res_E X (run_VT X i hi (c_J0_coder (g := g) i hi) gJ0_length_8abf5_J0_coder_7d493 rfl hdJ0_coder_7d493 ⟨(Nat.le_of_ble_eq_true rfl), (Nat.le_of_ble_eq_true rfl)⟩ ⟨(Nat.le_of_ble_eq_true rfl), (Nat.le_of_ble_eq_true rfl)⟩ [] rfl rfl rfl rfl (by simp [Value.category]) dJ0_length_8abf5_6) [] rfl rfl ?_
  refine v_ishr X dJ0_length_8abf5_9 ?_
  rw [show iI ((lenQ.getD i 0 : Nat) : Int) >>> (iI 0 &&& 31) = iI ((lenQ.getD i 0 : Nat) : Int) by
    have h : i = 0 ∨ i = 1 ∨ i = 2 ∨ i = 3 ∨ i = 4 ∨ i = 5 ∨ i = 6 := by omega
    rcases h with rfl | rfl | rfl | rfl | rfl | rfl | rfl <;> decide]
  exact v_iret X Y dJ0_length_8abf5_10 (u := ()) rfl rfl
