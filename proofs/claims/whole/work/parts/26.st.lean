theorem hdJ0_coder_7d493 : yJ0_coder_7d493.cls = RJ0 ∧ yJ0_coder_7d493.cls ≠ "java/lang/invoke/MethodHandle" ∧ yJ0_coder_7d493.cls ≠ "java/lang/invoke/VarHandle" ∧ (parseMethodDescriptor yJ0_coder_7d493.desc).map (fun d => d.parameters.length) = some 0 := ⟨rfl, by decide +kernel, by decide +kernel, by decide +kernel⟩
theorem hdJ0_length_8abf5 : yJ0_length_8abf5.cls = RJ0 ∧ yJ0_length_8abf5.cls ≠ "java/lang/invoke/MethodHandle" ∧ yJ0_length_8abf5.cls ≠ "java/lang/invoke/VarHandle" ∧ (parseMethodDescriptor yJ0_length_8abf5.desc).map (fun d => d.parameters.length) = some 0 := ⟨rfl, by decide +kernel, by decide +kernel, by decide +kernel⟩

theorem c_J0_coder {g : Gx} (i : Nat) (hi : i < 7) : CtE g yJ0_coder_7d493 wsJ0_coder_7d493 0 0 [.ref (g.2.2.2.2.1 i)] ([]) (0) ([]) := by
  refine m_go (cc := cJ0_coder_7d493) (nL := 1) (by decide +kernel) rfl (Nat.le_of_ble_eq_true rfl) (fun x X Y hnm => ?_)
  refine v_eq (lo2 := [some (.ref (g.2.2.2.2.1 i))]) rfl rfl rfl rfl ?_
  refine v_getsC X (List.mem_of_getElem? (i := 1) rfl) dJ0_coder_7d493_0 ?_
  refine v_if_eq (tgt := 13) X dJ0_coder_7d493_3 (by decide) (by omega) (fun c1 => ?_) (fun c1 => ?_)
  · exfalso; omega
  refine v_aload_n X dJ0_coder_7d493_6 rfl ?_
  refine v_getSc X i hi (List.mem_of_getElem? (i := 2) rfl) dJ0_coder_7d493_7 ?_
  refine v_goto (tgt := 14) X dJ0_coder_7d493_10 (by decide) ?_
  exact v_bret X Y dJ0_coder_7d493_14 (Or.inl rfl) (u := ()) rfl rfl
