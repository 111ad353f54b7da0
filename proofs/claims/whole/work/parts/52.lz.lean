theorem bd_0 {a c : Int} (h1 : a ≤ 0) (h2 : 0 ≤ c) : Bd a c (fun _ => 0) := fun _ => ⟨h1, h2⟩
theorem fl_0 : ∀ r : Nat, r < 8 → (updI (updI (updI (updI (updI (updI (updI (updI (fun _ => 0) (Int.toNat 0) (-1)) (Int.toNat 1) (-1)) (Int.toNat 2) (-1)) (Int.toNat 3) (-1)) (Int.toNat 4) (-1)) (Int.toNat 5) (-1)) (Int.toNat 6) (-1)) (Int.toNat 7) (-1)) r = -1 := by decide
theorem inv_0 : LInv (fun _ => 0) (filI (fun _ => 0) (-1)) (fun _ => 0) (updI (updI (updI (updI (updI (updI (updI (updI (fun _ => 0) (Int.toNat 0) (-1)) (Int.toNat 1) (-1)) (Int.toNat 2) (-1)) (Int.toNat 3) (-1)) (Int.toNat 4) (-1)) (Int.toNat 5) (-1)) (Int.toNat 6) (-1)) (Int.toNat 7) (-1)) (fun _ => 0) (fun _ => 0) 0 (fun _ => 0) 0 0 (fun _ => 0) (fun _ => 0) (fun _ => 0) 0 (fun _ => 0) (fun _ => 0) (fun _ => 0) (fun _ => 0) (fun _ => 0) (fun _ => 0) (fun _ => 0) (fun _ => 0) 0 0 0 0 (fun _ => 0) (fun _ => 0) (fun _ => 0) 0 0 (fun _ => 0) (fun _ => 0) (fun _ => 0) (fun _ => 0) (fun _ => 0) (fun _ => 0) (fun _ => 0) 0 := by
  have hfl : Bd (-1) 2 (updI (updI (updI (updI (updI (updI (updI (updI (fun _ => 0) (Int.toNat 0) (-1)) (Int.toNat 1) (-1)) (Int.toNat 2) (-1)) (Int.toNat 3) (-1)) (Int.toNat 4) (-1)) (Int.toNat 5) (-1)) (Int.toNat 6) (-1)) (Int.toNat 7) (-1)) := by
    (repeat' (refine Bd_up ?_ (by decide) (by decide)))
    exact bd_0 (by decide) (by decide)
  have hCK : CK 0 0 (fun _ => 0) (fun _ => 0) (fun _ => 0) := ⟨Or.inl ⟨rfl, rfl⟩, bd_0 (by decide) (by decide), bd_0 (by decide) (by decide), bd_0 (by decide) (by decide), fun h hh => by omega⟩
  refine ⟨⟨bd_0 (by decide) (by decide), fun j => ?_, bd_0 (by decide) (by decide), hfl, bd_0 (by decide) (by decide), bd_0 (by decide) (by decide), fun r hr => ?_⟩, ⟨by decide, by decide⟩, bd_0 (by decide) (by decide), hCK, SA_0 (bd_0 (by decide) (by decide)) (bd_0 (by decide) (by decide)) (bd_0 (by decide) (by decide)), ⟨bd_0 (by decide) (by decide), bd_0 (by decide) (by decide), bd_0 (by decide) (by decide)⟩, ⟨bd_0 (by decide) (by decide), bd_0 (by decide) (by decide), ⟨by decide, by decide⟩, ⟨by decide, by decide⟩⟩, ⟨⟨by decide, by decide⟩, bd_0 (by decide) (by decide), bd_0 (by decide) (by decide), bd_0 (by decide) (by decide), Or.inl ⟨rfl, rfl⟩⟩, ⟨⟨by decide, by decide⟩, bd_0 (by decide) (by decide), bd_0 (by decide) (by decide), bd_0 (by decide) (by decide), Or.inl ⟨rfl, rfl⟩⟩, bd_0 (by decide) (by decide), bd_0 (by decide) (by decide), bd_0 (by decide) (by decide), ⟨⟨(by decide : (0 : Int) ≤ 0), (by decide : (0 : Int) ≤ 16)⟩, bd_0 (by decide) (by decide)⟩⟩
  · unfold filI
    split
    · exact ⟨Int.le_refl _, by decide⟩
    · exact (show (-1 : Int) ≤ 0 ∧ (0 : Int) ≤ 2 from ⟨by decide, by decide⟩)
  · have e1 : filI (fun _ => 0) (-1) r = -1 := if_pos (by omega)
    rw [e1, fl_0 r hr]
    exact ⟨rfl, fun _ => rfl, fun z => absurd rfl z, fun j j0 j1 => rfl⟩
set_option maxHeartbeats 8000000 in
set_option maxRecDepth 100000 in
theorem law_made {g : Gx} {x : Xt} {b L : Nat} {xs : Nat → Int32} (X : Xo g x wsL_law RL cL_law 4 room_1) (Z : Xs x b L xs) (E : Xl x b) (hL : L ≤ 3584) : V g x 0 0 [] [some (.ref b), none, none, none] 0 [] := by
  refine v_new (ci := 7) (fs := [.null, .null, .null, .null, .null, .null, .null, .null, .null, .null, .int (iI 0), .int (iI 0)]) X (fun _ h => (List.mem_append_left _ (List.mem_append_left _ (List.mem_append_left _ (List.mem_append_left _ (List.mem_append_left _ (List.mem_append_left _ (List.mem_append_left _ (List.mem_append_left _ (List.mem_append_left _ (List.mem_append_right _ h))))))))))) tyX7 tyX7_ok (List.mem_of_getElem? (i := 0) rfl) (List.mem_of_getElem? (i := 1) rfl) (List.mem_of_getElem? (i := 2) rfl) rfl (fun j hj => by rcases (show j = 0 ∨ j = 1 ∨ j = 2 ∨ j = 3 ∨ j = 4 ∨ j = 5 ∨ j = 6 ∨ j = 7 ∨ j = 8 ∨ j = 9 ∨ j = 10 ∨ j = 11 by omega) with rfl | rfl | rfl | rfl | rfl | rfl | rfl | rfl | rfl | rfl | rfl | rfl <;> rfl) (Nat.le_of_ble_eq_true rfl) (Nat.le_of_ble_eq_true rfl) dL_law_0 (fun qX7 => ?_)
  refine v_cs (c2 := 1) (s2 := 12) rfl rfl ?_
  refine v_dup X dL_law_3 rfl ?_
  refine res_N1 (wr := []) X (run_I X (c_X7_init (g := g)) gL_law_X7_init rfl (List.mem_of_getElem? (i := 2) rfl) (List.mem_of_getElem? (i := 7) rfl) (List.mem_of_getElem? (i := 8) rfl) rfl hdX7_init.2 ⟨(Nat.le_of_ble_eq_true rfl), (Nat.le_of_ble_eq_true rfl)⟩ ⟨(Nat.le_of_ble_eq_true rfl), (Nat.le_of_ble_eq_true rfl)⟩ [0] rfl rfl rfl rfl (by simp [Value.category]) dL_law_4) (fun B hB => ?_)
  have hB : B 0 = qX7 := hB
  subst hB
  refine v_cs (c2 := 32) (s2 := 710) rfl rfl ?_
  refine v_astore_n X dL_law_7 1 rfl (by decide) rfl ?_
  dsimp only [List.set]
  refine v_new (ci := 8) (fs := [.int (iI 0), .int (iI 0), .null, .null, .null, .null, .null, .null, .int (iI 0), .null, .int (iI 0), .int (iI 0), .int (iI 0), .int (iI 0), .int (iI 0), .int (iI 0), .int (iI 0), .int (iI 0), .int (iI 0), .int (iI 0), .int (iI 0), .null, .null, .null, .int (iI 0)]) X (fun _ h => (List.mem_append_left _ (List.mem_append_left _ (List.mem_append_left _ (List.mem_append_left _ (List.mem_append_left _ (List.mem_append_left _ (List.mem_append_left _ (List.mem_append_left _ (List.mem_append_right _ h)))))))))) tyX8 tyX8_ok (List.mem_of_getElem? (i := 3) rfl) (List.mem_of_getElem? (i := 4) rfl) (List.mem_of_getElem? (i := 5) rfl) rfl (fun j hj => by rcases (show j = 0 ∨ j = 1 ∨ j = 2 ∨ j = 3 ∨ j = 4 ∨ j = 5 ∨ j = 6 ∨ j = 7 ∨ j = 8 ∨ j = 9 ∨ j = 10 ∨ j = 11 ∨ j = 12 ∨ j = 13 ∨ j = 14 ∨ j = 15 ∨ j = 16 ∨ j = 17 ∨ j = 18 ∨ j = 19 ∨ j = 20 ∨ j = 21 ∨ j = 22 ∨ j = 23 ∨ j = 24 by omega) with rfl | rfl | rfl | rfl | rfl | rfl | rfl | rfl | rfl | rfl | rfl | rfl | rfl | rfl | rfl | rfl | rfl | rfl | rfl | rfl | rfl | rfl | rfl | rfl | rfl <;> rfl) (Nat.le_of_ble_eq_true rfl) (Nat.le_of_ble_eq_true rfl) dL_law_8 (fun qX8 => ?_)
  refine v_cs (c2 := 33) (s2 := 735) rfl rfl ?_
  refine v_dup X dL_law_11 rfl ?_
  refine res_N1 X (run_I X (c_X8_init (g := g)) gL_law_X8_init rfl (List.mem_of_getElem? (i := 5) rfl) (List.mem_of_getElem? (i := 83) rfl) (List.mem_of_getElem? (i := 84) rfl) rfl hdX8_init.2 ⟨(Nat.le_of_ble_eq_true rfl), (Nat.le_of_ble_eq_true rfl)⟩ ⟨(Nat.le_of_ble_eq_true rfl), (Nat.le_of_ble_eq_true rfl)⟩ [32] rfl rfl rfl rfl (by simp [Value.category]) dL_law_12) (fun A hA => ?_)
  have hA : A 0 = qX8 := hA
  subst hA
  refine v_cs (c2 := 43) (s2 := 1681) rfl rfl ?_
  refine v_astore_n X dL_law_15 2 rfl (by decide) rfl ?_
  dsimp only [List.set]
  refine v_iconst X dL_law_16 ?_
  refine v_istore_n X dL_law_17 3 rfl (by decide) rfl ?_
  dsimp only [List.set]
  have efc : clkF 0 0 (fun _ => 0) (fun _ => 0) (fun _ => 0) = (fun _ => 0) := by
    funext j
    unfold clkF
    (repeat split) <;> first | rfl | omega
  have hg : LInv (fun _ => 0) (filI (fun _ => 0) (-1)) (fun _ => 0) (updI (updI (updI (updI (updI (updI (updI (updI (fun _ => 0) (Int.toNat 0) (-1)) (Int.toNat 1) (-1)) (Int.toNat 2) (-1)) (Int.toNat 3) (-1)) (Int.toNat 4) (-1)) (Int.toNat 5) (-1)) (Int.toNat 6) (-1)) (Int.toNat 7) (-1)) (fun _ => 0) (fun _ => 0) 0 (fun _ => 0) 0 0 (fun _ => 0) (fun _ => 0) (fun _ => 0) 0 (fun _ => 0) (fun _ => 0) (fun _ => 0) (fun _ => 0) (fun _ => 0) (fun _ => 0) (fun _ => 0) (fun _ => 0) 0 0 0 0 (fun _ => 0) (fun _ => 0) (fun _ => 0) 0 0 (fun _ => 0) (fun _ => 0) (fun _ => 0) (fun _ => 0) (fun _ => 0) (fun _ => 0) (fun _ => 0) 0 := inv_0
  have key := law_loop (B := B) (A := A) X Z E hL (L + 1) 0 (by decide) (by decide) (by omega) 0 0 (fun _ => 0) (filI (fun _ => 0) (-1)) (fun _ => 0) (fun _ => 0) 0 0 0 0 0 0 0 (fun _ => 0) (fun _ => 0) (fun _ => 0) 0 0 (fun _ => 0) (fun _ => 0) (fun _ => 0) 0 0 (fun _ => 0) (fun _ => 0) (fun _ => 0) 0 0 (fun _ => 0) (fun _ => 0) (fun _ => 0) (fun _ => 0) (fun _ => 0) 0 0 0 0 0 (fun _ => 0) (fun _ => 0) 0 0 (fun _ => 0) 0 0 0 0 0 0 0 0 0 0 (updI (updI (updI (updI (updI (updI (updI (updI (fun _ => 0) (Int.toNat 0) (-1)) (Int.toNat 1) (-1)) (Int.toNat 2) (-1)) (Int.toNat 3) (-1)) (Int.toNat 4) (-1)) (Int.toNat 5) (-1)) (Int.toNat 6) (-1)) (Int.toNat 7) (-1)) (fun _ => 0) (fun _ => 0) (fun _ => 0) (fun _ => 0) (fun _ => 0) (fun _ => 0) hg
  rw [efc] at key
  exact key
set_option maxHeartbeats 4000000 in
theorem whole_start {p : Program} {e : Env} {s : State} {m : MethodId} {below : List Frame} {meth : Method} {c : Code} (l : Launch) (hflags : l.flags = flags0) {b L : Nat} {xs : Nat → Int32} (hL : L ≤ 3584) (C0 : lw_At p s m meth c b L xs) : W p l e room_1 s m #[Value.ref b] below meth c s.heap [] 0 0 (lw_Z below #[Value.ref b] s) (entryFrame m ([Value.ref b] : List Value).toArray 4) := by
  obtain ⟨hx, hb, hr, hml, hown, hts, hX, hbl, hlocks, hgv⟩ := id C0
  obtain ⟨g, rfl, hK, hE⟩ := law_g l hts hgv
  have hl := lv_entry ([.ref b]) (n := 4) (Nat.le_of_ble_eq_true rfl)
  rw [lg_entry_eq]
  generalize (lg_sl ([.ref b]) ++ List.replicate (4 - (lg_sl ([.ref b])).length) Slot.unset).toArray = ls at hl ⊢
  have hP : va_P g.2.1 vwCl [] s.heap := fun k q h => by simp at h
  have hD : va_D (fun q : Nat => s.heap.size ≤ q) [] := ⟨fun i j p q h => by simp at h, fun k q h => by simp at h⟩
  have hl2 : lvO ls 4 [some (.ref b), none, none, none] := hl
  exact law_made (g := g) (x := ((p, e, s, m, #[Value.ref b]), (below, meth, c, (fun q : Nat => s.heap.size ≤ q), 4, room_1, lw_Z below #[Value.ref b] s))) ⟨hx, hb, hml, hown, fun w hw => hts w (wsL_law_in w hw), hK, fun q h => h, hE, hlocks, rfl, rfl⟩ ⟨hX, hbl, Nat.not_le.mpr hbl⟩ ⟨rfl, rfl, hr, fun q h => h, rfl⟩ hL s.heap [] ls hP hD va_S.rf hl2
set_option maxHeartbeats 4000000 in
theorem lw_walk (l : Launch) (hflags : l.flags = flags0) (b : Addr) (xs : List Int32) : MetFree l x (headSpec (Jvm.Cond.code x code maxLocals ret :: tables_1) room_1) (lw_P b xs) (fun _ _ _ _ _ => True) lw_Q := by
  refine MetFree.of_bodyS (code := code) (maxLocals := maxLocals) (ret := ret) (by decide) ?_ ?_
  · intro args s m h hn
    obtain ⟨meth, c, h1, h2, h3, h4, h5, h6, -, -⟩ := Cond.code_spec hn (atoms_spec (ws := Jvm.Cond.code x code maxLocals ret :: tables_1) h _ List.mem_cons_self)
    exact ⟨meth, c, h1, h2, h3, h4, h5, h6⟩
  · intro p e s m args below meth c s₁ B hml0 hP _
    obtain ⟨rfl, hx, hbd, hgv⟩ := hP
    obtain ⟨scr, harrAt, hlist, hof, hsmall⟩ := hx
    obtain ⟨hcb, hkn, -, -⟩ := State.arrayAt?_spec harrAt
    have hown : s.vm.findClass R_law = some m.cls := findClass_of_methodNamed B.named
    have hts0 : ∀ c ∈ (Jvm.Cond.code x code maxLocals ret :: tables_1), c.before #[Value.ref b] s = true := atoms_spec (ws := Jvm.Cond.code x code maxLocals ret :: tables_1) B.pre
    have hts : ∀ w ∈ lw_tbl, w.before #[Value.ref b] s = true := k2_hts_sels lw_privs (fun w hw => hts0 w (List.mem_cons_of_mem _ hw)) lw_privs_ok
    have hml : c.maxLocals = 4 := B.maxLocals_eq (hts0 _ List.mem_cons_self)
    have X₀ : Stand p l e room_1 s m #[Value.ref b] below meth c s₁ [] 0 0 := Stand.of_body B
    have hh0 : s₁.heap = s.heap := by rw [B.state]; rfl
    have hsz : scr.slots.size = xs.length := by rw [← Array.length_toList, hlist, List.length_map]
    have hval : ∀ j : Nat, j < xs.length → scr.slots[j]? = some (.int (xs.getD j 0)) := fun j hj => by
      rw [← Array.getElem?_toList, hlist]
      simp [hj]
    have hbl : b < s.heap.size := (Array.getElem?_eq_some_iff.mp hcb).1
    have hX : va_X b xs.length (fun j => xs.getD j 0) s s.heap := ⟨scr, hcb, hof, hkn, hsz, hval⟩
    have K : W p l e room_1 s m #[Value.ref b] below meth c s₁.heap [] 0 0 (lw_Z below #[Value.ref b] s) (entryFrame m ([Value.ref b] : List Value).toArray 4) := by
      rw [hh0]
      exact whole_start l hflags hbd ⟨B.exec, B.bytes, B.returns, hml, hown, hts, hX, hbl, B.notSynchronized, hgv⟩
    obtain ⟨t, a1, o, b1, b2, b3⟩ := K s₁ rfl X₀
    exact ⟨t, o, a1, b1, b2, b3⟩
theorem lw_pre_spec {args : Array Value} {s : State} (h : (Jvm.Cond.and given_1 narrow_1).before args s = true) (hr : rest_1_c.before args s = true) : ∃ (b : Addr) (xs : List Int32), lw_P b xs args s := by
  have hs := flat_of_before _ h
  have hq := flat_of_before _ hr
  have hc : (Cond.count 1).before args s = true := hs _ (by decide +kernel)
  have harr : (Cond.arrayOf (.arg 0) .int).before args s = true := hs _ (by decide +kernel)
  have hle : (Cond.le (.length (.arg 0)) (.int 3584)).before args s = true := hs _ (by decide +kernel)
  have hlen : (Cond.isInt (.length (.arg 0))).before args s = true := hq _ (by decide +kernel)
  have hall : (Cond.all (.arg 0) (.isInt (.elem (.arg 0) (.index 0)))).before args s = true := hq _ (by decide +kernel)
  obtain ⟨b, xs, hb, hx⟩ := State.ints_of_pre rfl harr hlen hall
  have hsm : xs.length < 2 ^ 31 := hx.choose_spec.2.2.2
  have hev : (Term.length (.arg 0)).eval args s none [] s = some (.int xs.length.toInt32) := hx.length_eval hb
  have hv := Cond.le_ints hev (show (Term.int 3584).eval args s none [] s = some (.int 3584) from rfl)
  have hd : xs.length.toInt32 ≤ 3584 := by
    simpa [Cond.before, Cond.holds, hv] using hle
  have hN : xs.length ≤ 3584 := (Int32.ofNat_le_ofNat hsm (by decide)).mp (show Int32.ofNat xs.length ≤ Int32.ofNat 3584 from hd)
  exact ⟨b, xs, Cond.one_arg hc (show args[0]? = some (.ref b) from hb), hx, hN, h⟩
theorem lw_comes (l : Launch) (hflags : l.flags = flags0) : Comes l x (Jvm.Cond.code x code maxLocals ret :: tables_1) room_1 (fun tb e args s => Calls_1 tb e args s ∧ rest_1 tb e args s ∧ Pre_1 tb e args s)
    (fun _ _ args s o t => lw_Q args s o t) := by
  intro p e ha hc hk s m args below hf hfit hheap happ hpre
  obtain ⟨b, xs, hP⟩ := lw_pre_spec hpre.2.2 hpre.2.1
  obtain ⟨k, o, h1, h2, h3, hQ⟩ := lw_walk l hflags b xs p e ha hc hk s m args below hf ((Spec.applies_iff_loose hf).mp happ).1 hP trivial
  exact ⟨k, o, h1, h2, h3, hQ⟩
theorem lw_frame {s t : State} {o : Outcome} {args : Array Value} (h : Framed s o t [] 43 1681) :
    Framed s o t (fieldLocs frame_1_writes args s ++ arrayLocs frame_1_arrays args s ++ staticLocs frame_1_statics s) 43 1681 := h
theorem lw_limb (L : Cond) (hL : ∀ (args : Array Value) (s t : State), L.after args s (.returned (some (.int 1))) t = true) :
    ArmFor flags0 classFile x code maxLocals ret World_1 tables_1 room_1 Calls_1 rest_1 Pre_1
      (fun tb e a s o t => postC L tb e a s o t ∧ Framed s o t (fieldLocs frame_1_writes a s ++ arrayLocs frame_1_arrays a s ++ staticLocs frame_1_statics s) 43 1681) := by
  intro l hflags _ _ p e ha hc hk s m args below hf hfit hheap happ hpre
  obtain ⟨k, o, h1, h2, h3, rfl, hF⟩ := lw_comes l hflags p e ha hc hk s m args below hf hfit hheap happ hpre
  exact ⟨k, _, h1, h2, h3, hL args s _, lw_frame hF⟩
theorem i_vc : Claimed_1_1 ∧ Claimed_1_2 := ⟨lw_limb limb_1_1 (fun args s t => by simp [limb_1_1, Cond.after, Cond.holds, Cond.value]), lw_limb limb_1_2 (fun args s t => Cond.after_iff.mpr (by
  first | (rw [show limb_1_2 = Cond.eq .result (.int 1) from rfl, Cond.eq_ints (x := 1) (y := 1) rfl rfl]; simp; done) | (simp [limb_1_2, Cond.value, Term.eval]; done)))⟩
