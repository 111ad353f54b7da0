/-! what holds at the start -/
theorem gs_n0 : Cond.methodLinkNest RX7 18 yX6_init RX7 ∈ lw_tbl := (List.mem_append_right _ (List.mem_of_getElem? (i := 47) (by decide +kernel)))
theorem gs_n1 : Cond.methodLinkNest RX7 25 yX2_init RX7 ∈ lw_tbl := (List.mem_append_right _ (List.mem_of_getElem? (i := 75) (by decide +kernel)))
theorem gs_n2 : Cond.methodLinkNest RX7 41 yX0_init RX7 ∈ lw_tbl := (List.mem_append_right _ (List.mem_of_getElem? (i := 102) (by decide +kernel)))
theorem gs_n3 : Cond.methodLinkNest RX7 48 yX3_init RX7 ∈ lw_tbl := (List.mem_append_right _ (List.mem_of_getElem? (i := 119) (by decide +kernel)))
theorem gs_n4 : Cond.methodLinkNest RX7 55 yX4_init RX7 ∈ lw_tbl := (List.mem_append_right _ (List.mem_of_getElem? (i := 140) (by decide +kernel)))
theorem gs_n5 : Cond.methodLinkNest RX7 62 yX1_init RX7 ∈ lw_tbl := (List.mem_append_right _ (List.mem_of_getElem? (i := 159) (by decide +kernel)))
theorem gs_n6 : Cond.methodLinkNest RX5 27 yX7_isRow RX7 ∈ lw_tbl := (List.mem_append_right _ (List.mem_of_getElem? (i := 228) (by decide +kernel)))
theorem gs_n7 : Cond.methodLinkNest RX5 45 yX7_isWithin RX7 ∈ lw_tbl := (List.mem_append_right _ (List.mem_of_getElem? (i := 229) (by decide +kernel)))
theorem gs_n8 : Cond.methodLinkNest RX6 80 yX7_isWithin RX7 ∈ lw_tbl := (List.mem_append_right _ (List.mem_of_getElem? (i := 396) (by decide +kernel)))
theorem gs_n9 : Cond.methodLinkNest RX0 29 yX7_isWithin RX7 ∈ lw_tbl := (List.mem_append_right _ (List.mem_of_getElem? (i := 474) (by decide +kernel)))
theorem gs_n10 : Cond.methodLinkNest RX2 48 yX7_rest RX7 ∈ lw_tbl := (List.mem_append_right _ (List.mem_of_getElem? (i := 513) (by decide +kernel)))
theorem gs_n11 : Cond.methodLinkNest RX3 19 yX7_common RX7 ∈ lw_tbl := (List.mem_append_right _ (List.mem_of_getElem? (i := 536) (by decide +kernel)))
theorem gs_n12 : Cond.methodLinkNest RX3 37 yX7_rest RX7 ∈ lw_tbl := (List.mem_append_right _ (List.mem_of_getElem? (i := 541) (by decide +kernel)))
theorem gs_n13 : Cond.methodLinkNest RX4 53 yX7_rest RX7 ∈ lw_tbl := (List.mem_append_right _ (List.mem_of_getElem? (i := 639) (by decide +kernel)))
theorem gs_nest : ∀ q ∈ nestQ, Cond.methodLinkNest q.1 q.2.1 q.2.2.1 q.2.2.2 ∈ lw_tbl := List.forall_mem_cons.mpr ⟨gs_n0, List.forall_mem_cons.mpr ⟨gs_n1, List.forall_mem_cons.mpr ⟨gs_n2, List.forall_mem_cons.mpr ⟨gs_n3, List.forall_mem_cons.mpr ⟨gs_n4, List.forall_mem_cons.mpr ⟨gs_n5, List.forall_mem_cons.mpr ⟨gs_n6, List.forall_mem_cons.mpr ⟨gs_n7, List.forall_mem_cons.mpr ⟨gs_n8, List.forall_mem_cons.mpr ⟨gs_n9, List.forall_mem_cons.mpr ⟨gs_n10, List.forall_mem_cons.mpr ⟨gs_n11, List.forall_mem_cons.mpr ⟨gs_n12, List.forall_mem_cons.mpr ⟨gs_n13, fun _ h => absurd h List.not_mem_nil⟩⟩⟩⟩⟩⟩⟩⟩⟩⟩⟩⟩⟩⟩
theorem gs_s0 : Cond.stringRef RX6 33 "dial" ∈ lw_tbl := (List.mem_append_right _ (List.mem_of_getElem? (i := 327) (by decide +kernel)))
theorem gs_s1 : Cond.stringRef RX6 56 "hand" ∈ lw_tbl := (List.mem_append_right _ (List.mem_of_getElem? (i := 405) (by decide +kernel)))
theorem gs_s2 : Cond.stringRef RX6 106 "hour" ∈ lw_tbl := (List.mem_append_right _ (List.mem_of_getElem? (i := 414) (by decide +kernel)))
theorem gs_s3 : Cond.stringRef RX6 108 "moon" ∈ lw_tbl := (List.mem_append_right _ (List.mem_of_getElem? (i := 415) (by decide +kernel)))
theorem gs_s4 : Cond.stringRef RX6 110 "sweep" ∈ lw_tbl := (List.mem_append_right _ (List.mem_of_getElem? (i := 416) (by decide +kernel)))
theorem gs_s5 : Cond.stringRef RX6 112 "back" ∈ lw_tbl := (List.mem_append_right _ (List.mem_of_getElem? (i := 417) (by decide +kernel)))
theorem gs_s6 : Cond.stringRef RX6 114 "tide" ∈ lw_tbl := (List.mem_append_right _ (List.mem_of_getElem? (i := 418) (by decide +kernel)))
theorem gs_i0 : Cond.instantiable RX0 3 ∈ lw_tbl := (List.mem_append_right _ (List.mem_of_getElem? (i := 101) (by decide +kernel)))
theorem gs_i1 : Cond.instantiable RX1 2 ∈ lw_tbl := (List.mem_append_right _ (List.mem_of_getElem? (i := 158) (by decide +kernel)))
theorem gs_i2 : Cond.instantiable RX2 5 ∈ lw_tbl := (List.mem_append_right _ (List.mem_of_getElem? (i := 74) (by decide +kernel)))
theorem gs_i3 : Cond.instantiable RX3 4 ∈ lw_tbl := (List.mem_append_right _ (List.mem_of_getElem? (i := 118) (by decide +kernel)))
theorem gs_i4 : Cond.instantiable RX4 4 ∈ lw_tbl := (List.mem_append_right _ (List.mem_of_getElem? (i := 139) (by decide +kernel)))
theorem gs_i5 : Cond.instantiable RX5 3 ∈ lw_tbl := (List.mem_append_right _ (List.mem_of_getElem? (i := 26) (by decide +kernel)))
theorem gs_i6 : Cond.instantiable RX6 6 ∈ lw_tbl := (List.mem_append_right _ (List.mem_of_getElem? (i := 46) (by decide +kernel)))
theorem gs_i7 : Cond.instantiable RX7 12 ∈ lw_tbl := (List.mem_append_right _ (List.mem_of_getElem? (i := 18) (by decide +kernel)))
theorem gs_i8 : Cond.instantiable RX8 25 ∈ lw_tbl := (List.mem_append_right _ (List.mem_of_getElem? (i := 771) (by decide +kernel)))
theorem gs_aI : Cond.arrayClass .int ∈ lw_tbl := (List.mem_append_right _ (List.mem_of_getElem? (i := 44) (by decide +kernel)))
theorem gs_aZ : Cond.arrayClass .boolean ∈ lw_tbl := (List.mem_append_right _ (List.mem_of_getElem? (i := 852) (by decide +kernel)))
theorem gs_l0 : Cond.laysStatic "java/lang/String" "COMPACT_STRINGS" "Z" ∈ lw_tbl := (List.mem_append_right _ (List.mem_of_getElem? (i := 345) (by decide +kernel)))
theorem gs_l1 : Cond.laysStatic "jdk/internal/util/Preconditions" "SIOOBE_FORMATTER" "Ljava/util/function/BiFunction;" ∈ lw_tbl := (List.mem_append_right _ (List.mem_of_getElem? (i := 361) (by decide +kernel)))
theorem gs_t0 : Cond.initialized "java/lang/String" ∈ lw_tbl := (List.mem_append_right _ (List.mem_of_getElem? (i := 12) (by decide +kernel)))
theorem gs_t1 : Cond.initialized "jdk/internal/util/Preconditions" ∈ lw_tbl := (List.mem_append_right _ (List.mem_of_getElem? (i := 14) (by decide +kernel)))
def tmQ (i : Nat) : Term := .string RX6 ([33, 56, 106, 108, 110, 112, 114].getD i 0)
def flQ : List Cond := flatC (Jvm.Cond.and given_1 narrow_1)
theorem gs_ex : ∀ i : Nat, i < 7 → Cond.exactly (tmQ i) "java/lang/String" ∈ flQ := by decide +kernel
theorem gs_co : ∀ i : Nat, i < 7 → Cond.eq (.field (tmQ i) "java/lang/String" "coder" "B") (.int 0) ∈ flQ := by decide +kernel
theorem gs_ar : ∀ i : Nat, i < 7 → Cond.arrayOf (.field (tmQ i) "java/lang/String" "value" "[B") .byte ∈ flQ := by decide +kernel
theorem gs_le : ∀ i : Nat, i < 7 → Cond.eq (.length (.field (tmQ i) "java/lang/String" "value" "[B")) (.int (Int32.ofNat (lenQ.getD i 0))) ∈ flQ := by decide +kernel
theorem gs_el : ∀ i : Nat, i < 7 → ∀ j : Nat, j < lenQ.getD i 0 → Cond.eq (.elem (.field (tmQ i) "java/lang/String" "value" "[B") (.int (Int32.ofNat j))) (.int ((bytQ.getD i []).getD j 0)) ∈ flQ := by decide +kernel
theorem gs_ne : ∀ i : Nat, i < 7 → ∀ j : Nat, j < 7 → i ≠ j → Cond.not (Cond.eq (tmQ i) (tmQ j)) ∈ flQ ∨ Cond.not (Cond.eq (tmQ j) (tmQ i)) ∈ flQ := by decide +kernel
theorem gs_cs : Cond.eq (.static "java/lang/String" "COMPACT_STRINGS" "Z") (.int 1) ∈ flQ := by decide +kernel
theorem gs_sf : Cond.isRef (.static "jdk/internal/util/Preconditions" "SIOOBE_FORMATTER" "Ljava/util/function/BiFunction;") ∈ flQ := by decide +kernel
theorem ac_of {args : Array Value} {s : State} {ty : FieldType} (h : (Cond.arrayClass ty).before args s = true) : ∃ c : ClassId, s.vm.findClass ("[" ++ ty.toString) = some c ∧ ArrOfT s c ty := by
  obtain ⟨c, k, comp, h1, h2, h3⟩ := Cond.arrayClass_spec h
  exact ⟨c, h1, fun n z => ⟨fun k h => (by cases h), k, h2, comp, h3⟩⟩
set_option maxHeartbeats 4000000 in
set_option maxRecDepth 100000 in
theorem law_g {s : State} {b : Nat} (l : Launch) (hts : ∀ w ∈ lw_tbl, w.before #[Value.ref b] s = true) (hgv : (Jvm.Cond.and given_1 narrow_1).before #[Value.ref b] s = true) : ∃ g : Gx, g.1 = l ∧ va_K g.2.1 vwCl (TYg g) s ∧ Ev g (fun q : Nat => s.heap.size ≤ q) s s.heap := by
  have hq : ∀ c ∈ flQ, c.before #[Value.ref b] s = true := flat_of_before _ hgv
  have hA : ∀ a : Nat, a < s.heap.size → ¬ (fun q : Nat => s.heap.size ≤ q) a := fun a h1 h2 => absurd h1 (Nat.not_lt.mpr h2)
  obtain ⟨c0, i0, k0⟩ := u_known (C := RX0) (T := TX0) (N := 3) (n := 3) hts inL_wsX00 (hts _ gs_i0)
  obtain ⟨c1, i1, k1⟩ := u_known (C := RX1) (T := TX1) (N := 2) (n := 2) hts inL_wsX10 (hts _ gs_i1)
  obtain ⟨c2, i2, k2⟩ := u_known (C := RX2) (T := TX2) (N := 5) (n := 5) hts inL_wsX20 (hts _ gs_i2)
  obtain ⟨c3, i3, k3⟩ := u_known (C := RX3) (T := TX3) (N := 4) (n := 4) hts inL_wsX30 (hts _ gs_i3)
  obtain ⟨c4, i4, k4⟩ := u_known (C := RX4) (T := TX4) (N := 4) (n := 4) hts inL_wsX40 (hts _ gs_i4)
  obtain ⟨c5, i5, k5⟩ := u_known (C := RX5) (T := TX5) (N := 3) (n := 3) hts inL_wsX50 (hts _ gs_i5)
  obtain ⟨c6, i6, k6⟩ := u_known (C := RX6) (T := TX6) (N := 6) (n := 6) hts inL_wsX60 (hts _ gs_i6)
  obtain ⟨c7, i7, k7⟩ := u_known (C := RX7) (T := TX7) (N := 12) (n := 12) hts inL_wsX70 (hts _ gs_i7)
  obtain ⟨c8, i8, k8⟩ := u_known (C := RX8) (T := TX8) (N := 25) (n := 25) hts inL_wsX80 (hts _ gs_i8)
  obtain ⟨dC, dI, hKc⟩ : ∃ (dC : Nat → ClassId) (dI : Nat → Nat → Nat), ∀ (k : Nat) (q : vw_C), vwCl[k]? = some q → u_Kn s q.1 q.2.1 q.2.2 (dC k) (dI k) := by
    refine ⟨fun k => if k = 0 then c0 else if k = 1 then c1 else if k = 2 then c2 else if k = 3 then c3 else if k = 4 then c4 else if k = 5 then c5 else if k = 6 then c6 else if k = 7 then c7 else c8, fun k => if k = 0 then i0 else if k = 1 then i1 else if k = 2 then i2 else if k = 3 then i3 else if k = 4 then i4 else if k = 5 then i5 else if k = 6 then i6 else if k = 7 then i7 else i8, ?_⟩
    intro k q hq
    match k, hq with
    | 0, hq => cases hq; exact k0
    | 1, hq => cases hq; exact k1
    | 2, hq => cases hq; exact k2
    | 3, hq => cases hq; exact k3
    | 4, hq => cases hq; exact k4
    | 5, hq => cases hq; exact k5
    | 6, hq => cases hq; exact k6
    | 7, hq => cases hq; exact k7
    | 8, hq => cases hq; exact k8
    | k + 9, hq => simp [vwCl] at hq
  obtain ⟨cI, fI, aI1⟩ := ac_of (hts _ gs_aI)
  obtain ⟨cZ, fZ, aZ1⟩ := ac_of (hts _ gs_aZ)
  obtain ⟨adK, adV, hS, hev⟩ := vk_Sof (s := s) (args := #[Value.ref b]) (N := 7) (tm := tmQ) (len := lenQ) (byt := bytQ) (A := fun q : Nat => s.heap.size ≤ q) (by decide) (fun i hi => hq _ (gs_ex i hi)) (fun i hi => hq _ (gs_co i hi)) (fun i hi => hq _ (gs_ar i hi)) (fun i hi => hq _ (gs_le i hi)) (fun i hi j hj => hq _ (gs_el i hi j hj)) (fun i j hi hj hn => (gs_ne i hi j hj hn).elim (fun z => Or.inl (hq _ z)) (fun z => Or.inr (hq _ z))) hA
  refine ⟨(l, (dC, dI), cI, cZ, adK, adV), rfl, ⟨hKc, fun k q h => ?_⟩, ⟨fun q hn => va_Nw.of rfl (hts _ (gs_nest q hn)), fun i q h => ?_, hS, va_Zof (hts _ gs_l0) (hts _ gs_t0) (va_eqt (hq _ gs_cs)) hA, va_Zqof (hts _ gs_l1) (hts _ gs_t1) (hq _ gs_sf) hA⟩⟩
  · match k, h with
    | 0, h => cases h; exact ⟨aI1, fI⟩
    | 1, h => cases h; exact ⟨aZ1, fZ⟩
    | k + 2, h => simp [TYg] at h
  · match i, h with
    | 0, h => cases h; exact vk_R.of (hts _ gs_s0) (hev 0 (by decide))
    | 1, h => cases h; exact vk_R.of (hts _ gs_s1) (hev 1 (by decide))
    | 2, h => cases h; exact vk_R.of (hts _ gs_s2) (hev 2 (by decide))
    | 3, h => cases h; exact vk_R.of (hts _ gs_s3) (hev 3 (by decide))
    | 4, h => cases h; exact vk_R.of (hts _ gs_s4) (hev 4 (by decide))
    | 5, h => cases h; exact vk_R.of (hts _ gs_s5) (hev 5 (by decide))
    | 6, h => cases h; exact vk_R.of (hts _ gs_s6) (hev 6 (by decide))
    | i + 7, h => simp [strQ] at h
