section
-- ===== PART A: goes FIRST, ahead of the names: the tables' words, and 'selects' of the private methods out of them =====
/-- a private method of a class that the tables say can be made, by its rows of tables_1 -/
def lw_okq (q : MethodName × Nat) : Prop := (q.1.cls ≠ "java/lang/invoke/MethodHandle" ∧ q.1.cls ≠ "java/lang/invoke/VarHandle") ∧ Cond.instantiable q.1.cls q.2 ∈ tables_1 ∧ Cond.privateMethod q.1 ∈ tables_1 ∧ Cond.instanceMethod q.1 ∈ tables_1
theorem lw_p0 : lw_okq (⟨"AlikeHands", "found", "(I)I"⟩, 12) := ⟨⟨by decide +kernel, by decide +kernel⟩, List.mem_of_getElem? (i := 18) (by decide +kernel), List.mem_of_getElem? (i := 220) (by decide +kernel), List.mem_of_getElem? (i := 221) (by decide +kernel)⟩
theorem lw_p1 : lw_okq (⟨"AlikeHands", "fine", "(I)I"⟩, 12) := ⟨⟨by decide +kernel, by decide +kernel⟩, List.mem_of_getElem? (i := 18) (by decide +kernel), List.mem_of_getElem? (i := 231) (by decide +kernel), List.mem_of_getElem? (i := 232) (by decide +kernel)⟩
theorem lw_p2 : lw_okq (⟨"AlikeHands", "isPair", "(II)Z"⟩, 12) := ⟨⟨by decide +kernel, by decide +kernel⟩, List.mem_of_getElem? (i := 18) (by decide +kernel), List.mem_of_getElem? (i := 526) (by decide +kernel), List.mem_of_getElem? (i := 527) (by decide +kernel)⟩
theorem lw_p3 : lw_okq (⟨"AlikeHands", "speedApart", "(II)I"⟩, 12) := ⟨⟨by decide +kernel, by decide +kernel⟩, List.mem_of_getElem? (i := 18) (by decide +kernel), List.mem_of_getElem? (i := 577) (by decide +kernel), List.mem_of_getElem? (i := 578) (by decide +kernel)⟩
theorem lw_p4 : lw_okq (⟨"AlikeHands", "lieOfReading", "(I)I"⟩, 12) := ⟨⟨by decide +kernel, by decide +kernel⟩, List.mem_of_getElem? (i := 18) (by decide +kernel), List.mem_of_getElem? (i := 615) (by decide +kernel), List.mem_of_getElem? (i := 616) (by decide +kernel)⟩
theorem lw_p5 : lw_okq (⟨"AlikeHands", "firstLieOf", "(III)I"⟩, 12) := ⟨⟨by decide +kernel, by decide +kernel⟩, List.mem_of_getElem? (i := 18) (by decide +kernel), List.mem_of_getElem? (i := 661) (by decide +kernel), List.mem_of_getElem? (i := 662) (by decide +kernel)⟩
theorem lw_p6 : lw_okq (⟨"AlikeHands", "trueInGlass", "(II)I"⟩, 12) := ⟨⟨by decide +kernel, by decide +kernel⟩, List.mem_of_getElem? (i := 18) (by decide +kernel), List.mem_of_getElem? (i := 669) (by decide +kernel), List.mem_of_getElem? (i := 670) (by decide +kernel)⟩
theorem lw_p7 : lw_okq (⟨"AlikeHands", "imageOf", "(I)LAlikeHands$Clock;"⟩, 12) := ⟨⟨by decide +kernel, by decide +kernel⟩, List.mem_of_getElem? (i := 18) (by decide +kernel), List.mem_of_getElem? (i := 677) (by decide +kernel), List.mem_of_getElem? (i := 678) (by decide +kernel)⟩
theorem lw_p8 : lw_okq (⟨"AlikeHandsModel", "finding", "(I)I"⟩, 25) := ⟨⟨by decide +kernel, by decide +kernel⟩, List.mem_of_getElem? (i := 771) (by decide +kernel), List.mem_of_getElem? (i := 867) (by decide +kernel), List.mem_of_getElem? (i := 868) (by decide +kernel)⟩
theorem lw_p9 : lw_okq (⟨"AlikeHandsModel", "begin", "()V"⟩, 25) := ⟨⟨by decide +kernel, by decide +kernel⟩, List.mem_of_getElem? (i := 771) (by decide +kernel), List.mem_of_getElem? (i := 895) (by decide +kernel), List.mem_of_getElem? (i := 896) (by decide +kernel)⟩
theorem lw_p10 : lw_okq (⟨"AlikeHandsModel", "nextToken", "()V"⟩, 25) := ⟨⟨by decide +kernel, by decide +kernel⟩, List.mem_of_getElem? (i := 771) (by decide +kernel), List.mem_of_getElem? (i := 899) (by decide +kernel), List.mem_of_getElem? (i := 900) (by decide +kernel)⟩
theorem lw_p11 : lw_okq (⟨"AlikeHandsModel", "byteAt", "(I)I"⟩, 25) := ⟨⟨by decide +kernel, by decide +kernel⟩, List.mem_of_getElem? (i := 771) (by decide +kernel), List.mem_of_getElem? (i := 903) (by decide +kernel), List.mem_of_getElem? (i := 904) (by decide +kernel)⟩
theorem lw_p12 : lw_okq (⟨"AlikeHandsModel", "name", "()J"⟩, 25) := ⟨⟨by decide +kernel, by decide +kernel⟩, List.mem_of_getElem? (i := 771) (by decide +kernel), List.mem_of_getElem? (i := 914) (by decide +kernel), List.mem_of_getElem? (i := 915) (by decide +kernel)⟩
theorem lw_p13 : lw_okq (⟨"AlikeHandsModel", "must", "(Z)V"⟩, 25) := ⟨⟨by decide +kernel, by decide +kernel⟩, List.mem_of_getElem? (i := 771) (by decide +kernel), List.mem_of_getElem? (i := 919) (by decide +kernel), List.mem_of_getElem? (i := 920) (by decide +kernel)⟩
theorem lw_p14 : lw_okq (⟨"AlikeHandsModel", "bad", "(I)V"⟩, 25) := ⟨⟨by decide +kernel, by decide +kernel⟩, List.mem_of_getElem? (i := 771) (by decide +kernel), List.mem_of_getElem? (i := 923) (by decide +kernel), List.mem_of_getElem? (i := 924) (by decide +kernel)⟩
theorem lw_p15 : lw_okq (⟨"AlikeHandsModel", "number", "(II)I"⟩, 25) := ⟨⟨by decide +kernel, by decide +kernel⟩, List.mem_of_getElem? (i := 771) (by decide +kernel), List.mem_of_getElem? (i := 927) (by decide +kernel), List.mem_of_getElem? (i := 928) (by decide +kernel)⟩
def lw_privs_1 : List (MethodName × Nat) := [(⟨"AlikeHands", "found", "(I)I"⟩, 12), (⟨"AlikeHands", "fine", "(I)I"⟩, 12), (⟨"AlikeHands", "isPair", "(II)Z"⟩, 12), (⟨"AlikeHands", "speedApart", "(II)I"⟩, 12), (⟨"AlikeHands", "lieOfReading", "(I)I"⟩, 12), (⟨"AlikeHands", "firstLieOf", "(III)I"⟩, 12), (⟨"AlikeHands", "trueInGlass", "(II)I"⟩, 12), (⟨"AlikeHands", "imageOf", "(I)LAlikeHands$Clock;"⟩, 12), (⟨"AlikeHandsModel", "finding", "(I)I"⟩, 25), (⟨"AlikeHandsModel", "begin", "()V"⟩, 25), (⟨"AlikeHandsModel", "nextToken", "()V"⟩, 25), (⟨"AlikeHandsModel", "byteAt", "(I)I"⟩, 25), (⟨"AlikeHandsModel", "name", "()J"⟩, 25), (⟨"AlikeHandsModel", "must", "(Z)V"⟩, 25), (⟨"AlikeHandsModel", "bad", "(I)V"⟩, 25), (⟨"AlikeHandsModel", "number", "(II)I"⟩, 25)]
theorem lw_r1 : ∀ q ∈ lw_privs_1, lw_okq q := List.forall_mem_cons.mpr ⟨lw_p0, List.forall_mem_cons.mpr ⟨lw_p1, List.forall_mem_cons.mpr ⟨lw_p2, List.forall_mem_cons.mpr ⟨lw_p3, List.forall_mem_cons.mpr ⟨lw_p4, List.forall_mem_cons.mpr ⟨lw_p5, List.forall_mem_cons.mpr ⟨lw_p6, List.forall_mem_cons.mpr ⟨lw_p7, List.forall_mem_cons.mpr ⟨lw_p8, List.forall_mem_cons.mpr ⟨lw_p9, List.forall_mem_cons.mpr ⟨lw_p10, List.forall_mem_cons.mpr ⟨lw_p11, List.forall_mem_cons.mpr ⟨lw_p12, List.forall_mem_cons.mpr ⟨lw_p13, List.forall_mem_cons.mpr ⟨lw_p14, List.forall_mem_cons.mpr ⟨lw_p15, fun _ h => absurd h List.not_mem_nil⟩⟩⟩⟩⟩⟩⟩⟩⟩⟩⟩⟩⟩⟩⟩⟩
theorem lw_p16 : lw_okq (⟨"AlikeHandsModel", "figures", "()I"⟩, 25) := ⟨⟨by decide +kernel, by decide +kernel⟩, List.mem_of_getElem? (i := 771) (by decide +kernel), List.mem_of_getElem? (i := 931) (by decide +kernel), List.mem_of_getElem? (i := 932) (by decide +kernel)⟩
theorem lw_p17 : lw_okq (⟨"AlikeHandsModel", "mustEnd", "()V"⟩, 25) := ⟨⟨by decide +kernel, by decide +kernel⟩, List.mem_of_getElem? (i := 771) (by decide +kernel), List.mem_of_getElem? (i := 935) (by decide +kernel), List.mem_of_getElem? (i := 936) (by decide +kernel)⟩
theorem lw_p18 : lw_okq (⟨"AlikeHandsModel", "readHand", "()V"⟩, 25) := ⟨⟨by decide +kernel, by decide +kernel⟩, List.mem_of_getElem? (i := 771) (by decide +kernel), List.mem_of_getElem? (i := 940) (by decide +kernel), List.mem_of_getElem? (i := 941) (by decide +kernel)⟩
theorem lw_p19 : lw_okq (⟨"AlikeHandsModel", "isHand", "(I)Z"⟩, 25) := ⟨⟨by decide +kernel, by decide +kernel⟩, List.mem_of_getElem? (i := 771) (by decide +kernel), List.mem_of_getElem? (i := 961) (by decide +kernel), List.mem_of_getElem? (i := 962) (by decide +kernel)⟩
theorem lw_p20 : lw_okq (⟨"AlikeHandsModel", "of", "(II)I"⟩, 25) := ⟨⟨by decide +kernel, by decide +kernel⟩, List.mem_of_getElem? (i := 771) (by decide +kernel), List.mem_of_getElem? (i := 967) (by decide +kernel), List.mem_of_getElem? (i := 968) (by decide +kernel)⟩
theorem lw_p21 : lw_okq (⟨"AlikeHandsModel", "speed", "(I)I"⟩, 25) := ⟨⟨by decide +kernel, by decide +kernel⟩, List.mem_of_getElem? (i := 771) (by decide +kernel), List.mem_of_getElem? (i := 983) (by decide +kernel), List.mem_of_getElem? (i := 984) (by decide +kernel)⟩
theorem lw_p22 : lw_okq (⟨"AlikeHandsModel", "arc", "(III)I"⟩, 25) := ⟨⟨by decide +kernel, by decide +kernel⟩, List.mem_of_getElem? (i := 771) (by decide +kernel), List.mem_of_getElem? (i := 995) (by decide +kernel), List.mem_of_getElem? (i := 996) (by decide +kernel)⟩
theorem lw_p23 : lw_okq (⟨"AlikeHandsModel", "areTwo", "(II)Z"⟩, 25) := ⟨⟨by decide +kernel, by decide +kernel⟩, List.mem_of_getElem? (i := 771) (by decide +kernel), List.mem_of_getElem? (i := 1009) (by decide +kernel), List.mem_of_getElem? (i := 1010) (by decide +kernel)⟩
theorem lw_p24 : lw_okq (⟨"AlikeHandsModel", "partsOf", "(II)I"⟩, 25) := ⟨⟨by decide +kernel, by decide +kernel⟩, List.mem_of_getElem? (i := 771) (by decide +kernel), List.mem_of_getElem? (i := 1013) (by decide +kernel), List.mem_of_getElem? (i := 1014) (by decide +kernel)⟩
theorem lw_p25 : lw_okq (⟨"AlikeHandsModel", "otherOf", "(III)I"⟩, 25) := ⟨⟨by decide +kernel, by decide +kernel⟩, List.mem_of_getElem? (i := 771) (by decide +kernel), List.mem_of_getElem? (i := 1020) (by decide +kernel), List.mem_of_getElem? (i := 1021) (by decide +kernel)⟩
theorem lw_p26 : lw_okq (⟨"AlikeHandsModel", "isThere", "()Z"⟩, 25) := ⟨⟨by decide +kernel, by decide +kernel⟩, List.mem_of_getElem? (i := 771) (by decide +kernel), List.mem_of_getElem? (i := 1048) (by decide +kernel), List.mem_of_getElem? (i := 1049) (by decide +kernel)⟩
theorem lw_p27 : lw_okq (⟨"AlikeHandsModel", "lacks", "(III)I"⟩, 25) := ⟨⟨by decide +kernel, by decide +kernel⟩, List.mem_of_getElem? (i := 771) (by decide +kernel), List.mem_of_getElem? (i := 1057) (by decide +kernel), List.mem_of_getElem? (i := 1058) (by decide +kernel)⟩
theorem lw_p28 : lw_okq (⟨"AlikeHandsModel", "areArcs", "(III)Z"⟩, 25) := ⟨⟨by decide +kernel, by decide +kernel⟩, List.mem_of_getElem? (i := 771) (by decide +kernel), List.mem_of_getElem? (i := 1061) (by decide +kernel), List.mem_of_getElem? (i := 1062) (by decide +kernel)⟩
theorem lw_p29 : lw_okq (⟨"AlikeHandsModel", "isTrue", "(III)Z"⟩, 25) := ⟨⟨by decide +kernel, by decide +kernel⟩, List.mem_of_getElem? (i := 771) (by decide +kernel), List.mem_of_getElem? (i := 1065) (by decide +kernel), List.mem_of_getElem? (i := 1066) (by decide +kernel)⟩
theorem lw_p30 : lw_okq (⟨"AlikeHandsModel", "sizeOf", "(I)I"⟩, 25) := ⟨⟨by decide +kernel, by decide +kernel⟩, List.mem_of_getElem? (i := 771) (by decide +kernel), List.mem_of_getElem? (i := 1102) (by decide +kernel), List.mem_of_getElem? (i := 1103) (by decide +kernel)⟩
theorem lw_p31 : lw_okq (⟨"AlikeHandsModel", "backSize", "(I)I"⟩, 25) := ⟨⟨by decide +kernel, by decide +kernel⟩, List.mem_of_getElem? (i := 771) (by decide +kernel), List.mem_of_getElem? (i := 1106) (by decide +kernel), List.mem_of_getElem? (i := 1107) (by decide +kernel)⟩
def lw_privs_2 : List (MethodName × Nat) := [(⟨"AlikeHandsModel", "figures", "()I"⟩, 25), (⟨"AlikeHandsModel", "mustEnd", "()V"⟩, 25), (⟨"AlikeHandsModel", "readHand", "()V"⟩, 25), (⟨"AlikeHandsModel", "isHand", "(I)Z"⟩, 25), (⟨"AlikeHandsModel", "of", "(II)I"⟩, 25), (⟨"AlikeHandsModel", "speed", "(I)I"⟩, 25), (⟨"AlikeHandsModel", "arc", "(III)I"⟩, 25), (⟨"AlikeHandsModel", "areTwo", "(II)Z"⟩, 25), (⟨"AlikeHandsModel", "partsOf", "(II)I"⟩, 25), (⟨"AlikeHandsModel", "otherOf", "(III)I"⟩, 25), (⟨"AlikeHandsModel", "isThere", "()Z"⟩, 25), (⟨"AlikeHandsModel", "lacks", "(III)I"⟩, 25), (⟨"AlikeHandsModel", "areArcs", "(III)Z"⟩, 25), (⟨"AlikeHandsModel", "isTrue", "(III)Z"⟩, 25), (⟨"AlikeHandsModel", "sizeOf", "(I)I"⟩, 25), (⟨"AlikeHandsModel", "backSize", "(I)I"⟩, 25)]
theorem lw_r2 : ∀ q ∈ lw_privs_2, lw_okq q := List.forall_mem_cons.mpr ⟨lw_p16, List.forall_mem_cons.mpr ⟨lw_p17, List.forall_mem_cons.mpr ⟨lw_p18, List.forall_mem_cons.mpr ⟨lw_p19, List.forall_mem_cons.mpr ⟨lw_p20, List.forall_mem_cons.mpr ⟨lw_p21, List.forall_mem_cons.mpr ⟨lw_p22, List.forall_mem_cons.mpr ⟨lw_p23, List.forall_mem_cons.mpr ⟨lw_p24, List.forall_mem_cons.mpr ⟨lw_p25, List.forall_mem_cons.mpr ⟨lw_p26, List.forall_mem_cons.mpr ⟨lw_p27, List.forall_mem_cons.mpr ⟨lw_p28, List.forall_mem_cons.mpr ⟨lw_p29, List.forall_mem_cons.mpr ⟨lw_p30, List.forall_mem_cons.mpr ⟨lw_p31, fun _ h => absurd h List.not_mem_nil⟩⟩⟩⟩⟩⟩⟩⟩⟩⟩⟩⟩⟩⟩⟩⟩
theorem lw_p32 : lw_okq (⟨"AlikeHandsModel", "began", "(I)V"⟩, 25) := ⟨⟨by decide +kernel, by decide +kernel⟩, List.mem_of_getElem? (i := 771) (by decide +kernel), List.mem_of_getElem? (i := 1110) (by decide +kernel), List.mem_of_getElem? (i := 1111) (by decide +kernel)⟩
theorem lw_p33 : lw_okq (⟨"AlikeHandsModel", "plainSize", "(I)I"⟩, 25) := ⟨⟨by decide +kernel, by decide +kernel⟩, List.mem_of_getElem? (i := 771) (by decide +kernel), List.mem_of_getElem? (i := 1114) (by decide +kernel), List.mem_of_getElem? (i := 1115) (by decide +kernel)⟩
theorem lw_p34 : lw_okq (⟨"AlikeHandsModel", "markOf", "(I)I"⟩, 25) := ⟨⟨by decide +kernel, by decide +kernel⟩, List.mem_of_getElem? (i := 771) (by decide +kernel), List.mem_of_getElem? (i := 1118) (by decide +kernel), List.mem_of_getElem? (i := 1119) (by decide +kernel)⟩
def lw_privs_3 : List (MethodName × Nat) := [(⟨"AlikeHandsModel", "began", "(I)V"⟩, 25), (⟨"AlikeHandsModel", "plainSize", "(I)I"⟩, 25), (⟨"AlikeHandsModel", "markOf", "(I)I"⟩, 25)]
theorem lw_r3 : ∀ q ∈ lw_privs_3, lw_okq q := List.forall_mem_cons.mpr ⟨lw_p32, List.forall_mem_cons.mpr ⟨lw_p33, List.forall_mem_cons.mpr ⟨lw_p34, fun _ h => absurd h List.not_mem_nil⟩⟩⟩
def lw_privs : List (MethodName × Nat) := lw_privs_1 ++ (lw_privs_2 ++ (lw_privs_3))
def lw_tbl : List Cond := k2_sels lw_privs ++ tables_1
theorem lw_privs_ok : ∀ q ∈ lw_privs, lw_okq q := by
  show ∀ q ∈ lw_privs_1 ++ (lw_privs_2 ++ (lw_privs_3)), lw_okq q
  exact List.forall_mem_append.mpr ⟨lw_r1, List.forall_mem_append.mpr ⟨lw_r2, lw_r3⟩⟩
/-! ===== BEGIN words of one list among another's, by their places ===== -/
theorem goodIn_r {big : List Cond} (ws : List Cond) (ps : List Nat) (hp : ws = ps.filterMap (fun i => big[i]?)) (h : ws.all goodWord = true) : GoodIn big ws := by
  intro w hw
  have h1 := List.all_eq_true.mp h w hw
  rw [hp] at hw
  obtain ⟨i, -, hi⟩ := List.mem_filterMap.mp hw
  have hm : w ∈ big := by first | exact List.mem_of_getElem? hi | exact List.getElem?_mem hi
  exact ⟨hm, good_of_word h1⟩
theorem goodIn_app {big a b : List Cond} (ha : GoodIn big a) (hb : GoodIn big b) : GoodIn big (a ++ b) := fun w h => (List.mem_append.mp h).elim (ha w) (hb w)
theorem goodIn_ca {big a b : List Cond} {c : Cond} (ha : GoodIn big (c :: a)) (hb : GoodIn big b) : GoodIn big (c :: (a ++ b)) := fun w h => (List.mem_cons.mp h).elim (fun e => ha w (List.mem_cons.mpr (Or.inl e))) (fun h => (List.mem_append.mp h).elim (fun h => ha w (List.mem_cons.mpr (Or.inr h))) (hb w))
theorem goodIn_sub {big ws : List Cond} (hm : ∀ w ∈ ws, w ∈ big) (h : ws.all goodWord = true) : GoodIn big ws := fun w hw => ⟨hm w hw, good_of_word (List.all_eq_true.mp h w hw)⟩
/-! ===== END ===== -/

/-! ===== BEGIN printed: names, fields, word lists, decode rows ===== -/
def RX0 : String := "AlikeHands$Acts"
def TX0 : u_T := fun k => match k with
  | 0 => ("AlikeHands$Acts", "hands", "[I", true)
  | 1 => ("AlikeHands$Acts", "slips", "[I", true)
  | _ => ("AlikeHands$Acts", "length", "I", false)
def tyX0 : Nat → FieldType := fun k => match k with
  | 0 => .array .int
  | 1 => .array .int
  | _ => .int
abbrev wsX00 : List Cond := u_ws RX0 TX0 3
theorem nmX0 : ∀ a, a < 3 → ∀ b, b < 3 → a ≠ b → (TX0 a).2.1 ≠ (TX0 b).2.1 := by decide +kernel
theorem tyX0_ok : ∀ k, k < 3 → parseFieldDescriptor (TX0 k).2.2.1 = some (tyX0 k) := by decide +kernel
abbrev cX0_init : ByteArray := prog_2_method_1_code
def yX0_init : MethodName := ⟨RX0, "<init>", "()V"⟩
abbrev cX0_keep : ByteArray := prog_2_method_2_code
def yX0_keep : MethodName := ⟨RX0, "keep", "(II)V"⟩
abbrev cX0_forgetOldest : ByteArray := prog_2_method_3_code
def yX0_forgetOldest : MethodName := ⟨RX0, "forgetOldest", "()V"⟩
abbrev cX0_lastHand : ByteArray := prog_2_method_4_code
def yX0_lastHand : MethodName := ⟨RX0, "lastHand", "()I"⟩
abbrev cX0_lastSlip : ByteArray := prog_2_method_5_code
def yX0_lastSlip : MethodName := ⟨RX0, "lastSlip", "()I"⟩
def RX1 : String := "AlikeHands$Asks"
def TX1 : u_T := fun k => match k with
  | 0 => ("AlikeHands$Asks", "bodies", "[I", true)
  | _ => ("AlikeHands$Asks", "length", "I", false)
def tyX1 : Nat → FieldType := fun k => match k with
  | 0 => .array .int
  | _ => .int
abbrev wsX10 : List Cond := u_ws RX1 TX1 2
theorem nmX1 : ∀ a, a < 2 → ∀ b, b < 2 → a ≠ b → (TX1 a).2.1 ≠ (TX1 b).2.1 := by decide +kernel
theorem tyX1_ok : ∀ k, k < 2 → parseFieldDescriptor (TX1 k).2.2.1 = some (tyX1 k) := by decide +kernel
abbrev cX1_init : ByteArray := prog_3_method_1_code
def yX1_init : MethodName := ⟨RX1, "<init>", "()V"⟩
abbrev cX1_leave : ByteArray := prog_3_method_2_code
def yX1_leave : MethodName := ⟨RX1, "leave", "(I)V"⟩
abbrev cX1_numberAt : ByteArray := prog_3_method_3_code
def yX1_numberAt : MethodName := ⟨RX1, "numberAt", "(I)I"⟩
abbrev cX1_lentSize : ByteArray := prog_3_method_4_code
def yX1_lentSize : MethodName := ⟨RX1, "lentSize", "(LAlikeHands$Clock;I)I"⟩
abbrev cX1_lentMark : ByteArray := prog_3_method_5_code
def yX1_lentMark : MethodName := ⟨RX1, "lentMark", "(I)I"⟩
abbrev cX1_hourSize : ByteArray := prog_3_method_6_code
def yX1_hourSize : MethodName := ⟨RX1, "hourSize", "(LAlikeHands$Clock;I)I"⟩
abbrev cX1_hourMark : ByteArray := prog_3_method_7_code
def yX1_hourMark : MethodName := ⟨RX1, "hourMark", "(LAlikeHands$Clock;I)I"⟩
abbrev cX1_backSize : ByteArray := prog_3_method_8_code
def yX1_backSize : MethodName := ⟨RX1, "backSize", "(LAlikeHands$Clock;I)I"⟩
abbrev cX1_sizeOfHours : ByteArray := prog_3_method_9_code
def yX1_sizeOfHours : MethodName := ⟨RX1, "sizeOfHours", "(LAlikeHands$Clock;I)I"⟩
abbrev cX1_markOfHours : ByteArray := prog_3_method_10_code
def yX1_markOfHours : MethodName := ⟨RX1, "markOfHours", "(LAlikeHands$Clock;I)I"⟩
abbrev cX1_sizeOfBacks : ByteArray := prog_3_method_11_code
def yX1_sizeOfBacks : MethodName := ⟨RX1, "sizeOfBacks", "(LAlikeHands$Clock;I)I"⟩
abbrev cX1_markOfBacks : ByteArray := prog_3_method_12_code
def yX1_markOfBacks : MethodName := ⟨RX1, "markOfBacks", "(LAlikeHands$Clock;I)I"⟩
def RX2 : String := "AlikeHands$Clock"
def TX2 : u_T := fun k => match k with
  | 0 => ("AlikeHands$Clock", "sorts", "[I", true)
  | 1 => ("AlikeHands$Clock", "turns", "[I", true)
  | 2 => ("AlikeHands$Clock", "slips", "[I", true)
  | 3 => ("AlikeHands$Clock", "marks", "I", false)
  | _ => ("AlikeHands$Clock", "count", "I", false)
def tyX2 : Nat → FieldType := fun k => match k with
  | 0 => .array .int
  | 1 => .array .int
  | 2 => .array .int
  | 3 => .int
  | _ => .int
abbrev wsX20 : List Cond := u_ws RX2 TX2 5
theorem nmX2 : ∀ a, a < 5 → ∀ b, b < 5 → a ≠ b → (TX2 a).2.1 ≠ (TX2 b).2.1 := by decide +kernel
theorem tyX2_ok : ∀ k, k < 5 → parseFieldDescriptor (TX2 k).2.2.1 = some (tyX2 k) := by decide +kernel
abbrev cX2_init : ByteArray := prog_4_method_1_code
def yX2_init : MethodName := ⟨RX2, "<init>", "()V"⟩
abbrev cX2_isNone : ByteArray := prog_4_method_2_code
def yX2_isNone : MethodName := ⟨RX2, "isNone", "()Z"⟩
abbrev cX2_has : ByteArray := prog_4_method_3_code
def yX2_has : MethodName := ⟨RX2, "has", "(I)Z"⟩
abbrev cX2_sortOf : ByteArray := prog_4_method_4_code
def yX2_sortOf : MethodName := ⟨RX2, "sortOf", "(I)I"⟩
abbrev cX2_turnsOf : ByteArray := prog_4_method_5_code
def yX2_turnsOf : MethodName := ⟨RX2, "turnsOf", "(I)I"⟩
abbrev cX2_slipOf : ByteArray := prog_4_method_6_code
def yX2_slipOf : MethodName := ⟨RX2, "slipOf", "(I)I"⟩
abbrev cX2_speedOf : ByteArray := prog_4_method_7_code
def yX2_speedOf : MethodName := ⟨RX2, "speedOf", "(I)I"⟩
abbrev cX2_arcAbove : ByteArray := prog_4_method_8_code
def yX2_arcAbove : MethodName := ⟨RX2, "arcAbove", "(III)I"⟩
abbrev cX2_arcBelow : ByteArray := prog_4_method_9_code
def yX2_arcBelow : MethodName := ⟨RX2, "arcBelow", "(I)I"⟩
abbrev cX2_slippedHands : ByteArray := prog_4_method_10_code
def yX2_slippedHands : MethodName := ⟨RX2, "slippedHands", "()I"⟩
abbrev cX2_setSlip : ByteArray := prog_4_method_11_code
def yX2_setSlip : MethodName := ⟨RX2, "setSlip", "(II)V"⟩
abbrev cX2_add : ByteArray := prog_4_method_12_code
def yX2_add : MethodName := ⟨RX2, "add", "(II)V"⟩
abbrev cX2_become : ByteArray := prog_4_method_13_code
def yX2_become : MethodName := ⟨RX2, "become", "(LAlikeHands$Clock;)V"⟩
def RX3 : String := "AlikeHands$Doubts"
def TX3 : u_T := fun k => match k with
  | 0 => ("AlikeHands$Doubts", "whole", "I", false)
  | 1 => ("AlikeHands$Doubts", "shared", "I", false)
  | 2 => ("AlikeHands$Doubts", "moments", "I", false)
  | _ => ("AlikeHands$Doubts", "firstOther", "I", false)
def tyX3 : Nat → FieldType := fun k => match k with
  | 0 => .int
  | 1 => .int
  | 2 => .int
  | _ => .int
abbrev wsX30 : List Cond := u_ws RX3 TX3 4
theorem nmX3 : ∀ a, a < 4 → ∀ b, b < 4 → a ≠ b → (TX3 a).2.1 ≠ (TX3 b).2.1 := by decide +kernel
theorem tyX3_ok : ∀ k, k < 4 → parseFieldDescriptor (TX3 k).2.2.1 = some (tyX3 k) := by decide +kernel
abbrev cX3_init : ByteArray := prog_5_method_1_code
def yX3_init : MethodName := ⟨RX3, "<init>", "()V"⟩
abbrev cX3_of : ByteArray := prog_5_method_2_code
def yX3_of : MethodName := ⟨RX3, "of", "(II)V"⟩
abbrev cX3_leastOther : ByteArray := prog_5_method_3_code
def yX3_leastOther : MethodName := ⟨RX3, "leastOther", "(II)I"⟩
abbrev cX3_isNone : ByteArray := prog_5_method_4_code
def yX3_isNone : MethodName := ⟨RX3, "isNone", "()Z"⟩
abbrev cX3_otherOf : ByteArray := prog_5_method_5_code
def yX3_otherOf : MethodName := ⟨RX3, "otherOf", "(I)I"⟩
abbrev cX3_howMany : ByteArray := prog_5_method_6_code
def yX3_howMany : MethodName := ⟨RX3, "howMany", "()I"⟩
abbrev cX3_number : ByteArray := prog_5_method_7_code
def yX3_number : MethodName := ⟨RX3, "number", "(I)I"⟩
abbrev cX3_isAt : ByteArray := prog_5_method_8_code
def yX3_isAt : MethodName := ⟨RX3, "isAt", "(II)Z"⟩
def RX4 : String := "AlikeHands$Reading"
def TX4 : u_T := fun k => match k with
  | 0 => ("AlikeHands$Reading", "arcs", "[I", true)
  | 1 => ("AlikeHands$Reading", "speeds", "[I", true)
  | 2 => ("AlikeHands$Reading", "count", "I", false)
  | _ => ("AlikeHands$Reading", "parts", "I", false)
def tyX4 : Nat → FieldType := fun k => match k with
  | 0 => .array .int
  | 1 => .array .int
  | 2 => .int
  | _ => .int
abbrev wsX40 : List Cond := u_ws RX4 TX4 4
theorem nmX4 : ∀ a, a < 4 → ∀ b, b < 4 → a ≠ b → (TX4 a).2.1 ≠ (TX4 b).2.1 := by decide +kernel
theorem tyX4_ok : ∀ k, k < 4 → parseFieldDescriptor (TX4 k).2.2.1 = some (tyX4 k) := by decide +kernel
abbrev cX4_init : ByteArray := prog_6_method_1_code
def yX4_init : MethodName := ⟨RX4, "<init>", "()V"⟩
abbrev cX4_take : ByteArray := prog_6_method_2_code
def yX4_take : MethodName := ⟨RX4, "take", "(LAlikeHands$Clock;LAlikeHands$Rows;III)V"⟩
abbrev cX4_arcOf : ByteArray := prog_6_method_3_code
def yX4_arcOf : MethodName := ⟨RX4, "arcOf", "(I)I"⟩
abbrev cX4_speedOf : ByteArray := prog_6_method_4_code
def yX4_speedOf : MethodName := ⟨RX4, "speedOf", "(I)I"⟩
abbrev cX4_whole : ByteArray := prog_6_method_5_code
def yX4_whole : MethodName := ⟨RX4, "whole", "()I"⟩
abbrev cX4_gap : ByteArray := prog_6_method_6_code
def yX4_gap : MethodName := ⟨RX4, "gap", "(III)I"⟩
abbrev cX4_fitsAt : ByteArray := prog_6_method_7_code
def yX4_fitsAt : MethodName := ⟨RX4, "fitsAt", "(III)Z"⟩
abbrev cX4_fitsWithout : ByteArray := prog_6_method_8_code
def yX4_fitsWithout : MethodName := ⟨RX4, "fitsWithout", "(I)Z"⟩
abbrev cX4_moved : ByteArray := prog_6_method_9_code
def yX4_moved : MethodName := ⟨RX4, "moved", "()I"⟩
abbrev cX4_leastMove : ByteArray := prog_6_method_10_code
def yX4_leastMove : MethodName := ⟨RX4, "leastMove", "()I"⟩
def RX5 : String := "AlikeHands$Rows"
def TX5 : u_T := fun k => match k with
  | 0 => ("AlikeHands$Rows", "items", "[I", true)
  | 1 => ("AlikeHands$Rows", "lanes", "[I", true)
  | _ => ("AlikeHands$Rows", "lengths", "[I", true)
def tyX5 : Nat → FieldType := fun k => match k with
  | 0 => .array .int
  | 1 => .array .int
  | _ => .array .int
abbrev wsX50 : List Cond := u_ws RX5 TX5 3
theorem nmX5 : ∀ a, a < 3 → ∀ b, b < 3 → a ≠ b → (TX5 a).2.1 ≠ (TX5 b).2.1 := by decide +kernel
theorem tyX5_ok : ∀ k, k < 3 → parseFieldDescriptor (TX5 k).2.2.1 = some (tyX5 k) := by decide +kernel
abbrev cX5_init : ByteArray := prog_7_method_1_code
def yX5_init : MethodName := ⟨RX5, "<init>", "()V"⟩
abbrev cX5_laneOf : ByteArray := prog_7_method_2_code
def yX5_laneOf : MethodName := ⟨RX5, "laneOf", "(I)I"⟩
abbrev cX5_isMissing : ByteArray := prog_7_method_3_code
def yX5_isMissing : MethodName := ⟨RX5, "isMissing", "(I)Z"⟩
abbrev cX5_length : ByteArray := prog_7_method_4_code
def yX5_length : MethodName := ⟨RX5, "length", "(I)I"⟩
abbrev cX5_reaches : ByteArray := prog_7_method_5_code
def yX5_reaches : MethodName := ⟨RX5, "reaches", "(III)Z"⟩
abbrev cX5_wrongAt : ByteArray := prog_7_method_6_code
def yX5_wrongAt : MethodName := ⟨RX5, "wrongAt", "(III)I"⟩
abbrev cX5_make : ByteArray := prog_7_method_7_code
def yX5_make : MethodName := ⟨RX5, "make", "(III)V"⟩
abbrev cX5_lose : ByteArray := prog_7_method_8_code
def yX5_lose : MethodName := ⟨RX5, "lose", "(I)V"⟩
abbrev cX5_item : ByteArray := prog_7_method_9_code
def yX5_item : MethodName := ⟨RX5, "item", "(II)I"⟩
abbrev cX5_put : ByteArray := prog_7_method_10_code
def yX5_put : MethodName := ⟨RX5, "put", "(III)V"⟩
abbrev cX5_move : ByteArray := prog_7_method_11_code
def yX5_move : MethodName := ⟨RX5, "move", "(IIIII)V"⟩
abbrev cX5_areBelow : ByteArray := prog_7_method_12_code
def yX5_areBelow : MethodName := ⟨RX5, "areBelow", "(IIII)Z"⟩
abbrev cX5_present : ByteArray := prog_7_method_13_code
def yX5_present : MethodName := ⟨RX5, "present", "()I"⟩
abbrev cX5_cut : ByteArray := prog_7_method_14_code
def yX5_cut : MethodName := ⟨RX5, "cut", "(II)I"⟩
def RX6 : String := "AlikeHands$Tape"
def TX6 : u_T := fun k => match k with
  | 0 => ("AlikeHands$Tape", "bytes", "[I", true)
  | 1 => ("AlikeHands$Tape", "length", "I", false)
  | 2 => ("AlikeHands$Tape", "token", "I", false)
  | 3 => ("AlikeHands$Tape", "from", "I", false)
  | 4 => ("AlikeHands$Tape", "to", "I", false)
  | _ => ("AlikeHands$Tape", "fault", "I", false)
def tyX6 : Nat → FieldType := fun k => match k with
  | 0 => .array .int
  | 1 => .int
  | 2 => .int
  | 3 => .int
  | 4 => .int
  | _ => .int
abbrev wsX60 : List Cond := u_ws RX6 TX6 6
theorem nmX6 : ∀ a, a < 6 → ∀ b, b < 6 → a ≠ b → (TX6 a).2.1 ≠ (TX6 b).2.1 := by decide +kernel
theorem tyX6_ok : ∀ k, k < 6 → parseFieldDescriptor (TX6 k).2.2.1 = some (tyX6 k) := by decide +kernel
abbrev cX6_init : ByteArray := prog_8_method_1_code
def yX6_init : MethodName := ⟨RX6, "<init>", "()V"⟩
abbrev cX6_hasRoom : ByteArray := prog_8_method_2_code
def yX6_hasRoom : MethodName := ⟨RX6, "hasRoom", "(I)Z"⟩
abbrev cX6_append : ByteArray := prog_8_method_3_code
def yX6_append : MethodName := ⟨RX6, "append", "(I)V"⟩
abbrev cX6_at : ByteArray := prog_8_method_4_code
def yX6_at : MethodName := ⟨RX6, "at", "(I)I"⟩
abbrev cX6_readInto : ByteArray := prog_8_method_5_code
def yX6_readInto : MethodName := ⟨RX6, "readInto", "(LAlikeHands$Clock;)V"⟩
abbrev cX6_takeHand : ByteArray := prog_8_method_6_code
def yX6_takeHand : MethodName := ⟨RX6, "takeHand", "(LAlikeHands$Clock;)V"⟩
abbrev cX6_takeWord : ByteArray := prog_8_method_7_code
def yX6_takeWord : MethodName := ⟨RX6, "takeWord", "(Ljava/lang/String;)V"⟩
abbrev cX6_takeSign : ByteArray := prog_8_method_8_code
def yX6_takeSign : MethodName := ⟨RX6, "takeSign", "()V"⟩
abbrev cX6_takeSort : ByteArray := prog_8_method_9_code
def yX6_takeSort : MethodName := ⟨RX6, "takeSort", "()I"⟩
abbrev cX6_takeNumber : ByteArray := prog_8_method_10_code
def yX6_takeNumber : MethodName := ⟨RX6, "takeNumber", "(II)I"⟩
abbrev cX6_pass : ByteArray := prog_8_method_11_code
def yX6_pass : MethodName := ⟨RX6, "pass", "(ZI)V"⟩
abbrev cX6_advance : ByteArray := prog_8_method_12_code
def yX6_advance : MethodName := ⟨RX6, "advance", "()V"⟩
abbrev cX6_isLetter : ByteArray := prog_8_method_13_code
def yX6_isLetter : MethodName := ⟨RX6, "isLetter", "(I)Z"⟩
abbrev cX6_isFigure : ByteArray := prog_8_method_14_code
def yX6_isFigure : MethodName := ⟨RX6, "isFigure", "(I)Z"⟩
abbrev cX6_isWord : ByteArray := prog_8_method_15_code
def yX6_isWord : MethodName := ⟨RX6, "isWord", "(Ljava/lang/String;)Z"⟩
abbrev cX6_sortHere : ByteArray := prog_8_method_16_code
def yX6_sortHere : MethodName := ⟨RX6, "sortHere", "()I"⟩
abbrev cX6_numberHere : ByteArray := prog_8_method_17_code
def yX6_numberHere : MethodName := ⟨RX6, "numberHere", "()I"⟩
def RX7 : String := "AlikeHands"
def TX7 : u_T := fun k => match k with
  | 0 => ("AlikeHands", "rows", "LAlikeHands$Rows;", true)
  | 1 => ("AlikeHands", "tape", "LAlikeHands$Tape;", true)
  | 2 => ("AlikeHands", "clock", "LAlikeHands$Clock;", true)
  | 3 => ("AlikeHands", "draft", "LAlikeHands$Clock;", true)
  | 4 => ("AlikeHands", "firstImage", "LAlikeHands$Clock;", true)
  | 5 => ("AlikeHands", "secondImage", "LAlikeHands$Clock;", true)
  | 6 => ("AlikeHands", "acts", "LAlikeHands$Acts;", true)
  | 7 => ("AlikeHands", "pair", "LAlikeHands$Doubts;", true)
  | 8 => ("AlikeHands", "reading", "LAlikeHands$Reading;", true)
  | 9 => ("AlikeHands", "asks", "LAlikeHands$Asks;", true)
  | 10 => ("AlikeHands", "latestFault", "I", false)
  | _ => ("AlikeHands", "finding", "I", false)
def tyX7 : Nat → FieldType := fun k => match k with
  | 0 => .object "AlikeHands$Rows"
  | 1 => .object "AlikeHands$Tape"
  | 2 => .object "AlikeHands$Clock"
  | 3 => .object "AlikeHands$Clock"
  | 4 => .object "AlikeHands$Clock"
  | 5 => .object "AlikeHands$Clock"
  | 6 => .object "AlikeHands$Acts"
  | 7 => .object "AlikeHands$Doubts"
  | 8 => .object "AlikeHands$Reading"
  | 9 => .object "AlikeHands$Asks"
  | 10 => .int
  | _ => .int
abbrev wsX70 : List Cond := u_ws RX7 TX7 12
theorem nmX7 : ∀ a, a < 12 → ∀ b, b < 12 → a ≠ b → (TX7 a).2.1 ≠ (TX7 b).2.1 := by decide +kernel
theorem tyX7_ok : ∀ k, k < 12 → parseFieldDescriptor (TX7 k).2.2.1 = some (tyX7 k) := by decide +kernel
abbrev cX7_init : ByteArray := prog_1_method_1_code
def yX7_init : MethodName := ⟨RX7, "<init>", "()V"⟩
abbrev cX7_row : ByteArray := prog_1_method_2_code
def yX7_row : MethodName := ⟨RX7, "row", "(III)I"⟩
abbrev cX7_set : ByteArray := prog_1_method_3_code
def yX7_set : MethodName := ⟨RX7, "set", "(III)I"⟩
abbrev cX7_copy : ByteArray := prog_1_method_4_code
def yX7_copy : MethodName := ⟨RX7, "copy", "(IIIII)I"⟩
abbrev cX7_drop : ByteArray := prog_1_method_5_code
def yX7_drop : MethodName := ⟨RX7, "drop", "(I)I"⟩
abbrev cX7_feed : ByteArray := prog_1_method_6_code
def yX7_feed : MethodName := ⟨RX7, "feed", "(JI)I"⟩
abbrev cX7_clock : ByteArray := prog_1_method_7_code
def yX7_clock : MethodName := ⟨RX7, "clock", "()I"⟩
abbrev cX7_fault : ByteArray := prog_1_method_8_code
def yX7_fault : MethodName := ⟨RX7, "fault", "()I"⟩
abbrev cX7_slip : ByteArray := prog_1_method_9_code
def yX7_slip : MethodName := ⟨RX7, "slip", "(II)I"⟩
abbrev cX7_undo : ByteArray := prog_1_method_10_code
def yX7_undo : MethodName := ⟨RX7, "undo", "()I"⟩
abbrev cX7_hand : ByteArray := prog_1_method_11_code
def yX7_hand : MethodName := ⟨RX7, "hand", "(II)I"⟩
abbrev cX7_points : ByteArray := prog_1_method_12_code
def yX7_points : MethodName := ⟨RX7, "points", "(IIII)I"⟩
abbrev cX7_doubts : ByteArray := prog_1_method_13_code
def yX7_doubts : MethodName := ⟨RX7, "doubts", "(II)I"⟩
abbrev cX7_doubt : ByteArray := prog_1_method_14_code
def yX7_doubt : MethodName := ⟨RX7, "doubt", "(IIII)I"⟩
abbrev cX7_isDoubt : ByteArray := prog_1_method_15_code
def yX7_isDoubt : MethodName := ⟨RX7, "isDoubt", "(IIII)I"⟩
abbrev cX7_next : ByteArray := prog_1_method_16_code
def yX7_next : MethodName := ⟨RX7, "next", "(IIIIII)I"⟩
abbrev cX7_often : ByteArray := prog_1_method_17_code
def yX7_often : MethodName := ⟨RX7, "often", "(III)I"⟩
abbrev cX7_all : ByteArray := prog_1_method_18_code
def yX7_all : MethodName := ⟨RX7, "all", "()I"⟩
abbrev cX7_lies : ByteArray := prog_1_method_19_code
def yX7_lies : MethodName := ⟨RX7, "lies", "(IIII)I"⟩
abbrev cX7_firstLie : ByteArray := prog_1_method_20_code
def yX7_firstLie : MethodName := ⟨RX7, "firstLie", "(III)I"⟩
abbrev cX7_glass : ByteArray := prog_1_method_21_code
def yX7_glass : MethodName := ⟨RX7, "glass", "(III)I"⟩
abbrev cX7_image : ByteArray := prog_1_method_22_code
def yX7_image : MethodName := ⟨RX7, "image", "(I)I"⟩
abbrev cX7_restore : ByteArray := prog_1_method_23_code
def yX7_restore : MethodName := ⟨RX7, "restore", "(I)I"⟩
abbrev cX7_kind : ByteArray := prog_1_method_24_code
def yX7_kind : MethodName := ⟨RX7, "kind", "(I)I"⟩
abbrev cX7_as : ByteArray := prog_1_method_25_code
def yX7_as : MethodName := ⟨RX7, "as", "(II)I"⟩
abbrev cX7_ask : ByteArray := prog_1_method_26_code
def yX7_ask : MethodName := ⟨RX7, "ask", "(II)I"⟩
abbrev cX7_trace : ByteArray := prog_1_method_27_code
def yX7_trace : MethodName := ⟨RX7, "trace", "(I)I"⟩
abbrev cX7_count : ByteArray := prog_1_method_28_code
def yX7_count : MethodName := ⟨RX7, "count", "(I)I"⟩
abbrev cX7_status : ByteArray := prog_1_method_29_code
def yX7_status : MethodName := ⟨RX7, "status", "()I"⟩
abbrev cX7_found : ByteArray := prog_1_method_30_code
def yX7_found : MethodName := ⟨RX7, "found", "(I)I"⟩
abbrev cX7_fine : ByteArray := prog_1_method_31_code
def yX7_fine : MethodName := ⟨RX7, "fine", "(I)I"⟩
abbrev cX7_isPair : ByteArray := prog_1_method_32_code
def yX7_isPair : MethodName := ⟨RX7, "isPair", "(II)Z"⟩
abbrev cX7_speedApart : ByteArray := prog_1_method_33_code
def yX7_speedApart : MethodName := ⟨RX7, "speedApart", "(II)I"⟩
abbrev cX7_imageOf : ByteArray := prog_1_method_34_code
def yX7_imageOf : MethodName := ⟨RX7, "imageOf", "(I)LAlikeHands$Clock;"⟩
abbrev cX7_lieOfReading : ByteArray := prog_1_method_35_code
def yX7_lieOfReading : MethodName := ⟨RX7, "lieOfReading", "(I)I"⟩
abbrev cX7_firstLieOf : ByteArray := prog_1_method_36_code
def yX7_firstLieOf : MethodName := ⟨RX7, "firstLieOf", "(III)I"⟩
abbrev cX7_trueInGlass : ByteArray := prog_1_method_37_code
def yX7_trueInGlass : MethodName := ⟨RX7, "trueInGlass", "(II)I"⟩
abbrev cX7_firstMeeting : ByteArray := prog_1_method_38_code
def yX7_firstMeeting : MethodName := ⟨RX7, "firstMeeting", "(IIII)I"⟩
abbrev cX7_isOfKind : ByteArray := prog_1_method_39_code
def yX7_isOfKind : MethodName := ⟨RX7, "isOfKind", "(II)Z"⟩
abbrev cX7_isRow : ByteArray := prog_1_method_40_code
def yX7_isRow : MethodName := ⟨RX7, "isRow", "(I)Z"⟩
abbrev cX7_isMoment : ByteArray := prog_1_method_41_code
def yX7_isMoment : MethodName := ⟨RX7, "isMoment", "(II)Z"⟩
abbrev cX7_isWithin : ByteArray := prog_1_method_42_code
def yX7_isWithin : MethodName := ⟨RX7, "isWithin", "(III)Z"⟩
abbrev cX7_rest : ByteArray := prog_1_method_43_code
def yX7_rest : MethodName := ⟨RX7, "rest", "(II)I"⟩
abbrev cX7_common : ByteArray := prog_1_method_44_code
def yX7_common : MethodName := ⟨RX7, "common", "(II)I"⟩
abbrev cX7_part : ByteArray := prog_1_method_45_code
def yX7_part : MethodName := ⟨RX7, "part", "(III)I"⟩
def RX8 : String := "AlikeHandsModel"
def TX8 : u_T := fun k => match k with
  | 0 => ("AlikeHandsModel", "thrown", "I", false)
  | 1 => ("AlikeHandsModel", "status", "I", false)
  | 2 => ("AlikeHandsModel", "lane", "[I", true)
  | 3 => ("AlikeHandsModel", "many", "[I", true)
  | 4 => ("AlikeHandsModel", "item", "[I", true)
  | 5 => ("AlikeHandsModel", "clock", "[I", true)
  | 6 => ("AlikeHandsModel", "fresh", "[I", true)
  | 7 => ("AlikeHandsModel", "was", "[I", true)
  | 8 => ("AlikeHandsModel", "acts", "I", false)
  | 9 => ("AlikeHandsModel", "tape", "[I", true)
  | 10 => ("AlikeHandsModel", "taped", "I", false)
  | 11 => ("AlikeHandsModel", "latest", "I", false)
  | 12 => ("AlikeHandsModel", "length", "I", false)
  | 13 => ("AlikeHandsModel", "cursor", "I", false)
  | 14 => ("AlikeHandsModel", "token", "I", false)
  | 15 => ("AlikeHandsModel", "start", "I", false)
  | 16 => ("AlikeHandsModel", "till", "I", false)
  | 17 => ("AlikeHandsModel", "fault", "I", false)
  | 18 => ("AlikeHandsModel", "faultAt", "I", false)
  | 19 => ("AlikeHandsModel", "least", "I", false)
  | 20 => ("AlikeHandsModel", "leastOf", "I", false)
  | 21 => ("AlikeHandsModel", "isKept", "[Z", true)
  | 22 => ("AlikeHandsModel", "kept", "[I", true)
  | 23 => ("AlikeHandsModel", "trace", "[I", true)
  | _ => ("AlikeHandsModel", "traced", "I", false)
def tyX8 : Nat → FieldType := fun k => match k with
  | 0 => .int
  | 1 => .int
  | 2 => .array .int
  | 3 => .array .int
  | 4 => .array .int
  | 5 => .array .int
  | 6 => .array .int
  | 7 => .array .int
  | 8 => .int
  | 9 => .array .int
  | 10 => .int
  | 11 => .int
  | 12 => .int
  | 13 => .int
  | 14 => .int
  | 15 => .int
  | 16 => .int
  | 17 => .int
  | 18 => .int
  | 19 => .int
  | 20 => .int
  | 21 => .array .boolean
  | 22 => .array .int
  | 23 => .array .int
  | _ => .int
abbrev wsX80 : List Cond := u_ws RX8 TX8 25
theorem nmX8 : ∀ a, a < 25 → ∀ b, b < 25 → a ≠ b → (TX8 a).2.1 ≠ (TX8 b).2.1 := by decide +kernel
theorem tyX8_ok : ∀ k, k < 25 → parseFieldDescriptor (TX8 k).2.2.1 = some (tyX8 k) := by decide +kernel
abbrev cX8_init : ByteArray := prog_10_method_1_code
def yX8_init : MethodName := ⟨RX8, "<init>", "()V"⟩
abbrev cX8_in : ByteArray := prog_10_method_3_code
def yX8_in : MethodName := ⟨RX8, "in", "(JJJ)Z"⟩
abbrev cX8_finding : ByteArray := prog_10_method_4_code
def yX8_finding : MethodName := ⟨RX8, "finding", "(I)I"⟩
abbrev cX8_isRow : ByteArray := prog_10_method_5_code
def yX8_isRow : MethodName := ⟨RX8, "isRow", "(I)Z"⟩
abbrev cX8_row : ByteArray := prog_10_method_6_code
def yX8_row : MethodName := ⟨RX8, "row", "(III)I"⟩
abbrev cX8_set : ByteArray := prog_10_method_7_code
def yX8_set : MethodName := ⟨RX8, "set", "(III)I"⟩
abbrev cX8_copy : ByteArray := prog_10_method_8_code
def yX8_copy : MethodName := ⟨RX8, "copy", "(IIIII)I"⟩
abbrev cX8_drop : ByteArray := prog_10_method_9_code
def yX8_drop : MethodName := ⟨RX8, "drop", "(I)I"⟩
abbrev cX8_feed : ByteArray := prog_10_method_10_code
def yX8_feed : MethodName := ⟨RX8, "feed", "(JI)I"⟩
abbrev cX8_byteAt : ByteArray := prog_10_method_11_code
def yX8_byteAt : MethodName := ⟨RX8, "byteAt", "(I)I"⟩
abbrev cX8_isLetter : ByteArray := prog_10_method_12_code
def yX8_isLetter : MethodName := ⟨RX8, "isLetter", "(I)Z"⟩
abbrev cX8_isFigure : ByteArray := prog_10_method_13_code
def yX8_isFigure : MethodName := ⟨RX8, "isFigure", "(I)Z"⟩
abbrev cX8_nextToken : ByteArray := prog_10_method_14_code
def yX8_nextToken : MethodName := ⟨RX8, "nextToken", "()V"⟩
abbrev cX8_begin : ByteArray := prog_10_method_15_code
def yX8_begin : MethodName := ⟨RX8, "begin", "()V"⟩
abbrev cX8_bad : ByteArray := prog_10_method_16_code
def yX8_bad : MethodName := ⟨RX8, "bad", "(I)V"⟩
abbrev cX8_must : ByteArray := prog_10_method_17_code
def yX8_must : MethodName := ⟨RX8, "must", "(Z)V"⟩
abbrev cX8_name : ByteArray := prog_10_method_18_code
def yX8_name : MethodName := ⟨RX8, "name", "()J"⟩
abbrev cX8_figures : ByteArray := prog_10_method_19_code
def yX8_figures : MethodName := ⟨RX8, "figures", "()I"⟩
abbrev cX8_number : ByteArray := prog_10_method_20_code
def yX8_number : MethodName := ⟨RX8, "number", "(II)I"⟩
abbrev cX8_kindBy : ByteArray := prog_10_method_21_code
def yX8_kindBy : MethodName := ⟨RX8, "kindBy", "(J)I"⟩
abbrev cX8_mustEnd : ByteArray := prog_10_method_22_code
def yX8_mustEnd : MethodName := ⟨RX8, "mustEnd", "()V"⟩
abbrev cX8_readHand : ByteArray := prog_10_method_23_code
def yX8_readHand : MethodName := ⟨RX8, "readHand", "()V"⟩
abbrev cX8_clock : ByteArray := prog_10_method_24_code
def yX8_clock : MethodName := ⟨RX8, "clock", "()I"⟩
abbrev cX8_fault : ByteArray := prog_10_method_25_code
def yX8_fault : MethodName := ⟨RX8, "fault", "()I"⟩
abbrev cX8_isThere : ByteArray := prog_10_method_26_code
def yX8_isThere : MethodName := ⟨RX8, "isThere", "()Z"⟩
abbrev cX8_isHand : ByteArray := prog_10_method_27_code
def yX8_isHand : MethodName := ⟨RX8, "isHand", "(I)Z"⟩
abbrev cX8_areTwo : ByteArray := prog_10_method_28_code
def yX8_areTwo : MethodName := ⟨RX8, "areTwo", "(II)Z"⟩
abbrev cX8_isMoment : ByteArray := prog_10_method_29_code
def yX8_isMoment : MethodName := ⟨RX8, "isMoment", "(II)Z"⟩
abbrev cX8_of : ByteArray := prog_10_method_30_code
def yX8_of : MethodName := ⟨RX8, "of", "(II)I"⟩
abbrev cX8_speed : ByteArray := prog_10_method_31_code
def yX8_speed : MethodName := ⟨RX8, "speed", "(I)I"⟩
abbrev cX8_size : ByteArray := prog_10_method_32_code
def yX8_size : MethodName := ⟨RX8, "size", "(I)I"⟩
abbrev cX8_rest : ByteArray := prog_10_method_33_code
def yX8_rest : MethodName := ⟨RX8, "rest", "(II)I"⟩
abbrev cX8_divisor : ByteArray := prog_10_method_34_code
def yX8_divisor : MethodName := ⟨RX8, "divisor", "(II)I"⟩
abbrev cX8_told : ByteArray := prog_10_method_35_code
def yX8_told : MethodName := ⟨RX8, "told", "(III)I"⟩
abbrev cX8_slip : ByteArray := prog_10_method_36_code
def yX8_slip : MethodName := ⟨RX8, "slip", "(II)I"⟩
abbrev cX8_undo : ByteArray := prog_10_method_37_code
def yX8_undo : MethodName := ⟨RX8, "undo", "()I"⟩
abbrev cX8_hand : ByteArray := prog_10_method_38_code
def yX8_hand : MethodName := ⟨RX8, "hand", "(II)I"⟩
abbrev cX8_arc : ByteArray := prog_10_method_39_code
def yX8_arc : MethodName := ⟨RX8, "arc", "(III)I"⟩
abbrev cX8_points : ByteArray := prog_10_method_40_code
def yX8_points : MethodName := ⟨RX8, "points", "(IIII)I"⟩
abbrev cX8_partsOf : ByteArray := prog_10_method_41_code
def yX8_partsOf : MethodName := ⟨RX8, "partsOf", "(II)I"⟩
abbrev cX8_otherOf : ByteArray := prog_10_method_42_code
def yX8_otherOf : MethodName := ⟨RX8, "otherOf", "(III)I"⟩
abbrev cX8_doubts : ByteArray := prog_10_method_43_code
def yX8_doubts : MethodName := ⟨RX8, "doubts", "(II)I"⟩
abbrev cX8_doubt : ByteArray := prog_10_method_44_code
def yX8_doubt : MethodName := ⟨RX8, "doubt", "(IIII)I"⟩
abbrev cX8_isDoubt : ByteArray := prog_10_method_45_code
def yX8_isDoubt : MethodName := ⟨RX8, "isDoubt", "(IIII)I"⟩
abbrev cX8_isSo : ByteArray := prog_10_method_46_code
def yX8_isSo : MethodName := ⟨RX8, "isSo", "(II)Z"⟩
abbrev cX8_next : ByteArray := prog_10_method_47_code
def yX8_next : MethodName := ⟨RX8, "next", "(IIIIII)I"⟩
abbrev cX8_often : ByteArray := prog_10_method_48_code
def yX8_often : MethodName := ⟨RX8, "often", "(III)I"⟩
abbrev cX8_all : ByteArray := prog_10_method_49_code
def yX8_all : MethodName := ⟨RX8, "all", "()I"⟩
abbrev cX8_isTrue : ByteArray := prog_10_method_50_code
def yX8_isTrue : MethodName := ⟨RX8, "isTrue", "(III)Z"⟩
abbrev cX8_lacks : ByteArray := prog_10_method_51_code
def yX8_lacks : MethodName := ⟨RX8, "lacks", "(III)I"⟩
abbrev cX8_areArcs : ByteArray := prog_10_method_52_code
def yX8_areArcs : MethodName := ⟨RX8, "areArcs", "(III)Z"⟩
abbrev cX8_lies : ByteArray := prog_10_method_53_code
def yX8_lies : MethodName := ⟨RX8, "lies", "(IIII)I"⟩
abbrev cX8_firstLie : ByteArray := prog_10_method_54_code
def yX8_firstLie : MethodName := ⟨RX8, "firstLie", "(III)I"⟩
abbrev cX8_glass : ByteArray := prog_10_method_55_code
def yX8_glass : MethodName := ⟨RX8, "glass", "(III)I"⟩
abbrev cX8_image : ByteArray := prog_10_method_56_code
def yX8_image : MethodName := ⟨RX8, "image", "(I)I"⟩
abbrev cX8_restore : ByteArray := prog_10_method_57_code
def yX8_restore : MethodName := ⟨RX8, "restore", "(I)I"⟩
abbrev cX8_isOf : ByteArray := prog_10_method_58_code
def yX8_isOf : MethodName := ⟨RX8, "isOf", "(II)Z"⟩
abbrev cX8_kind : ByteArray := prog_10_method_59_code
def yX8_kind : MethodName := ⟨RX8, "kind", "(I)I"⟩
abbrev cX8_as : ByteArray := prog_10_method_60_code
def yX8_as : MethodName := ⟨RX8, "as", "(II)I"⟩
abbrev cX8_began : ByteArray := prog_10_method_61_code
def yX8_began : MethodName := ⟨RX8, "began", "(I)V"⟩
abbrev cX8_plainSize : ByteArray := prog_10_method_62_code
def yX8_plainSize : MethodName := ⟨RX8, "plainSize", "(I)I"⟩
abbrev cX8_backSize : ByteArray := prog_10_method_63_code
def yX8_backSize : MethodName := ⟨RX8, "backSize", "(I)I"⟩
abbrev cX8_markOf : ByteArray := prog_10_method_64_code
def yX8_markOf : MethodName := ⟨RX8, "markOf", "(I)I"⟩
abbrev cX8_sizeOf : ByteArray := prog_10_method_65_code
def yX8_sizeOf : MethodName := ⟨RX8, "sizeOf", "(I)I"⟩
abbrev cX8_ask : ByteArray := prog_10_method_66_code
def yX8_ask : MethodName := ⟨RX8, "ask", "(II)I"⟩
abbrev cX8_trace : ByteArray := prog_10_method_67_code
def yX8_trace : MethodName := ⟨RX8, "trace", "(I)I"⟩
abbrev cX8_count : ByteArray := prog_10_method_68_code
def yX8_count : MethodName := ⟨RX8, "count", "(I)I"⟩
abbrev cX8_status : ByteArray := prog_10_method_69_code
def yX8_status : MethodName := ⟨RX8, "status", "()I"⟩
def RJx145de : String := "java/io/Serializable"
def TJx145de : u_T := fun k => match k with
  | _ => ("", "", "", false)
def tyJx145de : Nat → FieldType := fun k => match k with
  | _ => .int
abbrev wsJx145de0 : List Cond := u_ws RJx145de TJx145de 0
theorem nmJx145de : ∀ a, a < 0 → ∀ b, b < 0 → a ≠ b → (TJx145de a).2.1 ≠ (TJx145de b).2.1 := by decide +kernel
theorem tyJx145de_ok : ∀ k, k < 0 → parseFieldDescriptor (TJx145de k).2.2.1 = some (tyJx145de k) := by decide +kernel
def RJx9f9b0 : String := "java/lang/CharSequence"
def TJx9f9b0 : u_T := fun k => match k with
  | _ => ("", "", "", false)
def tyJx9f9b0 : Nat → FieldType := fun k => match k with
  | _ => .int
abbrev wsJx9f9b00 : List Cond := u_ws RJx9f9b0 TJx9f9b0 0
theorem nmJx9f9b0 : ∀ a, a < 0 → ∀ b, b < 0 → a ≠ b → (TJx9f9b0 a).2.1 ≠ (TJx9f9b0 b).2.1 := by decide +kernel
theorem tyJx9f9b0_ok : ∀ k, k < 0 → parseFieldDescriptor (TJx9f9b0 k).2.2.1 = some (tyJx9f9b0 k) := by decide +kernel
def RJxb160c : String := "java/lang/Comparable"
def TJxb160c : u_T := fun k => match k with
  | _ => ("", "", "", false)
def tyJxb160c : Nat → FieldType := fun k => match k with
  | _ => .int
abbrev wsJxb160c0 : List Cond := u_ws RJxb160c TJxb160c 0
theorem nmJxb160c : ∀ a, a < 0 → ∀ b, b < 0 → a ≠ b → (TJxb160c a).2.1 ≠ (TJxb160c b).2.1 := by decide +kernel
theorem tyJxb160c_ok : ∀ k, k < 0 → parseFieldDescriptor (TJxb160c k).2.2.1 = some (tyJxb160c k) := by decide +kernel
def RJ9 : String := "java/lang/Math"
def TJ9 : u_T := fun k => match k with
  | _ => ("", "", "", false)
def tyJ9 : Nat → FieldType := fun k => match k with
  | _ => .int
abbrev wsJ90 : List Cond := u_ws RJ9 TJ9 0
theorem nmJ9 : ∀ a, a < 0 → ∀ b, b < 0 → a ≠ b → (TJ9 a).2.1 ≠ (TJ9 b).2.1 := by decide +kernel
theorem tyJ9_ok : ∀ k, k < 0 → parseFieldDescriptor (TJ9 k).2.2.1 = some (tyJ9 k) := by decide +kernel
abbrev cJ9_floorMod_7cf53 : ByteArray := prog_11_method_50_code
def yJ9_floorMod_7cf53 : MethodName := ⟨RJ9, "floorMod", "(II)I"⟩
abbrev cJ9_abs_0f7a4 : ByteArray := prog_11_method_59_code
def yJ9_abs_0f7a4 : MethodName := ⟨RJ9, "abs", "(I)I"⟩
abbrev cJ9_max_7cf53 : ByteArray := prog_11_method_65_code
def yJ9_max_7cf53 : MethodName := ⟨RJ9, "max", "(II)I"⟩
abbrev cJ9_min_7cf53 : ByteArray := prog_11_method_69_code
def yJ9_min_7cf53 : MethodName := ⟨RJ9, "min", "(II)I"⟩
def RJ0 : String := "java/lang/String"
def TJ0 : u_T := fun k => match k with
  | _ => ("", "", "", false)
def tyJ0 : Nat → FieldType := fun k => match k with
  | _ => .int
abbrev wsJ00 : List Cond := u_ws RJ0 TJ0 0
theorem nmJ0 : ∀ a, a < 0 → ∀ b, b < 0 → a ≠ b → (TJ0 a).2.1 ≠ (TJ0 b).2.1 := by decide +kernel
theorem tyJ0_ok : ∀ k, k < 0 → parseFieldDescriptor (TJ0 k).2.2.1 = some (tyJ0 k) := by decide +kernel
abbrev cJ0_length_8abf5 : ByteArray := prog_12_method_54_code
def yJ0_length_8abf5 : MethodName := ⟨RJ0, "length", "()I"⟩
abbrev cJ0_charAt_5068e : ByteArray := prog_12_method_56_code
def yJ0_charAt_5068e : MethodName := ⟨RJ0, "charAt", "(I)C"⟩
abbrev cJ0_coder_7d493 : ByteArray := prog_12_method_152_code
def yJ0_coder_7d493 : MethodName := ⟨RJ0, "coder", "()B"⟩
abbrev cJ0_isLatin1_aae02 : ByteArray := prog_12_method_154_code
def yJ0_isLatin1_aae02 : MethodName := ⟨RJ0, "isLatin1", "()Z"⟩
abbrev cJ0_checkIndex_df160 : ByteArray := prog_12_method_155_code
def yJ0_checkIndex_df160 : MethodName := ⟨RJ0, "checkIndex", "(II)V"⟩
def RJ1 : String := "java/lang/StringLatin1"
def TJ1 : u_T := fun k => match k with
  | _ => ("", "", "", false)
def tyJ1 : Nat → FieldType := fun k => match k with
  | _ => .int
abbrev wsJ10 : List Cond := u_ws RJ1 TJ1 0
theorem nmJ1 : ∀ a, a < 0 → ∀ b, b < 0 → a ≠ b → (TJ1 a).2.1 ≠ (TJ1 b).2.1 := by decide +kernel
theorem tyJ1_ok : ∀ k, k < 0 → parseFieldDescriptor (TJ1 k).2.2.1 = some (tyJ1 k) := by decide +kernel
abbrev cJ1_charAt_3b067 : ByteArray := prog_13_method_2_code
def yJ1_charAt_3b067 : MethodName := ⟨RJ1, "charAt", "([BI)C"⟩
def RJ2 : String := "java/lang/StringUTF16"
def TJ2 : u_T := fun k => match k with
  | _ => ("", "", "", false)
def tyJ2 : Nat → FieldType := fun k => match k with
  | _ => .int
abbrev wsJ20 : List Cond := u_ws RJ2 TJ2 0
theorem nmJ2 : ∀ a, a < 0 → ∀ b, b < 0 → a ≠ b → (TJ2 a).2.1 ≠ (TJ2 b).2.1 := by decide +kernel
theorem tyJ2_ok : ∀ k, k < 0 → parseFieldDescriptor (TJ2 k).2.2.1 = some (tyJ2 k) := by decide +kernel
abbrev cJ2_getChar_3b067 : ByteArray := prog_14_method_5_code
def yJ2_getChar_3b067 : MethodName := ⟨RJ2, "getChar", "([BI)C"⟩
abbrev cJ2_length_9d52b : ByteArray := prog_14_method_6_code
def yJ2_length_9d52b : MethodName := ⟨RJ2, "length", "([B)I"⟩
abbrev cJ2_charAt_3b067 : ByteArray := prog_14_method_83_code
def yJ2_charAt_3b067 : MethodName := ⟨RJ2, "charAt", "([BI)C"⟩
abbrev cJ2_checkIndex_2214a : ByteArray := prog_14_method_91_code
def yJ2_checkIndex_2214a : MethodName := ⟨RJ2, "checkIndex", "(I[B)V"⟩
def RJ10 : String := "java/lang/System"
def TJ10 : u_T := fun k => match k with
  | _ => ("", "", "", false)
def tyJ10 : Nat → FieldType := fun k => match k with
  | _ => .int
abbrev wsJ100 : List Cond := u_ws RJ10 TJ10 0
theorem nmJ10 : ∀ a, a < 0 → ∀ b, b < 0 → a ≠ b → (TJ10 a).2.1 ≠ (TJ10 b).2.1 := by decide +kernel
theorem tyJ10_ok : ∀ k, k < 0 → parseFieldDescriptor (TJ10 k).2.2.1 = some (tyJ10 k) := by decide +kernel
def RJxfd54e : String := "java/lang/constant/Constable"
def TJxfd54e : u_T := fun k => match k with
  | _ => ("", "", "", false)
def tyJxfd54e : Nat → FieldType := fun k => match k with
  | _ => .int
abbrev wsJxfd54e0 : List Cond := u_ws RJxfd54e TJxfd54e 0
theorem nmJxfd54e : ∀ a, a < 0 → ∀ b, b < 0 → a ≠ b → (TJxfd54e a).2.1 ≠ (TJxfd54e b).2.1 := by decide +kernel
theorem tyJxfd54e_ok : ∀ k, k < 0 → parseFieldDescriptor (TJxfd54e k).2.2.1 = some (tyJxfd54e k) := by decide +kernel
def RJx3cf43 : String := "java/lang/constant/ConstantDesc"
def TJx3cf43 : u_T := fun k => match k with
  | _ => ("", "", "", false)
def tyJx3cf43 : Nat → FieldType := fun k => match k with
  | _ => .int
abbrev wsJx3cf430 : List Cond := u_ws RJx3cf43 TJx3cf43 0
theorem nmJx3cf43 : ∀ a, a < 0 → ∀ b, b < 0 → a ≠ b → (TJx3cf43 a).2.1 ≠ (TJx3cf43 b).2.1 := by decide +kernel
theorem tyJx3cf43_ok : ∀ k, k < 0 → parseFieldDescriptor (TJx3cf43 k).2.2.1 = some (tyJx3cf43 k) := by decide +kernel
def RJ7 : String := "java/util/Arrays"
def TJ7 : u_T := fun k => match k with
  | _ => ("", "", "", false)
def tyJ7 : Nat → FieldType := fun k => match k with
  | _ => .int
abbrev wsJ70 : List Cond := u_ws RJ7 TJ7 0
theorem nmJ7 : ∀ a, a < 0 → ∀ b, b < 0 → a ≠ b → (TJ7 a).2.1 ≠ (TJ7 b).2.1 := by decide +kernel
theorem tyJ7_ok : ∀ k, k < 0 → parseFieldDescriptor (TJ7 k).2.2.1 = some (tyJ7 k) := by decide +kernel
abbrev cJ7_fill_53178 : ByteArray := prog_16_method_103_code
def yJ7_fill_53178 : MethodName := ⟨RJ7, "fill", "([II)V"⟩
def RJ3 : String := "jdk/internal/util/Preconditions"
def TJ3 : u_T := fun k => match k with
  | _ => ("", "", "", false)
def tyJ3 : Nat → FieldType := fun k => match k with
  | _ => .int
abbrev wsJ30 : List Cond := u_ws RJ3 TJ3 0
theorem nmJ3 : ∀ a, a < 0 → ∀ b, b < 0 → a ≠ b → (TJ3 a).2.1 ≠ (TJ3 b).2.1 := by decide +kernel
theorem tyJ3_ok : ∀ k, k < 0 → parseFieldDescriptor (TJ3 k).2.2.1 = some (tyJ3 k) := by decide +kernel
abbrev cJ3_checkIndex_8e157 : ByteArray := prog_17_method_11_code
def yJ3_checkIndex_8e157 : MethodName := ⟨RJ3, "checkIndex", "(IILjava/util/function/BiFunction;)I"⟩
def RL : String := "AlikeHandsLaw"
abbrev cL_law : ByteArray := code
def yL_law : MethodName := ⟨RL, "law", "([I)Z"⟩
def wsX0_init : List Cond := .code yX0_init cX0_init 1 none :: ([.methodLink RX0 1 objectInit, .instanceMethod objectInit, .code objectInit ⟨#[0xb1]⟩ 1 none, .arrayClass .int, .fieldLink RX0 9 "AlikeHands$Acts" "hands" "[I", .fieldLink RX0 13 "AlikeHands$Acts" "slips" "[I"] ++ wsX00)
def wsX0_forgetOldest : List Cond := .code yX0_forgetOldest cX0_forgetOldest 1 none :: ([.fieldLink RX0 9 "AlikeHands$Acts" "hands" "[I", .methodLink RX0 23 arraycopyName, .native arraycopyName, .static arraycopyName, .initialized "java/lang/System", .fieldLink RX0 13 "AlikeHands$Acts" "slips" "[I", .fieldLink RX0 16 "AlikeHands$Acts" "length" "I"] ++ wsX00)
def wsX0_keep : List Cond := .code yX0_keep cX0_keep 3 none :: ([.fieldLink RX0 16 "AlikeHands$Acts" "length" "I", .fieldLink RX0 9 "AlikeHands$Acts" "hands" "[I", .fieldLink RX0 13 "AlikeHands$Acts" "slips" "[I", .methodLink RX0 20 yX0_forgetOldest, .instanceMethod yX0_forgetOldest, .selects RX0 yX0_forgetOldest yX0_forgetOldest, .initialized RX0, .code yX0_forgetOldest cX0_forgetOldest 1 none, .methodLink RX0 23 arraycopyName, .native arraycopyName, .static arraycopyName, .initialized "java/lang/System"] ++ wsX00)
def wsX7_isWithin : List Cond := .code yX7_isWithin cX7_isWithin 3 (some .boolean) :: ([])
def wsX0_lastHand : List Cond := .code yX0_lastHand cX0_lastHand 1 (some .int) :: ([.fieldLink RX0 16 "AlikeHands$Acts" "length" "I", .fieldLink RX0 9 "AlikeHands$Acts" "hands" "[I", .static yX7_isWithin, .initialized RX7, .code yX7_isWithin cX7_isWithin 3 (some .boolean)] ++ wsX00)
def wsX0_lastSlip : List Cond := .code yX0_lastSlip cX0_lastSlip 1 (some .int) :: ([.fieldLink RX0 16 "AlikeHands$Acts" "length" "I", .fieldLink RX0 13 "AlikeHands$Acts" "slips" "[I", .static yX7_isWithin, .initialized RX7, .code yX7_isWithin cX7_isWithin 3 (some .boolean)] ++ wsX00)
def wsX1_init : List Cond := .code yX1_init cX1_init 1 none :: ([.methodLink RX1 3 objectInit, .instanceMethod objectInit, .code objectInit ⟨#[0xb1]⟩ 1 none, .arrayClass .int, .fieldLink RX1 11 "AlikeHands$Asks" "bodies" "[I"] ++ wsX10)
def wsX1_leave : List Cond := .code yX1_leave cX1_leave 2 none :: ([.fieldLink RX1 15 "AlikeHands$Asks" "length" "I", .fieldLink RX1 11 "AlikeHands$Asks" "bodies" "[I"] ++ wsX10)
def wsX1_numberAt : List Cond := .code yX1_numberAt cX1_numberAt 2 (some .int) :: ([.fieldLink RX1 15 "AlikeHands$Asks" "length" "I", .fieldLink RX1 11 "AlikeHands$Asks" "bodies" "[I", .constant RX1 19 (-1000000)] ++ wsX10)
def wsX2_has : List Cond := .code yX2_has cX2_has 2 (some .boolean) :: ([.fieldLink RX2 21 "AlikeHands$Clock" "count" "I"] ++ wsX20)
def wsX2_turnsOf : List Cond := .code yX2_turnsOf cX2_turnsOf 2 (some .int) :: ([.fieldLink RX2 15 "AlikeHands$Clock" "turns" "[I", .methodLink RX2 25 yX2_has, .instanceMethod yX2_has, .selects RX2 yX2_has yX2_has, .initialized RX2, .code yX2_has cX2_has 2 (some .boolean), .fieldLink RX2 21 "AlikeHands$Clock" "count" "I"] ++ wsX20)
def wsX1_lentSize : List Cond := .code yX1_lentSize cX1_lentSize 3 (some .int) :: ([.methodLink RX1 20 yX1_leave, .instanceMethod yX1_leave, .selects RX1 yX1_leave yX1_leave, .initialized RX1, .code yX1_leave cX1_leave 2 none, .fieldLink RX1 15 "AlikeHands$Asks" "length" "I", .fieldLink RX1 11 "AlikeHands$Asks" "bodies" "[I", .methodLink RX1 24 yX2_turnsOf, .instanceMethod yX2_turnsOf, .selects RX2 yX2_turnsOf yX2_turnsOf, .initialized RX2, .code yX2_turnsOf cX2_turnsOf 2 (some .int), .fieldLink RX2 15 "AlikeHands$Clock" "turns" "[I", .methodLink RX2 25 yX2_has, .instanceMethod yX2_has, .selects RX2 yX2_has yX2_has, .code yX2_has cX2_has 2 (some .boolean), .fieldLink RX2 21 "AlikeHands$Clock" "count" "I"] ++ wsX10 ++ wsX20)
def wsX1_lentMark : List Cond := .code yX1_lentMark cX1_lentMark 2 (some .int) :: ([.methodLink RX1 20 yX1_leave, .instanceMethod yX1_leave, .selects RX1 yX1_leave yX1_leave, .initialized RX1, .code yX1_leave cX1_leave 2 none, .fieldLink RX1 15 "AlikeHands$Asks" "length" "I", .fieldLink RX1 11 "AlikeHands$Asks" "bodies" "[I"] ++ wsX10)
def wsX2_sortOf : List Cond := .code yX2_sortOf cX2_sortOf 2 (some .int) :: ([.fieldLink RX2 9 "AlikeHands$Clock" "sorts" "[I", .methodLink RX2 25 yX2_has, .instanceMethod yX2_has, .selects RX2 yX2_has yX2_has, .initialized RX2, .code yX2_has cX2_has 2 (some .boolean), .fieldLink RX2 21 "AlikeHands$Clock" "count" "I"] ++ wsX20)
def wsX2_slipOf : List Cond := .code yX2_slipOf cX2_slipOf 2 (some .int) :: ([.fieldLink RX2 18 "AlikeHands$Clock" "slips" "[I", .methodLink RX2 25 yX2_has, .instanceMethod yX2_has, .selects RX2 yX2_has yX2_has, .initialized RX2, .code yX2_has cX2_has 2 (some .boolean), .fieldLink RX2 21 "AlikeHands$Clock" "count" "I"] ++ wsX20)
def wsX1_hourMark : List Cond := .code yX1_hourMark cX1_hourMark 3 (some .int) :: ([.methodLink RX1 20 yX1_leave, .instanceMethod yX1_leave, .selects RX1 yX1_leave yX1_leave, .initialized RX1, .code yX1_leave cX1_leave 2 none, .fieldLink RX1 15 "AlikeHands$Asks" "length" "I", .fieldLink RX1 11 "AlikeHands$Asks" "bodies" "[I", .methodLink RX1 37 yX1_lentMark, .instanceMethod yX1_lentMark, .selects RX1 yX1_lentMark yX1_lentMark, .code yX1_lentMark cX1_lentMark 2 (some .int), .methodLink RX1 40 yX2_slipOf, .instanceMethod yX2_slipOf, .selects RX2 yX2_slipOf yX2_slipOf, .initialized RX2, .code yX2_slipOf cX2_slipOf 2 (some .int), .fieldLink RX2 18 "AlikeHands$Clock" "slips" "[I", .methodLink RX2 25 yX2_has, .instanceMethod yX2_has, .selects RX2 yX2_has yX2_has, .code yX2_has cX2_has 2 (some .boolean), .fieldLink RX2 21 "AlikeHands$Clock" "count" "I"] ++ wsX10 ++ wsX20)
def wsX1_markOfHours_r1 : List Cond := [Cond.methodLink RX1 43 yX2_sortOf, Cond.instanceMethod yX2_sortOf, Cond.selects RX2 yX2_sortOf yX2_sortOf, Cond.initialized RX2, Cond.code yX2_sortOf cX2_sortOf 2 (some .int), Cond.fieldLink RX2 9 "AlikeHands$Clock" "sorts" "[I", Cond.methodLink RX2 25 yX2_has, Cond.instanceMethod yX2_has, Cond.selects RX2 yX2_has yX2_has, Cond.code yX2_has cX2_has 2 (some .boolean), Cond.fieldLink RX2 21 "AlikeHands$Clock" "count" "I", Cond.methodLink RX1 20 yX1_leave, Cond.instanceMethod yX1_leave, Cond.selects RX1 yX1_leave yX1_leave, Cond.initialized RX1, Cond.code yX1_leave cX1_leave 2 none, Cond.fieldLink RX1 15 "AlikeHands$Asks" "length" "I", Cond.fieldLink RX1 11 "AlikeHands$Asks" "bodies" "[I", Cond.methodLink RX1 49 yX1_hourMark, Cond.instanceMethod yX1_hourMark, Cond.selects RX1 yX1_hourMark yX1_hourMark, Cond.code yX1_hourMark cX1_hourMark 3 (some .int), Cond.methodLink RX1 37 yX1_lentMark, Cond.instanceMethod yX1_lentMark]
def wsX1_markOfHours_r2 : List Cond := [Cond.selects RX1 yX1_lentMark yX1_lentMark, Cond.code yX1_lentMark cX1_lentMark 2 (some .int), Cond.methodLink RX1 40 yX2_slipOf, Cond.instanceMethod yX2_slipOf, Cond.selects RX2 yX2_slipOf yX2_slipOf, Cond.code yX2_slipOf cX2_slipOf 2 (some .int), Cond.fieldLink RX2 18 "AlikeHands$Clock" "slips" "[I"]
def wsX1_markOfHours : List Cond := .code yX1_markOfHours cX1_markOfHours 4 (some .int) :: ((wsX1_markOfHours_r1 ++ wsX1_markOfHours_r2) ++ wsX20 ++ wsX10)
def wsX1_hourSize_r1 : List Cond := [Cond.methodLink RX1 20 yX1_leave, Cond.instanceMethod yX1_leave, Cond.selects RX1 yX1_leave yX1_leave, Cond.initialized RX1, Cond.code yX1_leave cX1_leave 2 none, Cond.fieldLink RX1 15 "AlikeHands$Asks" "length" "I", Cond.fieldLink RX1 11 "AlikeHands$Asks" "bodies" "[I", Cond.methodLink RX1 30 yX1_lentSize, Cond.instanceMethod yX1_lentSize, Cond.selects RX1 yX1_lentSize yX1_lentSize, Cond.code yX1_lentSize cX1_lentSize 3 (some .int), Cond.methodLink RX1 24 yX2_turnsOf, Cond.instanceMethod yX2_turnsOf, Cond.selects RX2 yX2_turnsOf yX2_turnsOf, Cond.initialized RX2, Cond.code yX2_turnsOf cX2_turnsOf 2 (some .int), Cond.fieldLink RX2 15 "AlikeHands$Clock" "turns" "[I", Cond.methodLink RX2 25 yX2_has, Cond.instanceMethod yX2_has, Cond.selects RX2 yX2_has yX2_has, Cond.code yX2_has cX2_has 2 (some .boolean), Cond.fieldLink RX2 21 "AlikeHands$Clock" "count" "I", Cond.methodLink RX1 34 yX1_markOfHours, Cond.instanceMethod yX1_markOfHours]
def wsX1_hourSize_r2 : List Cond := [Cond.selects RX1 yX1_markOfHours yX1_markOfHours, Cond.code yX1_markOfHours cX1_markOfHours 4 (some .int), Cond.methodLink RX1 43 yX2_sortOf, Cond.instanceMethod yX2_sortOf, Cond.selects RX2 yX2_sortOf yX2_sortOf, Cond.code yX2_sortOf cX2_sortOf 2 (some .int), Cond.fieldLink RX2 9 "AlikeHands$Clock" "sorts" "[I", Cond.methodLink RX1 49 yX1_hourMark, Cond.instanceMethod yX1_hourMark, Cond.selects RX1 yX1_hourMark yX1_hourMark, Cond.code yX1_hourMark cX1_hourMark 3 (some .int), Cond.methodLink RX1 37 yX1_lentMark, Cond.instanceMethod yX1_lentMark, Cond.selects RX1 yX1_lentMark yX1_lentMark, Cond.code yX1_lentMark cX1_lentMark 2 (some .int), Cond.methodLink RX1 40 yX2_slipOf, Cond.instanceMethod yX2_slipOf, Cond.selects RX2 yX2_slipOf yX2_slipOf, Cond.code yX2_slipOf cX2_slipOf 2 (some .int), Cond.fieldLink RX2 18 "AlikeHands$Clock" "slips" "[I"]
def wsX1_hourSize : List Cond := .code yX1_hourSize cX1_hourSize 4 (some .int) :: ((wsX1_hourSize_r1 ++ wsX1_hourSize_r2) ++ wsX10 ++ wsX20)
def wsX1_backSize : List Cond := .code yX1_backSize cX1_backSize 3 (some .int) :: ([.methodLink RX1 20 yX1_leave, .instanceMethod yX1_leave, .selects RX1 yX1_leave yX1_leave, .initialized RX1, .code yX1_leave cX1_leave 2 none, .fieldLink RX1 15 "AlikeHands$Asks" "length" "I", .fieldLink RX1 11 "AlikeHands$Asks" "bodies" "[I", .methodLink RX1 30 yX1_lentSize, .instanceMethod yX1_lentSize, .selects RX1 yX1_lentSize yX1_lentSize, .code yX1_lentSize cX1_lentSize 3 (some .int), .methodLink RX1 24 yX2_turnsOf, .instanceMethod yX2_turnsOf, .selects RX2 yX2_turnsOf yX2_turnsOf, .initialized RX2, .code yX2_turnsOf cX2_turnsOf 2 (some .int), .fieldLink RX2 15 "AlikeHands$Clock" "turns" "[I", .methodLink RX2 25 yX2_has, .instanceMethod yX2_has, .selects RX2 yX2_has yX2_has, .code yX2_has cX2_has 2 (some .boolean), .fieldLink RX2 21 "AlikeHands$Clock" "count" "I"] ++ wsX10 ++ wsX20)
def wsX1_sizeOfHours_r1 : List Cond := [Cond.methodLink RX1 43 yX2_sortOf, Cond.instanceMethod yX2_sortOf, Cond.selects RX2 yX2_sortOf yX2_sortOf, Cond.initialized RX2, Cond.code yX2_sortOf cX2_sortOf 2 (some .int), Cond.fieldLink RX2 9 "AlikeHands$Clock" "sorts" "[I", Cond.methodLink RX2 25 yX2_has, Cond.instanceMethod yX2_has, Cond.selects RX2 yX2_has yX2_has, Cond.code yX2_has cX2_has 2 (some .boolean), Cond.fieldLink RX2 21 "AlikeHands$Clock" "count" "I", Cond.methodLink RX1 20 yX1_leave, Cond.instanceMethod yX1_leave, Cond.selects RX1 yX1_leave yX1_leave, Cond.initialized RX1, Cond.code yX1_leave cX1_leave 2 none, Cond.fieldLink RX1 15 "AlikeHands$Asks" "length" "I", Cond.fieldLink RX1 11 "AlikeHands$Asks" "bodies" "[I", Cond.methodLink RX1 46 yX1_hourSize, Cond.instanceMethod yX1_hourSize, Cond.selects RX1 yX1_hourSize yX1_hourSize, Cond.code yX1_hourSize cX1_hourSize 4 (some .int), Cond.methodLink RX1 30 yX1_lentSize, Cond.instanceMethod yX1_lentSize]
def wsX1_sizeOfHours_r2 : List Cond := [Cond.selects RX1 yX1_lentSize yX1_lentSize, Cond.code yX1_lentSize cX1_lentSize 3 (some .int), Cond.methodLink RX1 24 yX2_turnsOf, Cond.instanceMethod yX2_turnsOf, Cond.selects RX2 yX2_turnsOf yX2_turnsOf, Cond.code yX2_turnsOf cX2_turnsOf 2 (some .int), Cond.fieldLink RX2 15 "AlikeHands$Clock" "turns" "[I", Cond.methodLink RX1 34 yX1_markOfHours, Cond.instanceMethod yX1_markOfHours, Cond.selects RX1 yX1_markOfHours yX1_markOfHours, Cond.code yX1_markOfHours cX1_markOfHours 4 (some .int), Cond.methodLink RX1 49 yX1_hourMark, Cond.instanceMethod yX1_hourMark, Cond.selects RX1 yX1_hourMark yX1_hourMark, Cond.code yX1_hourMark cX1_hourMark 3 (some .int), Cond.methodLink RX1 37 yX1_lentMark, Cond.instanceMethod yX1_lentMark, Cond.selects RX1 yX1_lentMark yX1_lentMark, Cond.code yX1_lentMark cX1_lentMark 2 (some .int), Cond.methodLink RX1 40 yX2_slipOf, Cond.instanceMethod yX2_slipOf, Cond.selects RX2 yX2_slipOf yX2_slipOf, Cond.code yX2_slipOf cX2_slipOf 2 (some .int), Cond.fieldLink RX2 18 "AlikeHands$Clock" "slips" "[I"]
def wsX1_sizeOfHours : List Cond := .code yX1_sizeOfHours cX1_sizeOfHours 3 (some .int) :: ((wsX1_sizeOfHours_r1 ++ wsX1_sizeOfHours_r2) ++ wsX20 ++ wsX10)
def wsX1_sizeOfBacks_r1 : List Cond := [Cond.methodLink RX1 43 yX2_sortOf, Cond.instanceMethod yX2_sortOf, Cond.selects RX2 yX2_sortOf yX2_sortOf, Cond.initialized RX2, Cond.code yX2_sortOf cX2_sortOf 2 (some .int), Cond.fieldLink RX2 9 "AlikeHands$Clock" "sorts" "[I", Cond.methodLink RX2 25 yX2_has, Cond.instanceMethod yX2_has, Cond.selects RX2 yX2_has yX2_has, Cond.code yX2_has cX2_has 2 (some .boolean), Cond.fieldLink RX2 21 "AlikeHands$Clock" "count" "I", Cond.methodLink RX1 20 yX1_leave, Cond.instanceMethod yX1_leave, Cond.selects RX1 yX1_leave yX1_leave, Cond.initialized RX1, Cond.code yX1_leave cX1_leave 2 none, Cond.fieldLink RX1 15 "AlikeHands$Asks" "length" "I", Cond.fieldLink RX1 11 "AlikeHands$Asks" "bodies" "[I", Cond.methodLink RX1 52 yX1_backSize, Cond.instanceMethod yX1_backSize, Cond.selects RX1 yX1_backSize yX1_backSize, Cond.code yX1_backSize cX1_backSize 3 (some .int), Cond.methodLink RX1 30 yX1_lentSize, Cond.instanceMethod yX1_lentSize]
def wsX1_sizeOfBacks_r2 : List Cond := [Cond.selects RX1 yX1_lentSize yX1_lentSize, Cond.code yX1_lentSize cX1_lentSize 3 (some .int), Cond.methodLink RX1 24 yX2_turnsOf, Cond.instanceMethod yX2_turnsOf, Cond.selects RX2 yX2_turnsOf yX2_turnsOf, Cond.code yX2_turnsOf cX2_turnsOf 2 (some .int), Cond.fieldLink RX2 15 "AlikeHands$Clock" "turns" "[I"]
def wsX1_sizeOfBacks : List Cond := .code yX1_sizeOfBacks cX1_sizeOfBacks 3 (some .int) :: ((wsX1_sizeOfBacks_r1 ++ wsX1_sizeOfBacks_r2) ++ wsX20 ++ wsX10)
def wsX1_markOfBacks_r1 : List Cond := [Cond.methodLink RX1 20 yX1_leave, Cond.instanceMethod yX1_leave, Cond.selects RX1 yX1_leave yX1_leave, Cond.initialized RX1, Cond.code yX1_leave cX1_leave 2 none, Cond.fieldLink RX1 15 "AlikeHands$Asks" "length" "I", Cond.fieldLink RX1 11 "AlikeHands$Asks" "bodies" "[I", Cond.methodLink RX1 37 yX1_lentMark, Cond.instanceMethod yX1_lentMark, Cond.selects RX1 yX1_lentMark yX1_lentMark, Cond.code yX1_lentMark cX1_lentMark 2 (some .int), Cond.methodLink RX1 55 yX1_sizeOfBacks, Cond.instanceMethod yX1_sizeOfBacks, Cond.selects RX1 yX1_sizeOfBacks yX1_sizeOfBacks, Cond.code yX1_sizeOfBacks cX1_sizeOfBacks 3 (some .int), Cond.methodLink RX1 43 yX2_sortOf, Cond.instanceMethod yX2_sortOf, Cond.selects RX2 yX2_sortOf yX2_sortOf, Cond.initialized RX2, Cond.code yX2_sortOf cX2_sortOf 2 (some .int), Cond.fieldLink RX2 9 "AlikeHands$Clock" "sorts" "[I", Cond.methodLink RX2 25 yX2_has, Cond.instanceMethod yX2_has, Cond.selects RX2 yX2_has yX2_has]
def wsX1_markOfBacks_r2 : List Cond := [Cond.code yX2_has cX2_has 2 (some .boolean), Cond.fieldLink RX2 21 "AlikeHands$Clock" "count" "I", Cond.methodLink RX1 52 yX1_backSize, Cond.instanceMethod yX1_backSize, Cond.selects RX1 yX1_backSize yX1_backSize, Cond.code yX1_backSize cX1_backSize 3 (some .int), Cond.methodLink RX1 30 yX1_lentSize, Cond.instanceMethod yX1_lentSize, Cond.selects RX1 yX1_lentSize yX1_lentSize, Cond.code yX1_lentSize cX1_lentSize 3 (some .int), Cond.methodLink RX1 24 yX2_turnsOf, Cond.instanceMethod yX2_turnsOf, Cond.selects RX2 yX2_turnsOf yX2_turnsOf, Cond.code yX2_turnsOf cX2_turnsOf 2 (some .int), Cond.fieldLink RX2 15 "AlikeHands$Clock" "turns" "[I"]
def wsX1_markOfBacks : List Cond := .code yX1_markOfBacks cX1_markOfBacks 4 (some .int) :: ((wsX1_markOfBacks_r1 ++ wsX1_markOfBacks_r2) ++ wsX10 ++ wsX20)
def wsX2_init : List Cond := .code yX2_init cX2_init 1 none :: ([.methodLink RX2 3 objectInit, .instanceMethod objectInit, .code objectInit ⟨#[0xb1]⟩ 1 none, .arrayClass .int, .fieldLink RX2 9 "AlikeHands$Clock" "sorts" "[I", .fieldLink RX2 15 "AlikeHands$Clock" "turns" "[I", .fieldLink RX2 18 "AlikeHands$Clock" "slips" "[I"] ++ wsX20)
def wsX2_isNone : List Cond := .code yX2_isNone cX2_isNone 1 (some .boolean) :: ([.fieldLink RX2 21 "AlikeHands$Clock" "count" "I"] ++ wsX20)
def wsX2_speedOf : List Cond := .code yX2_speedOf cX2_speedOf 3 (some .int) :: ([.methodLink RX2 29 yX2_sortOf, .instanceMethod yX2_sortOf, .selects RX2 yX2_sortOf yX2_sortOf, .initialized RX2, .code yX2_sortOf cX2_sortOf 2 (some .int), .fieldLink RX2 9 "AlikeHands$Clock" "sorts" "[I", .methodLink RX2 25 yX2_has, .instanceMethod yX2_has, .selects RX2 yX2_has yX2_has, .code yX2_has cX2_has 2 (some .boolean), .fieldLink RX2 21 "AlikeHands$Clock" "count" "I", .methodLink RX2 33 yX2_turnsOf, .instanceMethod yX2_turnsOf, .selects RX2 yX2_turnsOf yX2_turnsOf, .code yX2_turnsOf cX2_turnsOf 2 (some .int), .fieldLink RX2 15 "AlikeHands$Clock" "turns" "[I"] ++ wsX20)
def wsX2_arcBelow : List Cond := .code yX2_arcBelow cX2_arcBelow 2 (some .int) :: ([.fieldLink RX2 39 "AlikeHands$Clock" "marks" "I"] ++ wsX20)
def wsJ9_floorMod_7cf53 : List Cond := .code yJ9_floorMod_7cf53 cJ9_floorMod_7cf53 3 (some .int) :: ([])
def wsX7_rest : List Cond := .code yX7_rest cX7_rest 2 (some .int) :: ([.methodLink RX7 305 yJ9_floorMod_7cf53, .static yJ9_floorMod_7cf53, .initialized RJ9, .code yJ9_floorMod_7cf53 cJ9_floorMod_7cf53 3 (some .int)])
def wsX2_arcAbove_r1 : List Cond := [Cond.fieldLink RX2 39 "AlikeHands$Clock" "marks" "I", Cond.methodLink RX2 36 yX2_speedOf, Cond.instanceMethod yX2_speedOf, Cond.selects RX2 yX2_speedOf yX2_speedOf, Cond.initialized RX2, Cond.code yX2_speedOf cX2_speedOf 3 (some .int), Cond.methodLink RX2 29 yX2_sortOf, Cond.instanceMethod yX2_sortOf, Cond.selects RX2 yX2_sortOf yX2_sortOf, Cond.code yX2_sortOf cX2_sortOf 2 (some .int), Cond.fieldLink RX2 9 "AlikeHands$Clock" "sorts" "[I", Cond.methodLink RX2 25 yX2_has, Cond.instanceMethod yX2_has, Cond.selects RX2 yX2_has yX2_has, Cond.code yX2_has cX2_has 2 (some .boolean), Cond.fieldLink RX2 21 "AlikeHands$Clock" "count" "I", Cond.methodLink RX2 33 yX2_turnsOf, Cond.instanceMethod yX2_turnsOf, Cond.selects RX2 yX2_turnsOf yX2_turnsOf, Cond.code yX2_turnsOf cX2_turnsOf 2 (some .int), Cond.fieldLink RX2 15 "AlikeHands$Clock" "turns" "[I", Cond.methodLink RX2 42 yX2_slipOf, Cond.instanceMethod yX2_slipOf, Cond.selects RX2 yX2_slipOf yX2_slipOf]
def wsX2_arcAbove_r2 : List Cond := [Cond.code yX2_slipOf cX2_slipOf 2 (some .int), Cond.fieldLink RX2 18 "AlikeHands$Clock" "slips" "[I", Cond.methodLink RX2 45 yX2_arcBelow, Cond.instanceMethod yX2_arcBelow, Cond.selects RX2 yX2_arcBelow yX2_arcBelow, Cond.code yX2_arcBelow cX2_arcBelow 2 (some .int), Cond.static yX7_rest, Cond.initialized RX7, Cond.code yX7_rest cX7_rest 2 (some .int), Cond.methodLink RX7 305 yJ9_floorMod_7cf53, Cond.static yJ9_floorMod_7cf53, Cond.initialized RJ9, Cond.code yJ9_floorMod_7cf53 cJ9_floorMod_7cf53 3 (some .int)]
def wsX2_arcAbove : List Cond := .code yX2_arcAbove cX2_arcAbove 4 (some .int) :: ((wsX2_arcAbove_r1 ++ wsX2_arcAbove_r2) ++ wsX20)
def wsX2_slippedHands : List Cond := .code yX2_slippedHands cX2_slippedHands 3 (some .int) :: ([.fieldLink RX2 21 "AlikeHands$Clock" "count" "I", .methodLink RX2 42 yX2_slipOf, .instanceMethod yX2_slipOf, .selects RX2 yX2_slipOf yX2_slipOf, .initialized RX2, .code yX2_slipOf cX2_slipOf 2 (some .int), .fieldLink RX2 18 "AlikeHands$Clock" "slips" "[I", .methodLink RX2 25 yX2_has, .instanceMethod yX2_has, .selects RX2 yX2_has yX2_has, .code yX2_has cX2_has 2 (some .boolean)] ++ wsX20)
def wsX2_setSlip : List Cond := .code yX2_setSlip cX2_setSlip 3 none :: ([.fieldLink RX2 18 "AlikeHands$Clock" "slips" "[I", .methodLink RX2 25 yX2_has, .instanceMethod yX2_has, .selects RX2 yX2_has yX2_has, .initialized RX2, .code yX2_has cX2_has 2 (some .boolean), .fieldLink RX2 21 "AlikeHands$Clock" "count" "I"] ++ wsX20)
def wsX2_add : List Cond := .code yX2_add cX2_add 3 none :: ([.fieldLink RX2 21 "AlikeHands$Clock" "count" "I", .fieldLink RX2 9 "AlikeHands$Clock" "sorts" "[I", .fieldLink RX2 15 "AlikeHands$Clock" "turns" "[I", .fieldLink RX2 18 "AlikeHands$Clock" "slips" "[I"] ++ wsX20)
def wsX2_become : List Cond := .code yX2_become cX2_become 3 none :: ([.fieldLink RX2 39 "AlikeHands$Clock" "marks" "I", .fieldLink RX2 21 "AlikeHands$Clock" "count" "I", .fieldLink RX2 9 "AlikeHands$Clock" "sorts" "[I", .fieldLink RX2 15 "AlikeHands$Clock" "turns" "[I", .fieldLink RX2 18 "AlikeHands$Clock" "slips" "[I"] ++ wsX20)
def wsX3_init : List Cond := .code yX3_init cX3_init 1 none :: ([.methodLink RX3 1 objectInit, .instanceMethod objectInit, .code objectInit ⟨#[0xb1]⟩ 1 none])
def wsX7_common : List Cond := .code yX7_common cX7_common 6 (some .int) :: ([])
def wsX3_leastOther : List Cond := .code yX3_leastOther cX3_leastOther 4 (some .int) :: ([.fieldLink RX3 28 "AlikeHands$Doubts" "moments" "I", .fieldLink RX3 25 "AlikeHands$Doubts" "shared" "I", .fieldLink RX3 13 "AlikeHands$Doubts" "whole" "I", .static yX7_rest, .initialized RX7, .code yX7_rest cX7_rest 2 (some .int), .methodLink RX7 305 yJ9_floorMod_7cf53, .static yJ9_floorMod_7cf53, .initialized RJ9, .code yJ9_floorMod_7cf53 cJ9_floorMod_7cf53 3 (some .int)] ++ wsX30)
def wsX3_of : List Cond := .code yX3_of cX3_of 3 none :: ([.methodLink RX3 7 Lib.Math.abs.name, .static Lib.Math.abs.name, .initialized "java/lang/Math", .code Lib.Math.abs.name Lib.Math.abs.code 1 (some .int), .fieldLink RX3 13 "AlikeHands$Doubts" "whole" "I", .fieldLink RX3 25 "AlikeHands$Doubts" "shared" "I", .fieldLink RX3 28 "AlikeHands$Doubts" "moments" "I", .fieldLink RX3 34 "AlikeHands$Doubts" "firstOther" "I", .static yX7_common, .initialized RX7, .code yX7_common cX7_common 6 (some .int), .methodLink RX3 31 yX3_leastOther, .instanceMethod yX3_leastOther, .selects RX3 yX3_leastOther yX3_leastOther, .initialized RX3, .code yX3_leastOther cX3_leastOther 4 (some .int), .static yX7_rest, .code yX7_rest cX7_rest 2 (some .int), .methodLink RX7 305 yJ9_floorMod_7cf53, .static yJ9_floorMod_7cf53, .initialized RJ9, .code yJ9_floorMod_7cf53 cJ9_floorMod_7cf53 3 (some .int)] ++ wsX30)
def wsX3_isNone : List Cond := .code yX3_isNone cX3_isNone 1 (some .boolean) :: ([.fieldLink RX3 28 "AlikeHands$Doubts" "moments" "I"] ++ wsX30)
def wsX3_otherOf : List Cond := .code yX3_otherOf cX3_otherOf 3 (some .int) :: ([.fieldLink RX3 34 "AlikeHands$Doubts" "firstOther" "I", .fieldLink RX3 28 "AlikeHands$Doubts" "moments" "I", .fieldLink RX3 25 "AlikeHands$Doubts" "shared" "I", .static yX7_rest, .initialized RX7, .code yX7_rest cX7_rest 2 (some .int), .methodLink RX7 305 yJ9_floorMod_7cf53, .static yJ9_floorMod_7cf53, .initialized RJ9, .code yJ9_floorMod_7cf53 cJ9_floorMod_7cf53 3 (some .int)] ++ wsX30)
def wsX3_howMany : List Cond := .code yX3_howMany cX3_howMany 3 (some .int) :: ([.fieldLink RX3 28 "AlikeHands$Doubts" "moments" "I", .methodLink RX3 40 yX3_otherOf, .instanceMethod yX3_otherOf, .selects RX3 yX3_otherOf yX3_otherOf, .initialized RX3, .code yX3_otherOf cX3_otherOf 3 (some .int), .fieldLink RX3 34 "AlikeHands$Doubts" "firstOther" "I", .fieldLink RX3 25 "AlikeHands$Doubts" "shared" "I", .static yX7_rest, .initialized RX7, .code yX7_rest cX7_rest 2 (some .int), .methodLink RX7 305 yJ9_floorMod_7cf53, .static yJ9_floorMod_7cf53, .initialized RJ9, .code yJ9_floorMod_7cf53 cJ9_floorMod_7cf53 3 (some .int)] ++ wsX30)
def wsX3_number : List Cond := .code yX3_number cX3_number 4 (some .int) :: ([.fieldLink RX3 28 "AlikeHands$Doubts" "moments" "I", .methodLink RX3 40 yX3_otherOf, .instanceMethod yX3_otherOf, .selects RX3 yX3_otherOf yX3_otherOf, .initialized RX3, .code yX3_otherOf cX3_otherOf 3 (some .int), .fieldLink RX3 34 "AlikeHands$Doubts" "firstOther" "I", .fieldLink RX3 25 "AlikeHands$Doubts" "shared" "I", .static yX7_rest, .initialized RX7, .code yX7_rest cX7_rest 2 (some .int), .methodLink RX7 305 yJ9_floorMod_7cf53, .static yJ9_floorMod_7cf53, .initialized RJ9, .code yJ9_floorMod_7cf53 cJ9_floorMod_7cf53 3 (some .int)] ++ wsX30)
def wsX3_isAt : List Cond := .code yX3_isAt cX3_isAt 3 (some .boolean) :: ([.fieldLink RX3 28 "AlikeHands$Doubts" "moments" "I", .methodLink RX3 40 yX3_otherOf, .instanceMethod yX3_otherOf, .selects RX3 yX3_otherOf yX3_otherOf, .initialized RX3, .code yX3_otherOf cX3_otherOf 3 (some .int), .fieldLink RX3 34 "AlikeHands$Doubts" "firstOther" "I", .fieldLink RX3 25 "AlikeHands$Doubts" "shared" "I", .static yX7_rest, .initialized RX7, .code yX7_rest cX7_rest 2 (some .int), .methodLink RX7 305 yJ9_floorMod_7cf53, .static yJ9_floorMod_7cf53, .initialized RJ9, .code yJ9_floorMod_7cf53 cJ9_floorMod_7cf53 3 (some .int)] ++ wsX30)
def wsX4_init : List Cond := .code yX4_init cX4_init 1 none :: ([.methodLink RX4 3 objectInit, .instanceMethod objectInit, .code objectInit ⟨#[0xb1]⟩ 1 none, .arrayClass .int, .fieldLink RX4 9 "AlikeHands$Reading" "arcs" "[I", .fieldLink RX4 15 "AlikeHands$Reading" "speeds" "[I"] ++ wsX40)
def wsX7_isRow : List Cond := .code yX7_isRow cX7_isRow 1 (some .boolean) :: ([])
def wsX5_length : List Cond := .code yX5_length cX5_length 2 (some .int) :: ([.fieldLink RX5 18 "AlikeHands$Rows" "lengths" "[I", .static yX7_isRow, .initialized RX7, .code yX7_isRow cX7_isRow 1 (some .boolean)] ++ wsX50)
def wsX5_reaches : List Cond := .code yX5_reaches cX5_reaches 4 (some .boolean) :: ([.methodLink RX5 35 yX5_length, .instanceMethod yX5_length, .selects RX5 yX5_length yX5_length, .initialized RX5, .code yX5_length cX5_length 2 (some .int), .fieldLink RX5 18 "AlikeHands$Rows" "lengths" "[I", .static yX7_isRow, .initialized RX7, .code yX7_isRow cX7_isRow 1 (some .boolean)] ++ wsX50)
def wsX5_item : List Cond := .code yX5_item cX5_item 3 (some .int) :: ([.fieldLink RX5 9 "AlikeHands$Rows" "items" "[I", .static yX7_isRow, .initialized RX7, .code yX7_isRow cX7_isRow 1 (some .boolean), .methodLink RX5 41 yX5_reaches, .instanceMethod yX5_reaches, .selects RX5 yX5_reaches yX5_reaches, .initialized RX5, .code yX5_reaches cX5_reaches 4 (some .boolean), .methodLink RX5 35 yX5_length, .instanceMethod yX5_length, .selects RX5 yX5_length yX5_length, .code yX5_length cX5_length 2 (some .int), .fieldLink RX5 18 "AlikeHands$Rows" "lengths" "[I"] ++ wsX50)
def wsX4_take_r1 : List Cond := [Cond.fieldLink RX4 18 "AlikeHands$Clock" "count" "I", Cond.methodLink RX4 24 Lib.Math.min.name, Cond.static Lib.Math.min.name, Cond.initialized "java/lang/Math", Cond.code Lib.Math.min.name Lib.Math.min.code 2 (some .int), Cond.fieldLink RX4 30 "AlikeHands$Reading" "count" "I", Cond.fieldLink RX4 31 "AlikeHands$Reading" "parts" "I", Cond.fieldLink RX4 9 "AlikeHands$Reading" "arcs" "[I", Cond.fieldLink RX4 15 "AlikeHands$Reading" "speeds" "[I", Cond.methodLink RX4 34 yX5_item, Cond.instanceMethod yX5_item, Cond.selects RX5 yX5_item yX5_item, Cond.initialized RX5, Cond.code yX5_item cX5_item 3 (some .int), Cond.fieldLink RX5 9 "AlikeHands$Rows" "items" "[I", Cond.static yX7_isRow, Cond.initialized RX7, Cond.code yX7_isRow cX7_isRow 1 (some .boolean), Cond.methodLink RX5 41 yX5_reaches, Cond.instanceMethod yX5_reaches, Cond.selects RX5 yX5_reaches yX5_reaches, Cond.code yX5_reaches cX5_reaches 4 (some .boolean), Cond.methodLink RX5 35 yX5_length, Cond.instanceMethod yX5_length]
def wsX4_take_r2 : List Cond := [Cond.selects RX5 yX5_length yX5_length, Cond.code yX5_length cX5_length 2 (some .int), Cond.fieldLink RX5 18 "AlikeHands$Rows" "lengths" "[I", Cond.methodLink RX4 39 yX2_speedOf, Cond.instanceMethod yX2_speedOf, Cond.selects RX2 yX2_speedOf yX2_speedOf, Cond.initialized RX2, Cond.code yX2_speedOf cX2_speedOf 3 (some .int), Cond.methodLink RX2 29 yX2_sortOf, Cond.instanceMethod yX2_sortOf, Cond.selects RX2 yX2_sortOf yX2_sortOf, Cond.code yX2_sortOf cX2_sortOf 2 (some .int), Cond.fieldLink RX2 9 "AlikeHands$Clock" "sorts" "[I", Cond.methodLink RX2 25 yX2_has, Cond.instanceMethod yX2_has, Cond.selects RX2 yX2_has yX2_has, Cond.code yX2_has cX2_has 2 (some .boolean), Cond.fieldLink RX2 21 "AlikeHands$Clock" "count" "I", Cond.methodLink RX2 33 yX2_turnsOf, Cond.instanceMethod yX2_turnsOf, Cond.selects RX2 yX2_turnsOf yX2_turnsOf, Cond.code yX2_turnsOf cX2_turnsOf 2 (some .int), Cond.fieldLink RX2 15 "AlikeHands$Clock" "turns" "[I"]
def wsX4_take : List Cond := .code yX4_take cX4_take 7 none :: ((wsX4_take_r1 ++ wsX4_take_r2) ++ wsX20 ++ wsX40 ++ wsX50)
def wsX4_arcOf : List Cond := .code yX4_arcOf cX4_arcOf 2 (some .int) :: ([.fieldLink RX4 9 "AlikeHands$Reading" "arcs" "[I"] ++ wsX40)
def wsX4_speedOf : List Cond := .code yX4_speedOf cX4_speedOf 2 (some .int) :: ([.fieldLink RX4 15 "AlikeHands$Reading" "speeds" "[I"] ++ wsX40)
def wsX4_whole : List Cond := .code yX4_whole cX4_whole 1 (some .int) :: ([.methodLink RX4 44 Lib.Math.abs.name, .static Lib.Math.abs.name, .initialized "java/lang/Math", .code Lib.Math.abs.name Lib.Math.abs.code 1 (some .int), .fieldLink RX4 31 "AlikeHands$Reading" "parts" "I", .methodLink RX4 47 Lib.Math.max.name, .static Lib.Math.max.name, .code Lib.Math.max.name Lib.Math.max.code 2 (some .int), .methodLink RX4 43 yX4_speedOf, .instanceMethod yX4_speedOf, .selects RX4 yX4_speedOf yX4_speedOf, .initialized RX4, .code yX4_speedOf cX4_speedOf 2 (some .int), .fieldLink RX4 15 "AlikeHands$Reading" "speeds" "[I"] ++ wsX40)
def wsX4_gap_r1 : List Cond := [Cond.methodLink RX4 44 Lib.Math.abs.name, Cond.static Lib.Math.abs.name, Cond.initialized "java/lang/Math", Cond.code Lib.Math.abs.name Lib.Math.abs.code 1 (some .int), Cond.fieldLink RX4 31 "AlikeHands$Reading" "parts" "I", Cond.methodLink RX4 24 Lib.Math.min.name, Cond.static Lib.Math.min.name, Cond.code Lib.Math.min.name Lib.Math.min.code 2 (some .int), Cond.methodLink RX4 43 yX4_speedOf, Cond.instanceMethod yX4_speedOf, Cond.selects RX4 yX4_speedOf yX4_speedOf, Cond.initialized RX4, Cond.code yX4_speedOf cX4_speedOf 2 (some .int), Cond.fieldLink RX4 15 "AlikeHands$Reading" "speeds" "[I", Cond.methodLink RX4 50 yX4_arcOf, Cond.instanceMethod yX4_arcOf, Cond.selects RX4 yX4_arcOf yX4_arcOf, Cond.code yX4_arcOf cX4_arcOf 2 (some .int), Cond.fieldLink RX4 9 "AlikeHands$Reading" "arcs" "[I", Cond.static yX7_rest, Cond.initialized RX7, Cond.code yX7_rest cX7_rest 2 (some .int), Cond.methodLink RX7 305 yJ9_floorMod_7cf53, Cond.static yJ9_floorMod_7cf53]
def wsX4_gap_r2 : List Cond := [Cond.initialized RJ9, Cond.code yJ9_floorMod_7cf53 cJ9_floorMod_7cf53 3 (some .int)]
def wsX4_gap : List Cond := .code yX4_gap cX4_gap 8 (some .int) :: ((wsX4_gap_r1 ++ wsX4_gap_r2) ++ wsX40)
def wsX4_fitsAt_r1 : List Cond := [Cond.fieldLink RX4 30 "AlikeHands$Reading" "count" "I", Cond.methodLink RX4 56 yX4_gap, Cond.instanceMethod yX4_gap, Cond.selects RX4 yX4_gap yX4_gap, Cond.initialized RX4, Cond.code yX4_gap cX4_gap 8 (some .int), Cond.methodLink RX4 44 Lib.Math.abs.name, Cond.static Lib.Math.abs.name, Cond.initialized "java/lang/Math", Cond.code Lib.Math.abs.name Lib.Math.abs.code 1 (some .int), Cond.fieldLink RX4 31 "AlikeHands$Reading" "parts" "I", Cond.methodLink RX4 24 Lib.Math.min.name, Cond.static Lib.Math.min.name, Cond.code Lib.Math.min.name Lib.Math.min.code 2 (some .int), Cond.methodLink RX4 43 yX4_speedOf, Cond.instanceMethod yX4_speedOf, Cond.selects RX4 yX4_speedOf yX4_speedOf, Cond.code yX4_speedOf cX4_speedOf 2 (some .int), Cond.fieldLink RX4 15 "AlikeHands$Reading" "speeds" "[I", Cond.methodLink RX4 50 yX4_arcOf, Cond.instanceMethod yX4_arcOf, Cond.selects RX4 yX4_arcOf yX4_arcOf, Cond.code yX4_arcOf cX4_arcOf 2 (some .int), Cond.fieldLink RX4 9 "AlikeHands$Reading" "arcs" "[I"]
def wsX4_fitsAt_r2 : List Cond := [Cond.static yX7_rest, Cond.initialized RX7, Cond.code yX7_rest cX7_rest 2 (some .int), Cond.methodLink RX7 305 yJ9_floorMod_7cf53, Cond.static yJ9_floorMod_7cf53, Cond.initialized RJ9, Cond.code yJ9_floorMod_7cf53 cJ9_floorMod_7cf53 3 (some .int)]
def wsX4_fitsAt : List Cond := .code yX4_fitsAt cX4_fitsAt 5 (some .boolean) :: ((wsX4_fitsAt_r1 ++ wsX4_fitsAt_r2) ++ wsX40)
def wsX4_fitsWithout_r1 : List Cond := [Cond.fieldLink RX4 30 "AlikeHands$Reading" "count" "I", Cond.methodLink RX4 44 Lib.Math.abs.name, Cond.static Lib.Math.abs.name, Cond.initialized "java/lang/Math", Cond.code Lib.Math.abs.name Lib.Math.abs.code 1 (some .int), Cond.methodLink RX4 43 yX4_speedOf, Cond.instanceMethod yX4_speedOf, Cond.selects RX4 yX4_speedOf yX4_speedOf, Cond.initialized RX4, Cond.code yX4_speedOf cX4_speedOf 2 (some .int), Cond.fieldLink RX4 15 "AlikeHands$Reading" "speeds" "[I", Cond.methodLink RX4 60 yX4_fitsAt, Cond.instanceMethod yX4_fitsAt, Cond.selects RX4 yX4_fitsAt yX4_fitsAt, Cond.code yX4_fitsAt cX4_fitsAt 5 (some .boolean), Cond.methodLink RX4 56 yX4_gap, Cond.instanceMethod yX4_gap, Cond.selects RX4 yX4_gap yX4_gap, Cond.code yX4_gap cX4_gap 8 (some .int), Cond.fieldLink RX4 31 "AlikeHands$Reading" "parts" "I", Cond.methodLink RX4 24 Lib.Math.min.name, Cond.static Lib.Math.min.name, Cond.code Lib.Math.min.name Lib.Math.min.code 2 (some .int), Cond.methodLink RX4 50 yX4_arcOf]
def wsX4_fitsWithout_r2 : List Cond := [Cond.instanceMethod yX4_arcOf, Cond.selects RX4 yX4_arcOf yX4_arcOf, Cond.code yX4_arcOf cX4_arcOf 2 (some .int), Cond.fieldLink RX4 9 "AlikeHands$Reading" "arcs" "[I", Cond.static yX7_rest, Cond.initialized RX7, Cond.code yX7_rest cX7_rest 2 (some .int), Cond.methodLink RX7 305 yJ9_floorMod_7cf53, Cond.static yJ9_floorMod_7cf53, Cond.initialized RJ9, Cond.code yJ9_floorMod_7cf53 cJ9_floorMod_7cf53 3 (some .int)]
def wsX4_fitsWithout : List Cond := .code yX4_fitsWithout cX4_fitsWithout 5 (some .boolean) :: ((wsX4_fitsWithout_r1 ++ wsX4_fitsWithout_r2) ++ wsX40)
def wsX4_moved_r1 : List Cond := [Cond.fieldLink RX4 30 "AlikeHands$Reading" "count" "I", Cond.methodLink RX4 64 yX4_fitsWithout, Cond.instanceMethod yX4_fitsWithout, Cond.selects RX4 yX4_fitsWithout yX4_fitsWithout, Cond.initialized RX4, Cond.code yX4_fitsWithout cX4_fitsWithout 5 (some .boolean), Cond.methodLink RX4 44 Lib.Math.abs.name, Cond.static Lib.Math.abs.name, Cond.initialized "java/lang/Math", Cond.code Lib.Math.abs.name Lib.Math.abs.code 1 (some .int), Cond.methodLink RX4 43 yX4_speedOf, Cond.instanceMethod yX4_speedOf, Cond.selects RX4 yX4_speedOf yX4_speedOf, Cond.code yX4_speedOf cX4_speedOf 2 (some .int), Cond.fieldLink RX4 15 "AlikeHands$Reading" "speeds" "[I", Cond.methodLink RX4 60 yX4_fitsAt, Cond.instanceMethod yX4_fitsAt, Cond.selects RX4 yX4_fitsAt yX4_fitsAt, Cond.code yX4_fitsAt cX4_fitsAt 5 (some .boolean), Cond.methodLink RX4 56 yX4_gap, Cond.instanceMethod yX4_gap, Cond.selects RX4 yX4_gap yX4_gap, Cond.code yX4_gap cX4_gap 8 (some .int), Cond.fieldLink RX4 31 "AlikeHands$Reading" "parts" "I"]
def wsX4_moved_r2 : List Cond := [Cond.methodLink RX4 24 Lib.Math.min.name, Cond.static Lib.Math.min.name, Cond.code Lib.Math.min.name Lib.Math.min.code 2 (some .int), Cond.methodLink RX4 50 yX4_arcOf, Cond.instanceMethod yX4_arcOf, Cond.selects RX4 yX4_arcOf yX4_arcOf, Cond.code yX4_arcOf cX4_arcOf 2 (some .int), Cond.fieldLink RX4 9 "AlikeHands$Reading" "arcs" "[I", Cond.static yX7_rest, Cond.initialized RX7, Cond.code yX7_rest cX7_rest 2 (some .int), Cond.methodLink RX7 305 yJ9_floorMod_7cf53, Cond.static yJ9_floorMod_7cf53, Cond.initialized RJ9, Cond.code yJ9_floorMod_7cf53 cJ9_floorMod_7cf53 3 (some .int)]
def wsX4_moved : List Cond := .code yX4_moved cX4_moved 3 (some .int) :: ((wsX4_moved_r1 ++ wsX4_moved_r2) ++ wsX40)
def wsX4_leastMove_r1 : List Cond := [Cond.fieldLink RX4 30 "AlikeHands$Reading" "count" "I", Cond.methodLink RX4 44 Lib.Math.abs.name, Cond.static Lib.Math.abs.name, Cond.initialized "java/lang/Math", Cond.code Lib.Math.abs.name Lib.Math.abs.code 1 (some .int), Cond.methodLink RX4 24 Lib.Math.min.name, Cond.static Lib.Math.min.name, Cond.code Lib.Math.min.name Lib.Math.min.code 2 (some .int), Cond.methodLink RX4 43 yX4_speedOf, Cond.instanceMethod yX4_speedOf, Cond.selects RX4 yX4_speedOf yX4_speedOf, Cond.initialized RX4, Cond.code yX4_speedOf cX4_speedOf 2 (some .int), Cond.fieldLink RX4 15 "AlikeHands$Reading" "speeds" "[I", Cond.methodLink RX4 60 yX4_fitsAt, Cond.instanceMethod yX4_fitsAt, Cond.selects RX4 yX4_fitsAt yX4_fitsAt, Cond.code yX4_fitsAt cX4_fitsAt 5 (some .boolean), Cond.methodLink RX4 56 yX4_gap, Cond.instanceMethod yX4_gap, Cond.selects RX4 yX4_gap yX4_gap, Cond.code yX4_gap cX4_gap 8 (some .int), Cond.fieldLink RX4 31 "AlikeHands$Reading" "parts" "I", Cond.methodLink RX4 50 yX4_arcOf]
def wsX4_leastMove_r2 : List Cond := [Cond.instanceMethod yX4_arcOf, Cond.selects RX4 yX4_arcOf yX4_arcOf, Cond.code yX4_arcOf cX4_arcOf 2 (some .int), Cond.fieldLink RX4 9 "AlikeHands$Reading" "arcs" "[I", Cond.static yX7_rest, Cond.initialized RX7, Cond.code yX7_rest cX7_rest 2 (some .int), Cond.methodLink RX7 305 yJ9_floorMod_7cf53, Cond.static yJ9_floorMod_7cf53, Cond.initialized RJ9, Cond.code yJ9_floorMod_7cf53 cJ9_floorMod_7cf53 3 (some .int)]
def wsX4_leastMove : List Cond := .code yX4_leastMove cX4_leastMove 6 (some .int) :: ((wsX4_leastMove_r1 ++ wsX4_leastMove_r2) ++ wsX40)
def wsJ7_fill_53178 : List Cond := .code yJ7_fill_53178 cJ7_fill_53178 4 none :: ([])
def wsX5_init : List Cond := .code yX5_init cX5_init 1 none :: ([.methodLink RX5 3 objectInit, .instanceMethod objectInit, .code objectInit ⟨#[0xb1]⟩ 1 none, .arrayClass .int, .fieldLink RX5 9 "AlikeHands$Rows" "items" "[I", .fieldLink RX5 15 "AlikeHands$Rows" "lanes" "[I", .fieldLink RX5 18 "AlikeHands$Rows" "lengths" "[I", .methodLink RX5 21 yJ7_fill_53178, .static yJ7_fill_53178, .initialized RJ7, .code yJ7_fill_53178 cJ7_fill_53178 4 none] ++ wsX50)
def wsX5_laneOf : List Cond := .code yX5_laneOf cX5_laneOf 2 (some .int) :: ([.fieldLink RX5 15 "AlikeHands$Rows" "lanes" "[I", .static yX7_isRow, .initialized RX7, .code yX7_isRow cX7_isRow 1 (some .boolean)] ++ wsX50)
def wsX5_isMissing : List Cond := .code yX5_isMissing cX5_isMissing 2 (some .boolean) :: ([.methodLink RX5 31 yX5_laneOf, .instanceMethod yX5_laneOf, .selects RX5 yX5_laneOf yX5_laneOf, .initialized RX5, .code yX5_laneOf cX5_laneOf 2 (some .int), .fieldLink RX5 15 "AlikeHands$Rows" "lanes" "[I", .static yX7_isRow, .initialized RX7, .code yX7_isRow cX7_isRow 1 (some .boolean)] ++ wsX50)
def wsX5_wrongAt : List Cond := .code yX5_wrongAt cX5_wrongAt 4 (some .int) :: ([.methodLink RX5 38 yX5_isMissing, .instanceMethod yX5_isMissing, .selects RX5 yX5_isMissing yX5_isMissing, .initialized RX5, .code yX5_isMissing cX5_isMissing 2 (some .boolean), .methodLink RX5 31 yX5_laneOf, .instanceMethod yX5_laneOf, .selects RX5 yX5_laneOf yX5_laneOf, .code yX5_laneOf cX5_laneOf 2 (some .int), .fieldLink RX5 15 "AlikeHands$Rows" "lanes" "[I", .static yX7_isRow, .initialized RX7, .code yX7_isRow cX7_isRow 1 (some .boolean), .methodLink RX5 41 yX5_reaches, .instanceMethod yX5_reaches, .selects RX5 yX5_reaches yX5_reaches, .code yX5_reaches cX5_reaches 4 (some .boolean), .methodLink RX5 35 yX5_length, .instanceMethod yX5_length, .selects RX5 yX5_length yX5_length, .code yX5_length cX5_length 2 (some .int), .fieldLink RX5 18 "AlikeHands$Rows" "lengths" "[I"] ++ wsX50)
def wsX5_make : List Cond := .code yX5_make cX5_make 5 none :: ([.fieldLink RX5 15 "AlikeHands$Rows" "lanes" "[I", .fieldLink RX5 18 "AlikeHands$Rows" "lengths" "[I", .fieldLink RX5 9 "AlikeHands$Rows" "items" "[I", .static yX7_isRow, .initialized RX7, .code yX7_isRow cX7_isRow 1 (some .boolean), .static yX7_isWithin, .code yX7_isWithin cX7_isWithin 3 (some .boolean)] ++ wsX50)
def wsX5_lose : List Cond := .code yX5_lose cX5_lose 2 none :: ([.fieldLink RX5 15 "AlikeHands$Rows" "lanes" "[I", .fieldLink RX5 18 "AlikeHands$Rows" "lengths" "[I", .static yX7_isRow, .initialized RX7, .code yX7_isRow cX7_isRow 1 (some .boolean)] ++ wsX50)
def wsX5_cut : List Cond := .code yX5_cut cX5_cut 2 (some .int) :: ([])
def wsX5_put : List Cond := .code yX5_put cX5_put 4 none :: ([.fieldLink RX5 9 "AlikeHands$Rows" "items" "[I", .static yX7_isRow, .initialized RX7, .code yX7_isRow cX7_isRow 1 (some .boolean), .methodLink RX5 41 yX5_reaches, .instanceMethod yX5_reaches, .selects RX5 yX5_reaches yX5_reaches, .initialized RX5, .code yX5_reaches cX5_reaches 4 (some .boolean), .methodLink RX5 35 yX5_length, .instanceMethod yX5_length, .selects RX5 yX5_length yX5_length, .code yX5_length cX5_length 2 (some .int), .fieldLink RX5 18 "AlikeHands$Rows" "lengths" "[I", .methodLink RX5 31 yX5_laneOf, .instanceMethod yX5_laneOf, .selects RX5 yX5_laneOf yX5_laneOf, .code yX5_laneOf cX5_laneOf 2 (some .int), .fieldLink RX5 15 "AlikeHands$Rows" "lanes" "[I", .methodLink RX5 48 yX5_cut, .static yX5_cut, .code yX5_cut cX5_cut 2 (some .int)] ++ wsX50)
def wsX5_move : List Cond := .code yX5_move cX5_move 6 none :: ([.fieldLink RX5 9 "AlikeHands$Rows" "items" "[I", .methodLink RX5 52 arraycopyName, .native arraycopyName, .static arraycopyName, .initialized "java/lang/System", .static yX7_isRow, .initialized RX7, .code yX7_isRow cX7_isRow 1 (some .boolean), .methodLink RX5 41 yX5_reaches, .instanceMethod yX5_reaches, .selects RX5 yX5_reaches yX5_reaches, .initialized RX5, .code yX5_reaches cX5_reaches 4 (some .boolean), .methodLink RX5 35 yX5_length, .instanceMethod yX5_length, .selects RX5 yX5_length yX5_length, .code yX5_length cX5_length 2 (some .int), .fieldLink RX5 18 "AlikeHands$Rows" "lengths" "[I"] ++ wsX50)
def wsX5_areBelow : List Cond := .code yX5_areBelow cX5_areBelow 6 (some .boolean) :: ([.methodLink RX5 58 yX5_item, .instanceMethod yX5_item, .selects RX5 yX5_item yX5_item, .initialized RX5, .code yX5_item cX5_item 3 (some .int), .fieldLink RX5 9 "AlikeHands$Rows" "items" "[I", .static yX7_isRow, .initialized RX7, .code yX7_isRow cX7_isRow 1 (some .boolean), .methodLink RX5 41 yX5_reaches, .instanceMethod yX5_reaches, .selects RX5 yX5_reaches yX5_reaches, .code yX5_reaches cX5_reaches 4 (some .boolean), .methodLink RX5 35 yX5_length, .instanceMethod yX5_length, .selects RX5 yX5_length yX5_length, .code yX5_length cX5_length 2 (some .int), .fieldLink RX5 18 "AlikeHands$Rows" "lengths" "[I", .static yX7_isWithin, .code yX7_isWithin cX7_isWithin 3 (some .boolean)] ++ wsX50)
def wsX5_present : List Cond := .code yX5_present cX5_present 3 (some .int) :: ([.methodLink RX5 38 yX5_isMissing, .instanceMethod yX5_isMissing, .selects RX5 yX5_isMissing yX5_isMissing, .initialized RX5, .code yX5_isMissing cX5_isMissing 2 (some .boolean), .methodLink RX5 31 yX5_laneOf, .instanceMethod yX5_laneOf, .selects RX5 yX5_laneOf yX5_laneOf, .code yX5_laneOf cX5_laneOf 2 (some .int), .fieldLink RX5 15 "AlikeHands$Rows" "lanes" "[I", .static yX7_isRow, .initialized RX7, .code yX7_isRow cX7_isRow 1 (some .boolean)] ++ wsX50)
def wsX6_init : List Cond := .code yX6_init cX6_init 1 none :: ([.methodLink RX6 3 objectInit, .instanceMethod objectInit, .code objectInit ⟨#[0xb1]⟩ 1 none, .arrayClass .int, .fieldLink RX6 11 "AlikeHands$Tape" "bytes" "[I"] ++ wsX60)
def wsX6_hasRoom : List Cond := .code yX6_hasRoom cX6_hasRoom 2 (some .boolean) :: ([.fieldLink RX6 15 "AlikeHands$Tape" "length" "I"] ++ wsX60)
def wsX6_append : List Cond := .code yX6_append cX6_append 2 none :: ([.fieldLink RX6 15 "AlikeHands$Tape" "length" "I", .fieldLink RX6 11 "AlikeHands$Tape" "bytes" "[I"] ++ wsX60)
def wsX6_at : List Cond := .code yX6_at cX6_at 2 (some .int) :: ([.fieldLink RX6 15 "AlikeHands$Tape" "length" "I", .fieldLink RX6 11 "AlikeHands$Tape" "bytes" "[I"] ++ wsX60)
def wsX6_isLetter : List Cond := .code yX6_isLetter cX6_isLetter 1 (some .boolean) :: ([])
def wsX6_isFigure : List Cond := .code yX6_isFigure cX6_isFigure 1 (some .boolean) :: ([])
def wsX6_advance : List Cond := .code yX6_advance cX6_advance 1 none :: ([.fieldLink RX6 22 "AlikeHands$Tape" "to" "I", .fieldLink RX6 84 "AlikeHands$Tape" "from" "I", .fieldLink RX6 15 "AlikeHands$Tape" "length" "I", .fieldLink RX6 53 "AlikeHands$Tape" "token" "I", .methodLink RX6 87 yX6_at, .instanceMethod yX6_at, .selects RX6 yX6_at yX6_at, .initialized RX6, .code yX6_at cX6_at 2 (some .int), .fieldLink RX6 11 "AlikeHands$Tape" "bytes" "[I", .methodLink RX6 91 yX6_isLetter, .static yX6_isLetter, .code yX6_isLetter cX6_isLetter 1 (some .boolean), .methodLink RX6 95 yX6_isFigure, .static yX6_isFigure, .code yX6_isFigure cX6_isFigure 1 (some .boolean)] ++ wsX60)
def wsJ0_coder_7d493 : List Cond := .code yJ0_coder_7d493 cJ0_coder_7d493 1 (some .byte) :: ([.fieldLink RJ0 38 "java/lang/String" "COMPACT_STRINGS" "Z", .fieldLink RJ0 15 "java/lang/String" "coder" "B"])
def wsJ0_length_8abf5 : List Cond := .code yJ0_length_8abf5 cJ0_length_8abf5 1 (some .int) :: ([.fieldLink RJ0 9 "java/lang/String" "value" "[B", .methodLink RJ0 335 yJ0_coder_7d493, .instanceMethod yJ0_coder_7d493, .selects RJ0 yJ0_coder_7d493 yJ0_coder_7d493, .initialized RJ0, .code yJ0_coder_7d493 cJ0_coder_7d493 1 (some .byte), .fieldLink RJ0 38 "java/lang/String" "COMPACT_STRINGS" "Z", .fieldLink RJ0 15 "java/lang/String" "coder" "B"])
def wsJ0_isLatin1_aae02 : List Cond := .code yJ0_isLatin1_aae02 cJ0_isLatin1_aae02 1 (some .boolean) :: ([.fieldLink RJ0 38 "java/lang/String" "COMPACT_STRINGS" "Z", .fieldLink RJ0 15 "java/lang/String" "coder" "B"])
def wsJ3_checkIndex_8e157 : List Cond := .code yJ3_checkIndex_8e157 cJ3_checkIndex_8e157 3 (some .int) :: ([])
def wsJ0_checkIndex_df160 : List Cond := .code yJ0_checkIndex_df160 cJ0_checkIndex_df160 2 none :: ([.fieldLink RJ0 1053 "jdk/internal/util/Preconditions" "SIOOBE_FORMATTER" "Ljava/util/function/BiFunction;", .methodLink RJ0 1059 yJ3_checkIndex_8e157, .static yJ3_checkIndex_8e157, .initialized RJ3, .code yJ3_checkIndex_8e157 cJ3_checkIndex_8e157 3 (some .int)])
def wsJ1_charAt_3b067 : List Cond := .code yJ1_charAt_3b067 cJ1_charAt_3b067 2 (some .char) :: ([.methodLink RJ1 9 yJ0_checkIndex_df160, .static yJ0_checkIndex_df160, .initialized RJ0, .code yJ0_checkIndex_df160 cJ0_checkIndex_df160 2 none, .fieldLink RJ0 1053 "jdk/internal/util/Preconditions" "SIOOBE_FORMATTER" "Ljava/util/function/BiFunction;", .methodLink RJ0 1059 yJ3_checkIndex_8e157, .static yJ3_checkIndex_8e157, .initialized RJ3, .code yJ3_checkIndex_8e157 cJ3_checkIndex_8e157 3 (some .int)])
def wsJ2_length_9d52b : List Cond := .code yJ2_length_9d52b cJ2_length_9d52b 1 (some .int) :: ([])
def wsJ2_checkIndex_2214a : List Cond := .code yJ2_checkIndex_2214a cJ2_checkIndex_2214a 2 none :: ([.methodLink RJ2 48 yJ2_length_9d52b, .static yJ2_length_9d52b, .initialized RJ2, .code yJ2_length_9d52b cJ2_length_9d52b 1 (some .int), .methodLink RJ2 414 yJ0_checkIndex_df160, .static yJ0_checkIndex_df160, .initialized RJ0, .code yJ0_checkIndex_df160 cJ0_checkIndex_df160 2 none, .fieldLink RJ0 1053 "jdk/internal/util/Preconditions" "SIOOBE_FORMATTER" "Ljava/util/function/BiFunction;", .methodLink RJ0 1059 yJ3_checkIndex_8e157, .static yJ3_checkIndex_8e157, .initialized RJ3, .code yJ3_checkIndex_8e157 cJ3_checkIndex_8e157 3 (some .int)])
def wsJ2_getChar_3b067 : List Cond := .code yJ2_getChar_3b067 cJ2_getChar_3b067 2 (some .char) :: ([.fieldLink RJ2 44 "java/lang/StringUTF16" "$assertionsDisabled" "Z", .fieldLink RJ2 59 "java/lang/StringUTF16" "HI_BYTE_SHIFT" "I", .fieldLink RJ2 63 "java/lang/StringUTF16" "LO_BYTE_SHIFT" "I", .methodLink RJ2 48 yJ2_length_9d52b, .static yJ2_length_9d52b, .initialized RJ2, .code yJ2_length_9d52b cJ2_length_9d52b 1 (some .int)])
def wsJ2_charAt_3b067 : List Cond := .code yJ2_charAt_3b067 cJ2_charAt_3b067 2 (some .char) :: ([.methodLink RJ2 67 yJ2_checkIndex_2214a, .static yJ2_checkIndex_2214a, .initialized RJ2, .code yJ2_checkIndex_2214a cJ2_checkIndex_2214a 2 none, .methodLink RJ2 48 yJ2_length_9d52b, .static yJ2_length_9d52b, .code yJ2_length_9d52b cJ2_length_9d52b 1 (some .int), .methodLink RJ2 414 yJ0_checkIndex_df160, .static yJ0_checkIndex_df160, .initialized RJ0, .code yJ0_checkIndex_df160 cJ0_checkIndex_df160 2 none, .fieldLink RJ0 1053 "jdk/internal/util/Preconditions" "SIOOBE_FORMATTER" "Ljava/util/function/BiFunction;", .methodLink RJ0 1059 yJ3_checkIndex_8e157, .static yJ3_checkIndex_8e157, .initialized RJ3, .code yJ3_checkIndex_8e157 cJ3_checkIndex_8e157 3 (some .int), .methodLink RJ2 71 yJ2_getChar_3b067, .static yJ2_getChar_3b067, .code yJ2_getChar_3b067 cJ2_getChar_3b067 2 (some .char), .fieldLink RJ2 44 "java/lang/StringUTF16" "$assertionsDisabled" "Z", .fieldLink RJ2 59 "java/lang/StringUTF16" "HI_BYTE_SHIFT" "I", .fieldLink RJ2 63 "java/lang/StringUTF16" "LO_BYTE_SHIFT" "I"])
def wsJ0_charAt_5068e_r1 : List Cond := [Cond.fieldLink RJ0 9 "java/lang/String" "value" "[B", Cond.methodLink RJ0 492 yJ0_isLatin1_aae02, Cond.instanceMethod yJ0_isLatin1_aae02, Cond.selects RJ0 yJ0_isLatin1_aae02 yJ0_isLatin1_aae02, Cond.initialized RJ0, Cond.code yJ0_isLatin1_aae02 cJ0_isLatin1_aae02 1 (some .boolean), Cond.fieldLink RJ0 38 "java/lang/String" "COMPACT_STRINGS" "Z", Cond.fieldLink RJ0 15 "java/lang/String" "coder" "B", Cond.methodLink RJ0 495 yJ1_charAt_3b067, Cond.static yJ1_charAt_3b067, Cond.initialized RJ1, Cond.code yJ1_charAt_3b067 cJ1_charAt_3b067 2 (some .char), Cond.methodLink RJ1 9 yJ0_checkIndex_df160, Cond.static yJ0_checkIndex_df160, Cond.code yJ0_checkIndex_df160 cJ0_checkIndex_df160 2 none, Cond.fieldLink RJ0 1053 "jdk/internal/util/Preconditions" "SIOOBE_FORMATTER" "Ljava/util/function/BiFunction;", Cond.methodLink RJ0 1059 yJ3_checkIndex_8e157, Cond.static yJ3_checkIndex_8e157, Cond.initialized RJ3, Cond.code yJ3_checkIndex_8e157 cJ3_checkIndex_8e157 3 (some .int), Cond.methodLink RJ0 498 yJ2_charAt_3b067, Cond.static yJ2_charAt_3b067, Cond.initialized RJ2, Cond.code yJ2_charAt_3b067 cJ2_charAt_3b067 2 (some .char)]
def wsJ0_charAt_5068e_r2 : List Cond := [Cond.methodLink RJ2 67 yJ2_checkIndex_2214a, Cond.static yJ2_checkIndex_2214a, Cond.code yJ2_checkIndex_2214a cJ2_checkIndex_2214a 2 none, Cond.methodLink RJ2 48 yJ2_length_9d52b, Cond.static yJ2_length_9d52b, Cond.code yJ2_length_9d52b cJ2_length_9d52b 1 (some .int), Cond.methodLink RJ2 414 yJ0_checkIndex_df160, Cond.methodLink RJ2 71 yJ2_getChar_3b067, Cond.static yJ2_getChar_3b067, Cond.code yJ2_getChar_3b067 cJ2_getChar_3b067 2 (some .char), Cond.fieldLink RJ2 44 "java/lang/StringUTF16" "$assertionsDisabled" "Z", Cond.fieldLink RJ2 59 "java/lang/StringUTF16" "HI_BYTE_SHIFT" "I", Cond.fieldLink RJ2 63 "java/lang/StringUTF16" "LO_BYTE_SHIFT" "I"]
def wsJ0_charAt_5068e : List Cond := .code yJ0_charAt_5068e cJ0_charAt_5068e 2 (some .char) :: ((wsJ0_charAt_5068e_r1 ++ wsJ0_charAt_5068e_r2))
def wsX6_isWord_r1 : List Cond := [Cond.fieldLink RX6 53 "AlikeHands$Tape" "token" "I", Cond.fieldLink RX6 22 "AlikeHands$Tape" "to" "I", Cond.fieldLink RX6 84 "AlikeHands$Tape" "from" "I", Cond.methodLink RX6 98 yJ0_length_8abf5, Cond.instanceMethod yJ0_length_8abf5, Cond.selects RJ0 yJ0_length_8abf5 yJ0_length_8abf5, Cond.initialized RJ0, Cond.code yJ0_length_8abf5 cJ0_length_8abf5 1 (some .int), Cond.fieldLink RJ0 9 "java/lang/String" "value" "[B", Cond.methodLink RJ0 335 yJ0_coder_7d493, Cond.instanceMethod yJ0_coder_7d493, Cond.selects RJ0 yJ0_coder_7d493 yJ0_coder_7d493, Cond.code yJ0_coder_7d493 cJ0_coder_7d493 1 (some .byte), Cond.fieldLink RJ0 38 "java/lang/String" "COMPACT_STRINGS" "Z", Cond.fieldLink RJ0 15 "java/lang/String" "coder" "B", Cond.methodLink RX6 87 yX6_at, Cond.instanceMethod yX6_at, Cond.selects RX6 yX6_at yX6_at, Cond.initialized RX6, Cond.code yX6_at cX6_at 2 (some .int), Cond.fieldLink RX6 15 "AlikeHands$Tape" "length" "I", Cond.fieldLink RX6 11 "AlikeHands$Tape" "bytes" "[I", Cond.methodLink RX6 102 yJ0_charAt_5068e, Cond.instanceMethod yJ0_charAt_5068e]
def wsX6_isWord_r2 : List Cond := [Cond.selects RJ0 yJ0_charAt_5068e yJ0_charAt_5068e, Cond.code yJ0_charAt_5068e cJ0_charAt_5068e 2 (some .char), Cond.methodLink RJ0 492 yJ0_isLatin1_aae02, Cond.instanceMethod yJ0_isLatin1_aae02, Cond.selects RJ0 yJ0_isLatin1_aae02 yJ0_isLatin1_aae02, Cond.code yJ0_isLatin1_aae02 cJ0_isLatin1_aae02 1 (some .boolean), Cond.methodLink RJ0 495 yJ1_charAt_3b067, Cond.static yJ1_charAt_3b067, Cond.initialized RJ1, Cond.code yJ1_charAt_3b067 cJ1_charAt_3b067 2 (some .char), Cond.methodLink RJ1 9 yJ0_checkIndex_df160, Cond.static yJ0_checkIndex_df160, Cond.code yJ0_checkIndex_df160 cJ0_checkIndex_df160 2 none, Cond.fieldLink RJ0 1053 "jdk/internal/util/Preconditions" "SIOOBE_FORMATTER" "Ljava/util/function/BiFunction;", Cond.methodLink RJ0 1059 yJ3_checkIndex_8e157, Cond.static yJ3_checkIndex_8e157, Cond.initialized RJ3, Cond.code yJ3_checkIndex_8e157 cJ3_checkIndex_8e157 3 (some .int), Cond.methodLink RJ0 498 yJ2_charAt_3b067, Cond.static yJ2_charAt_3b067, Cond.initialized RJ2, Cond.code yJ2_charAt_3b067 cJ2_charAt_3b067 2 (some .char), Cond.methodLink RJ2 67 yJ2_checkIndex_2214a, Cond.static yJ2_checkIndex_2214a]
def wsX6_isWord_r3 : List Cond := [Cond.code yJ2_checkIndex_2214a cJ2_checkIndex_2214a 2 none, Cond.methodLink RJ2 48 yJ2_length_9d52b, Cond.static yJ2_length_9d52b, Cond.code yJ2_length_9d52b cJ2_length_9d52b 1 (some .int), Cond.methodLink RJ2 414 yJ0_checkIndex_df160, Cond.methodLink RJ2 71 yJ2_getChar_3b067, Cond.static yJ2_getChar_3b067, Cond.code yJ2_getChar_3b067 cJ2_getChar_3b067 2 (some .char), Cond.fieldLink RJ2 44 "java/lang/StringUTF16" "$assertionsDisabled" "Z", Cond.fieldLink RJ2 59 "java/lang/StringUTF16" "HI_BYTE_SHIFT" "I", Cond.fieldLink RJ2 63 "java/lang/StringUTF16" "LO_BYTE_SHIFT" "I"]
def wsX6_isWord : List Cond := .code yX6_isWord cX6_isWord 3 (some .boolean) :: ((wsX6_isWord_r1 ++ (wsX6_isWord_r2 ++ wsX6_isWord_r3)) ++ wsX60)
def wsX6_pass : List Cond := .code yX6_pass cX6_pass 3 none :: ([.fieldLink RX6 19 "AlikeHands$Tape" "fault" "I", .methodLink RX6 30 yX6_advance, .instanceMethod yX6_advance, .selects RX6 yX6_advance yX6_advance, .initialized RX6, .code yX6_advance cX6_advance 1 none, .fieldLink RX6 22 "AlikeHands$Tape" "to" "I", .fieldLink RX6 84 "AlikeHands$Tape" "from" "I", .fieldLink RX6 15 "AlikeHands$Tape" "length" "I", .fieldLink RX6 53 "AlikeHands$Tape" "token" "I", .methodLink RX6 87 yX6_at, .instanceMethod yX6_at, .selects RX6 yX6_at yX6_at, .code yX6_at cX6_at 2 (some .int), .fieldLink RX6 11 "AlikeHands$Tape" "bytes" "[I", .methodLink RX6 91 yX6_isLetter, .static yX6_isLetter, .code yX6_isLetter cX6_isLetter 1 (some .boolean), .methodLink RX6 95 yX6_isFigure, .static yX6_isFigure, .code yX6_isFigure cX6_isFigure 1 (some .boolean)] ++ wsX60)
def wsX6_takeWord_r1 : List Cond := [Cond.methodLink RX6 58 yX6_isWord, Cond.instanceMethod yX6_isWord, Cond.selects RX6 yX6_isWord yX6_isWord, Cond.initialized RX6, Cond.code yX6_isWord cX6_isWord 3 (some .boolean), Cond.fieldLink RX6 53 "AlikeHands$Tape" "token" "I", Cond.fieldLink RX6 22 "AlikeHands$Tape" "to" "I", Cond.fieldLink RX6 84 "AlikeHands$Tape" "from" "I", Cond.methodLink RX6 98 yJ0_length_8abf5, Cond.instanceMethod yJ0_length_8abf5, Cond.selects RJ0 yJ0_length_8abf5 yJ0_length_8abf5, Cond.initialized RJ0, Cond.code yJ0_length_8abf5 cJ0_length_8abf5 1 (some .int), Cond.fieldLink RJ0 9 "java/lang/String" "value" "[B", Cond.methodLink RJ0 335 yJ0_coder_7d493, Cond.instanceMethod yJ0_coder_7d493, Cond.selects RJ0 yJ0_coder_7d493 yJ0_coder_7d493, Cond.code yJ0_coder_7d493 cJ0_coder_7d493 1 (some .byte), Cond.fieldLink RJ0 38 "java/lang/String" "COMPACT_STRINGS" "Z", Cond.fieldLink RJ0 15 "java/lang/String" "coder" "B", Cond.methodLink RX6 87 yX6_at, Cond.instanceMethod yX6_at, Cond.selects RX6 yX6_at yX6_at, Cond.code yX6_at cX6_at 2 (some .int)]
def wsX6_takeWord_r2 : List Cond := [Cond.fieldLink RX6 15 "AlikeHands$Tape" "length" "I", Cond.fieldLink RX6 11 "AlikeHands$Tape" "bytes" "[I", Cond.methodLink RX6 102 yJ0_charAt_5068e, Cond.instanceMethod yJ0_charAt_5068e, Cond.selects RJ0 yJ0_charAt_5068e yJ0_charAt_5068e, Cond.code yJ0_charAt_5068e cJ0_charAt_5068e 2 (some .char), Cond.methodLink RJ0 492 yJ0_isLatin1_aae02, Cond.instanceMethod yJ0_isLatin1_aae02, Cond.selects RJ0 yJ0_isLatin1_aae02 yJ0_isLatin1_aae02, Cond.code yJ0_isLatin1_aae02 cJ0_isLatin1_aae02 1 (some .boolean), Cond.methodLink RJ0 495 yJ1_charAt_3b067, Cond.static yJ1_charAt_3b067, Cond.initialized RJ1, Cond.code yJ1_charAt_3b067 cJ1_charAt_3b067 2 (some .char), Cond.methodLink RJ1 9 yJ0_checkIndex_df160, Cond.static yJ0_checkIndex_df160, Cond.code yJ0_checkIndex_df160 cJ0_checkIndex_df160 2 none, Cond.fieldLink RJ0 1053 "jdk/internal/util/Preconditions" "SIOOBE_FORMATTER" "Ljava/util/function/BiFunction;", Cond.methodLink RJ0 1059 yJ3_checkIndex_8e157, Cond.static yJ3_checkIndex_8e157, Cond.initialized RJ3, Cond.code yJ3_checkIndex_8e157 cJ3_checkIndex_8e157 3 (some .int), Cond.methodLink RJ0 498 yJ2_charAt_3b067, Cond.static yJ2_charAt_3b067]
def wsX6_takeWord_r3 : List Cond := [Cond.initialized RJ2, Cond.code yJ2_charAt_3b067 cJ2_charAt_3b067 2 (some .char), Cond.methodLink RJ2 67 yJ2_checkIndex_2214a, Cond.static yJ2_checkIndex_2214a, Cond.code yJ2_checkIndex_2214a cJ2_checkIndex_2214a 2 none, Cond.methodLink RJ2 48 yJ2_length_9d52b, Cond.static yJ2_length_9d52b, Cond.code yJ2_length_9d52b cJ2_length_9d52b 1 (some .int), Cond.methodLink RJ2 414 yJ0_checkIndex_df160, Cond.methodLink RJ2 71 yJ2_getChar_3b067, Cond.static yJ2_getChar_3b067, Cond.code yJ2_getChar_3b067 cJ2_getChar_3b067 2 (some .char), Cond.fieldLink RJ2 44 "java/lang/StringUTF16" "$assertionsDisabled" "Z", Cond.fieldLink RJ2 59 "java/lang/StringUTF16" "HI_BYTE_SHIFT" "I", Cond.fieldLink RJ2 63 "java/lang/StringUTF16" "LO_BYTE_SHIFT" "I", Cond.methodLink RX6 70 yX6_pass, Cond.instanceMethod yX6_pass, Cond.selects RX6 yX6_pass yX6_pass, Cond.code yX6_pass cX6_pass 3 none, Cond.fieldLink RX6 19 "AlikeHands$Tape" "fault" "I", Cond.methodLink RX6 30 yX6_advance, Cond.instanceMethod yX6_advance, Cond.selects RX6 yX6_advance yX6_advance, Cond.code yX6_advance cX6_advance 1 none]
def wsX6_takeWord_r4 : List Cond := [Cond.methodLink RX6 91 yX6_isLetter, Cond.static yX6_isLetter, Cond.code yX6_isLetter cX6_isLetter 1 (some .boolean), Cond.methodLink RX6 95 yX6_isFigure, Cond.static yX6_isFigure, Cond.code yX6_isFigure cX6_isFigure 1 (some .boolean)]
def wsX6_takeWord : List Cond := .code yX6_takeWord cX6_takeWord 2 none :: ((wsX6_takeWord_r1 ++ (wsX6_takeWord_r2 ++ (wsX6_takeWord_r3 ++ wsX6_takeWord_r4))) ++ wsX60)
def wsX6_numberHere : List Cond := .code yX6_numberHere cX6_numberHere 3 (some .int) :: ([.fieldLink RX6 84 "AlikeHands$Tape" "from" "I", .fieldLink RX6 22 "AlikeHands$Tape" "to" "I", .methodLink RX6 87 yX6_at, .instanceMethod yX6_at, .selects RX6 yX6_at yX6_at, .initialized RX6, .code yX6_at cX6_at 2 (some .int), .fieldLink RX6 15 "AlikeHands$Tape" "length" "I", .fieldLink RX6 11 "AlikeHands$Tape" "bytes" "[I"] ++ wsX60)
def wsX6_takeNumber_r1 : List Cond := [Cond.fieldLink RX6 53 "AlikeHands$Tape" "token" "I", Cond.methodLink RX6 77 yX6_numberHere, Cond.instanceMethod yX6_numberHere, Cond.selects RX6 yX6_numberHere yX6_numberHere, Cond.initialized RX6, Cond.code yX6_numberHere cX6_numberHere 3 (some .int), Cond.fieldLink RX6 84 "AlikeHands$Tape" "from" "I", Cond.fieldLink RX6 22 "AlikeHands$Tape" "to" "I", Cond.methodLink RX6 87 yX6_at, Cond.instanceMethod yX6_at, Cond.selects RX6 yX6_at yX6_at, Cond.code yX6_at cX6_at 2 (some .int), Cond.fieldLink RX6 15 "AlikeHands$Tape" "length" "I", Cond.fieldLink RX6 11 "AlikeHands$Tape" "bytes" "[I", Cond.static yX7_isWithin, Cond.initialized RX7, Cond.code yX7_isWithin cX7_isWithin 3 (some .boolean), Cond.methodLink RX6 70 yX6_pass, Cond.instanceMethod yX6_pass, Cond.selects RX6 yX6_pass yX6_pass, Cond.code yX6_pass cX6_pass 3 none, Cond.fieldLink RX6 19 "AlikeHands$Tape" "fault" "I", Cond.methodLink RX6 30 yX6_advance, Cond.instanceMethod yX6_advance]
def wsX6_takeNumber_r2 : List Cond := [Cond.selects RX6 yX6_advance yX6_advance, Cond.code yX6_advance cX6_advance 1 none, Cond.methodLink RX6 91 yX6_isLetter, Cond.static yX6_isLetter, Cond.code yX6_isLetter cX6_isLetter 1 (some .boolean), Cond.methodLink RX6 95 yX6_isFigure, Cond.static yX6_isFigure, Cond.code yX6_isFigure cX6_isFigure 1 (some .boolean)]
def wsX6_takeNumber : List Cond := .code yX6_takeNumber cX6_takeNumber 4 (some .int) :: ((wsX6_takeNumber_r1 ++ wsX6_takeNumber_r2) ++ wsX60)
def wsX6_takeSign_r1 : List Cond := [Cond.fieldLink RX6 53 "AlikeHands$Tape" "token" "I", Cond.methodLink RX6 70 yX6_pass, Cond.instanceMethod yX6_pass, Cond.selects RX6 yX6_pass yX6_pass, Cond.initialized RX6, Cond.code yX6_pass cX6_pass 3 none, Cond.fieldLink RX6 19 "AlikeHands$Tape" "fault" "I", Cond.methodLink RX6 30 yX6_advance, Cond.instanceMethod yX6_advance, Cond.selects RX6 yX6_advance yX6_advance, Cond.code yX6_advance cX6_advance 1 none, Cond.fieldLink RX6 22 "AlikeHands$Tape" "to" "I", Cond.fieldLink RX6 84 "AlikeHands$Tape" "from" "I", Cond.fieldLink RX6 15 "AlikeHands$Tape" "length" "I", Cond.methodLink RX6 87 yX6_at, Cond.instanceMethod yX6_at, Cond.selects RX6 yX6_at yX6_at, Cond.code yX6_at cX6_at 2 (some .int), Cond.fieldLink RX6 11 "AlikeHands$Tape" "bytes" "[I", Cond.methodLink RX6 91 yX6_isLetter, Cond.static yX6_isLetter, Cond.code yX6_isLetter cX6_isLetter 1 (some .boolean), Cond.methodLink RX6 95 yX6_isFigure, Cond.static yX6_isFigure]
def wsX6_takeSign_r2 : List Cond := [Cond.code yX6_isFigure cX6_isFigure 1 (some .boolean)]
def wsX6_takeSign : List Cond := .code yX6_takeSign cX6_takeSign 1 none :: ((wsX6_takeSign_r1 ++ wsX6_takeSign_r2) ++ wsX60)
def wsX6_sortHere_r1 : List Cond := [Cond.methodLink RX6 58 yX6_isWord, Cond.instanceMethod yX6_isWord, Cond.selects RX6 yX6_isWord yX6_isWord, Cond.initialized RX6, Cond.code yX6_isWord cX6_isWord 3 (some .boolean), Cond.fieldLink RX6 53 "AlikeHands$Tape" "token" "I", Cond.fieldLink RX6 22 "AlikeHands$Tape" "to" "I", Cond.fieldLink RX6 84 "AlikeHands$Tape" "from" "I", Cond.methodLink RX6 98 yJ0_length_8abf5, Cond.instanceMethod yJ0_length_8abf5, Cond.selects RJ0 yJ0_length_8abf5 yJ0_length_8abf5, Cond.initialized RJ0, Cond.code yJ0_length_8abf5 cJ0_length_8abf5 1 (some .int), Cond.fieldLink RJ0 9 "java/lang/String" "value" "[B", Cond.methodLink RJ0 335 yJ0_coder_7d493, Cond.instanceMethod yJ0_coder_7d493, Cond.selects RJ0 yJ0_coder_7d493 yJ0_coder_7d493, Cond.code yJ0_coder_7d493 cJ0_coder_7d493 1 (some .byte), Cond.fieldLink RJ0 38 "java/lang/String" "COMPACT_STRINGS" "Z", Cond.fieldLink RJ0 15 "java/lang/String" "coder" "B", Cond.methodLink RX6 87 yX6_at, Cond.instanceMethod yX6_at, Cond.selects RX6 yX6_at yX6_at, Cond.code yX6_at cX6_at 2 (some .int)]
def wsX6_sortHere_r2 : List Cond := [Cond.fieldLink RX6 15 "AlikeHands$Tape" "length" "I", Cond.fieldLink RX6 11 "AlikeHands$Tape" "bytes" "[I", Cond.methodLink RX6 102 yJ0_charAt_5068e, Cond.instanceMethod yJ0_charAt_5068e, Cond.selects RJ0 yJ0_charAt_5068e yJ0_charAt_5068e, Cond.code yJ0_charAt_5068e cJ0_charAt_5068e 2 (some .char), Cond.methodLink RJ0 492 yJ0_isLatin1_aae02, Cond.instanceMethod yJ0_isLatin1_aae02, Cond.selects RJ0 yJ0_isLatin1_aae02 yJ0_isLatin1_aae02, Cond.code yJ0_isLatin1_aae02 cJ0_isLatin1_aae02 1 (some .boolean), Cond.methodLink RJ0 495 yJ1_charAt_3b067, Cond.static yJ1_charAt_3b067, Cond.initialized RJ1, Cond.code yJ1_charAt_3b067 cJ1_charAt_3b067 2 (some .char), Cond.methodLink RJ1 9 yJ0_checkIndex_df160, Cond.static yJ0_checkIndex_df160, Cond.code yJ0_checkIndex_df160 cJ0_checkIndex_df160 2 none, Cond.fieldLink RJ0 1053 "jdk/internal/util/Preconditions" "SIOOBE_FORMATTER" "Ljava/util/function/BiFunction;", Cond.methodLink RJ0 1059 yJ3_checkIndex_8e157, Cond.static yJ3_checkIndex_8e157, Cond.initialized RJ3, Cond.code yJ3_checkIndex_8e157 cJ3_checkIndex_8e157 3 (some .int), Cond.methodLink RJ0 498 yJ2_charAt_3b067, Cond.static yJ2_charAt_3b067]
def wsX6_sortHere_r3 : List Cond := [Cond.initialized RJ2, Cond.code yJ2_charAt_3b067 cJ2_charAt_3b067 2 (some .char), Cond.methodLink RJ2 67 yJ2_checkIndex_2214a, Cond.static yJ2_checkIndex_2214a, Cond.code yJ2_checkIndex_2214a cJ2_checkIndex_2214a 2 none, Cond.methodLink RJ2 48 yJ2_length_9d52b, Cond.static yJ2_length_9d52b, Cond.code yJ2_length_9d52b cJ2_length_9d52b 1 (some .int), Cond.methodLink RJ2 414 yJ0_checkIndex_df160, Cond.methodLink RJ2 71 yJ2_getChar_3b067, Cond.static yJ2_getChar_3b067, Cond.code yJ2_getChar_3b067 cJ2_getChar_3b067 2 (some .char), Cond.fieldLink RJ2 44 "java/lang/StringUTF16" "$assertionsDisabled" "Z", Cond.fieldLink RJ2 59 "java/lang/StringUTF16" "HI_BYTE_SHIFT" "I", Cond.fieldLink RJ2 63 "java/lang/StringUTF16" "LO_BYTE_SHIFT" "I"]
def wsX6_sortHere : List Cond := .code yX6_sortHere cX6_sortHere 1 (some .int) :: ((wsX6_sortHere_r1 ++ (wsX6_sortHere_r2 ++ wsX6_sortHere_r3)) ++ wsX60)
def wsX6_takeSort_r1 : List Cond := [Cond.methodLink RX6 74 yX6_sortHere, Cond.instanceMethod yX6_sortHere, Cond.selects RX6 yX6_sortHere yX6_sortHere, Cond.initialized RX6, Cond.code yX6_sortHere cX6_sortHere 1 (some .int), Cond.methodLink RX6 58 yX6_isWord, Cond.instanceMethod yX6_isWord, Cond.selects RX6 yX6_isWord yX6_isWord, Cond.code yX6_isWord cX6_isWord 3 (some .boolean), Cond.fieldLink RX6 53 "AlikeHands$Tape" "token" "I", Cond.fieldLink RX6 22 "AlikeHands$Tape" "to" "I", Cond.fieldLink RX6 84 "AlikeHands$Tape" "from" "I", Cond.methodLink RX6 98 yJ0_length_8abf5, Cond.instanceMethod yJ0_length_8abf5, Cond.selects RJ0 yJ0_length_8abf5 yJ0_length_8abf5, Cond.initialized RJ0, Cond.code yJ0_length_8abf5 cJ0_length_8abf5 1 (some .int), Cond.fieldLink RJ0 9 "java/lang/String" "value" "[B", Cond.methodLink RJ0 335 yJ0_coder_7d493, Cond.instanceMethod yJ0_coder_7d493, Cond.selects RJ0 yJ0_coder_7d493 yJ0_coder_7d493, Cond.code yJ0_coder_7d493 cJ0_coder_7d493 1 (some .byte), Cond.fieldLink RJ0 38 "java/lang/String" "COMPACT_STRINGS" "Z", Cond.fieldLink RJ0 15 "java/lang/String" "coder" "B"]
def wsX6_takeSort_r2 : List Cond := [Cond.methodLink RX6 87 yX6_at, Cond.instanceMethod yX6_at, Cond.selects RX6 yX6_at yX6_at, Cond.code yX6_at cX6_at 2 (some .int), Cond.fieldLink RX6 15 "AlikeHands$Tape" "length" "I", Cond.fieldLink RX6 11 "AlikeHands$Tape" "bytes" "[I", Cond.methodLink RX6 102 yJ0_charAt_5068e, Cond.instanceMethod yJ0_charAt_5068e, Cond.selects RJ0 yJ0_charAt_5068e yJ0_charAt_5068e, Cond.code yJ0_charAt_5068e cJ0_charAt_5068e 2 (some .char), Cond.methodLink RJ0 492 yJ0_isLatin1_aae02, Cond.instanceMethod yJ0_isLatin1_aae02, Cond.selects RJ0 yJ0_isLatin1_aae02 yJ0_isLatin1_aae02, Cond.code yJ0_isLatin1_aae02 cJ0_isLatin1_aae02 1 (some .boolean), Cond.methodLink RJ0 495 yJ1_charAt_3b067, Cond.static yJ1_charAt_3b067, Cond.initialized RJ1, Cond.code yJ1_charAt_3b067 cJ1_charAt_3b067 2 (some .char), Cond.methodLink RJ1 9 yJ0_checkIndex_df160, Cond.static yJ0_checkIndex_df160, Cond.code yJ0_checkIndex_df160 cJ0_checkIndex_df160 2 none, Cond.fieldLink RJ0 1053 "jdk/internal/util/Preconditions" "SIOOBE_FORMATTER" "Ljava/util/function/BiFunction;", Cond.methodLink RJ0 1059 yJ3_checkIndex_8e157, Cond.static yJ3_checkIndex_8e157]
def wsX6_takeSort_r3 : List Cond := [Cond.initialized RJ3, Cond.code yJ3_checkIndex_8e157 cJ3_checkIndex_8e157 3 (some .int), Cond.methodLink RJ0 498 yJ2_charAt_3b067, Cond.static yJ2_charAt_3b067, Cond.initialized RJ2, Cond.code yJ2_charAt_3b067 cJ2_charAt_3b067 2 (some .char), Cond.methodLink RJ2 67 yJ2_checkIndex_2214a, Cond.static yJ2_checkIndex_2214a, Cond.code yJ2_checkIndex_2214a cJ2_checkIndex_2214a 2 none, Cond.methodLink RJ2 48 yJ2_length_9d52b, Cond.static yJ2_length_9d52b, Cond.code yJ2_length_9d52b cJ2_length_9d52b 1 (some .int), Cond.methodLink RJ2 414 yJ0_checkIndex_df160, Cond.methodLink RJ2 71 yJ2_getChar_3b067, Cond.static yJ2_getChar_3b067, Cond.code yJ2_getChar_3b067 cJ2_getChar_3b067 2 (some .char), Cond.fieldLink RJ2 44 "java/lang/StringUTF16" "$assertionsDisabled" "Z", Cond.fieldLink RJ2 59 "java/lang/StringUTF16" "HI_BYTE_SHIFT" "I", Cond.fieldLink RJ2 63 "java/lang/StringUTF16" "LO_BYTE_SHIFT" "I", Cond.methodLink RX6 70 yX6_pass, Cond.instanceMethod yX6_pass, Cond.selects RX6 yX6_pass yX6_pass, Cond.code yX6_pass cX6_pass 3 none, Cond.fieldLink RX6 19 "AlikeHands$Tape" "fault" "I"]
def wsX6_takeSort_r4 : List Cond := [Cond.methodLink RX6 30 yX6_advance, Cond.instanceMethod yX6_advance, Cond.selects RX6 yX6_advance yX6_advance, Cond.code yX6_advance cX6_advance 1 none, Cond.methodLink RX6 91 yX6_isLetter, Cond.static yX6_isLetter, Cond.code yX6_isLetter cX6_isLetter 1 (some .boolean), Cond.methodLink RX6 95 yX6_isFigure, Cond.static yX6_isFigure, Cond.code yX6_isFigure cX6_isFigure 1 (some .boolean)]
def wsX6_takeSort : List Cond := .code yX6_takeSort cX6_takeSort 2 (some .int) :: ((wsX6_takeSort_r1 ++ (wsX6_takeSort_r2 ++ (wsX6_takeSort_r3 ++ wsX6_takeSort_r4))) ++ wsX60)
def wsX6_takeHand_r1 : List Cond := [Cond.fieldLink RX6 19 "AlikeHands$Tape" "fault" "I", Cond.fieldLink RX6 25 "AlikeHands$Clock" "count" "I", Cond.methodLink RX6 58 yX6_isWord, Cond.instanceMethod yX6_isWord, Cond.selects RX6 yX6_isWord yX6_isWord, Cond.initialized RX6, Cond.code yX6_isWord cX6_isWord 3 (some .boolean), Cond.fieldLink RX6 53 "AlikeHands$Tape" "token" "I", Cond.fieldLink RX6 22 "AlikeHands$Tape" "to" "I", Cond.fieldLink RX6 84 "AlikeHands$Tape" "from" "I", Cond.methodLink RX6 98 yJ0_length_8abf5, Cond.instanceMethod yJ0_length_8abf5, Cond.selects RJ0 yJ0_length_8abf5 yJ0_length_8abf5, Cond.initialized RJ0, Cond.code yJ0_length_8abf5 cJ0_length_8abf5 1 (some .int), Cond.fieldLink RJ0 9 "java/lang/String" "value" "[B", Cond.methodLink RJ0 335 yJ0_coder_7d493, Cond.instanceMethod yJ0_coder_7d493, Cond.selects RJ0 yJ0_coder_7d493 yJ0_coder_7d493, Cond.code yJ0_coder_7d493 cJ0_coder_7d493 1 (some .byte), Cond.fieldLink RJ0 38 "java/lang/String" "COMPACT_STRINGS" "Z", Cond.fieldLink RJ0 15 "java/lang/String" "coder" "B", Cond.methodLink RX6 87 yX6_at, Cond.instanceMethod yX6_at]
def wsX6_takeHand_r2 : List Cond := [Cond.selects RX6 yX6_at yX6_at, Cond.code yX6_at cX6_at 2 (some .int), Cond.fieldLink RX6 15 "AlikeHands$Tape" "length" "I", Cond.fieldLink RX6 11 "AlikeHands$Tape" "bytes" "[I", Cond.methodLink RX6 102 yJ0_charAt_5068e, Cond.instanceMethod yJ0_charAt_5068e, Cond.selects RJ0 yJ0_charAt_5068e yJ0_charAt_5068e, Cond.code yJ0_charAt_5068e cJ0_charAt_5068e 2 (some .char), Cond.methodLink RJ0 492 yJ0_isLatin1_aae02, Cond.instanceMethod yJ0_isLatin1_aae02, Cond.selects RJ0 yJ0_isLatin1_aae02 yJ0_isLatin1_aae02, Cond.code yJ0_isLatin1_aae02 cJ0_isLatin1_aae02 1 (some .boolean), Cond.methodLink RJ0 495 yJ1_charAt_3b067, Cond.static yJ1_charAt_3b067, Cond.initialized RJ1, Cond.code yJ1_charAt_3b067 cJ1_charAt_3b067 2 (some .char), Cond.methodLink RJ1 9 yJ0_checkIndex_df160, Cond.static yJ0_checkIndex_df160, Cond.code yJ0_checkIndex_df160 cJ0_checkIndex_df160 2 none, Cond.fieldLink RJ0 1053 "jdk/internal/util/Preconditions" "SIOOBE_FORMATTER" "Ljava/util/function/BiFunction;", Cond.methodLink RJ0 1059 yJ3_checkIndex_8e157, Cond.static yJ3_checkIndex_8e157, Cond.initialized RJ3, Cond.code yJ3_checkIndex_8e157 cJ3_checkIndex_8e157 3 (some .int)]
def wsX6_takeHand_r3 : List Cond := [Cond.methodLink RJ0 498 yJ2_charAt_3b067, Cond.static yJ2_charAt_3b067, Cond.initialized RJ2, Cond.code yJ2_charAt_3b067 cJ2_charAt_3b067 2 (some .char), Cond.methodLink RJ2 67 yJ2_checkIndex_2214a, Cond.static yJ2_checkIndex_2214a, Cond.code yJ2_checkIndex_2214a cJ2_checkIndex_2214a 2 none, Cond.methodLink RJ2 48 yJ2_length_9d52b, Cond.static yJ2_length_9d52b, Cond.code yJ2_length_9d52b cJ2_length_9d52b 1 (some .int), Cond.methodLink RJ2 414 yJ0_checkIndex_df160, Cond.methodLink RJ2 71 yJ2_getChar_3b067, Cond.static yJ2_getChar_3b067, Cond.code yJ2_getChar_3b067 cJ2_getChar_3b067 2 (some .char), Cond.fieldLink RJ2 44 "java/lang/StringUTF16" "$assertionsDisabled" "Z", Cond.fieldLink RJ2 59 "java/lang/StringUTF16" "HI_BYTE_SHIFT" "I", Cond.fieldLink RJ2 63 "java/lang/StringUTF16" "LO_BYTE_SHIFT" "I", Cond.methodLink RX6 35 yX6_takeWord, Cond.instanceMethod yX6_takeWord, Cond.selects RX6 yX6_takeWord yX6_takeWord, Cond.code yX6_takeWord cX6_takeWord 2 none, Cond.methodLink RX6 70 yX6_pass, Cond.instanceMethod yX6_pass, Cond.selects RX6 yX6_pass yX6_pass]
def wsX6_takeHand_r4 : List Cond := [Cond.code yX6_pass cX6_pass 3 none, Cond.methodLink RX6 30 yX6_advance, Cond.instanceMethod yX6_advance, Cond.selects RX6 yX6_advance yX6_advance, Cond.code yX6_advance cX6_advance 1 none, Cond.methodLink RX6 91 yX6_isLetter, Cond.static yX6_isLetter, Cond.code yX6_isLetter cX6_isLetter 1 (some .boolean), Cond.methodLink RX6 95 yX6_isFigure, Cond.static yX6_isFigure, Cond.code yX6_isFigure cX6_isFigure 1 (some .boolean), Cond.methodLink RX6 62 yX6_takeSort, Cond.instanceMethod yX6_takeSort, Cond.selects RX6 yX6_takeSort yX6_takeSort, Cond.code yX6_takeSort cX6_takeSort 2 (some .int), Cond.methodLink RX6 74 yX6_sortHere, Cond.instanceMethod yX6_sortHere, Cond.selects RX6 yX6_sortHere yX6_sortHere, Cond.code yX6_sortHere cX6_sortHere 1 (some .int), Cond.methodLink RX6 39 yX6_takeNumber, Cond.instanceMethod yX6_takeNumber, Cond.selects RX6 yX6_takeNumber yX6_takeNumber, Cond.code yX6_takeNumber cX6_takeNumber 4 (some .int), Cond.methodLink RX6 77 yX6_numberHere]
def wsX6_takeHand_r5 : List Cond := [Cond.instanceMethod yX6_numberHere, Cond.selects RX6 yX6_numberHere yX6_numberHere, Cond.code yX6_numberHere cX6_numberHere 3 (some .int), Cond.static yX7_isWithin, Cond.initialized RX7, Cond.code yX7_isWithin cX7_isWithin 3 (some .boolean), Cond.methodLink RX6 46 yX6_takeSign, Cond.instanceMethod yX6_takeSign, Cond.selects RX6 yX6_takeSign yX6_takeSign, Cond.code yX6_takeSign cX6_takeSign 1 none, Cond.methodLink RX6 66 yX2_add, Cond.instanceMethod yX2_add, Cond.selects RX2 yX2_add yX2_add, Cond.initialized RX2, Cond.code yX2_add cX2_add 3 none, Cond.fieldLink RX2 21 "AlikeHands$Clock" "count" "I", Cond.fieldLink RX2 9 "AlikeHands$Clock" "sorts" "[I", Cond.fieldLink RX2 15 "AlikeHands$Clock" "turns" "[I", Cond.fieldLink RX2 18 "AlikeHands$Clock" "slips" "[I"]
def wsX6_takeHand : List Cond := .code yX6_takeHand cX6_takeHand 4 none :: ((wsX6_takeHand_r1 ++ (wsX6_takeHand_r2 ++ (wsX6_takeHand_r3 ++ (wsX6_takeHand_r4 ++ wsX6_takeHand_r5)))) ++ wsX60 ++ wsX20)
def wsX6_readInto_r1 : List Cond := [Cond.fieldLink RX6 19 "AlikeHands$Tape" "fault" "I", Cond.fieldLink RX6 22 "AlikeHands$Tape" "to" "I", Cond.fieldLink RX6 25 "AlikeHands$Clock" "count" "I", Cond.fieldLink RX6 43 "AlikeHands$Clock" "marks" "I", Cond.fieldLink RX6 53 "AlikeHands$Tape" "token" "I", Cond.methodLink RX6 30 yX6_advance, Cond.instanceMethod yX6_advance, Cond.selects RX6 yX6_advance yX6_advance, Cond.initialized RX6, Cond.code yX6_advance cX6_advance 1 none, Cond.fieldLink RX6 84 "AlikeHands$Tape" "from" "I", Cond.fieldLink RX6 15 "AlikeHands$Tape" "length" "I", Cond.methodLink RX6 87 yX6_at, Cond.instanceMethod yX6_at, Cond.selects RX6 yX6_at yX6_at, Cond.code yX6_at cX6_at 2 (some .int), Cond.fieldLink RX6 11 "AlikeHands$Tape" "bytes" "[I", Cond.methodLink RX6 91 yX6_isLetter, Cond.static yX6_isLetter, Cond.code yX6_isLetter cX6_isLetter 1 (some .boolean), Cond.methodLink RX6 95 yX6_isFigure, Cond.static yX6_isFigure, Cond.code yX6_isFigure cX6_isFigure 1 (some .boolean), Cond.methodLink RX6 35 yX6_takeWord]
def wsX6_readInto_r2 : List Cond := [Cond.instanceMethod yX6_takeWord, Cond.selects RX6 yX6_takeWord yX6_takeWord, Cond.code yX6_takeWord cX6_takeWord 2 none, Cond.methodLink RX6 58 yX6_isWord, Cond.instanceMethod yX6_isWord, Cond.selects RX6 yX6_isWord yX6_isWord, Cond.code yX6_isWord cX6_isWord 3 (some .boolean), Cond.methodLink RX6 98 yJ0_length_8abf5, Cond.instanceMethod yJ0_length_8abf5, Cond.selects RJ0 yJ0_length_8abf5 yJ0_length_8abf5, Cond.initialized RJ0, Cond.code yJ0_length_8abf5 cJ0_length_8abf5 1 (some .int), Cond.fieldLink RJ0 9 "java/lang/String" "value" "[B", Cond.methodLink RJ0 335 yJ0_coder_7d493, Cond.instanceMethod yJ0_coder_7d493, Cond.selects RJ0 yJ0_coder_7d493 yJ0_coder_7d493, Cond.code yJ0_coder_7d493 cJ0_coder_7d493 1 (some .byte), Cond.fieldLink RJ0 38 "java/lang/String" "COMPACT_STRINGS" "Z", Cond.fieldLink RJ0 15 "java/lang/String" "coder" "B", Cond.methodLink RX6 102 yJ0_charAt_5068e, Cond.instanceMethod yJ0_charAt_5068e, Cond.selects RJ0 yJ0_charAt_5068e yJ0_charAt_5068e, Cond.code yJ0_charAt_5068e cJ0_charAt_5068e 2 (some .char), Cond.methodLink RJ0 492 yJ0_isLatin1_aae02]
def wsX6_readInto_r3 : List Cond := [Cond.instanceMethod yJ0_isLatin1_aae02, Cond.selects RJ0 yJ0_isLatin1_aae02 yJ0_isLatin1_aae02, Cond.code yJ0_isLatin1_aae02 cJ0_isLatin1_aae02 1 (some .boolean), Cond.methodLink RJ0 495 yJ1_charAt_3b067, Cond.static yJ1_charAt_3b067, Cond.initialized RJ1, Cond.code yJ1_charAt_3b067 cJ1_charAt_3b067 2 (some .char), Cond.methodLink RJ1 9 yJ0_checkIndex_df160, Cond.static yJ0_checkIndex_df160, Cond.code yJ0_checkIndex_df160 cJ0_checkIndex_df160 2 none, Cond.fieldLink RJ0 1053 "jdk/internal/util/Preconditions" "SIOOBE_FORMATTER" "Ljava/util/function/BiFunction;", Cond.methodLink RJ0 1059 yJ3_checkIndex_8e157, Cond.static yJ3_checkIndex_8e157, Cond.initialized RJ3, Cond.code yJ3_checkIndex_8e157 cJ3_checkIndex_8e157 3 (some .int), Cond.methodLink RJ0 498 yJ2_charAt_3b067, Cond.static yJ2_charAt_3b067, Cond.initialized RJ2, Cond.code yJ2_charAt_3b067 cJ2_charAt_3b067 2 (some .char), Cond.methodLink RJ2 67 yJ2_checkIndex_2214a, Cond.static yJ2_checkIndex_2214a, Cond.code yJ2_checkIndex_2214a cJ2_checkIndex_2214a 2 none, Cond.methodLink RJ2 48 yJ2_length_9d52b, Cond.static yJ2_length_9d52b]
def wsX6_readInto_r4 : List Cond := [Cond.code yJ2_length_9d52b cJ2_length_9d52b 1 (some .int), Cond.methodLink RJ2 414 yJ0_checkIndex_df160, Cond.methodLink RJ2 71 yJ2_getChar_3b067, Cond.static yJ2_getChar_3b067, Cond.code yJ2_getChar_3b067 cJ2_getChar_3b067 2 (some .char), Cond.fieldLink RJ2 44 "java/lang/StringUTF16" "$assertionsDisabled" "Z", Cond.fieldLink RJ2 59 "java/lang/StringUTF16" "HI_BYTE_SHIFT" "I", Cond.fieldLink RJ2 63 "java/lang/StringUTF16" "LO_BYTE_SHIFT" "I", Cond.methodLink RX6 70 yX6_pass, Cond.instanceMethod yX6_pass, Cond.selects RX6 yX6_pass yX6_pass, Cond.code yX6_pass cX6_pass 3 none, Cond.methodLink RX6 39 yX6_takeNumber, Cond.instanceMethod yX6_takeNumber, Cond.selects RX6 yX6_takeNumber yX6_takeNumber, Cond.code yX6_takeNumber cX6_takeNumber 4 (some .int), Cond.methodLink RX6 77 yX6_numberHere, Cond.instanceMethod yX6_numberHere, Cond.selects RX6 yX6_numberHere yX6_numberHere, Cond.code yX6_numberHere cX6_numberHere 3 (some .int), Cond.static yX7_isWithin, Cond.initialized RX7, Cond.code yX7_isWithin cX7_isWithin 3 (some .boolean), Cond.methodLink RX6 46 yX6_takeSign]
def wsX6_readInto_r5 : List Cond := [Cond.instanceMethod yX6_takeSign, Cond.selects RX6 yX6_takeSign yX6_takeSign, Cond.code yX6_takeSign cX6_takeSign 1 none, Cond.methodLink RX6 49 yX6_takeHand, Cond.instanceMethod yX6_takeHand, Cond.selects RX6 yX6_takeHand yX6_takeHand, Cond.code yX6_takeHand cX6_takeHand 4 none, Cond.methodLink RX6 62 yX6_takeSort, Cond.instanceMethod yX6_takeSort, Cond.selects RX6 yX6_takeSort yX6_takeSort, Cond.code yX6_takeSort cX6_takeSort 2 (some .int), Cond.methodLink RX6 74 yX6_sortHere, Cond.instanceMethod yX6_sortHere, Cond.selects RX6 yX6_sortHere yX6_sortHere, Cond.code yX6_sortHere cX6_sortHere 1 (some .int), Cond.methodLink RX6 66 yX2_add, Cond.instanceMethod yX2_add, Cond.selects RX2 yX2_add yX2_add, Cond.initialized RX2, Cond.code yX2_add cX2_add 3 none, Cond.fieldLink RX2 21 "AlikeHands$Clock" "count" "I", Cond.fieldLink RX2 9 "AlikeHands$Clock" "sorts" "[I", Cond.fieldLink RX2 15 "AlikeHands$Clock" "turns" "[I", Cond.fieldLink RX2 18 "AlikeHands$Clock" "slips" "[I"]
def wsX6_readInto : List Cond := .code yX6_readInto cX6_readInto 3 none :: ((wsX6_readInto_r1 ++ (wsX6_readInto_r2 ++ (wsX6_readInto_r3 ++ (wsX6_readInto_r4 ++ wsX6_readInto_r5)))) ++ wsX60 ++ wsX20)
def wsX7_init_r1 : List Cond := [Cond.methodLink RX7 1 objectInit, Cond.instanceMethod objectInit, Cond.code objectInit ⟨#[0xb1]⟩ 1 none, Cond.classLink RX7 7 RX5, Cond.instantiable RX5 3, Cond.initialized RX5, Cond.fieldLink RX7 10 "AlikeHands" "rows" "LAlikeHands$Rows;", Cond.classLink RX7 16 RX6, Cond.instantiable RX6 6, Cond.initialized RX6, Cond.fieldLink RX7 19 "AlikeHands" "tape" "LAlikeHands$Tape;", Cond.classLink RX7 23 RX2, Cond.instantiable RX2 5, Cond.initialized RX2, Cond.fieldLink RX7 26 "AlikeHands" "clock" "LAlikeHands$Clock;", Cond.fieldLink RX7 30 "AlikeHands" "draft" "LAlikeHands$Clock;", Cond.fieldLink RX7 33 "AlikeHands" "firstImage" "LAlikeHands$Clock;", Cond.fieldLink RX7 36 "AlikeHands" "secondImage" "LAlikeHands$Clock;", Cond.classLink RX7 39 RX0, Cond.instantiable RX0 3, Cond.initialized RX0, Cond.fieldLink RX7 42 "AlikeHands" "acts" "LAlikeHands$Acts;", Cond.classLink RX7 46 RX3, Cond.instantiable RX3 4]
def wsX7_init_r2 : List Cond := [Cond.initialized RX3, Cond.fieldLink RX7 49 "AlikeHands" "pair" "LAlikeHands$Doubts;", Cond.classLink RX7 53 RX4, Cond.instantiable RX4 4, Cond.initialized RX4, Cond.fieldLink RX7 56 "AlikeHands" "reading" "LAlikeHands$Reading;", Cond.classLink RX7 60 RX1, Cond.instantiable RX1 2, Cond.initialized RX1, Cond.fieldLink RX7 63 "AlikeHands" "asks" "LAlikeHands$Asks;", Cond.methodLink RX7 9 yX5_init, Cond.instanceMethod yX5_init, Cond.code yX5_init cX5_init 1 none, Cond.methodLink RX5 3 objectInit, Cond.arrayClass .int, Cond.fieldLink RX5 9 "AlikeHands$Rows" "items" "[I", Cond.fieldLink RX5 15 "AlikeHands$Rows" "lanes" "[I", Cond.fieldLink RX5 18 "AlikeHands$Rows" "lengths" "[I", Cond.methodLink RX5 21 yJ7_fill_53178, Cond.static yJ7_fill_53178, Cond.initialized RJ7, Cond.code yJ7_fill_53178 cJ7_fill_53178 4 none, Cond.instanceMethod yX6_init, Cond.code yX6_init cX6_init 1 none]
def wsX7_init_r3 : List Cond := [Cond.methodLink RX6 3 objectInit, Cond.fieldLink RX6 11 "AlikeHands$Tape" "bytes" "[I", Cond.instanceMethod yX2_init, Cond.code yX2_init cX2_init 1 none, Cond.methodLink RX2 3 objectInit, Cond.fieldLink RX2 9 "AlikeHands$Clock" "sorts" "[I", Cond.fieldLink RX2 15 "AlikeHands$Clock" "turns" "[I", Cond.fieldLink RX2 18 "AlikeHands$Clock" "slips" "[I", Cond.instanceMethod yX0_init, Cond.code yX0_init cX0_init 1 none, Cond.methodLink RX0 1 objectInit, Cond.fieldLink RX0 9 "AlikeHands$Acts" "hands" "[I", Cond.fieldLink RX0 13 "AlikeHands$Acts" "slips" "[I", Cond.instanceMethod yX3_init, Cond.code yX3_init cX3_init 1 none, Cond.methodLink RX3 1 objectInit, Cond.instanceMethod yX4_init, Cond.code yX4_init cX4_init 1 none, Cond.methodLink RX4 3 objectInit, Cond.fieldLink RX4 9 "AlikeHands$Reading" "arcs" "[I", Cond.fieldLink RX4 15 "AlikeHands$Reading" "speeds" "[I", Cond.instanceMethod yX1_init, Cond.code yX1_init cX1_init 1 none, Cond.methodLink RX1 3 objectInit]
def wsX7_init_r4 : List Cond := [Cond.fieldLink RX1 11 "AlikeHands$Asks" "bodies" "[I"]
def wsX7_init : List Cond := .code yX7_init cX7_init 1 none :: ((wsX7_init_r1 ++ (wsX7_init_r2 ++ (wsX7_init_r3 ++ wsX7_init_r4))) ++ wsX50 ++ wsX70 ++ wsX60 ++ wsX20 ++ wsX00 ++ wsX30 ++ wsX40 ++ wsX10)
def wsX7_found : List Cond := .code yX7_found cX7_found 2 (some .int) :: ([.fieldLink RX7 285 "AlikeHands" "finding" "I", .constant RX7 288 (-1000010)] ++ wsX70)
def wsX7_fine : List Cond := .code yX7_fine cX7_fine 2 (some .int) :: ([.fieldLink RX7 285 "AlikeHands" "finding" "I"] ++ wsX70)
def wsX7_row_r1 : List Cond := [Cond.constant RX7 75 (-1000001), Cond.fieldLink RX7 10 "AlikeHands" "rows" "LAlikeHands$Rows;", Cond.methodLink RX7 67 yX7_isRow, Cond.static yX7_isRow, Cond.initialized RX7, Cond.code yX7_isRow cX7_isRow 1 (some .boolean), Cond.methodLink RX7 71 yX7_isWithin, Cond.static yX7_isWithin, Cond.code yX7_isWithin cX7_isWithin 3 (some .boolean), Cond.methodLink RX7 76 yX7_found, Cond.instanceMethod yX7_found, Cond.selects RX7 yX7_found yX7_found, Cond.code yX7_found cX7_found 2 (some .int), Cond.fieldLink RX7 285 "AlikeHands" "finding" "I", Cond.constant RX7 288 (-1000010), Cond.methodLink RX7 80 yX5_make, Cond.instanceMethod yX5_make, Cond.selects RX5 yX5_make yX5_make, Cond.initialized RX5, Cond.code yX5_make cX5_make 5 none, Cond.fieldLink RX5 15 "AlikeHands$Rows" "lanes" "[I", Cond.fieldLink RX5 18 "AlikeHands$Rows" "lengths" "[I", Cond.fieldLink RX5 9 "AlikeHands$Rows" "items" "[I", Cond.methodLink RX7 84 yX7_fine]
def wsX7_row_r2 : List Cond := [Cond.instanceMethod yX7_fine, Cond.selects RX7 yX7_fine yX7_fine, Cond.code yX7_fine cX7_fine 2 (some .int)]
def wsX7_row : List Cond := .code yX7_row cX7_row 4 (some .int) :: ((wsX7_row_r1 ++ wsX7_row_r2) ++ wsX70 ++ wsX50)
def wsX7_set_r1 : List Cond := [Cond.constant RX7 75 (-1000001), Cond.fieldLink RX7 10 "AlikeHands" "rows" "LAlikeHands$Rows;", Cond.methodLink RX7 67 yX7_isRow, Cond.static yX7_isRow, Cond.initialized RX7, Cond.code yX7_isRow cX7_isRow 1 (some .boolean), Cond.methodLink RX7 87 yX5_wrongAt, Cond.instanceMethod yX5_wrongAt, Cond.selects RX5 yX5_wrongAt yX5_wrongAt, Cond.initialized RX5, Cond.code yX5_wrongAt cX5_wrongAt 4 (some .int), Cond.methodLink RX5 38 yX5_isMissing, Cond.instanceMethod yX5_isMissing, Cond.selects RX5 yX5_isMissing yX5_isMissing, Cond.code yX5_isMissing cX5_isMissing 2 (some .boolean), Cond.methodLink RX5 31 yX5_laneOf, Cond.instanceMethod yX5_laneOf, Cond.selects RX5 yX5_laneOf yX5_laneOf, Cond.code yX5_laneOf cX5_laneOf 2 (some .int), Cond.fieldLink RX5 15 "AlikeHands$Rows" "lanes" "[I", Cond.methodLink RX5 41 yX5_reaches, Cond.instanceMethod yX5_reaches, Cond.selects RX5 yX5_reaches yX5_reaches, Cond.code yX5_reaches cX5_reaches 4 (some .boolean)]
def wsX7_set_r2 : List Cond := [Cond.methodLink RX5 35 yX5_length, Cond.instanceMethod yX5_length, Cond.selects RX5 yX5_length yX5_length, Cond.code yX5_length cX5_length 2 (some .int), Cond.fieldLink RX5 18 "AlikeHands$Rows" "lengths" "[I", Cond.methodLink RX7 76 yX7_found, Cond.instanceMethod yX7_found, Cond.selects RX7 yX7_found yX7_found, Cond.code yX7_found cX7_found 2 (some .int), Cond.fieldLink RX7 285 "AlikeHands" "finding" "I", Cond.constant RX7 288 (-1000010), Cond.methodLink RX7 91 yX5_put, Cond.instanceMethod yX5_put, Cond.selects RX5 yX5_put yX5_put, Cond.code yX5_put cX5_put 4 none, Cond.fieldLink RX5 9 "AlikeHands$Rows" "items" "[I", Cond.methodLink RX5 48 yX5_cut, Cond.static yX5_cut, Cond.code yX5_cut cX5_cut 2 (some .int), Cond.methodLink RX7 94 yX5_item, Cond.instanceMethod yX5_item, Cond.selects RX5 yX5_item yX5_item, Cond.code yX5_item cX5_item 3 (some .int), Cond.methodLink RX7 84 yX7_fine]
def wsX7_set_r3 : List Cond := [Cond.instanceMethod yX7_fine, Cond.selects RX7 yX7_fine yX7_fine, Cond.code yX7_fine cX7_fine 2 (some .int)]
def wsX7_set : List Cond := .code yX7_set cX7_set 5 (some .int) :: ((wsX7_set_r1 ++ (wsX7_set_r2 ++ wsX7_set_r3)) ++ wsX70 ++ wsX50)
def wsX7_copy_r1 : List Cond := [Cond.constant RX7 75 (-1000001), Cond.fieldLink RX7 10 "AlikeHands" "rows" "LAlikeHands$Rows;", Cond.methodLink RX7 67 yX7_isRow, Cond.static yX7_isRow, Cond.initialized RX7, Cond.code yX7_isRow cX7_isRow 1 (some .boolean), Cond.methodLink RX7 98 yX5_isMissing, Cond.instanceMethod yX5_isMissing, Cond.selects RX5 yX5_isMissing yX5_isMissing, Cond.initialized RX5, Cond.code yX5_isMissing cX5_isMissing 2 (some .boolean), Cond.methodLink RX5 31 yX5_laneOf, Cond.instanceMethod yX5_laneOf, Cond.selects RX5 yX5_laneOf yX5_laneOf, Cond.code yX5_laneOf cX5_laneOf 2 (some .int), Cond.fieldLink RX5 15 "AlikeHands$Rows" "lanes" "[I", Cond.methodLink RX7 76 yX7_found, Cond.instanceMethod yX7_found, Cond.selects RX7 yX7_found yX7_found, Cond.code yX7_found cX7_found 2 (some .int), Cond.fieldLink RX7 285 "AlikeHands" "finding" "I", Cond.constant RX7 288 (-1000010), Cond.methodLink RX7 101 yX5_laneOf, Cond.methodLink RX7 104 yX5_reaches]
def wsX7_copy_r2 : List Cond := [Cond.instanceMethod yX5_reaches, Cond.selects RX5 yX5_reaches yX5_reaches, Cond.code yX5_reaches cX5_reaches 4 (some .boolean), Cond.methodLink RX5 35 yX5_length, Cond.instanceMethod yX5_length, Cond.selects RX5 yX5_length yX5_length, Cond.code yX5_length cX5_length 2 (some .int), Cond.fieldLink RX5 18 "AlikeHands$Rows" "lengths" "[I", Cond.methodLink RX7 107 yX5_move, Cond.instanceMethod yX5_move, Cond.selects RX5 yX5_move yX5_move, Cond.code yX5_move cX5_move 6 none, Cond.fieldLink RX5 9 "AlikeHands$Rows" "items" "[I", Cond.methodLink RX5 52 arraycopyName, Cond.native arraycopyName, Cond.static arraycopyName, Cond.initialized "java/lang/System", Cond.methodLink RX5 41 yX5_reaches, Cond.methodLink RX7 84 yX7_fine, Cond.instanceMethod yX7_fine, Cond.selects RX7 yX7_fine yX7_fine, Cond.code yX7_fine cX7_fine 2 (some .int)]
def wsX7_copy : List Cond := .code yX7_copy cX7_copy 6 (some .int) :: ((wsX7_copy_r1 ++ wsX7_copy_r2) ++ wsX70 ++ wsX50)
def wsX7_drop_r1 : List Cond := [Cond.constant RX7 75 (-1000001), Cond.fieldLink RX7 10 "AlikeHands" "rows" "LAlikeHands$Rows;", Cond.methodLink RX7 67 yX7_isRow, Cond.static yX7_isRow, Cond.initialized RX7, Cond.code yX7_isRow cX7_isRow 1 (some .boolean), Cond.methodLink RX7 98 yX5_isMissing, Cond.instanceMethod yX5_isMissing, Cond.selects RX5 yX5_isMissing yX5_isMissing, Cond.initialized RX5, Cond.code yX5_isMissing cX5_isMissing 2 (some .boolean), Cond.methodLink RX5 31 yX5_laneOf, Cond.instanceMethod yX5_laneOf, Cond.selects RX5 yX5_laneOf yX5_laneOf, Cond.code yX5_laneOf cX5_laneOf 2 (some .int), Cond.fieldLink RX5 15 "AlikeHands$Rows" "lanes" "[I", Cond.methodLink RX7 76 yX7_found, Cond.instanceMethod yX7_found, Cond.selects RX7 yX7_found yX7_found, Cond.code yX7_found cX7_found 2 (some .int), Cond.fieldLink RX7 285 "AlikeHands" "finding" "I", Cond.constant RX7 288 (-1000010), Cond.methodLink RX7 111 yX5_length, Cond.instanceMethod yX5_length]
def wsX7_drop_r2 : List Cond := [Cond.selects RX5 yX5_length yX5_length, Cond.code yX5_length cX5_length 2 (some .int), Cond.fieldLink RX5 18 "AlikeHands$Rows" "lengths" "[I", Cond.methodLink RX7 114 yX5_lose, Cond.instanceMethod yX5_lose, Cond.selects RX5 yX5_lose yX5_lose, Cond.code yX5_lose cX5_lose 2 none, Cond.methodLink RX7 84 yX7_fine, Cond.instanceMethod yX7_fine, Cond.selects RX7 yX7_fine yX7_fine, Cond.code yX7_fine cX7_fine 2 (some .int)]
def wsX7_drop : List Cond := .code yX7_drop cX7_drop 3 (some .int) :: ((wsX7_drop_r1 ++ wsX7_drop_r2) ++ wsX70 ++ wsX50)
def wsX7_feed : List Cond := .code yX7_feed cX7_feed 5 (some .int) :: ([.constant RX7 75 (-1000001), .fieldLink RX7 19 "AlikeHands" "tape" "LAlikeHands$Tape;", .constant RX7 121 (-1000003), .fieldLink RX7 125 "AlikeHands$Tape" "length" "I", .methodLink RX7 71 yX7_isWithin, .static yX7_isWithin, .initialized RX7, .code yX7_isWithin cX7_isWithin 3 (some .boolean), .methodLink RX7 118 yX6_hasRoom, .instanceMethod yX6_hasRoom, .selects RX6 yX6_hasRoom yX6_hasRoom, .initialized RX6, .code yX6_hasRoom cX6_hasRoom 2 (some .boolean), .fieldLink RX6 15 "AlikeHands$Tape" "length" "I", .methodLink RX7 122 yX6_append, .instanceMethod yX6_append, .selects RX6 yX6_append yX6_append, .code yX6_append cX6_append 2 none, .fieldLink RX6 11 "AlikeHands$Tape" "bytes" "[I"] ++ wsX70 ++ wsX60)
def wsX7_clock_r1 : List Cond := [Cond.fieldLink RX7 19 "AlikeHands" "tape" "LAlikeHands$Tape;", Cond.fieldLink RX7 30 "AlikeHands" "draft" "LAlikeHands$Clock;", Cond.fieldLink RX7 125 "AlikeHands$Tape" "length" "I", Cond.fieldLink RX7 132 "AlikeHands$Tape" "fault" "I", Cond.fieldLink RX7 135 "AlikeHands" "latestFault" "I", Cond.constant RX7 138 (-1000100), Cond.fieldLink RX7 139 "AlikeHands$Tape" "from" "I", Cond.fieldLink RX7 26 "AlikeHands" "clock" "LAlikeHands$Clock;", Cond.fieldLink RX7 42 "AlikeHands" "acts" "LAlikeHands$Acts;", Cond.fieldLink RX7 145 "AlikeHands$Acts" "length" "I", Cond.fieldLink RX7 146 "AlikeHands$Clock" "count" "I", Cond.methodLink RX7 128 yX6_readInto, Cond.instanceMethod yX6_readInto, Cond.selects RX6 yX6_readInto yX6_readInto, Cond.initialized RX6, Cond.code yX6_readInto cX6_readInto 3 none, Cond.fieldLink RX6 19 "AlikeHands$Tape" "fault" "I", Cond.fieldLink RX6 22 "AlikeHands$Tape" "to" "I", Cond.fieldLink RX6 25 "AlikeHands$Clock" "count" "I", Cond.fieldLink RX6 43 "AlikeHands$Clock" "marks" "I", Cond.fieldLink RX6 53 "AlikeHands$Tape" "token" "I", Cond.methodLink RX6 30 yX6_advance, Cond.instanceMethod yX6_advance, Cond.selects RX6 yX6_advance yX6_advance]
def wsX7_clock_r2 : List Cond := [Cond.code yX6_advance cX6_advance 1 none, Cond.fieldLink RX6 84 "AlikeHands$Tape" "from" "I", Cond.fieldLink RX6 15 "AlikeHands$Tape" "length" "I", Cond.methodLink RX6 87 yX6_at, Cond.instanceMethod yX6_at, Cond.selects RX6 yX6_at yX6_at, Cond.code yX6_at cX6_at 2 (some .int), Cond.fieldLink RX6 11 "AlikeHands$Tape" "bytes" "[I", Cond.methodLink RX6 91 yX6_isLetter, Cond.static yX6_isLetter, Cond.code yX6_isLetter cX6_isLetter 1 (some .boolean), Cond.methodLink RX6 95 yX6_isFigure, Cond.static yX6_isFigure, Cond.code yX6_isFigure cX6_isFigure 1 (some .boolean), Cond.methodLink RX6 35 yX6_takeWord, Cond.instanceMethod yX6_takeWord, Cond.selects RX6 yX6_takeWord yX6_takeWord, Cond.code yX6_takeWord cX6_takeWord 2 none, Cond.methodLink RX6 58 yX6_isWord, Cond.instanceMethod yX6_isWord, Cond.selects RX6 yX6_isWord yX6_isWord, Cond.code yX6_isWord cX6_isWord 3 (some .boolean), Cond.methodLink RX6 98 yJ0_length_8abf5, Cond.instanceMethod yJ0_length_8abf5]
def wsX7_clock_r3 : List Cond := [Cond.selects RJ0 yJ0_length_8abf5 yJ0_length_8abf5, Cond.initialized RJ0, Cond.code yJ0_length_8abf5 cJ0_length_8abf5 1 (some .int), Cond.fieldLink RJ0 9 "java/lang/String" "value" "[B", Cond.methodLink RJ0 335 yJ0_coder_7d493, Cond.instanceMethod yJ0_coder_7d493, Cond.selects RJ0 yJ0_coder_7d493 yJ0_coder_7d493, Cond.code yJ0_coder_7d493 cJ0_coder_7d493 1 (some .byte), Cond.fieldLink RJ0 38 "java/lang/String" "COMPACT_STRINGS" "Z", Cond.fieldLink RJ0 15 "java/lang/String" "coder" "B", Cond.methodLink RX6 102 yJ0_charAt_5068e, Cond.instanceMethod yJ0_charAt_5068e, Cond.selects RJ0 yJ0_charAt_5068e yJ0_charAt_5068e, Cond.code yJ0_charAt_5068e cJ0_charAt_5068e 2 (some .char), Cond.methodLink RJ0 492 yJ0_isLatin1_aae02, Cond.instanceMethod yJ0_isLatin1_aae02, Cond.selects RJ0 yJ0_isLatin1_aae02 yJ0_isLatin1_aae02, Cond.code yJ0_isLatin1_aae02 cJ0_isLatin1_aae02 1 (some .boolean), Cond.methodLink RJ0 495 yJ1_charAt_3b067, Cond.static yJ1_charAt_3b067, Cond.initialized RJ1, Cond.code yJ1_charAt_3b067 cJ1_charAt_3b067 2 (some .char), Cond.methodLink RJ1 9 yJ0_checkIndex_df160, Cond.static yJ0_checkIndex_df160]
def wsX7_clock_r4 : List Cond := [Cond.code yJ0_checkIndex_df160 cJ0_checkIndex_df160 2 none, Cond.fieldLink RJ0 1053 "jdk/internal/util/Preconditions" "SIOOBE_FORMATTER" "Ljava/util/function/BiFunction;", Cond.methodLink RJ0 1059 yJ3_checkIndex_8e157, Cond.static yJ3_checkIndex_8e157, Cond.initialized RJ3, Cond.code yJ3_checkIndex_8e157 cJ3_checkIndex_8e157 3 (some .int), Cond.methodLink RJ0 498 yJ2_charAt_3b067, Cond.static yJ2_charAt_3b067, Cond.initialized RJ2, Cond.code yJ2_charAt_3b067 cJ2_charAt_3b067 2 (some .char), Cond.methodLink RJ2 67 yJ2_checkIndex_2214a, Cond.static yJ2_checkIndex_2214a, Cond.code yJ2_checkIndex_2214a cJ2_checkIndex_2214a 2 none, Cond.methodLink RJ2 48 yJ2_length_9d52b, Cond.static yJ2_length_9d52b, Cond.code yJ2_length_9d52b cJ2_length_9d52b 1 (some .int), Cond.methodLink RJ2 414 yJ0_checkIndex_df160, Cond.methodLink RJ2 71 yJ2_getChar_3b067, Cond.static yJ2_getChar_3b067, Cond.code yJ2_getChar_3b067 cJ2_getChar_3b067 2 (some .char), Cond.fieldLink RJ2 44 "java/lang/StringUTF16" "$assertionsDisabled" "Z", Cond.fieldLink RJ2 59 "java/lang/StringUTF16" "HI_BYTE_SHIFT" "I", Cond.fieldLink RJ2 63 "java/lang/StringUTF16" "LO_BYTE_SHIFT" "I", Cond.methodLink RX6 70 yX6_pass]
def wsX7_clock_r5 : List Cond := [Cond.instanceMethod yX6_pass, Cond.selects RX6 yX6_pass yX6_pass, Cond.code yX6_pass cX6_pass 3 none, Cond.methodLink RX6 39 yX6_takeNumber, Cond.instanceMethod yX6_takeNumber, Cond.selects RX6 yX6_takeNumber yX6_takeNumber, Cond.code yX6_takeNumber cX6_takeNumber 4 (some .int), Cond.methodLink RX6 77 yX6_numberHere, Cond.instanceMethod yX6_numberHere, Cond.selects RX6 yX6_numberHere yX6_numberHere, Cond.code yX6_numberHere cX6_numberHere 3 (some .int), Cond.static yX7_isWithin, Cond.initialized RX7, Cond.code yX7_isWithin cX7_isWithin 3 (some .boolean), Cond.methodLink RX6 46 yX6_takeSign, Cond.instanceMethod yX6_takeSign, Cond.selects RX6 yX6_takeSign yX6_takeSign, Cond.code yX6_takeSign cX6_takeSign 1 none, Cond.methodLink RX6 49 yX6_takeHand, Cond.instanceMethod yX6_takeHand, Cond.selects RX6 yX6_takeHand yX6_takeHand, Cond.code yX6_takeHand cX6_takeHand 4 none, Cond.methodLink RX6 62 yX6_takeSort, Cond.instanceMethod yX6_takeSort]
def wsX7_clock_r6 : List Cond := [Cond.selects RX6 yX6_takeSort yX6_takeSort, Cond.code yX6_takeSort cX6_takeSort 2 (some .int), Cond.methodLink RX6 74 yX6_sortHere, Cond.instanceMethod yX6_sortHere, Cond.selects RX6 yX6_sortHere yX6_sortHere, Cond.code yX6_sortHere cX6_sortHere 1 (some .int), Cond.methodLink RX6 66 yX2_add, Cond.instanceMethod yX2_add, Cond.selects RX2 yX2_add yX2_add, Cond.initialized RX2, Cond.code yX2_add cX2_add 3 none, Cond.fieldLink RX2 21 "AlikeHands$Clock" "count" "I", Cond.fieldLink RX2 9 "AlikeHands$Clock" "sorts" "[I", Cond.fieldLink RX2 15 "AlikeHands$Clock" "turns" "[I", Cond.fieldLink RX2 18 "AlikeHands$Clock" "slips" "[I", Cond.methodLink RX7 142 yX2_become, Cond.instanceMethod yX2_become, Cond.selects RX2 yX2_become yX2_become, Cond.code yX2_become cX2_become 3 none, Cond.fieldLink RX2 39 "AlikeHands$Clock" "marks" "I"]
def wsX7_clock : List Cond := .code yX7_clock cX7_clock 1 (some .int) :: ((wsX7_clock_r1 ++ (wsX7_clock_r2 ++ (wsX7_clock_r3 ++ (wsX7_clock_r4 ++ (wsX7_clock_r5 ++ wsX7_clock_r6))))) ++ wsX70 ++ wsX60 ++ wsX00 ++ wsX20)
def wsX7_fault : List Cond := .code yX7_fault cX7_fault 1 (some .int) :: ([.fieldLink RX7 135 "AlikeHands" "latestFault" "I"] ++ wsX70)
def wsX7_slip_r1 : List Cond := [Cond.fieldLink RX7 26 "AlikeHands" "clock" "LAlikeHands$Clock;", Cond.constant RX7 75 (-1000001), Cond.fieldLink RX7 42 "AlikeHands" "acts" "LAlikeHands$Acts;", Cond.fieldLink RX7 159 "AlikeHands$Clock" "marks" "I", Cond.methodLink RX7 149 yX2_has, Cond.instanceMethod yX2_has, Cond.selects RX2 yX2_has yX2_has, Cond.initialized RX2, Cond.code yX2_has cX2_has 2 (some .boolean), Cond.fieldLink RX2 21 "AlikeHands$Clock" "count" "I", Cond.methodLink RX7 71 yX7_isWithin, Cond.static yX7_isWithin, Cond.initialized RX7, Cond.code yX7_isWithin cX7_isWithin 3 (some .boolean), Cond.methodLink RX7 152 yX2_slipOf, Cond.instanceMethod yX2_slipOf, Cond.selects RX2 yX2_slipOf yX2_slipOf, Cond.code yX2_slipOf cX2_slipOf 2 (some .int), Cond.fieldLink RX2 18 "AlikeHands$Clock" "slips" "[I", Cond.methodLink RX2 25 yX2_has, Cond.methodLink RX7 155 yX0_keep, Cond.instanceMethod yX0_keep, Cond.selects RX0 yX0_keep yX0_keep, Cond.initialized RX0]
def wsX7_slip_r2 : List Cond := [Cond.code yX0_keep cX0_keep 3 none, Cond.fieldLink RX0 16 "AlikeHands$Acts" "length" "I", Cond.fieldLink RX0 9 "AlikeHands$Acts" "hands" "[I", Cond.fieldLink RX0 13 "AlikeHands$Acts" "slips" "[I", Cond.methodLink RX0 20 yX0_forgetOldest, Cond.instanceMethod yX0_forgetOldest, Cond.selects RX0 yX0_forgetOldest yX0_forgetOldest, Cond.code yX0_forgetOldest cX0_forgetOldest 1 none, Cond.methodLink RX0 23 arraycopyName, Cond.native arraycopyName, Cond.static arraycopyName, Cond.initialized "java/lang/System", Cond.methodLink RX7 162 yX7_rest, Cond.static yX7_rest, Cond.code yX7_rest cX7_rest 2 (some .int), Cond.methodLink RX7 305 yJ9_floorMod_7cf53, Cond.static yJ9_floorMod_7cf53, Cond.initialized RJ9, Cond.code yJ9_floorMod_7cf53 cJ9_floorMod_7cf53 3 (some .int), Cond.methodLink RX7 165 yX2_setSlip, Cond.instanceMethod yX2_setSlip, Cond.selects RX2 yX2_setSlip yX2_setSlip, Cond.code yX2_setSlip cX2_setSlip 3 none]
def wsX7_slip : List Cond := .code yX7_slip cX7_slip 4 (some .int) :: ((wsX7_slip_r1 ++ wsX7_slip_r2) ++ wsX70 ++ wsX20 ++ wsX00)
def wsX7_undo_r1 : List Cond := [Cond.fieldLink RX7 42 "AlikeHands" "acts" "LAlikeHands$Acts;", Cond.fieldLink RX7 145 "AlikeHands$Acts" "length" "I", Cond.constant RX7 168 (-1000002), Cond.fieldLink RX7 26 "AlikeHands" "clock" "LAlikeHands$Clock;", Cond.methodLink RX7 169 yX0_lastHand, Cond.instanceMethod yX0_lastHand, Cond.selects RX0 yX0_lastHand yX0_lastHand, Cond.initialized RX0, Cond.code yX0_lastHand cX0_lastHand 1 (some .int), Cond.fieldLink RX0 16 "AlikeHands$Acts" "length" "I", Cond.fieldLink RX0 9 "AlikeHands$Acts" "hands" "[I", Cond.static yX7_isWithin, Cond.initialized RX7, Cond.code yX7_isWithin cX7_isWithin 3 (some .boolean), Cond.methodLink RX7 173 yX0_lastSlip, Cond.instanceMethod yX0_lastSlip, Cond.selects RX0 yX0_lastSlip yX0_lastSlip, Cond.code yX0_lastSlip cX0_lastSlip 1 (some .int), Cond.fieldLink RX0 13 "AlikeHands$Acts" "slips" "[I", Cond.methodLink RX7 165 yX2_setSlip, Cond.instanceMethod yX2_setSlip, Cond.selects RX2 yX2_setSlip yX2_setSlip, Cond.initialized RX2, Cond.code yX2_setSlip cX2_setSlip 3 none]
def wsX7_undo_r2 : List Cond := [Cond.fieldLink RX2 18 "AlikeHands$Clock" "slips" "[I", Cond.methodLink RX2 25 yX2_has, Cond.instanceMethod yX2_has, Cond.selects RX2 yX2_has yX2_has, Cond.code yX2_has cX2_has 2 (some .boolean), Cond.fieldLink RX2 21 "AlikeHands$Clock" "count" "I"]
def wsX7_undo : List Cond := .code yX7_undo cX7_undo 1 (some .int) :: ((wsX7_undo_r1 ++ wsX7_undo_r2) ++ wsX70 ++ wsX00 ++ wsX20)
def wsX7_hand_r1 : List Cond := [Cond.fieldLink RX7 26 "AlikeHands" "clock" "LAlikeHands$Clock;", Cond.constant RX7 75 (-1000001), Cond.methodLink RX7 149 yX2_has, Cond.instanceMethod yX2_has, Cond.selects RX2 yX2_has yX2_has, Cond.initialized RX2, Cond.code yX2_has cX2_has 2 (some .boolean), Cond.fieldLink RX2 21 "AlikeHands$Clock" "count" "I", Cond.methodLink RX7 71 yX7_isWithin, Cond.static yX7_isWithin, Cond.initialized RX7, Cond.code yX7_isWithin cX7_isWithin 3 (some .boolean), Cond.methodLink RX7 176 yX2_turnsOf, Cond.instanceMethod yX2_turnsOf, Cond.selects RX2 yX2_turnsOf yX2_turnsOf, Cond.code yX2_turnsOf cX2_turnsOf 2 (some .int), Cond.fieldLink RX2 15 "AlikeHands$Clock" "turns" "[I", Cond.methodLink RX2 25 yX2_has, Cond.methodLink RX7 179 yX2_speedOf, Cond.instanceMethod yX2_speedOf, Cond.selects RX2 yX2_speedOf yX2_speedOf, Cond.code yX2_speedOf cX2_speedOf 3 (some .int), Cond.methodLink RX2 29 yX2_sortOf, Cond.instanceMethod yX2_sortOf]
def wsX7_hand_r2 : List Cond := [Cond.selects RX2 yX2_sortOf yX2_sortOf, Cond.code yX2_sortOf cX2_sortOf 2 (some .int), Cond.fieldLink RX2 9 "AlikeHands$Clock" "sorts" "[I", Cond.methodLink RX2 33 yX2_turnsOf, Cond.methodLink RX7 152 yX2_slipOf, Cond.instanceMethod yX2_slipOf, Cond.selects RX2 yX2_slipOf yX2_slipOf, Cond.code yX2_slipOf cX2_slipOf 2 (some .int), Cond.fieldLink RX2 18 "AlikeHands$Clock" "slips" "[I"]
def wsX7_hand : List Cond := .code yX7_hand cX7_hand 3 (some .int) :: ((wsX7_hand_r1 ++ wsX7_hand_r2) ++ wsX70 ++ wsX20)
def wsX7_isMoment : List Cond := .code yX7_isMoment cX7_isMoment 2 (some .boolean) :: ([.methodLink RX7 71 yX7_isWithin, .static yX7_isWithin, .initialized RX7, .code yX7_isWithin cX7_isWithin 3 (some .boolean)])
def wsX7_part : List Cond := .code yX7_part cX7_part 4 (some .int) :: ([.methodLink RX7 232 yX7_common, .static yX7_common, .initialized RX7, .code yX7_common cX7_common 6 (some .int)])
def wsX7_points_r1 : List Cond := [Cond.fieldLink RX7 26 "AlikeHands" "clock" "LAlikeHands$Clock;", Cond.constant RX7 75 (-1000001), Cond.methodLink RX7 149 yX2_has, Cond.instanceMethod yX2_has, Cond.selects RX2 yX2_has yX2_has, Cond.initialized RX2, Cond.code yX2_has cX2_has 2 (some .boolean), Cond.fieldLink RX2 21 "AlikeHands$Clock" "count" "I", Cond.methodLink RX7 182 yX7_isMoment, Cond.static yX7_isMoment, Cond.initialized RX7, Cond.code yX7_isMoment cX7_isMoment 2 (some .boolean), Cond.methodLink RX7 71 yX7_isWithin, Cond.static yX7_isWithin, Cond.code yX7_isWithin cX7_isWithin 3 (some .boolean), Cond.methodLink RX7 186 yX2_arcAbove, Cond.instanceMethod yX2_arcAbove, Cond.selects RX2 yX2_arcAbove yX2_arcAbove, Cond.code yX2_arcAbove cX2_arcAbove 4 (some .int), Cond.fieldLink RX2 39 "AlikeHands$Clock" "marks" "I", Cond.methodLink RX2 36 yX2_speedOf, Cond.instanceMethod yX2_speedOf, Cond.selects RX2 yX2_speedOf yX2_speedOf, Cond.code yX2_speedOf cX2_speedOf 3 (some .int)]
def wsX7_points_r2 : List Cond := [Cond.methodLink RX2 29 yX2_sortOf, Cond.instanceMethod yX2_sortOf, Cond.selects RX2 yX2_sortOf yX2_sortOf, Cond.code yX2_sortOf cX2_sortOf 2 (some .int), Cond.fieldLink RX2 9 "AlikeHands$Clock" "sorts" "[I", Cond.methodLink RX2 25 yX2_has, Cond.methodLink RX2 33 yX2_turnsOf, Cond.instanceMethod yX2_turnsOf, Cond.selects RX2 yX2_turnsOf yX2_turnsOf, Cond.code yX2_turnsOf cX2_turnsOf 2 (some .int), Cond.fieldLink RX2 15 "AlikeHands$Clock" "turns" "[I", Cond.methodLink RX2 42 yX2_slipOf, Cond.instanceMethod yX2_slipOf, Cond.selects RX2 yX2_slipOf yX2_slipOf, Cond.code yX2_slipOf cX2_slipOf 2 (some .int), Cond.fieldLink RX2 18 "AlikeHands$Clock" "slips" "[I", Cond.methodLink RX2 45 yX2_arcBelow, Cond.instanceMethod yX2_arcBelow, Cond.selects RX2 yX2_arcBelow yX2_arcBelow, Cond.code yX2_arcBelow cX2_arcBelow 2 (some .int), Cond.static yX7_rest, Cond.code yX7_rest cX7_rest 2 (some .int), Cond.methodLink RX7 305 yJ9_floorMod_7cf53, Cond.static yJ9_floorMod_7cf53]
def wsX7_points_r3 : List Cond := [Cond.initialized RJ9, Cond.code yJ9_floorMod_7cf53 cJ9_floorMod_7cf53 3 (some .int), Cond.methodLink RX7 189 yX2_arcBelow, Cond.methodLink RX7 192 yX7_part, Cond.static yX7_part, Cond.code yX7_part cX7_part 4 (some .int), Cond.methodLink RX7 232 yX7_common, Cond.static yX7_common, Cond.code yX7_common cX7_common 6 (some .int)]
def wsX7_points : List Cond := .code yX7_points cX7_points 5 (some .int) :: ((wsX7_points_r1 ++ (wsX7_points_r2 ++ wsX7_points_r3)) ++ wsX70 ++ wsX20)
def wsX7_isPair : List Cond := .code yX7_isPair cX7_isPair 3 (some .boolean) :: ([.fieldLink RX7 26 "AlikeHands" "clock" "LAlikeHands$Clock;", .methodLink RX7 149 yX2_has, .instanceMethod yX2_has, .selects RX2 yX2_has yX2_has, .initialized RX2, .code yX2_has cX2_has 2 (some .boolean), .fieldLink RX2 21 "AlikeHands$Clock" "count" "I"] ++ wsX70 ++ wsX20)
def wsX7_doubts_r1 : List Cond := [Cond.constant RX7 75 (-1000001), Cond.fieldLink RX7 49 "AlikeHands" "pair" "LAlikeHands$Doubts;", Cond.fieldLink RX7 26 "AlikeHands" "clock" "LAlikeHands$Clock;", Cond.constant RX7 205 (-1000000), Cond.methodLink RX7 195 yX7_isPair, Cond.instanceMethod yX7_isPair, Cond.selects RX7 yX7_isPair yX7_isPair, Cond.initialized RX7, Cond.code yX7_isPair cX7_isPair 3 (some .boolean), Cond.methodLink RX7 149 yX2_has, Cond.instanceMethod yX2_has, Cond.selects RX2 yX2_has yX2_has, Cond.initialized RX2, Cond.code yX2_has cX2_has 2 (some .boolean), Cond.fieldLink RX2 21 "AlikeHands$Clock" "count" "I", Cond.methodLink RX7 179 yX2_speedOf, Cond.instanceMethod yX2_speedOf, Cond.selects RX2 yX2_speedOf yX2_speedOf, Cond.code yX2_speedOf cX2_speedOf 3 (some .int), Cond.methodLink RX2 29 yX2_sortOf, Cond.instanceMethod yX2_sortOf, Cond.selects RX2 yX2_sortOf yX2_sortOf, Cond.code yX2_sortOf cX2_sortOf 2 (some .int), Cond.fieldLink RX2 9 "AlikeHands$Clock" "sorts" "[I"]
def wsX7_doubts_r2 : List Cond := [Cond.methodLink RX2 25 yX2_has, Cond.methodLink RX2 33 yX2_turnsOf, Cond.instanceMethod yX2_turnsOf, Cond.selects RX2 yX2_turnsOf yX2_turnsOf, Cond.code yX2_turnsOf cX2_turnsOf 2 (some .int), Cond.fieldLink RX2 15 "AlikeHands$Clock" "turns" "[I", Cond.methodLink RX7 198 yX3_of, Cond.instanceMethod yX3_of, Cond.selects RX3 yX3_of yX3_of, Cond.initialized RX3, Cond.code yX3_of cX3_of 3 none, Cond.methodLink RX3 7 Lib.Math.abs.name, Cond.static Lib.Math.abs.name, Cond.initialized "java/lang/Math", Cond.code Lib.Math.abs.name Lib.Math.abs.code 1 (some .int), Cond.fieldLink RX3 13 "AlikeHands$Doubts" "whole" "I", Cond.fieldLink RX3 25 "AlikeHands$Doubts" "shared" "I", Cond.fieldLink RX3 28 "AlikeHands$Doubts" "moments" "I", Cond.fieldLink RX3 34 "AlikeHands$Doubts" "firstOther" "I", Cond.static yX7_common, Cond.code yX7_common cX7_common 6 (some .int), Cond.methodLink RX3 31 yX3_leastOther, Cond.instanceMethod yX3_leastOther, Cond.selects RX3 yX3_leastOther yX3_leastOther]
def wsX7_doubts_r3 : List Cond := [Cond.code yX3_leastOther cX3_leastOther 4 (some .int), Cond.static yX7_rest, Cond.code yX7_rest cX7_rest 2 (some .int), Cond.methodLink RX7 305 yJ9_floorMod_7cf53, Cond.static yJ9_floorMod_7cf53, Cond.initialized RJ9, Cond.code yJ9_floorMod_7cf53 cJ9_floorMod_7cf53 3 (some .int), Cond.methodLink RX7 201 yX3_isNone, Cond.instanceMethod yX3_isNone, Cond.selects RX3 yX3_isNone yX3_isNone, Cond.code yX3_isNone cX3_isNone 1 (some .boolean), Cond.methodLink RX7 206 yX3_howMany, Cond.instanceMethod yX3_howMany, Cond.selects RX3 yX3_howMany yX3_howMany, Cond.code yX3_howMany cX3_howMany 3 (some .int), Cond.methodLink RX3 40 yX3_otherOf, Cond.instanceMethod yX3_otherOf, Cond.selects RX3 yX3_otherOf yX3_otherOf, Cond.code yX3_otherOf cX3_otherOf 3 (some .int)]
def wsX7_doubts : List Cond := .code yX7_doubts cX7_doubts 3 (some .int) :: ((wsX7_doubts_r1 ++ (wsX7_doubts_r2 ++ wsX7_doubts_r3)) ++ wsX70 ++ wsX20 ++ wsX30)
def wsX7_doubt_r1 : List Cond := [Cond.constant RX7 75 (-1000001), Cond.fieldLink RX7 49 "AlikeHands" "pair" "LAlikeHands$Doubts;", Cond.fieldLink RX7 26 "AlikeHands" "clock" "LAlikeHands$Clock;", Cond.constant RX7 205 (-1000000), Cond.fieldLink RX7 212 "AlikeHands$Doubts" "moments" "I", Cond.fieldLink RX7 218 "AlikeHands$Doubts" "whole" "I", Cond.methodLink RX7 195 yX7_isPair, Cond.instanceMethod yX7_isPair, Cond.selects RX7 yX7_isPair yX7_isPair, Cond.initialized RX7, Cond.code yX7_isPair cX7_isPair 3 (some .boolean), Cond.methodLink RX7 149 yX2_has, Cond.instanceMethod yX2_has, Cond.selects RX2 yX2_has yX2_has, Cond.initialized RX2, Cond.code yX2_has cX2_has 2 (some .boolean), Cond.fieldLink RX2 21 "AlikeHands$Clock" "count" "I", Cond.methodLink RX7 71 yX7_isWithin, Cond.static yX7_isWithin, Cond.code yX7_isWithin cX7_isWithin 3 (some .boolean), Cond.methodLink RX7 179 yX2_speedOf, Cond.instanceMethod yX2_speedOf, Cond.selects RX2 yX2_speedOf yX2_speedOf, Cond.code yX2_speedOf cX2_speedOf 3 (some .int)]
def wsX7_doubt_r2 : List Cond := [Cond.methodLink RX2 29 yX2_sortOf, Cond.instanceMethod yX2_sortOf, Cond.selects RX2 yX2_sortOf yX2_sortOf, Cond.code yX2_sortOf cX2_sortOf 2 (some .int), Cond.fieldLink RX2 9 "AlikeHands$Clock" "sorts" "[I", Cond.methodLink RX2 25 yX2_has, Cond.methodLink RX2 33 yX2_turnsOf, Cond.instanceMethod yX2_turnsOf, Cond.selects RX2 yX2_turnsOf yX2_turnsOf, Cond.code yX2_turnsOf cX2_turnsOf 2 (some .int), Cond.fieldLink RX2 15 "AlikeHands$Clock" "turns" "[I", Cond.methodLink RX7 198 yX3_of, Cond.instanceMethod yX3_of, Cond.selects RX3 yX3_of yX3_of, Cond.initialized RX3, Cond.code yX3_of cX3_of 3 none, Cond.methodLink RX3 7 Lib.Math.abs.name, Cond.static Lib.Math.abs.name, Cond.initialized "java/lang/Math", Cond.code Lib.Math.abs.name Lib.Math.abs.code 1 (some .int), Cond.fieldLink RX3 13 "AlikeHands$Doubts" "whole" "I", Cond.fieldLink RX3 25 "AlikeHands$Doubts" "shared" "I", Cond.fieldLink RX3 28 "AlikeHands$Doubts" "moments" "I", Cond.fieldLink RX3 34 "AlikeHands$Doubts" "firstOther" "I"]
def wsX7_doubt_r3 : List Cond := [Cond.static yX7_common, Cond.code yX7_common cX7_common 6 (some .int), Cond.methodLink RX3 31 yX3_leastOther, Cond.instanceMethod yX3_leastOther, Cond.selects RX3 yX3_leastOther yX3_leastOther, Cond.code yX3_leastOther cX3_leastOther 4 (some .int), Cond.static yX7_rest, Cond.code yX7_rest cX7_rest 2 (some .int), Cond.methodLink RX7 305 yJ9_floorMod_7cf53, Cond.static yJ9_floorMod_7cf53, Cond.initialized RJ9, Cond.code yJ9_floorMod_7cf53 cJ9_floorMod_7cf53 3 (some .int), Cond.methodLink RX7 209 yX3_number, Cond.instanceMethod yX3_number, Cond.selects RX3 yX3_number yX3_number, Cond.code yX3_number cX3_number 4 (some .int), Cond.methodLink RX3 40 yX3_otherOf, Cond.instanceMethod yX3_otherOf, Cond.selects RX3 yX3_otherOf yX3_otherOf, Cond.code yX3_otherOf cX3_otherOf 3 (some .int), Cond.methodLink RX7 192 yX7_part, Cond.static yX7_part, Cond.code yX7_part cX7_part 4 (some .int), Cond.methodLink RX7 232 yX7_common]
def wsX7_doubt_r4 : List Cond := [Cond.methodLink RX7 215 yX3_otherOf]
def wsX7_doubt : List Cond := .code yX7_doubt cX7_doubt 6 (some .int) :: ((wsX7_doubt_r1 ++ (wsX7_doubt_r2 ++ (wsX7_doubt_r3 ++ wsX7_doubt_r4))) ++ wsX70 ++ wsX30 ++ wsX20)
def wsX7_isDoubt_r1 : List Cond := [Cond.constant RX7 75 (-1000001), Cond.fieldLink RX7 49 "AlikeHands" "pair" "LAlikeHands$Doubts;", Cond.fieldLink RX7 26 "AlikeHands" "clock" "LAlikeHands$Clock;", Cond.constant RX7 205 (-1000000), Cond.methodLink RX7 195 yX7_isPair, Cond.instanceMethod yX7_isPair, Cond.selects RX7 yX7_isPair yX7_isPair, Cond.initialized RX7, Cond.code yX7_isPair cX7_isPair 3 (some .boolean), Cond.methodLink RX7 149 yX2_has, Cond.instanceMethod yX2_has, Cond.selects RX2 yX2_has yX2_has, Cond.initialized RX2, Cond.code yX2_has cX2_has 2 (some .boolean), Cond.fieldLink RX2 21 "AlikeHands$Clock" "count" "I", Cond.methodLink RX7 182 yX7_isMoment, Cond.static yX7_isMoment, Cond.code yX7_isMoment cX7_isMoment 2 (some .boolean), Cond.methodLink RX7 71 yX7_isWithin, Cond.static yX7_isWithin, Cond.code yX7_isWithin cX7_isWithin 3 (some .boolean), Cond.methodLink RX7 179 yX2_speedOf, Cond.instanceMethod yX2_speedOf, Cond.selects RX2 yX2_speedOf yX2_speedOf]
def wsX7_isDoubt_r2 : List Cond := [Cond.code yX2_speedOf cX2_speedOf 3 (some .int), Cond.methodLink RX2 29 yX2_sortOf, Cond.instanceMethod yX2_sortOf, Cond.selects RX2 yX2_sortOf yX2_sortOf, Cond.code yX2_sortOf cX2_sortOf 2 (some .int), Cond.fieldLink RX2 9 "AlikeHands$Clock" "sorts" "[I", Cond.methodLink RX2 25 yX2_has, Cond.methodLink RX2 33 yX2_turnsOf, Cond.instanceMethod yX2_turnsOf, Cond.selects RX2 yX2_turnsOf yX2_turnsOf, Cond.code yX2_turnsOf cX2_turnsOf 2 (some .int), Cond.fieldLink RX2 15 "AlikeHands$Clock" "turns" "[I", Cond.methodLink RX7 198 yX3_of, Cond.instanceMethod yX3_of, Cond.selects RX3 yX3_of yX3_of, Cond.initialized RX3, Cond.code yX3_of cX3_of 3 none, Cond.methodLink RX3 7 Lib.Math.abs.name, Cond.static Lib.Math.abs.name, Cond.initialized "java/lang/Math", Cond.code Lib.Math.abs.name Lib.Math.abs.code 1 (some .int), Cond.fieldLink RX3 13 "AlikeHands$Doubts" "whole" "I", Cond.fieldLink RX3 25 "AlikeHands$Doubts" "shared" "I", Cond.fieldLink RX3 28 "AlikeHands$Doubts" "moments" "I"]
def wsX7_isDoubt_r3 : List Cond := [Cond.fieldLink RX3 34 "AlikeHands$Doubts" "firstOther" "I", Cond.static yX7_common, Cond.code yX7_common cX7_common 6 (some .int), Cond.methodLink RX3 31 yX3_leastOther, Cond.instanceMethod yX3_leastOther, Cond.selects RX3 yX3_leastOther yX3_leastOther, Cond.code yX3_leastOther cX3_leastOther 4 (some .int), Cond.static yX7_rest, Cond.code yX7_rest cX7_rest 2 (some .int), Cond.methodLink RX7 305 yJ9_floorMod_7cf53, Cond.static yJ9_floorMod_7cf53, Cond.initialized RJ9, Cond.code yJ9_floorMod_7cf53 cJ9_floorMod_7cf53 3 (some .int), Cond.methodLink RX7 201 yX3_isNone, Cond.instanceMethod yX3_isNone, Cond.selects RX3 yX3_isNone yX3_isNone, Cond.code yX3_isNone cX3_isNone 1 (some .boolean), Cond.methodLink RX7 221 yX3_isAt, Cond.instanceMethod yX3_isAt, Cond.selects RX3 yX3_isAt yX3_isAt, Cond.code yX3_isAt cX3_isAt 3 (some .boolean), Cond.methodLink RX3 40 yX3_otherOf, Cond.instanceMethod yX3_otherOf, Cond.selects RX3 yX3_otherOf yX3_otherOf]
def wsX7_isDoubt_r4 : List Cond := [Cond.code yX3_otherOf cX3_otherOf 3 (some .int)]
def wsX7_isDoubt : List Cond := .code yX7_isDoubt cX7_isDoubt 5 (some .int) :: ((wsX7_isDoubt_r1 ++ (wsX7_isDoubt_r2 ++ (wsX7_isDoubt_r3 ++ wsX7_isDoubt_r4))) ++ wsX70 ++ wsX20 ++ wsX30)
def wsX7_speedApart_r1 : List Cond := [Cond.fieldLink RX7 26 "AlikeHands" "clock" "LAlikeHands$Clock;", Cond.methodLink RX7 289 Lib.Math.abs.name, Cond.static Lib.Math.abs.name, Cond.initialized "java/lang/Math", Cond.code Lib.Math.abs.name Lib.Math.abs.code 1 (some .int), Cond.methodLink RX7 179 yX2_speedOf, Cond.instanceMethod yX2_speedOf, Cond.selects RX2 yX2_speedOf yX2_speedOf, Cond.initialized RX2, Cond.code yX2_speedOf cX2_speedOf 3 (some .int), Cond.methodLink RX2 29 yX2_sortOf, Cond.instanceMethod yX2_sortOf, Cond.selects RX2 yX2_sortOf yX2_sortOf, Cond.code yX2_sortOf cX2_sortOf 2 (some .int), Cond.fieldLink RX2 9 "AlikeHands$Clock" "sorts" "[I", Cond.methodLink RX2 25 yX2_has, Cond.instanceMethod yX2_has, Cond.selects RX2 yX2_has yX2_has, Cond.code yX2_has cX2_has 2 (some .boolean), Cond.fieldLink RX2 21 "AlikeHands$Clock" "count" "I", Cond.methodLink RX2 33 yX2_turnsOf, Cond.instanceMethod yX2_turnsOf, Cond.selects RX2 yX2_turnsOf yX2_turnsOf, Cond.code yX2_turnsOf cX2_turnsOf 2 (some .int)]
def wsX7_speedApart_r2 : List Cond := [Cond.fieldLink RX2 15 "AlikeHands$Clock" "turns" "[I"]
def wsX7_speedApart : List Cond := .code yX7_speedApart cX7_speedApart 3 (some .int) :: ((wsX7_speedApart_r1 ++ wsX7_speedApart_r2) ++ wsX70 ++ wsX20)
def wsX7_firstMeeting : List Cond := .code yX7_firstMeeting cX7_firstMeeting 6 (some .int) :: ([])
def wsX7_next_r1 : List Cond := [Cond.constant RX7 75 (-1000001), Cond.constant RX7 205 (-1000000), Cond.methodLink RX7 195 yX7_isPair, Cond.instanceMethod yX7_isPair, Cond.selects RX7 yX7_isPair yX7_isPair, Cond.initialized RX7, Cond.code yX7_isPair cX7_isPair 3 (some .boolean), Cond.fieldLink RX7 26 "AlikeHands" "clock" "LAlikeHands$Clock;", Cond.methodLink RX7 149 yX2_has, Cond.instanceMethod yX2_has, Cond.selects RX2 yX2_has yX2_has, Cond.initialized RX2, Cond.code yX2_has cX2_has 2 (some .boolean), Cond.fieldLink RX2 21 "AlikeHands$Clock" "count" "I", Cond.methodLink RX7 71 yX7_isWithin, Cond.static yX7_isWithin, Cond.code yX7_isWithin cX7_isWithin 3 (some .boolean), Cond.methodLink RX7 182 yX7_isMoment, Cond.static yX7_isMoment, Cond.code yX7_isMoment cX7_isMoment 2 (some .boolean), Cond.methodLink RX7 224 yX7_speedApart, Cond.instanceMethod yX7_speedApart, Cond.selects RX7 yX7_speedApart yX7_speedApart, Cond.code yX7_speedApart cX7_speedApart 3 (some .int)]
def wsX7_next_r2 : List Cond := [Cond.methodLink RX7 289 Lib.Math.abs.name, Cond.static Lib.Math.abs.name, Cond.initialized "java/lang/Math", Cond.code Lib.Math.abs.name Lib.Math.abs.code 1 (some .int), Cond.methodLink RX7 179 yX2_speedOf, Cond.instanceMethod yX2_speedOf, Cond.selects RX2 yX2_speedOf yX2_speedOf, Cond.code yX2_speedOf cX2_speedOf 3 (some .int), Cond.methodLink RX2 29 yX2_sortOf, Cond.instanceMethod yX2_sortOf, Cond.selects RX2 yX2_sortOf yX2_sortOf, Cond.code yX2_sortOf cX2_sortOf 2 (some .int), Cond.fieldLink RX2 9 "AlikeHands$Clock" "sorts" "[I", Cond.methodLink RX2 25 yX2_has, Cond.methodLink RX2 33 yX2_turnsOf, Cond.instanceMethod yX2_turnsOf, Cond.selects RX2 yX2_turnsOf yX2_turnsOf, Cond.code yX2_turnsOf cX2_turnsOf 2 (some .int), Cond.fieldLink RX2 15 "AlikeHands$Clock" "turns" "[I", Cond.methodLink RX7 227 yX7_firstMeeting, Cond.static yX7_firstMeeting, Cond.code yX7_firstMeeting cX7_firstMeeting 6 (some .int), Cond.methodLink RX7 192 yX7_part, Cond.static yX7_part]
def wsX7_next_r3 : List Cond := [Cond.code yX7_part cX7_part 4 (some .int), Cond.methodLink RX7 232 yX7_common, Cond.static yX7_common, Cond.code yX7_common cX7_common 6 (some .int)]
def wsX7_next : List Cond := .code yX7_next cX7_next 9 (some .int) :: ((wsX7_next_r1 ++ (wsX7_next_r2 ++ wsX7_next_r3)) ++ wsX70 ++ wsX20)
def wsX7_often_r1 : List Cond := [Cond.constant RX7 75 (-1000001), Cond.constant RX7 205 (-1000000), Cond.methodLink RX7 195 yX7_isPair, Cond.instanceMethod yX7_isPair, Cond.selects RX7 yX7_isPair yX7_isPair, Cond.initialized RX7, Cond.code yX7_isPair cX7_isPair 3 (some .boolean), Cond.fieldLink RX7 26 "AlikeHands" "clock" "LAlikeHands$Clock;", Cond.methodLink RX7 149 yX2_has, Cond.instanceMethod yX2_has, Cond.selects RX2 yX2_has yX2_has, Cond.initialized RX2, Cond.code yX2_has cX2_has 2 (some .boolean), Cond.fieldLink RX2 21 "AlikeHands$Clock" "count" "I", Cond.methodLink RX7 71 yX7_isWithin, Cond.static yX7_isWithin, Cond.code yX7_isWithin cX7_isWithin 3 (some .boolean), Cond.methodLink RX7 224 yX7_speedApart, Cond.instanceMethod yX7_speedApart, Cond.selects RX7 yX7_speedApart yX7_speedApart, Cond.code yX7_speedApart cX7_speedApart 3 (some .int), Cond.methodLink RX7 289 Lib.Math.abs.name, Cond.static Lib.Math.abs.name, Cond.initialized "java/lang/Math"]
def wsX7_often_r2 : List Cond := [Cond.code Lib.Math.abs.name Lib.Math.abs.code 1 (some .int), Cond.methodLink RX7 179 yX2_speedOf, Cond.instanceMethod yX2_speedOf, Cond.selects RX2 yX2_speedOf yX2_speedOf, Cond.code yX2_speedOf cX2_speedOf 3 (some .int), Cond.methodLink RX2 29 yX2_sortOf, Cond.instanceMethod yX2_sortOf, Cond.selects RX2 yX2_sortOf yX2_sortOf, Cond.code yX2_sortOf cX2_sortOf 2 (some .int), Cond.fieldLink RX2 9 "AlikeHands$Clock" "sorts" "[I", Cond.methodLink RX2 25 yX2_has, Cond.methodLink RX2 33 yX2_turnsOf, Cond.instanceMethod yX2_turnsOf, Cond.selects RX2 yX2_turnsOf yX2_turnsOf, Cond.code yX2_turnsOf cX2_turnsOf 2 (some .int), Cond.fieldLink RX2 15 "AlikeHands$Clock" "turns" "[I"]
def wsX7_often : List Cond := .code yX7_often cX7_often 5 (some .int) :: ((wsX7_often_r1 ++ wsX7_often_r2) ++ wsX70 ++ wsX20)
def wsX7_all_r1 : List Cond := [Cond.fieldLink RX7 26 "AlikeHands" "clock" "LAlikeHands$Clock;", Cond.constant RX7 168 (-1000002), Cond.fieldLink RX7 146 "AlikeHands$Clock" "count" "I", Cond.constant RX7 205 (-1000000), Cond.methodLink RX7 231 yX2_isNone, Cond.instanceMethod yX2_isNone, Cond.selects RX2 yX2_isNone yX2_isNone, Cond.initialized RX2, Cond.code yX2_isNone cX2_isNone 1 (some .boolean), Cond.fieldLink RX2 21 "AlikeHands$Clock" "count" "I", Cond.methodLink RX7 224 yX7_speedApart, Cond.instanceMethod yX7_speedApart, Cond.selects RX7 yX7_speedApart yX7_speedApart, Cond.initialized RX7, Cond.code yX7_speedApart cX7_speedApart 3 (some .int), Cond.methodLink RX7 289 Lib.Math.abs.name, Cond.static Lib.Math.abs.name, Cond.initialized "java/lang/Math", Cond.code Lib.Math.abs.name Lib.Math.abs.code 1 (some .int), Cond.methodLink RX7 179 yX2_speedOf, Cond.instanceMethod yX2_speedOf, Cond.selects RX2 yX2_speedOf yX2_speedOf, Cond.code yX2_speedOf cX2_speedOf 3 (some .int), Cond.methodLink RX2 29 yX2_sortOf]
def wsX7_all_r2 : List Cond := [Cond.instanceMethod yX2_sortOf, Cond.selects RX2 yX2_sortOf yX2_sortOf, Cond.code yX2_sortOf cX2_sortOf 2 (some .int), Cond.fieldLink RX2 9 "AlikeHands$Clock" "sorts" "[I", Cond.methodLink RX2 25 yX2_has, Cond.instanceMethod yX2_has, Cond.selects RX2 yX2_has yX2_has, Cond.code yX2_has cX2_has 2 (some .boolean), Cond.methodLink RX2 33 yX2_turnsOf, Cond.instanceMethod yX2_turnsOf, Cond.selects RX2 yX2_turnsOf yX2_turnsOf, Cond.code yX2_turnsOf cX2_turnsOf 2 (some .int), Cond.fieldLink RX2 15 "AlikeHands$Clock" "turns" "[I", Cond.methodLink RX7 232 yX7_common, Cond.static yX7_common, Cond.code yX7_common cX7_common 6 (some .int)]
def wsX7_all : List Cond := .code yX7_all cX7_all 3 (some .int) :: ((wsX7_all_r1 ++ wsX7_all_r2) ++ wsX70 ++ wsX20)
def wsX7_lieOfReading_r1 : List Cond := [Cond.fieldLink RX7 56 "AlikeHands" "reading" "LAlikeHands$Reading;", Cond.constant RX7 205 (-1000000), Cond.methodLink RX7 294 yX4_fitsWithout, Cond.instanceMethod yX4_fitsWithout, Cond.selects RX4 yX4_fitsWithout yX4_fitsWithout, Cond.initialized RX4, Cond.code yX4_fitsWithout cX4_fitsWithout 5 (some .boolean), Cond.fieldLink RX4 30 "AlikeHands$Reading" "count" "I", Cond.methodLink RX4 44 Lib.Math.abs.name, Cond.static Lib.Math.abs.name, Cond.initialized "java/lang/Math", Cond.code Lib.Math.abs.name Lib.Math.abs.code 1 (some .int), Cond.methodLink RX4 43 yX4_speedOf, Cond.instanceMethod yX4_speedOf, Cond.selects RX4 yX4_speedOf yX4_speedOf, Cond.code yX4_speedOf cX4_speedOf 2 (some .int), Cond.fieldLink RX4 15 "AlikeHands$Reading" "speeds" "[I", Cond.methodLink RX4 60 yX4_fitsAt, Cond.instanceMethod yX4_fitsAt, Cond.selects RX4 yX4_fitsAt yX4_fitsAt, Cond.code yX4_fitsAt cX4_fitsAt 5 (some .boolean), Cond.methodLink RX4 56 yX4_gap, Cond.instanceMethod yX4_gap, Cond.selects RX4 yX4_gap yX4_gap]
def wsX7_lieOfReading_r2 : List Cond := [Cond.code yX4_gap cX4_gap 8 (some .int), Cond.fieldLink RX4 31 "AlikeHands$Reading" "parts" "I", Cond.methodLink RX4 24 Lib.Math.min.name, Cond.static Lib.Math.min.name, Cond.code Lib.Math.min.name Lib.Math.min.code 2 (some .int), Cond.methodLink RX4 50 yX4_arcOf, Cond.instanceMethod yX4_arcOf, Cond.selects RX4 yX4_arcOf yX4_arcOf, Cond.code yX4_arcOf cX4_arcOf 2 (some .int), Cond.fieldLink RX4 9 "AlikeHands$Reading" "arcs" "[I", Cond.static yX7_rest, Cond.initialized RX7, Cond.code yX7_rest cX7_rest 2 (some .int), Cond.methodLink RX7 305 yJ9_floorMod_7cf53, Cond.static yJ9_floorMod_7cf53, Cond.initialized RJ9, Cond.code yJ9_floorMod_7cf53 cJ9_floorMod_7cf53 3 (some .int), Cond.methodLink RX7 297 yX4_moved, Cond.instanceMethod yX4_moved, Cond.selects RX4 yX4_moved yX4_moved, Cond.code yX4_moved cX4_moved 3 (some .int), Cond.methodLink RX4 64 yX4_fitsWithout, Cond.methodLink RX7 300 yX4_leastMove, Cond.instanceMethod yX4_leastMove]
def wsX7_lieOfReading_r3 : List Cond := [Cond.selects RX4 yX4_leastMove yX4_leastMove, Cond.code yX4_leastMove cX4_leastMove 6 (some .int), Cond.methodLink RX7 303 yX4_whole, Cond.instanceMethod yX4_whole, Cond.selects RX4 yX4_whole yX4_whole, Cond.code yX4_whole cX4_whole 1 (some .int), Cond.methodLink RX4 47 Lib.Math.max.name, Cond.static Lib.Math.max.name, Cond.code Lib.Math.max.name Lib.Math.max.code 2 (some .int), Cond.methodLink RX7 192 yX7_part, Cond.static yX7_part, Cond.code yX7_part cX7_part 4 (some .int), Cond.methodLink RX7 232 yX7_common, Cond.static yX7_common, Cond.code yX7_common cX7_common 6 (some .int)]
def wsX7_lieOfReading : List Cond := .code yX7_lieOfReading cX7_lieOfReading 3 (some .int) :: ((wsX7_lieOfReading_r1 ++ (wsX7_lieOfReading_r2 ++ wsX7_lieOfReading_r3)) ++ wsX70 ++ wsX40)
def wsX7_lies_r1 : List Cond := [Cond.fieldLink RX7 26 "AlikeHands" "clock" "LAlikeHands$Clock;", Cond.constant RX7 168 (-1000002), Cond.constant RX7 75 (-1000001), Cond.fieldLink RX7 10 "AlikeHands" "rows" "LAlikeHands$Rows;", Cond.fieldLink RX7 146 "AlikeHands$Clock" "count" "I", Cond.fieldLink RX7 56 "AlikeHands" "reading" "LAlikeHands$Reading;", Cond.methodLink RX7 231 yX2_isNone, Cond.instanceMethod yX2_isNone, Cond.selects RX2 yX2_isNone yX2_isNone, Cond.initialized RX2, Cond.code yX2_isNone cX2_isNone 1 (some .boolean), Cond.fieldLink RX2 21 "AlikeHands$Clock" "count" "I", Cond.methodLink RX7 67 yX7_isRow, Cond.static yX7_isRow, Cond.initialized RX7, Cond.code yX7_isRow cX7_isRow 1 (some .boolean), Cond.methodLink RX7 71 yX7_isWithin, Cond.static yX7_isWithin, Cond.code yX7_isWithin cX7_isWithin 3 (some .boolean), Cond.methodLink RX7 87 yX5_wrongAt, Cond.instanceMethod yX5_wrongAt, Cond.selects RX5 yX5_wrongAt yX5_wrongAt, Cond.initialized RX5, Cond.code yX5_wrongAt cX5_wrongAt 4 (some .int)]
def wsX7_lies_r2 : List Cond := [Cond.methodLink RX5 38 yX5_isMissing, Cond.instanceMethod yX5_isMissing, Cond.selects RX5 yX5_isMissing yX5_isMissing, Cond.code yX5_isMissing cX5_isMissing 2 (some .boolean), Cond.methodLink RX5 31 yX5_laneOf, Cond.instanceMethod yX5_laneOf, Cond.selects RX5 yX5_laneOf yX5_laneOf, Cond.code yX5_laneOf cX5_laneOf 2 (some .int), Cond.fieldLink RX5 15 "AlikeHands$Rows" "lanes" "[I", Cond.methodLink RX5 41 yX5_reaches, Cond.instanceMethod yX5_reaches, Cond.selects RX5 yX5_reaches yX5_reaches, Cond.code yX5_reaches cX5_reaches 4 (some .boolean), Cond.methodLink RX5 35 yX5_length, Cond.instanceMethod yX5_length, Cond.selects RX5 yX5_length yX5_length, Cond.code yX5_length cX5_length 2 (some .int), Cond.fieldLink RX5 18 "AlikeHands$Rows" "lengths" "[I", Cond.methodLink RX7 76 yX7_found, Cond.instanceMethod yX7_found, Cond.selects RX7 yX7_found yX7_found, Cond.code yX7_found cX7_found 2 (some .int), Cond.fieldLink RX7 285 "AlikeHands" "finding" "I", Cond.constant RX7 288 (-1000010)]
def wsX7_lies_r3 : List Cond := [Cond.methodLink RX7 235 yX5_areBelow, Cond.instanceMethod yX5_areBelow, Cond.selects RX5 yX5_areBelow yX5_areBelow, Cond.code yX5_areBelow cX5_areBelow 6 (some .boolean), Cond.methodLink RX5 58 yX5_item, Cond.instanceMethod yX5_item, Cond.selects RX5 yX5_item yX5_item, Cond.code yX5_item cX5_item 3 (some .int), Cond.fieldLink RX5 9 "AlikeHands$Rows" "items" "[I", Cond.methodLink RX7 239 yX4_take, Cond.instanceMethod yX4_take, Cond.selects RX4 yX4_take yX4_take, Cond.initialized RX4, Cond.code yX4_take cX4_take 7 none, Cond.fieldLink RX4 18 "AlikeHands$Clock" "count" "I", Cond.methodLink RX4 24 Lib.Math.min.name, Cond.static Lib.Math.min.name, Cond.initialized "java/lang/Math", Cond.code Lib.Math.min.name Lib.Math.min.code 2 (some .int), Cond.fieldLink RX4 30 "AlikeHands$Reading" "count" "I", Cond.fieldLink RX4 31 "AlikeHands$Reading" "parts" "I", Cond.fieldLink RX4 9 "AlikeHands$Reading" "arcs" "[I", Cond.fieldLink RX4 15 "AlikeHands$Reading" "speeds" "[I", Cond.methodLink RX4 34 yX5_item]
def wsX7_lies_r4 : List Cond := [Cond.methodLink RX4 39 yX2_speedOf, Cond.instanceMethod yX2_speedOf, Cond.selects RX2 yX2_speedOf yX2_speedOf, Cond.code yX2_speedOf cX2_speedOf 3 (some .int), Cond.methodLink RX2 29 yX2_sortOf, Cond.instanceMethod yX2_sortOf, Cond.selects RX2 yX2_sortOf yX2_sortOf, Cond.code yX2_sortOf cX2_sortOf 2 (some .int), Cond.fieldLink RX2 9 "AlikeHands$Clock" "sorts" "[I", Cond.methodLink RX2 25 yX2_has, Cond.instanceMethod yX2_has, Cond.selects RX2 yX2_has yX2_has, Cond.code yX2_has cX2_has 2 (some .boolean), Cond.methodLink RX2 33 yX2_turnsOf, Cond.instanceMethod yX2_turnsOf, Cond.selects RX2 yX2_turnsOf yX2_turnsOf, Cond.code yX2_turnsOf cX2_turnsOf 2 (some .int), Cond.fieldLink RX2 15 "AlikeHands$Clock" "turns" "[I", Cond.methodLink RX7 243 yX7_lieOfReading, Cond.instanceMethod yX7_lieOfReading, Cond.selects RX7 yX7_lieOfReading yX7_lieOfReading, Cond.code yX7_lieOfReading cX7_lieOfReading 3 (some .int), Cond.constant RX7 205 (-1000000), Cond.methodLink RX7 294 yX4_fitsWithout]
def wsX7_lies_r5 : List Cond := [Cond.instanceMethod yX4_fitsWithout, Cond.selects RX4 yX4_fitsWithout yX4_fitsWithout, Cond.code yX4_fitsWithout cX4_fitsWithout 5 (some .boolean), Cond.methodLink RX4 44 Lib.Math.abs.name, Cond.static Lib.Math.abs.name, Cond.code Lib.Math.abs.name Lib.Math.abs.code 1 (some .int), Cond.methodLink RX4 43 yX4_speedOf, Cond.instanceMethod yX4_speedOf, Cond.selects RX4 yX4_speedOf yX4_speedOf, Cond.code yX4_speedOf cX4_speedOf 2 (some .int), Cond.methodLink RX4 60 yX4_fitsAt, Cond.instanceMethod yX4_fitsAt, Cond.selects RX4 yX4_fitsAt yX4_fitsAt, Cond.code yX4_fitsAt cX4_fitsAt 5 (some .boolean), Cond.methodLink RX4 56 yX4_gap, Cond.instanceMethod yX4_gap, Cond.selects RX4 yX4_gap yX4_gap, Cond.code yX4_gap cX4_gap 8 (some .int), Cond.methodLink RX4 50 yX4_arcOf, Cond.instanceMethod yX4_arcOf, Cond.selects RX4 yX4_arcOf yX4_arcOf, Cond.code yX4_arcOf cX4_arcOf 2 (some .int), Cond.static yX7_rest, Cond.code yX7_rest cX7_rest 2 (some .int)]
def wsX7_lies_r6 : List Cond := [Cond.methodLink RX7 305 yJ9_floorMod_7cf53, Cond.static yJ9_floorMod_7cf53, Cond.initialized RJ9, Cond.code yJ9_floorMod_7cf53 cJ9_floorMod_7cf53 3 (some .int), Cond.methodLink RX7 297 yX4_moved, Cond.instanceMethod yX4_moved, Cond.selects RX4 yX4_moved yX4_moved, Cond.code yX4_moved cX4_moved 3 (some .int), Cond.methodLink RX4 64 yX4_fitsWithout, Cond.methodLink RX7 300 yX4_leastMove, Cond.instanceMethod yX4_leastMove, Cond.selects RX4 yX4_leastMove yX4_leastMove, Cond.code yX4_leastMove cX4_leastMove 6 (some .int), Cond.methodLink RX7 303 yX4_whole, Cond.instanceMethod yX4_whole, Cond.selects RX4 yX4_whole yX4_whole, Cond.code yX4_whole cX4_whole 1 (some .int), Cond.methodLink RX4 47 Lib.Math.max.name, Cond.static Lib.Math.max.name, Cond.code Lib.Math.max.name Lib.Math.max.code 2 (some .int), Cond.methodLink RX7 192 yX7_part, Cond.static yX7_part, Cond.code yX7_part cX7_part 4 (some .int), Cond.methodLink RX7 232 yX7_common]
def wsX7_lies_r7 : List Cond := [Cond.static yX7_common, Cond.code yX7_common cX7_common 6 (some .int), Cond.methodLink RX7 84 yX7_fine, Cond.instanceMethod yX7_fine, Cond.selects RX7 yX7_fine yX7_fine, Cond.code yX7_fine cX7_fine 2 (some .int)]
def wsX7_lies : List Cond := .code yX7_lies cX7_lies 6 (some .int) :: ((wsX7_lies_r1 ++ (wsX7_lies_r2 ++ (wsX7_lies_r3 ++ (wsX7_lies_r4 ++ (wsX7_lies_r5 ++ (wsX7_lies_r6 ++ wsX7_lies_r7)))))) ++ wsX70 ++ wsX20 ++ wsX50 ++ wsX40)
def wsX7_firstLieOf_r1 : List Cond := [Cond.fieldLink RX7 56 "AlikeHands" "reading" "LAlikeHands$Reading;", Cond.fieldLink RX7 26 "AlikeHands" "clock" "LAlikeHands$Clock;", Cond.fieldLink RX7 10 "AlikeHands" "rows" "LAlikeHands$Rows;", Cond.fieldLink RX7 146 "AlikeHands$Clock" "count" "I", Cond.constant RX7 205 (-1000000), Cond.methodLink RX7 239 yX4_take, Cond.instanceMethod yX4_take, Cond.selects RX4 yX4_take yX4_take, Cond.initialized RX4, Cond.code yX4_take cX4_take 7 none, Cond.fieldLink RX4 18 "AlikeHands$Clock" "count" "I", Cond.methodLink RX4 24 Lib.Math.min.name, Cond.static Lib.Math.min.name, Cond.initialized "java/lang/Math", Cond.code Lib.Math.min.name Lib.Math.min.code 2 (some .int), Cond.fieldLink RX4 30 "AlikeHands$Reading" "count" "I", Cond.fieldLink RX4 31 "AlikeHands$Reading" "parts" "I", Cond.fieldLink RX4 9 "AlikeHands$Reading" "arcs" "[I", Cond.fieldLink RX4 15 "AlikeHands$Reading" "speeds" "[I", Cond.methodLink RX4 34 yX5_item, Cond.instanceMethod yX5_item, Cond.selects RX5 yX5_item yX5_item, Cond.initialized RX5, Cond.code yX5_item cX5_item 3 (some .int)]
def wsX7_firstLieOf_r2 : List Cond := [Cond.fieldLink RX5 9 "AlikeHands$Rows" "items" "[I", Cond.static yX7_isRow, Cond.initialized RX7, Cond.code yX7_isRow cX7_isRow 1 (some .boolean), Cond.methodLink RX5 41 yX5_reaches, Cond.instanceMethod yX5_reaches, Cond.selects RX5 yX5_reaches yX5_reaches, Cond.code yX5_reaches cX5_reaches 4 (some .boolean), Cond.methodLink RX5 35 yX5_length, Cond.instanceMethod yX5_length, Cond.selects RX5 yX5_length yX5_length, Cond.code yX5_length cX5_length 2 (some .int), Cond.fieldLink RX5 18 "AlikeHands$Rows" "lengths" "[I", Cond.methodLink RX4 39 yX2_speedOf, Cond.instanceMethod yX2_speedOf, Cond.selects RX2 yX2_speedOf yX2_speedOf, Cond.initialized RX2, Cond.code yX2_speedOf cX2_speedOf 3 (some .int), Cond.methodLink RX2 29 yX2_sortOf, Cond.instanceMethod yX2_sortOf, Cond.selects RX2 yX2_sortOf yX2_sortOf, Cond.code yX2_sortOf cX2_sortOf 2 (some .int), Cond.fieldLink RX2 9 "AlikeHands$Clock" "sorts" "[I", Cond.methodLink RX2 25 yX2_has]
def wsX7_firstLieOf_r3 : List Cond := [Cond.instanceMethod yX2_has, Cond.selects RX2 yX2_has yX2_has, Cond.code yX2_has cX2_has 2 (some .boolean), Cond.fieldLink RX2 21 "AlikeHands$Clock" "count" "I", Cond.methodLink RX2 33 yX2_turnsOf, Cond.instanceMethod yX2_turnsOf, Cond.selects RX2 yX2_turnsOf yX2_turnsOf, Cond.code yX2_turnsOf cX2_turnsOf 2 (some .int), Cond.fieldLink RX2 15 "AlikeHands$Clock" "turns" "[I", Cond.methodLink RX7 294 yX4_fitsWithout, Cond.instanceMethod yX4_fitsWithout, Cond.selects RX4 yX4_fitsWithout yX4_fitsWithout, Cond.code yX4_fitsWithout cX4_fitsWithout 5 (some .boolean), Cond.methodLink RX4 44 Lib.Math.abs.name, Cond.static Lib.Math.abs.name, Cond.code Lib.Math.abs.name Lib.Math.abs.code 1 (some .int), Cond.methodLink RX4 43 yX4_speedOf, Cond.instanceMethod yX4_speedOf, Cond.selects RX4 yX4_speedOf yX4_speedOf, Cond.code yX4_speedOf cX4_speedOf 2 (some .int), Cond.methodLink RX4 60 yX4_fitsAt, Cond.instanceMethod yX4_fitsAt, Cond.selects RX4 yX4_fitsAt yX4_fitsAt, Cond.code yX4_fitsAt cX4_fitsAt 5 (some .boolean)]
def wsX7_firstLieOf_r4 : List Cond := [Cond.methodLink RX4 56 yX4_gap, Cond.instanceMethod yX4_gap, Cond.selects RX4 yX4_gap yX4_gap, Cond.code yX4_gap cX4_gap 8 (some .int), Cond.methodLink RX4 50 yX4_arcOf, Cond.instanceMethod yX4_arcOf, Cond.selects RX4 yX4_arcOf yX4_arcOf, Cond.code yX4_arcOf cX4_arcOf 2 (some .int), Cond.static yX7_rest, Cond.code yX7_rest cX7_rest 2 (some .int), Cond.methodLink RX7 305 yJ9_floorMod_7cf53, Cond.static yJ9_floorMod_7cf53, Cond.initialized RJ9, Cond.code yJ9_floorMod_7cf53 cJ9_floorMod_7cf53 3 (some .int)]
def wsX7_firstLieOf : List Cond := .code yX7_firstLieOf cX7_firstLieOf 5 (some .int) :: ((wsX7_firstLieOf_r1 ++ (wsX7_firstLieOf_r2 ++ (wsX7_firstLieOf_r3 ++ wsX7_firstLieOf_r4))) ++ wsX70 ++ wsX20 ++ wsX40 ++ wsX50)
def wsX7_firstLie_r1 : List Cond := [Cond.fieldLink RX7 26 "AlikeHands" "clock" "LAlikeHands$Clock;", Cond.constant RX7 168 (-1000002), Cond.constant RX7 75 (-1000001), Cond.fieldLink RX7 10 "AlikeHands" "rows" "LAlikeHands$Rows;", Cond.fieldLink RX7 146 "AlikeHands$Clock" "count" "I", Cond.methodLink RX7 231 yX2_isNone, Cond.instanceMethod yX2_isNone, Cond.selects RX2 yX2_isNone yX2_isNone, Cond.initialized RX2, Cond.code yX2_isNone cX2_isNone 1 (some .boolean), Cond.fieldLink RX2 21 "AlikeHands$Clock" "count" "I", Cond.methodLink RX7 67 yX7_isRow, Cond.static yX7_isRow, Cond.initialized RX7, Cond.code yX7_isRow cX7_isRow 1 (some .boolean), Cond.methodLink RX7 71 yX7_isWithin, Cond.static yX7_isWithin, Cond.code yX7_isWithin cX7_isWithin 3 (some .boolean), Cond.methodLink RX7 87 yX5_wrongAt, Cond.instanceMethod yX5_wrongAt, Cond.selects RX5 yX5_wrongAt yX5_wrongAt, Cond.initialized RX5, Cond.code yX5_wrongAt cX5_wrongAt 4 (some .int), Cond.methodLink RX5 38 yX5_isMissing]
def wsX7_firstLie_r2 : List Cond := [Cond.instanceMethod yX5_isMissing, Cond.selects RX5 yX5_isMissing yX5_isMissing, Cond.code yX5_isMissing cX5_isMissing 2 (some .boolean), Cond.methodLink RX5 31 yX5_laneOf, Cond.instanceMethod yX5_laneOf, Cond.selects RX5 yX5_laneOf yX5_laneOf, Cond.code yX5_laneOf cX5_laneOf 2 (some .int), Cond.fieldLink RX5 15 "AlikeHands$Rows" "lanes" "[I", Cond.methodLink RX5 41 yX5_reaches, Cond.instanceMethod yX5_reaches, Cond.selects RX5 yX5_reaches yX5_reaches, Cond.code yX5_reaches cX5_reaches 4 (some .boolean), Cond.methodLink RX5 35 yX5_length, Cond.instanceMethod yX5_length, Cond.selects RX5 yX5_length yX5_length, Cond.code yX5_length cX5_length 2 (some .int), Cond.fieldLink RX5 18 "AlikeHands$Rows" "lengths" "[I", Cond.methodLink RX7 76 yX7_found, Cond.instanceMethod yX7_found, Cond.selects RX7 yX7_found yX7_found, Cond.code yX7_found cX7_found 2 (some .int), Cond.fieldLink RX7 285 "AlikeHands" "finding" "I", Cond.constant RX7 288 (-1000010), Cond.methodLink RX7 235 yX5_areBelow]
def wsX7_firstLie_r3 : List Cond := [Cond.instanceMethod yX5_areBelow, Cond.selects RX5 yX5_areBelow yX5_areBelow, Cond.code yX5_areBelow cX5_areBelow 6 (some .boolean), Cond.methodLink RX5 58 yX5_item, Cond.instanceMethod yX5_item, Cond.selects RX5 yX5_item yX5_item, Cond.code yX5_item cX5_item 3 (some .int), Cond.fieldLink RX5 9 "AlikeHands$Rows" "items" "[I", Cond.methodLink RX7 246 yX7_firstLieOf, Cond.instanceMethod yX7_firstLieOf, Cond.selects RX7 yX7_firstLieOf yX7_firstLieOf, Cond.code yX7_firstLieOf cX7_firstLieOf 5 (some .int), Cond.fieldLink RX7 56 "AlikeHands" "reading" "LAlikeHands$Reading;", Cond.constant RX7 205 (-1000000), Cond.methodLink RX7 239 yX4_take, Cond.instanceMethod yX4_take, Cond.selects RX4 yX4_take yX4_take, Cond.initialized RX4, Cond.code yX4_take cX4_take 7 none, Cond.fieldLink RX4 18 "AlikeHands$Clock" "count" "I", Cond.methodLink RX4 24 Lib.Math.min.name, Cond.static Lib.Math.min.name, Cond.initialized "java/lang/Math", Cond.code Lib.Math.min.name Lib.Math.min.code 2 (some .int)]
def wsX7_firstLie_r4 : List Cond := [Cond.fieldLink RX4 30 "AlikeHands$Reading" "count" "I", Cond.fieldLink RX4 31 "AlikeHands$Reading" "parts" "I", Cond.fieldLink RX4 9 "AlikeHands$Reading" "arcs" "[I", Cond.fieldLink RX4 15 "AlikeHands$Reading" "speeds" "[I", Cond.methodLink RX4 34 yX5_item, Cond.methodLink RX4 39 yX2_speedOf, Cond.instanceMethod yX2_speedOf, Cond.selects RX2 yX2_speedOf yX2_speedOf, Cond.code yX2_speedOf cX2_speedOf 3 (some .int), Cond.methodLink RX2 29 yX2_sortOf, Cond.instanceMethod yX2_sortOf, Cond.selects RX2 yX2_sortOf yX2_sortOf, Cond.code yX2_sortOf cX2_sortOf 2 (some .int), Cond.fieldLink RX2 9 "AlikeHands$Clock" "sorts" "[I", Cond.methodLink RX2 25 yX2_has, Cond.instanceMethod yX2_has, Cond.selects RX2 yX2_has yX2_has, Cond.code yX2_has cX2_has 2 (some .boolean), Cond.methodLink RX2 33 yX2_turnsOf, Cond.instanceMethod yX2_turnsOf, Cond.selects RX2 yX2_turnsOf yX2_turnsOf, Cond.code yX2_turnsOf cX2_turnsOf 2 (some .int), Cond.fieldLink RX2 15 "AlikeHands$Clock" "turns" "[I", Cond.methodLink RX7 294 yX4_fitsWithout]
def wsX7_firstLie_r5 : List Cond := [Cond.instanceMethod yX4_fitsWithout, Cond.selects RX4 yX4_fitsWithout yX4_fitsWithout, Cond.code yX4_fitsWithout cX4_fitsWithout 5 (some .boolean), Cond.methodLink RX4 44 Lib.Math.abs.name, Cond.static Lib.Math.abs.name, Cond.code Lib.Math.abs.name Lib.Math.abs.code 1 (some .int), Cond.methodLink RX4 43 yX4_speedOf, Cond.instanceMethod yX4_speedOf, Cond.selects RX4 yX4_speedOf yX4_speedOf, Cond.code yX4_speedOf cX4_speedOf 2 (some .int), Cond.methodLink RX4 60 yX4_fitsAt, Cond.instanceMethod yX4_fitsAt, Cond.selects RX4 yX4_fitsAt yX4_fitsAt, Cond.code yX4_fitsAt cX4_fitsAt 5 (some .boolean), Cond.methodLink RX4 56 yX4_gap, Cond.instanceMethod yX4_gap, Cond.selects RX4 yX4_gap yX4_gap, Cond.code yX4_gap cX4_gap 8 (some .int), Cond.methodLink RX4 50 yX4_arcOf, Cond.instanceMethod yX4_arcOf, Cond.selects RX4 yX4_arcOf yX4_arcOf, Cond.code yX4_arcOf cX4_arcOf 2 (some .int), Cond.static yX7_rest, Cond.code yX7_rest cX7_rest 2 (some .int)]
def wsX7_firstLie_r6 : List Cond := [Cond.methodLink RX7 305 yJ9_floorMod_7cf53, Cond.static yJ9_floorMod_7cf53, Cond.initialized RJ9, Cond.code yJ9_floorMod_7cf53 cJ9_floorMod_7cf53 3 (some .int), Cond.methodLink RX7 84 yX7_fine, Cond.instanceMethod yX7_fine, Cond.selects RX7 yX7_fine yX7_fine, Cond.code yX7_fine cX7_fine 2 (some .int)]
def wsX7_firstLie : List Cond := .code yX7_firstLie cX7_firstLie 5 (some .int) :: ((wsX7_firstLie_r1 ++ (wsX7_firstLie_r2 ++ (wsX7_firstLie_r3 ++ (wsX7_firstLie_r4 ++ (wsX7_firstLie_r5 ++ wsX7_firstLie_r6))))) ++ wsX70 ++ wsX20 ++ wsX50 ++ wsX40)
def wsX7_trueInGlass_r1 : List Cond := [Cond.fieldLink RX7 26 "AlikeHands" "clock" "LAlikeHands$Clock;", Cond.fieldLink RX7 146 "AlikeHands$Clock" "count" "I", Cond.methodLink RX7 186 yX2_arcAbove, Cond.instanceMethod yX2_arcAbove, Cond.selects RX2 yX2_arcAbove yX2_arcAbove, Cond.initialized RX2, Cond.code yX2_arcAbove cX2_arcAbove 4 (some .int), Cond.fieldLink RX2 39 "AlikeHands$Clock" "marks" "I", Cond.methodLink RX2 36 yX2_speedOf, Cond.instanceMethod yX2_speedOf, Cond.selects RX2 yX2_speedOf yX2_speedOf, Cond.code yX2_speedOf cX2_speedOf 3 (some .int), Cond.methodLink RX2 29 yX2_sortOf, Cond.instanceMethod yX2_sortOf, Cond.selects RX2 yX2_sortOf yX2_sortOf, Cond.code yX2_sortOf cX2_sortOf 2 (some .int), Cond.fieldLink RX2 9 "AlikeHands$Clock" "sorts" "[I", Cond.methodLink RX2 25 yX2_has, Cond.instanceMethod yX2_has, Cond.selects RX2 yX2_has yX2_has, Cond.code yX2_has cX2_has 2 (some .boolean), Cond.fieldLink RX2 21 "AlikeHands$Clock" "count" "I", Cond.methodLink RX2 33 yX2_turnsOf, Cond.instanceMethod yX2_turnsOf]
def wsX7_trueInGlass_r2 : List Cond := [Cond.selects RX2 yX2_turnsOf yX2_turnsOf, Cond.code yX2_turnsOf cX2_turnsOf 2 (some .int), Cond.fieldLink RX2 15 "AlikeHands$Clock" "turns" "[I", Cond.methodLink RX2 42 yX2_slipOf, Cond.instanceMethod yX2_slipOf, Cond.selects RX2 yX2_slipOf yX2_slipOf, Cond.code yX2_slipOf cX2_slipOf 2 (some .int), Cond.fieldLink RX2 18 "AlikeHands$Clock" "slips" "[I", Cond.methodLink RX2 45 yX2_arcBelow, Cond.instanceMethod yX2_arcBelow, Cond.selects RX2 yX2_arcBelow yX2_arcBelow, Cond.code yX2_arcBelow cX2_arcBelow 2 (some .int), Cond.static yX7_rest, Cond.initialized RX7, Cond.code yX7_rest cX7_rest 2 (some .int), Cond.methodLink RX7 305 yJ9_floorMod_7cf53, Cond.static yJ9_floorMod_7cf53, Cond.initialized RJ9, Cond.code yJ9_floorMod_7cf53 cJ9_floorMod_7cf53 3 (some .int), Cond.methodLink RX7 189 yX2_arcBelow, Cond.methodLink RX7 162 yX7_rest]
def wsX7_trueInGlass : List Cond := .code yX7_trueInGlass cX7_trueInGlass 5 (some .int) :: ((wsX7_trueInGlass_r1 ++ wsX7_trueInGlass_r2) ++ wsX70 ++ wsX20)
def wsX7_glass_r1 : List Cond := [Cond.fieldLink RX7 26 "AlikeHands" "clock" "LAlikeHands$Clock;", Cond.constant RX7 168 (-1000002), Cond.constant RX7 75 (-1000001), Cond.methodLink RX7 231 yX2_isNone, Cond.instanceMethod yX2_isNone, Cond.selects RX2 yX2_isNone yX2_isNone, Cond.initialized RX2, Cond.code yX2_isNone cX2_isNone 1 (some .boolean), Cond.fieldLink RX2 21 "AlikeHands$Clock" "count" "I", Cond.methodLink RX7 182 yX7_isMoment, Cond.static yX7_isMoment, Cond.initialized RX7, Cond.code yX7_isMoment cX7_isMoment 2 (some .boolean), Cond.methodLink RX7 71 yX7_isWithin, Cond.static yX7_isWithin, Cond.code yX7_isWithin cX7_isWithin 3 (some .boolean), Cond.methodLink RX7 249 yX7_trueInGlass, Cond.instanceMethod yX7_trueInGlass, Cond.selects RX7 yX7_trueInGlass yX7_trueInGlass, Cond.code yX7_trueInGlass cX7_trueInGlass 5 (some .int), Cond.fieldLink RX7 146 "AlikeHands$Clock" "count" "I", Cond.methodLink RX7 186 yX2_arcAbove, Cond.instanceMethod yX2_arcAbove, Cond.selects RX2 yX2_arcAbove yX2_arcAbove]
def wsX7_glass_r2 : List Cond := [Cond.code yX2_arcAbove cX2_arcAbove 4 (some .int), Cond.fieldLink RX2 39 "AlikeHands$Clock" "marks" "I", Cond.methodLink RX2 36 yX2_speedOf, Cond.instanceMethod yX2_speedOf, Cond.selects RX2 yX2_speedOf yX2_speedOf, Cond.code yX2_speedOf cX2_speedOf 3 (some .int), Cond.methodLink RX2 29 yX2_sortOf, Cond.instanceMethod yX2_sortOf, Cond.selects RX2 yX2_sortOf yX2_sortOf, Cond.code yX2_sortOf cX2_sortOf 2 (some .int), Cond.fieldLink RX2 9 "AlikeHands$Clock" "sorts" "[I", Cond.methodLink RX2 25 yX2_has, Cond.instanceMethod yX2_has, Cond.selects RX2 yX2_has yX2_has, Cond.code yX2_has cX2_has 2 (some .boolean), Cond.methodLink RX2 33 yX2_turnsOf, Cond.instanceMethod yX2_turnsOf, Cond.selects RX2 yX2_turnsOf yX2_turnsOf, Cond.code yX2_turnsOf cX2_turnsOf 2 (some .int), Cond.fieldLink RX2 15 "AlikeHands$Clock" "turns" "[I", Cond.methodLink RX2 42 yX2_slipOf, Cond.instanceMethod yX2_slipOf, Cond.selects RX2 yX2_slipOf yX2_slipOf, Cond.code yX2_slipOf cX2_slipOf 2 (some .int)]
def wsX7_glass_r3 : List Cond := [Cond.fieldLink RX2 18 "AlikeHands$Clock" "slips" "[I", Cond.methodLink RX2 45 yX2_arcBelow, Cond.instanceMethod yX2_arcBelow, Cond.selects RX2 yX2_arcBelow yX2_arcBelow, Cond.code yX2_arcBelow cX2_arcBelow 2 (some .int), Cond.static yX7_rest, Cond.code yX7_rest cX7_rest 2 (some .int), Cond.methodLink RX7 305 yJ9_floorMod_7cf53, Cond.static yJ9_floorMod_7cf53, Cond.initialized RJ9, Cond.code yJ9_floorMod_7cf53 cJ9_floorMod_7cf53 3 (some .int), Cond.methodLink RX7 189 yX2_arcBelow, Cond.methodLink RX7 162 yX7_rest, Cond.methodLink RX7 192 yX7_part, Cond.static yX7_part, Cond.code yX7_part cX7_part 4 (some .int), Cond.methodLink RX7 232 yX7_common, Cond.static yX7_common, Cond.code yX7_common cX7_common 6 (some .int)]
def wsX7_glass : List Cond := .code yX7_glass cX7_glass 4 (some .int) :: ((wsX7_glass_r1 ++ (wsX7_glass_r2 ++ wsX7_glass_r3)) ++ wsX70 ++ wsX20)
def wsX7_imageOf : List Cond := .code yX7_imageOf cX7_imageOf 2 (some (.object "AlikeHands$Clock")) :: ([.fieldLink RX7 33 "AlikeHands" "firstImage" "LAlikeHands$Clock;", .fieldLink RX7 36 "AlikeHands" "secondImage" "LAlikeHands$Clock;"] ++ wsX70)
def wsX7_image_r1 : List Cond := [Cond.constant RX7 75 (-1000001), Cond.fieldLink RX7 26 "AlikeHands" "clock" "LAlikeHands$Clock;", Cond.constant RX7 168 (-1000002), Cond.methodLink RX7 71 yX7_isWithin, Cond.static yX7_isWithin, Cond.initialized RX7, Cond.code yX7_isWithin cX7_isWithin 3 (some .boolean), Cond.methodLink RX7 231 yX2_isNone, Cond.instanceMethod yX2_isNone, Cond.selects RX2 yX2_isNone yX2_isNone, Cond.initialized RX2, Cond.code yX2_isNone cX2_isNone 1 (some .boolean), Cond.fieldLink RX2 21 "AlikeHands$Clock" "count" "I", Cond.methodLink RX7 252 yX7_imageOf, Cond.instanceMethod yX7_imageOf, Cond.selects RX7 yX7_imageOf yX7_imageOf, Cond.code yX7_imageOf cX7_imageOf 2 (some (.object "AlikeHands$Clock")), Cond.fieldLink RX7 33 "AlikeHands" "firstImage" "LAlikeHands$Clock;", Cond.fieldLink RX7 36 "AlikeHands" "secondImage" "LAlikeHands$Clock;", Cond.methodLink RX7 142 yX2_become, Cond.instanceMethod yX2_become, Cond.selects RX2 yX2_become yX2_become, Cond.code yX2_become cX2_become 3 none, Cond.fieldLink RX2 39 "AlikeHands$Clock" "marks" "I"]
def wsX7_image_r2 : List Cond := [Cond.fieldLink RX2 9 "AlikeHands$Clock" "sorts" "[I", Cond.fieldLink RX2 15 "AlikeHands$Clock" "turns" "[I", Cond.fieldLink RX2 18 "AlikeHands$Clock" "slips" "[I"]
def wsX7_image : List Cond := .code yX7_image cX7_image 2 (some .int) :: ((wsX7_image_r1 ++ wsX7_image_r2) ++ wsX70 ++ wsX20)
def wsX7_restore_r1 : List Cond := [Cond.constant RX7 75 (-1000001), Cond.constant RX7 168 (-1000002), Cond.fieldLink RX7 26 "AlikeHands" "clock" "LAlikeHands$Clock;", Cond.fieldLink RX7 42 "AlikeHands" "acts" "LAlikeHands$Acts;", Cond.fieldLink RX7 145 "AlikeHands$Acts" "length" "I", Cond.methodLink RX7 71 yX7_isWithin, Cond.static yX7_isWithin, Cond.initialized RX7, Cond.code yX7_isWithin cX7_isWithin 3 (some .boolean), Cond.methodLink RX7 252 yX7_imageOf, Cond.instanceMethod yX7_imageOf, Cond.selects RX7 yX7_imageOf yX7_imageOf, Cond.code yX7_imageOf cX7_imageOf 2 (some (.object "AlikeHands$Clock")), Cond.fieldLink RX7 33 "AlikeHands" "firstImage" "LAlikeHands$Clock;", Cond.fieldLink RX7 36 "AlikeHands" "secondImage" "LAlikeHands$Clock;", Cond.methodLink RX7 231 yX2_isNone, Cond.instanceMethod yX2_isNone, Cond.selects RX2 yX2_isNone yX2_isNone, Cond.initialized RX2, Cond.code yX2_isNone cX2_isNone 1 (some .boolean), Cond.fieldLink RX2 21 "AlikeHands$Clock" "count" "I", Cond.methodLink RX7 142 yX2_become, Cond.instanceMethod yX2_become, Cond.selects RX2 yX2_become yX2_become]
def wsX7_restore_r2 : List Cond := [Cond.code yX2_become cX2_become 3 none, Cond.fieldLink RX2 39 "AlikeHands$Clock" "marks" "I", Cond.fieldLink RX2 9 "AlikeHands$Clock" "sorts" "[I", Cond.fieldLink RX2 15 "AlikeHands$Clock" "turns" "[I", Cond.fieldLink RX2 18 "AlikeHands$Clock" "slips" "[I"]
def wsX7_restore : List Cond := .code yX7_restore cX7_restore 2 (some .int) :: ((wsX7_restore_r1 ++ wsX7_restore_r2) ++ wsX70 ++ wsX00 ++ wsX20)
def wsX7_kind : List Cond := .code yX7_kind cX7_kind 2 (some .int) :: ([.fieldLink RX7 26 "AlikeHands" "clock" "LAlikeHands$Clock;", .constant RX7 75 (-1000001), .methodLink RX7 149 yX2_has, .instanceMethod yX2_has, .selects RX2 yX2_has yX2_has, .initialized RX2, .code yX2_has cX2_has 2 (some .boolean), .fieldLink RX2 21 "AlikeHands$Clock" "count" "I", .methodLink RX7 256 yX2_sortOf, .instanceMethod yX2_sortOf, .selects RX2 yX2_sortOf yX2_sortOf, .code yX2_sortOf cX2_sortOf 2 (some .int), .fieldLink RX2 9 "AlikeHands$Clock" "sorts" "[I", .methodLink RX2 25 yX2_has] ++ wsX70 ++ wsX20)
def wsX7_isOfKind : List Cond := .code yX7_isOfKind cX7_isOfKind 2 (some .boolean) :: ([])
def wsX7_as_r1 : List Cond := [Cond.fieldLink RX7 26 "AlikeHands" "clock" "LAlikeHands$Clock;", Cond.constant RX7 75 (-1000001), Cond.methodLink RX7 149 yX2_has, Cond.instanceMethod yX2_has, Cond.selects RX2 yX2_has yX2_has, Cond.initialized RX2, Cond.code yX2_has cX2_has 2 (some .boolean), Cond.fieldLink RX2 21 "AlikeHands$Clock" "count" "I", Cond.methodLink RX7 71 yX7_isWithin, Cond.static yX7_isWithin, Cond.initialized RX7, Cond.code yX7_isWithin cX7_isWithin 3 (some .boolean), Cond.methodLink RX7 256 yX2_sortOf, Cond.instanceMethod yX2_sortOf, Cond.selects RX2 yX2_sortOf yX2_sortOf, Cond.code yX2_sortOf cX2_sortOf 2 (some .int), Cond.fieldLink RX2 9 "AlikeHands$Clock" "sorts" "[I", Cond.methodLink RX2 25 yX2_has, Cond.methodLink RX7 259 yX7_isOfKind, Cond.static yX7_isOfKind, Cond.code yX7_isOfKind cX7_isOfKind 2 (some .boolean), Cond.methodLink RX7 84 yX7_fine, Cond.instanceMethod yX7_fine, Cond.selects RX7 yX7_fine yX7_fine]
def wsX7_as_r2 : List Cond := [Cond.code yX7_fine cX7_fine 2 (some .int), Cond.fieldLink RX7 285 "AlikeHands" "finding" "I", Cond.methodLink RX7 76 yX7_found, Cond.instanceMethod yX7_found, Cond.selects RX7 yX7_found yX7_found, Cond.code yX7_found cX7_found 2 (some .int), Cond.constant RX7 288 (-1000010)]
def wsX7_as : List Cond := .code yX7_as cX7_as 3 (some .int) :: ((wsX7_as_r1 ++ wsX7_as_r2) ++ wsX70 ++ wsX20)
def wsX7_ask_r1 : List Cond := [Cond.fieldLink RX7 26 "AlikeHands" "clock" "LAlikeHands$Clock;", Cond.constant RX7 75 (-1000001), Cond.fieldLink RX7 63 "AlikeHands" "asks" "LAlikeHands$Asks;", Cond.fieldLink RX7 262 "AlikeHands$Asks" "length" "I", Cond.methodLink RX7 149 yX2_has, Cond.instanceMethod yX2_has, Cond.selects RX2 yX2_has yX2_has, Cond.initialized RX2, Cond.code yX2_has cX2_has 2 (some .boolean), Cond.fieldLink RX2 21 "AlikeHands$Clock" "count" "I", Cond.methodLink RX7 71 yX7_isWithin, Cond.static yX7_isWithin, Cond.initialized RX7, Cond.code yX7_isWithin cX7_isWithin 3 (some .boolean), Cond.methodLink RX7 256 yX2_sortOf, Cond.instanceMethod yX2_sortOf, Cond.selects RX2 yX2_sortOf yX2_sortOf, Cond.code yX2_sortOf cX2_sortOf 2 (some .int), Cond.fieldLink RX2 9 "AlikeHands$Clock" "sorts" "[I", Cond.methodLink RX2 25 yX2_has, Cond.methodLink RX7 259 yX7_isOfKind, Cond.static yX7_isOfKind, Cond.code yX7_isOfKind cX7_isOfKind 2 (some .boolean), Cond.methodLink RX7 263 yX1_sizeOfBacks]
def wsX7_ask_r2 : List Cond := [Cond.instanceMethod yX1_sizeOfBacks, Cond.selects RX1 yX1_sizeOfBacks yX1_sizeOfBacks, Cond.initialized RX1, Cond.code yX1_sizeOfBacks cX1_sizeOfBacks 3 (some .int), Cond.methodLink RX1 43 yX2_sortOf, Cond.methodLink RX1 20 yX1_leave, Cond.instanceMethod yX1_leave, Cond.selects RX1 yX1_leave yX1_leave, Cond.code yX1_leave cX1_leave 2 none, Cond.fieldLink RX1 15 "AlikeHands$Asks" "length" "I", Cond.fieldLink RX1 11 "AlikeHands$Asks" "bodies" "[I", Cond.methodLink RX1 52 yX1_backSize, Cond.instanceMethod yX1_backSize, Cond.selects RX1 yX1_backSize yX1_backSize, Cond.code yX1_backSize cX1_backSize 3 (some .int), Cond.methodLink RX1 30 yX1_lentSize, Cond.instanceMethod yX1_lentSize, Cond.selects RX1 yX1_lentSize yX1_lentSize, Cond.code yX1_lentSize cX1_lentSize 3 (some .int), Cond.methodLink RX1 24 yX2_turnsOf, Cond.instanceMethod yX2_turnsOf, Cond.selects RX2 yX2_turnsOf yX2_turnsOf, Cond.code yX2_turnsOf cX2_turnsOf 2 (some .int), Cond.fieldLink RX2 15 "AlikeHands$Clock" "turns" "[I"]
def wsX7_ask_r3 : List Cond := [Cond.methodLink RX7 267 yX1_markOfBacks, Cond.instanceMethod yX1_markOfBacks, Cond.selects RX1 yX1_markOfBacks yX1_markOfBacks, Cond.code yX1_markOfBacks cX1_markOfBacks 4 (some .int), Cond.methodLink RX1 37 yX1_lentMark, Cond.instanceMethod yX1_lentMark, Cond.selects RX1 yX1_lentMark yX1_lentMark, Cond.code yX1_lentMark cX1_lentMark 2 (some .int), Cond.methodLink RX1 55 yX1_sizeOfBacks, Cond.methodLink RX7 270 yX1_sizeOfHours, Cond.instanceMethod yX1_sizeOfHours, Cond.selects RX1 yX1_sizeOfHours yX1_sizeOfHours, Cond.code yX1_sizeOfHours cX1_sizeOfHours 3 (some .int), Cond.methodLink RX1 46 yX1_hourSize, Cond.instanceMethod yX1_hourSize, Cond.selects RX1 yX1_hourSize yX1_hourSize, Cond.code yX1_hourSize cX1_hourSize 4 (some .int), Cond.methodLink RX1 34 yX1_markOfHours, Cond.instanceMethod yX1_markOfHours, Cond.selects RX1 yX1_markOfHours yX1_markOfHours, Cond.code yX1_markOfHours cX1_markOfHours 4 (some .int), Cond.methodLink RX1 49 yX1_hourMark, Cond.instanceMethod yX1_hourMark, Cond.selects RX1 yX1_hourMark yX1_hourMark]
def wsX7_ask_r4 : List Cond := [Cond.code yX1_hourMark cX1_hourMark 3 (some .int), Cond.methodLink RX1 40 yX2_slipOf, Cond.instanceMethod yX2_slipOf, Cond.selects RX2 yX2_slipOf yX2_slipOf, Cond.code yX2_slipOf cX2_slipOf 2 (some .int), Cond.fieldLink RX2 18 "AlikeHands$Clock" "slips" "[I", Cond.methodLink RX7 273 yX1_markOfHours]
def wsX7_ask : List Cond := .code yX7_ask cX7_ask 3 (some .int) :: ((wsX7_ask_r1 ++ (wsX7_ask_r2 ++ (wsX7_ask_r3 ++ wsX7_ask_r4))) ++ wsX70 ++ wsX10 ++ wsX20)
def wsX7_trace : List Cond := .code yX7_trace cX7_trace 2 (some .int) :: ([.fieldLink RX7 63 "AlikeHands" "asks" "LAlikeHands$Asks;", .methodLink RX7 276 yX1_numberAt, .instanceMethod yX1_numberAt, .selects RX1 yX1_numberAt yX1_numberAt, .initialized RX1, .code yX1_numberAt cX1_numberAt 2 (some .int), .fieldLink RX1 15 "AlikeHands$Asks" "length" "I", .fieldLink RX1 11 "AlikeHands$Asks" "bodies" "[I", .constant RX1 19 (-1000000)] ++ wsX70 ++ wsX10)
def wsX7_count_r1 : List Cond := [Cond.fieldLink RX7 10 "AlikeHands" "rows" "LAlikeHands$Rows;", Cond.fieldLink RX7 26 "AlikeHands" "clock" "LAlikeHands$Clock;", Cond.fieldLink RX7 146 "AlikeHands$Clock" "count" "I", Cond.fieldLink RX7 159 "AlikeHands$Clock" "marks" "I", Cond.fieldLink RX7 42 "AlikeHands" "acts" "LAlikeHands$Acts;", Cond.fieldLink RX7 145 "AlikeHands$Acts" "length" "I", Cond.fieldLink RX7 19 "AlikeHands" "tape" "LAlikeHands$Tape;", Cond.fieldLink RX7 125 "AlikeHands$Tape" "length" "I", Cond.constant RX7 75 (-1000001), Cond.methodLink RX7 279 yX5_present, Cond.instanceMethod yX5_present, Cond.selects RX5 yX5_present yX5_present, Cond.initialized RX5, Cond.code yX5_present cX5_present 3 (some .int), Cond.methodLink RX5 38 yX5_isMissing, Cond.instanceMethod yX5_isMissing, Cond.selects RX5 yX5_isMissing yX5_isMissing, Cond.code yX5_isMissing cX5_isMissing 2 (some .boolean), Cond.methodLink RX5 31 yX5_laneOf, Cond.instanceMethod yX5_laneOf, Cond.selects RX5 yX5_laneOf yX5_laneOf, Cond.code yX5_laneOf cX5_laneOf 2 (some .int), Cond.fieldLink RX5 15 "AlikeHands$Rows" "lanes" "[I", Cond.static yX7_isRow]
def wsX7_count_r2 : List Cond := [Cond.initialized RX7, Cond.code yX7_isRow cX7_isRow 1 (some .boolean), Cond.methodLink RX7 282 yX2_slippedHands, Cond.instanceMethod yX2_slippedHands, Cond.selects RX2 yX2_slippedHands yX2_slippedHands, Cond.initialized RX2, Cond.code yX2_slippedHands cX2_slippedHands 3 (some .int), Cond.fieldLink RX2 21 "AlikeHands$Clock" "count" "I", Cond.methodLink RX2 42 yX2_slipOf, Cond.instanceMethod yX2_slipOf, Cond.selects RX2 yX2_slipOf yX2_slipOf, Cond.code yX2_slipOf cX2_slipOf 2 (some .int), Cond.fieldLink RX2 18 "AlikeHands$Clock" "slips" "[I", Cond.methodLink RX2 25 yX2_has, Cond.instanceMethod yX2_has, Cond.selects RX2 yX2_has yX2_has, Cond.code yX2_has cX2_has 2 (some .boolean)]
def wsX7_count : List Cond := .code yX7_count cX7_count 2 (some .int) :: ((wsX7_count_r1 ++ wsX7_count_r2) ++ wsX70 ++ wsX20 ++ wsX00 ++ wsX60 ++ wsX50)
def wsX7_status : List Cond := .code yX7_status cX7_status 1 (some .int) :: ([.fieldLink RX7 285 "AlikeHands" "finding" "I"] ++ wsX70)
def wsX8_init : List Cond := .code yX8_init cX8_init 1 none :: ([.methodLink RX8 1 objectInit, .instanceMethod objectInit, .code objectInit ⟨#[0xb1]⟩ 1 none, .arrayClass .int, .fieldLink RX8 7 "AlikeHandsModel" "lane" "[I", .fieldLink RX8 13 "AlikeHandsModel" "many" "[I", .fieldLink RX8 16 "AlikeHandsModel" "item" "[I", .fieldLink RX8 19 "AlikeHandsModel" "clock" "[I", .fieldLink RX8 22 "AlikeHandsModel" "fresh" "[I", .fieldLink RX8 25 "AlikeHandsModel" "was" "[I", .fieldLink RX8 28 "AlikeHandsModel" "tape" "[I", .arrayClass .boolean, .fieldLink RX8 31 "AlikeHandsModel" "isKept" "[Z", .fieldLink RX8 35 "AlikeHandsModel" "kept" "[I", .fieldLink RX8 38 "AlikeHandsModel" "trace" "[I"] ++ wsX80)
def wsX8_in : List Cond := .code yX8_in cX8_in 6 (some .boolean) :: ([])
def wsX8_finding : List Cond := .code yX8_finding cX8_finding 2 (some .int) :: ([.fieldLink RX8 45 "AlikeHandsModel" "status" "I", .constant RX8 48 (-1000010)] ++ wsX80)
def wsX8_isRow : List Cond := .code yX8_isRow cX8_isRow 1 (some .boolean) :: ([.constantLong RX8 49 (7), .methodLink RX8 51 yX8_in, .static yX8_in, .initialized RX8, .code yX8_in cX8_in 6 (some .boolean)])
def wsX8_row : List Cond := .code yX8_row cX8_row 5 (some .int) :: ([.fieldLink RX8 41 "AlikeHandsModel" "thrown" "I", .constantLong RX8 59 (2), .constant RX8 61 (-1000001), .fieldLink RX8 45 "AlikeHandsModel" "status" "I", .fieldLink RX8 7 "AlikeHandsModel" "lane" "[I", .fieldLink RX8 13 "AlikeHandsModel" "many" "[I", .fieldLink RX8 16 "AlikeHandsModel" "item" "[I", .methodLink RX8 55 yX8_isRow, .static yX8_isRow, .initialized RX8, .code yX8_isRow cX8_isRow 1 (some .boolean), .constantLong RX8 49 (7), .methodLink RX8 51 yX8_in, .static yX8_in, .code yX8_in cX8_in 6 (some .boolean), .methodLink RX8 62 yX8_finding, .instanceMethod yX8_finding, .selects RX8 yX8_finding yX8_finding, .code yX8_finding cX8_finding 2 (some .int), .constant RX8 48 (-1000010)] ++ wsX80)
def wsX8_set : List Cond := .code yX8_set cX8_set 4 (some .int) :: ([.fieldLink RX8 41 "AlikeHandsModel" "thrown" "I", .constant RX8 61 (-1000001), .fieldLink RX8 45 "AlikeHandsModel" "status" "I", .fieldLink RX8 7 "AlikeHandsModel" "lane" "[I", .fieldLink RX8 13 "AlikeHandsModel" "many" "[I", .fieldLink RX8 16 "AlikeHandsModel" "item" "[I", .methodLink RX8 55 yX8_isRow, .static yX8_isRow, .initialized RX8, .code yX8_isRow cX8_isRow 1 (some .boolean), .constantLong RX8 49 (7), .methodLink RX8 51 yX8_in, .static yX8_in, .code yX8_in cX8_in 6 (some .boolean), .methodLink RX8 62 yX8_finding, .instanceMethod yX8_finding, .selects RX8 yX8_finding yX8_finding, .code yX8_finding cX8_finding 2 (some .int), .constant RX8 48 (-1000010)] ++ wsX80)
def wsX8_copy : List Cond := .code yX8_copy cX8_copy 9 (some .int) :: ([.fieldLink RX8 41 "AlikeHandsModel" "thrown" "I", .constant RX8 61 (-1000001), .fieldLink RX8 45 "AlikeHandsModel" "status" "I", .fieldLink RX8 7 "AlikeHandsModel" "lane" "[I", .fieldLink RX8 13 "AlikeHandsModel" "many" "[I", .fieldLink RX8 16 "AlikeHandsModel" "item" "[I", .methodLink RX8 55 yX8_isRow, .static yX8_isRow, .initialized RX8, .code yX8_isRow cX8_isRow 1 (some .boolean), .constantLong RX8 49 (7), .methodLink RX8 51 yX8_in, .static yX8_in, .code yX8_in cX8_in 6 (some .boolean), .methodLink RX8 62 yX8_finding, .instanceMethod yX8_finding, .selects RX8 yX8_finding yX8_finding, .code yX8_finding cX8_finding 2 (some .int), .constant RX8 48 (-1000010)] ++ wsX80)
def wsX8_drop : List Cond := .code yX8_drop cX8_drop 2 (some .int) :: ([.fieldLink RX8 41 "AlikeHandsModel" "thrown" "I", .constant RX8 61 (-1000001), .fieldLink RX8 45 "AlikeHandsModel" "status" "I", .fieldLink RX8 7 "AlikeHandsModel" "lane" "[I", .fieldLink RX8 13 "AlikeHandsModel" "many" "[I", .methodLink RX8 55 yX8_isRow, .static yX8_isRow, .initialized RX8, .code yX8_isRow cX8_isRow 1 (some .boolean), .constantLong RX8 49 (7), .methodLink RX8 51 yX8_in, .static yX8_in, .code yX8_in cX8_in 6 (some .boolean), .methodLink RX8 62 yX8_finding, .instanceMethod yX8_finding, .selects RX8 yX8_finding yX8_finding, .code yX8_finding cX8_finding 2 (some .int), .constant RX8 48 (-1000010)] ++ wsX80)
def wsX8_feed : List Cond := .code yX8_feed cX8_feed 5 (some .int) :: ([.fieldLink RX8 41 "AlikeHandsModel" "thrown" "I", .constantLong RX8 66 (8), .constant RX8 61 (-1000001), .fieldLink RX8 68 "AlikeHandsModel" "taped" "I", .constant RX8 71 (-1000003), .fieldLink RX8 28 "AlikeHandsModel" "tape" "[I", .constantLong RX8 72 (255), .methodLink RX8 51 yX8_in, .static yX8_in, .initialized RX8, .code yX8_in cX8_in 6 (some .boolean)] ++ wsX80)
def wsX8_byteAt : List Cond := .code yX8_byteAt cX8_byteAt 2 (some .int) :: ([.fieldLink RX8 74 "AlikeHandsModel" "length" "I", .fieldLink RX8 28 "AlikeHandsModel" "tape" "[I", .constant RX8 77 (-1000000)] ++ wsX80)
def wsX8_isLetter : List Cond := .code yX8_isLetter cX8_isLetter 1 (some .boolean) :: ([])
def wsX8_isFigure : List Cond := .code yX8_isFigure cX8_isFigure 1 (some .boolean) :: ([])
def wsX8_nextToken : List Cond := .code yX8_nextToken cX8_nextToken 2 none :: ([.fieldLink RX8 78 "AlikeHandsModel" "cursor" "I", .fieldLink RX8 84 "AlikeHandsModel" "start" "I", .constant RX8 77 (-1000000), .fieldLink RX8 87 "AlikeHandsModel" "token" "I", .fieldLink RX8 96 "AlikeHandsModel" "till" "I", .methodLink RX8 81 yX8_byteAt, .instanceMethod yX8_byteAt, .selects RX8 yX8_byteAt yX8_byteAt, .initialized RX8, .code yX8_byteAt cX8_byteAt 2 (some .int), .fieldLink RX8 74 "AlikeHandsModel" "length" "I", .fieldLink RX8 28 "AlikeHandsModel" "tape" "[I", .methodLink RX8 90 yX8_isLetter, .static yX8_isLetter, .code yX8_isLetter cX8_isLetter 1 (some .boolean), .methodLink RX8 93 yX8_isFigure, .static yX8_isFigure, .code yX8_isFigure cX8_isFigure 1 (some .boolean)] ++ wsX80)
def wsX8_begin : List Cond := .code yX8_begin cX8_begin 1 none :: ([.fieldLink RX8 68 "AlikeHandsModel" "taped" "I", .fieldLink RX8 74 "AlikeHandsModel" "length" "I", .fieldLink RX8 78 "AlikeHandsModel" "cursor" "I", .fieldLink RX8 99 "AlikeHandsModel" "fault" "I", .methodLink RX8 102 yX8_nextToken, .instanceMethod yX8_nextToken, .selects RX8 yX8_nextToken yX8_nextToken, .initialized RX8, .code yX8_nextToken cX8_nextToken 2 none, .fieldLink RX8 84 "AlikeHandsModel" "start" "I", .constant RX8 77 (-1000000), .fieldLink RX8 87 "AlikeHandsModel" "token" "I", .fieldLink RX8 96 "AlikeHandsModel" "till" "I", .methodLink RX8 81 yX8_byteAt, .instanceMethod yX8_byteAt, .selects RX8 yX8_byteAt yX8_byteAt, .code yX8_byteAt cX8_byteAt 2 (some .int), .fieldLink RX8 28 "AlikeHandsModel" "tape" "[I", .methodLink RX8 90 yX8_isLetter, .static yX8_isLetter, .code yX8_isLetter cX8_isLetter 1 (some .boolean), .methodLink RX8 93 yX8_isFigure, .static yX8_isFigure, .code yX8_isFigure cX8_isFigure 1 (some .boolean)] ++ wsX80)
def wsX8_bad : List Cond := .code yX8_bad cX8_bad 2 none :: ([.fieldLink RX8 99 "AlikeHandsModel" "fault" "I", .fieldLink RX8 84 "AlikeHandsModel" "start" "I", .fieldLink RX8 105 "AlikeHandsModel" "faultAt" "I"] ++ wsX80)
def wsX8_must_r1 : List Cond := [Cond.fieldLink RX8 99 "AlikeHandsModel" "fault" "I", Cond.methodLink RX8 108 yX8_bad, Cond.instanceMethod yX8_bad, Cond.selects RX8 yX8_bad yX8_bad, Cond.initialized RX8, Cond.code yX8_bad cX8_bad 2 none, Cond.fieldLink RX8 84 "AlikeHandsModel" "start" "I", Cond.fieldLink RX8 105 "AlikeHandsModel" "faultAt" "I", Cond.methodLink RX8 102 yX8_nextToken, Cond.instanceMethod yX8_nextToken, Cond.selects RX8 yX8_nextToken yX8_nextToken, Cond.code yX8_nextToken cX8_nextToken 2 none, Cond.fieldLink RX8 78 "AlikeHandsModel" "cursor" "I", Cond.constant RX8 77 (-1000000), Cond.fieldLink RX8 87 "AlikeHandsModel" "token" "I", Cond.fieldLink RX8 96 "AlikeHandsModel" "till" "I", Cond.methodLink RX8 81 yX8_byteAt, Cond.instanceMethod yX8_byteAt, Cond.selects RX8 yX8_byteAt yX8_byteAt, Cond.code yX8_byteAt cX8_byteAt 2 (some .int), Cond.fieldLink RX8 74 "AlikeHandsModel" "length" "I", Cond.fieldLink RX8 28 "AlikeHandsModel" "tape" "[I", Cond.methodLink RX8 90 yX8_isLetter, Cond.static yX8_isLetter]
def wsX8_must_r2 : List Cond := [Cond.code yX8_isLetter cX8_isLetter 1 (some .boolean), Cond.methodLink RX8 93 yX8_isFigure, Cond.static yX8_isFigure, Cond.code yX8_isFigure cX8_isFigure 1 (some .boolean)]
def wsX8_must : List Cond := .code yX8_must cX8_must 2 none :: ((wsX8_must_r1 ++ wsX8_must_r2) ++ wsX80)
def wsX8_name : List Cond := .code yX8_name cX8_name 4 (some .long) :: ([.fieldLink RX8 84 "AlikeHandsModel" "start" "I", .fieldLink RX8 96 "AlikeHandsModel" "till" "I", .fieldLink RX8 87 "AlikeHandsModel" "token" "I", .fieldLink RX8 28 "AlikeHandsModel" "tape" "[I", .fieldLink RX8 99 "AlikeHandsModel" "fault" "I"] ++ wsX80)
def wsX8_figures : List Cond := .code yX8_figures cX8_figures 3 (some .int) :: ([.fieldLink RX8 84 "AlikeHandsModel" "start" "I", .fieldLink RX8 96 "AlikeHandsModel" "till" "I", .fieldLink RX8 87 "AlikeHandsModel" "token" "I", .fieldLink RX8 28 "AlikeHandsModel" "tape" "[I"] ++ wsX80)
def wsX8_number_r1 : List Cond := [Cond.fieldLink RX8 99 "AlikeHandsModel" "fault" "I", Cond.fieldLink RX8 87 "AlikeHandsModel" "token" "I", Cond.methodLink RX8 112 yX8_figures, Cond.instanceMethod yX8_figures, Cond.selects RX8 yX8_figures yX8_figures, Cond.initialized RX8, Cond.code yX8_figures cX8_figures 3 (some .int), Cond.fieldLink RX8 84 "AlikeHandsModel" "start" "I", Cond.fieldLink RX8 96 "AlikeHandsModel" "till" "I", Cond.fieldLink RX8 28 "AlikeHandsModel" "tape" "[I", Cond.methodLink RX8 51 yX8_in, Cond.static yX8_in, Cond.code yX8_in cX8_in 6 (some .boolean), Cond.methodLink RX8 108 yX8_bad, Cond.instanceMethod yX8_bad, Cond.selects RX8 yX8_bad yX8_bad, Cond.code yX8_bad cX8_bad 2 none, Cond.fieldLink RX8 105 "AlikeHandsModel" "faultAt" "I", Cond.methodLink RX8 116 yX8_must, Cond.instanceMethod yX8_must, Cond.selects RX8 yX8_must yX8_must, Cond.code yX8_must cX8_must 2 none, Cond.methodLink RX8 102 yX8_nextToken, Cond.instanceMethod yX8_nextToken]
def wsX8_number_r2 : List Cond := [Cond.selects RX8 yX8_nextToken yX8_nextToken, Cond.code yX8_nextToken cX8_nextToken 2 none, Cond.fieldLink RX8 78 "AlikeHandsModel" "cursor" "I", Cond.constant RX8 77 (-1000000), Cond.methodLink RX8 81 yX8_byteAt, Cond.instanceMethod yX8_byteAt, Cond.selects RX8 yX8_byteAt yX8_byteAt, Cond.code yX8_byteAt cX8_byteAt 2 (some .int), Cond.fieldLink RX8 74 "AlikeHandsModel" "length" "I", Cond.methodLink RX8 90 yX8_isLetter, Cond.static yX8_isLetter, Cond.code yX8_isLetter cX8_isLetter 1 (some .boolean), Cond.methodLink RX8 93 yX8_isFigure, Cond.static yX8_isFigure, Cond.code yX8_isFigure cX8_isFigure 1 (some .boolean)]
def wsX8_number : List Cond := .code yX8_number cX8_number 4 (some .int) :: ((wsX8_number_r1 ++ wsX8_number_r2) ++ wsX80)
def wsX8_kindBy : List Cond := .code yX8_kindBy cX8_kindBy 2 (some .int) :: ([.constantLong RX8 120 (1752135026), .constantLong RX8 122 (1836019566), .constantLong RX8 124 (495924372848), .constantLong RX8 126 (1650549611), .constantLong RX8 128 (1953064037), .constant RX8 77 (-1000000)])
def wsX8_mustEnd_r1 : List Cond := [Cond.fieldLink RX8 99 "AlikeHandsModel" "fault" "I", Cond.fieldLink RX8 87 "AlikeHandsModel" "token" "I", Cond.methodLink RX8 116 yX8_must, Cond.instanceMethod yX8_must, Cond.selects RX8 yX8_must yX8_must, Cond.initialized RX8, Cond.code yX8_must cX8_must 2 none, Cond.methodLink RX8 108 yX8_bad, Cond.instanceMethod yX8_bad, Cond.selects RX8 yX8_bad yX8_bad, Cond.code yX8_bad cX8_bad 2 none, Cond.fieldLink RX8 84 "AlikeHandsModel" "start" "I", Cond.fieldLink RX8 105 "AlikeHandsModel" "faultAt" "I", Cond.methodLink RX8 102 yX8_nextToken, Cond.instanceMethod yX8_nextToken, Cond.selects RX8 yX8_nextToken yX8_nextToken, Cond.code yX8_nextToken cX8_nextToken 2 none, Cond.fieldLink RX8 78 "AlikeHandsModel" "cursor" "I", Cond.constant RX8 77 (-1000000), Cond.fieldLink RX8 96 "AlikeHandsModel" "till" "I", Cond.methodLink RX8 81 yX8_byteAt, Cond.instanceMethod yX8_byteAt, Cond.selects RX8 yX8_byteAt yX8_byteAt, Cond.code yX8_byteAt cX8_byteAt 2 (some .int)]
def wsX8_mustEnd_r2 : List Cond := [Cond.fieldLink RX8 74 "AlikeHandsModel" "length" "I", Cond.fieldLink RX8 28 "AlikeHandsModel" "tape" "[I", Cond.methodLink RX8 90 yX8_isLetter, Cond.static yX8_isLetter, Cond.code yX8_isLetter cX8_isLetter 1 (some .boolean), Cond.methodLink RX8 93 yX8_isFigure, Cond.static yX8_isFigure, Cond.code yX8_isFigure cX8_isFigure 1 (some .boolean)]
def wsX8_mustEnd : List Cond := .code yX8_mustEnd cX8_mustEnd 1 none :: ((wsX8_mustEnd_r1 ++ wsX8_mustEnd_r2) ++ wsX80)
def wsX8_readHand_r1 : List Cond := [Cond.fieldLink RX8 22 "AlikeHandsModel" "fresh" "[I", Cond.fieldLink RX8 99 "AlikeHandsModel" "fault" "I", Cond.constant RX8 77 (-1000000), Cond.methodLink RX8 108 yX8_bad, Cond.instanceMethod yX8_bad, Cond.selects RX8 yX8_bad yX8_bad, Cond.initialized RX8, Cond.code yX8_bad cX8_bad 2 none, Cond.fieldLink RX8 84 "AlikeHandsModel" "start" "I", Cond.fieldLink RX8 105 "AlikeHandsModel" "faultAt" "I", Cond.methodLink RX8 116 yX8_must, Cond.instanceMethod yX8_must, Cond.selects RX8 yX8_must yX8_must, Cond.code yX8_must cX8_must 2 none, Cond.methodLink RX8 102 yX8_nextToken, Cond.instanceMethod yX8_nextToken, Cond.selects RX8 yX8_nextToken yX8_nextToken, Cond.code yX8_nextToken cX8_nextToken 2 none, Cond.fieldLink RX8 78 "AlikeHandsModel" "cursor" "I", Cond.fieldLink RX8 87 "AlikeHandsModel" "token" "I", Cond.fieldLink RX8 96 "AlikeHandsModel" "till" "I", Cond.methodLink RX8 81 yX8_byteAt, Cond.instanceMethod yX8_byteAt, Cond.selects RX8 yX8_byteAt yX8_byteAt]
def wsX8_readHand_r2 : List Cond := [Cond.code yX8_byteAt cX8_byteAt 2 (some .int), Cond.fieldLink RX8 74 "AlikeHandsModel" "length" "I", Cond.fieldLink RX8 28 "AlikeHandsModel" "tape" "[I", Cond.methodLink RX8 90 yX8_isLetter, Cond.static yX8_isLetter, Cond.code yX8_isLetter cX8_isLetter 1 (some .boolean), Cond.methodLink RX8 93 yX8_isFigure, Cond.static yX8_isFigure, Cond.code yX8_isFigure cX8_isFigure 1 (some .boolean), Cond.methodLink RX8 130 yX8_name, Cond.instanceMethod yX8_name, Cond.selects RX8 yX8_name yX8_name, Cond.code yX8_name cX8_name 4 (some .long), Cond.methodLink RX8 134 yX8_kindBy, Cond.static yX8_kindBy, Cond.code yX8_kindBy cX8_kindBy 2 (some .int), Cond.constantLong RX8 120 (1752135026), Cond.constantLong RX8 122 (1836019566), Cond.constantLong RX8 124 (495924372848), Cond.constantLong RX8 126 (1650549611), Cond.constantLong RX8 128 (1953064037), Cond.methodLink RX8 138 yX8_number, Cond.instanceMethod yX8_number, Cond.selects RX8 yX8_number yX8_number]
def wsX8_readHand_r3 : List Cond := [Cond.code yX8_number cX8_number 4 (some .int), Cond.methodLink RX8 112 yX8_figures, Cond.instanceMethod yX8_figures, Cond.selects RX8 yX8_figures yX8_figures, Cond.code yX8_figures cX8_figures 3 (some .int), Cond.methodLink RX8 51 yX8_in, Cond.static yX8_in, Cond.code yX8_in cX8_in 6 (some .boolean), Cond.methodLink RX8 142 yX8_mustEnd, Cond.instanceMethod yX8_mustEnd, Cond.selects RX8 yX8_mustEnd yX8_mustEnd, Cond.code yX8_mustEnd cX8_mustEnd 1 none]
def wsX8_readHand : List Cond := .code yX8_readHand cX8_readHand 3 none :: ((wsX8_readHand_r1 ++ (wsX8_readHand_r2 ++ wsX8_readHand_r3)) ++ wsX80)
def wsX8_clock_r1 : List Cond := [Cond.fieldLink RX8 41 "AlikeHandsModel" "thrown" "I", Cond.fieldLink RX8 22 "AlikeHandsModel" "fresh" "[I", Cond.constantLong RX8 148 (1684627820), Cond.constantLong RX8 150 (1751215716), Cond.fieldLink RX8 99 "AlikeHandsModel" "fault" "I", Cond.fieldLink RX8 87 "AlikeHandsModel" "token" "I", Cond.fieldLink RX8 155 "AlikeHandsModel" "latest" "I", Cond.constant RX8 158 (-1000100), Cond.fieldLink RX8 105 "AlikeHandsModel" "faultAt" "I", Cond.fieldLink RX8 159 "AlikeHandsModel" "acts" "I", Cond.fieldLink RX8 19 "AlikeHandsModel" "clock" "[I", Cond.methodLink RX8 145 yX8_begin, Cond.instanceMethod yX8_begin, Cond.selects RX8 yX8_begin yX8_begin, Cond.initialized RX8, Cond.code yX8_begin cX8_begin 1 none, Cond.fieldLink RX8 68 "AlikeHandsModel" "taped" "I", Cond.fieldLink RX8 74 "AlikeHandsModel" "length" "I", Cond.fieldLink RX8 78 "AlikeHandsModel" "cursor" "I", Cond.methodLink RX8 102 yX8_nextToken, Cond.instanceMethod yX8_nextToken, Cond.selects RX8 yX8_nextToken yX8_nextToken, Cond.code yX8_nextToken cX8_nextToken 2 none, Cond.fieldLink RX8 84 "AlikeHandsModel" "start" "I"]
def wsX8_clock_r2 : List Cond := [Cond.constant RX8 77 (-1000000), Cond.fieldLink RX8 96 "AlikeHandsModel" "till" "I", Cond.methodLink RX8 81 yX8_byteAt, Cond.instanceMethod yX8_byteAt, Cond.selects RX8 yX8_byteAt yX8_byteAt, Cond.code yX8_byteAt cX8_byteAt 2 (some .int), Cond.fieldLink RX8 28 "AlikeHandsModel" "tape" "[I", Cond.methodLink RX8 90 yX8_isLetter, Cond.static yX8_isLetter, Cond.code yX8_isLetter cX8_isLetter 1 (some .boolean), Cond.methodLink RX8 93 yX8_isFigure, Cond.static yX8_isFigure, Cond.code yX8_isFigure cX8_isFigure 1 (some .boolean), Cond.methodLink RX8 130 yX8_name, Cond.instanceMethod yX8_name, Cond.selects RX8 yX8_name yX8_name, Cond.code yX8_name cX8_name 4 (some .long), Cond.methodLink RX8 116 yX8_must, Cond.instanceMethod yX8_must, Cond.selects RX8 yX8_must yX8_must, Cond.code yX8_must cX8_must 2 none, Cond.methodLink RX8 108 yX8_bad, Cond.instanceMethod yX8_bad, Cond.selects RX8 yX8_bad yX8_bad]
def wsX8_clock_r3 : List Cond := [Cond.code yX8_bad cX8_bad 2 none, Cond.methodLink RX8 138 yX8_number, Cond.instanceMethod yX8_number, Cond.selects RX8 yX8_number yX8_number, Cond.code yX8_number cX8_number 4 (some .int), Cond.methodLink RX8 112 yX8_figures, Cond.instanceMethod yX8_figures, Cond.selects RX8 yX8_figures yX8_figures, Cond.code yX8_figures cX8_figures 3 (some .int), Cond.methodLink RX8 51 yX8_in, Cond.static yX8_in, Cond.code yX8_in cX8_in 6 (some .boolean), Cond.methodLink RX8 142 yX8_mustEnd, Cond.instanceMethod yX8_mustEnd, Cond.selects RX8 yX8_mustEnd yX8_mustEnd, Cond.code yX8_mustEnd cX8_mustEnd 1 none, Cond.methodLink RX8 152 yX8_readHand, Cond.instanceMethod yX8_readHand, Cond.selects RX8 yX8_readHand yX8_readHand, Cond.code yX8_readHand cX8_readHand 3 none, Cond.methodLink RX8 134 yX8_kindBy, Cond.static yX8_kindBy, Cond.code yX8_kindBy cX8_kindBy 2 (some .int), Cond.constantLong RX8 120 (1752135026)]
def wsX8_clock_r4 : List Cond := [Cond.constantLong RX8 122 (1836019566), Cond.constantLong RX8 124 (495924372848), Cond.constantLong RX8 126 (1650549611), Cond.constantLong RX8 128 (1953064037)]
def wsX8_clock : List Cond := .code yX8_clock cX8_clock 2 (some .int) :: ((wsX8_clock_r1 ++ (wsX8_clock_r2 ++ (wsX8_clock_r3 ++ wsX8_clock_r4))) ++ wsX80)
def wsX8_fault : List Cond := .code yX8_fault cX8_fault 1 (some .int) :: ([.fieldLink RX8 41 "AlikeHandsModel" "thrown" "I", .fieldLink RX8 155 "AlikeHandsModel" "latest" "I"] ++ wsX80)
def wsX8_isThere : List Cond := .code yX8_isThere cX8_isThere 1 (some .boolean) :: ([.fieldLink RX8 19 "AlikeHandsModel" "clock" "[I"] ++ wsX80)
def wsX8_isHand : List Cond := .code yX8_isHand cX8_isHand 2 (some .boolean) :: ([.fieldLink RX8 19 "AlikeHandsModel" "clock" "[I", .methodLink RX8 51 yX8_in, .static yX8_in, .initialized RX8, .code yX8_in cX8_in 6 (some .boolean)] ++ wsX80)
def wsX8_areTwo : List Cond := .code yX8_areTwo cX8_areTwo 3 (some .boolean) :: ([.methodLink RX8 162 yX8_isHand, .instanceMethod yX8_isHand, .selects RX8 yX8_isHand yX8_isHand, .initialized RX8, .code yX8_isHand cX8_isHand 2 (some .boolean), .fieldLink RX8 19 "AlikeHandsModel" "clock" "[I", .methodLink RX8 51 yX8_in, .static yX8_in, .code yX8_in cX8_in 6 (some .boolean)] ++ wsX80)
def wsX8_isMoment : List Cond := .code yX8_isMoment cX8_isMoment 2 (some .boolean) :: ([.constantLong RX8 165 (9999), .methodLink RX8 51 yX8_in, .static yX8_in, .initialized RX8, .code yX8_in cX8_in 6 (some .boolean)])
def wsX8_of : List Cond := .code yX8_of cX8_of 3 (some .int) :: ([.fieldLink RX8 19 "AlikeHandsModel" "clock" "[I"] ++ wsX80)
def wsX8_speed : List Cond := .code yX8_speed cX8_speed 2 (some .int) :: ([.methodLink RX8 167 yX8_of, .instanceMethod yX8_of, .selects RX8 yX8_of yX8_of, .initialized RX8, .code yX8_of cX8_of 3 (some .int), .fieldLink RX8 19 "AlikeHandsModel" "clock" "[I"] ++ wsX80)
def wsX8_size : List Cond := .code yX8_size cX8_size 1 (some .int) :: ([])
def wsX8_rest : List Cond := .code yX8_rest cX8_rest 3 (some .int) :: ([])
def wsX8_divisor : List Cond := .code yX8_divisor cX8_divisor 5 (some .int) :: ([])
def wsX8_told : List Cond := .code yX8_told cX8_told 3 (some .int) :: ([.methodLink RX8 170 yX8_divisor, .static yX8_divisor, .initialized RX8, .code yX8_divisor cX8_divisor 5 (some .int)])
def wsX8_slip : List Cond := .code yX8_slip cX8_slip 4 (some .int) :: ([.fieldLink RX8 41 "AlikeHandsModel" "thrown" "I", .constantLong RX8 173 (-60), .constantLong RX8 175 (60), .constant RX8 61 (-1000001), .fieldLink RX8 159 "AlikeHandsModel" "acts" "I", .fieldLink RX8 25 "AlikeHandsModel" "was" "[I", .fieldLink RX8 19 "AlikeHandsModel" "clock" "[I", .methodLink RX8 162 yX8_isHand, .instanceMethod yX8_isHand, .selects RX8 yX8_isHand yX8_isHand, .initialized RX8, .code yX8_isHand cX8_isHand 2 (some .boolean), .methodLink RX8 51 yX8_in, .static yX8_in, .code yX8_in cX8_in 6 (some .boolean), .methodLink RX8 167 yX8_of, .instanceMethod yX8_of, .selects RX8 yX8_of yX8_of, .code yX8_of cX8_of 3 (some .int), .methodLink RX8 177 yX8_rest, .static yX8_rest, .code yX8_rest cX8_rest 3 (some .int)] ++ wsX80)
def wsX8_undo : List Cond := .code yX8_undo cX8_undo 2 (some .int) :: ([.fieldLink RX8 41 "AlikeHandsModel" "thrown" "I", .fieldLink RX8 159 "AlikeHandsModel" "acts" "I", .constant RX8 180 (-1000002), .fieldLink RX8 19 "AlikeHandsModel" "clock" "[I", .fieldLink RX8 25 "AlikeHandsModel" "was" "[I"] ++ wsX80)
def wsX8_hand : List Cond := .code yX8_hand cX8_hand 3 (some .int) :: ([.fieldLink RX8 41 "AlikeHandsModel" "thrown" "I", .constantLong RX8 59 (2), .constant RX8 61 (-1000001), .methodLink RX8 162 yX8_isHand, .instanceMethod yX8_isHand, .selects RX8 yX8_isHand yX8_isHand, .initialized RX8, .code yX8_isHand cX8_isHand 2 (some .boolean), .fieldLink RX8 19 "AlikeHandsModel" "clock" "[I", .methodLink RX8 51 yX8_in, .static yX8_in, .code yX8_in cX8_in 6 (some .boolean), .methodLink RX8 167 yX8_of, .instanceMethod yX8_of, .selects RX8 yX8_of yX8_of, .code yX8_of cX8_of 3 (some .int), .methodLink RX8 181 yX8_speed, .instanceMethod yX8_speed, .selects RX8 yX8_speed yX8_speed, .code yX8_speed cX8_speed 2 (some .int)] ++ wsX80)
def wsX8_arc : List Cond := .code yX8_arc cX8_arc 4 (some .int) :: ([.fieldLink RX8 19 "AlikeHandsModel" "clock" "[I", .methodLink RX8 181 yX8_speed, .instanceMethod yX8_speed, .selects RX8 yX8_speed yX8_speed, .initialized RX8, .code yX8_speed cX8_speed 2 (some .int), .methodLink RX8 167 yX8_of, .instanceMethod yX8_of, .selects RX8 yX8_of yX8_of, .code yX8_of cX8_of 3 (some .int), .methodLink RX8 177 yX8_rest, .static yX8_rest, .code yX8_rest cX8_rest 3 (some .int)] ++ wsX80)
def wsX8_points_r1 : List Cond := [Cond.fieldLink RX8 41 "AlikeHandsModel" "thrown" "I", Cond.constant RX8 61 (-1000001), Cond.fieldLink RX8 19 "AlikeHandsModel" "clock" "[I", Cond.methodLink RX8 162 yX8_isHand, Cond.instanceMethod yX8_isHand, Cond.selects RX8 yX8_isHand yX8_isHand, Cond.initialized RX8, Cond.code yX8_isHand cX8_isHand 2 (some .boolean), Cond.methodLink RX8 51 yX8_in, Cond.static yX8_in, Cond.code yX8_in cX8_in 6 (some .boolean), Cond.methodLink RX8 184 yX8_isMoment, Cond.static yX8_isMoment, Cond.code yX8_isMoment cX8_isMoment 2 (some .boolean), Cond.constantLong RX8 165 (9999), Cond.methodLink RX8 188 yX8_arc, Cond.instanceMethod yX8_arc, Cond.selects RX8 yX8_arc yX8_arc, Cond.code yX8_arc cX8_arc 4 (some .int), Cond.methodLink RX8 181 yX8_speed, Cond.instanceMethod yX8_speed, Cond.selects RX8 yX8_speed yX8_speed, Cond.code yX8_speed cX8_speed 2 (some .int), Cond.methodLink RX8 167 yX8_of]
def wsX8_points_r2 : List Cond := [Cond.instanceMethod yX8_of, Cond.selects RX8 yX8_of yX8_of, Cond.code yX8_of cX8_of 3 (some .int), Cond.methodLink RX8 177 yX8_rest, Cond.static yX8_rest, Cond.code yX8_rest cX8_rest 3 (some .int), Cond.methodLink RX8 192 yX8_told, Cond.static yX8_told, Cond.code yX8_told cX8_told 3 (some .int), Cond.methodLink RX8 170 yX8_divisor, Cond.static yX8_divisor, Cond.code yX8_divisor cX8_divisor 5 (some .int)]
def wsX8_points : List Cond := .code yX8_points cX8_points 5 (some .int) :: ((wsX8_points_r1 ++ wsX8_points_r2) ++ wsX80)
def wsX8_partsOf : List Cond := .code yX8_partsOf cX8_partsOf 3 (some .int) :: ([.methodLink RX8 181 yX8_speed, .instanceMethod yX8_speed, .selects RX8 yX8_speed yX8_speed, .initialized RX8, .code yX8_speed cX8_speed 2 (some .int), .methodLink RX8 167 yX8_of, .instanceMethod yX8_of, .selects RX8 yX8_of yX8_of, .code yX8_of cX8_of 3 (some .int), .fieldLink RX8 19 "AlikeHandsModel" "clock" "[I", .methodLink RX8 195 yX8_size, .static yX8_size, .code yX8_size cX8_size 1 (some .int)] ++ wsX80)
def wsX8_otherOf : List Cond := .code yX8_otherOf cX8_otherOf 8 (some .int) :: ([.constant RX8 77 (-1000000), .methodLink RX8 198 yX8_partsOf, .instanceMethod yX8_partsOf, .selects RX8 yX8_partsOf yX8_partsOf, .initialized RX8, .code yX8_partsOf cX8_partsOf 3 (some .int), .methodLink RX8 181 yX8_speed, .instanceMethod yX8_speed, .selects RX8 yX8_speed yX8_speed, .code yX8_speed cX8_speed 2 (some .int), .methodLink RX8 167 yX8_of, .instanceMethod yX8_of, .selects RX8 yX8_of yX8_of, .code yX8_of cX8_of 3 (some .int), .fieldLink RX8 19 "AlikeHandsModel" "clock" "[I", .methodLink RX8 195 yX8_size, .static yX8_size, .code yX8_size cX8_size 1 (some .int)] ++ wsX80)
def wsX8_doubts_r1 : List Cond := [Cond.fieldLink RX8 41 "AlikeHandsModel" "thrown" "I", Cond.constant RX8 61 (-1000001), Cond.constant RX8 77 (-1000000), Cond.methodLink RX8 201 yX8_areTwo, Cond.instanceMethod yX8_areTwo, Cond.selects RX8 yX8_areTwo yX8_areTwo, Cond.initialized RX8, Cond.code yX8_areTwo cX8_areTwo 3 (some .boolean), Cond.methodLink RX8 162 yX8_isHand, Cond.instanceMethod yX8_isHand, Cond.selects RX8 yX8_isHand yX8_isHand, Cond.code yX8_isHand cX8_isHand 2 (some .boolean), Cond.fieldLink RX8 19 "AlikeHandsModel" "clock" "[I", Cond.methodLink RX8 51 yX8_in, Cond.static yX8_in, Cond.code yX8_in cX8_in 6 (some .boolean), Cond.methodLink RX8 198 yX8_partsOf, Cond.instanceMethod yX8_partsOf, Cond.selects RX8 yX8_partsOf yX8_partsOf, Cond.code yX8_partsOf cX8_partsOf 3 (some .int), Cond.methodLink RX8 181 yX8_speed, Cond.instanceMethod yX8_speed, Cond.selects RX8 yX8_speed yX8_speed, Cond.code yX8_speed cX8_speed 2 (some .int)]
def wsX8_doubts_r2 : List Cond := [Cond.methodLink RX8 167 yX8_of, Cond.instanceMethod yX8_of, Cond.selects RX8 yX8_of yX8_of, Cond.code yX8_of cX8_of 3 (some .int), Cond.methodLink RX8 195 yX8_size, Cond.static yX8_size, Cond.code yX8_size cX8_size 1 (some .int), Cond.methodLink RX8 204 yX8_otherOf, Cond.instanceMethod yX8_otherOf, Cond.selects RX8 yX8_otherOf yX8_otherOf, Cond.code yX8_otherOf cX8_otherOf 8 (some .int)]
def wsX8_doubts : List Cond := .code yX8_doubts cX8_doubts 6 (some .int) :: ((wsX8_doubts_r1 ++ wsX8_doubts_r2) ++ wsX80)
def wsX8_doubt_r1 : List Cond := [Cond.fieldLink RX8 41 "AlikeHandsModel" "thrown" "I", Cond.constantLong RX8 207 (3), Cond.constant RX8 61 (-1000001), Cond.constant RX8 77 (-1000000), Cond.methodLink RX8 201 yX8_areTwo, Cond.instanceMethod yX8_areTwo, Cond.selects RX8 yX8_areTwo yX8_areTwo, Cond.initialized RX8, Cond.code yX8_areTwo cX8_areTwo 3 (some .boolean), Cond.methodLink RX8 162 yX8_isHand, Cond.instanceMethod yX8_isHand, Cond.selects RX8 yX8_isHand yX8_isHand, Cond.code yX8_isHand cX8_isHand 2 (some .boolean), Cond.fieldLink RX8 19 "AlikeHandsModel" "clock" "[I", Cond.methodLink RX8 51 yX8_in, Cond.static yX8_in, Cond.code yX8_in cX8_in 6 (some .boolean), Cond.methodLink RX8 198 yX8_partsOf, Cond.instanceMethod yX8_partsOf, Cond.selects RX8 yX8_partsOf yX8_partsOf, Cond.code yX8_partsOf cX8_partsOf 3 (some .int), Cond.methodLink RX8 181 yX8_speed, Cond.instanceMethod yX8_speed, Cond.selects RX8 yX8_speed yX8_speed]
def wsX8_doubt_r2 : List Cond := [Cond.code yX8_speed cX8_speed 2 (some .int), Cond.methodLink RX8 167 yX8_of, Cond.instanceMethod yX8_of, Cond.selects RX8 yX8_of yX8_of, Cond.code yX8_of cX8_of 3 (some .int), Cond.methodLink RX8 195 yX8_size, Cond.static yX8_size, Cond.code yX8_size cX8_size 1 (some .int), Cond.methodLink RX8 204 yX8_otherOf, Cond.instanceMethod yX8_otherOf, Cond.selects RX8 yX8_otherOf yX8_otherOf, Cond.code yX8_otherOf cX8_otherOf 8 (some .int), Cond.methodLink RX8 192 yX8_told, Cond.static yX8_told, Cond.code yX8_told cX8_told 3 (some .int), Cond.methodLink RX8 170 yX8_divisor, Cond.static yX8_divisor, Cond.code yX8_divisor cX8_divisor 5 (some .int)]
def wsX8_doubt : List Cond := .code yX8_doubt cX8_doubt 9 (some .int) :: ((wsX8_doubt_r1 ++ wsX8_doubt_r2) ++ wsX80)
def wsX8_isDoubt_r1 : List Cond := [Cond.fieldLink RX8 41 "AlikeHandsModel" "thrown" "I", Cond.constant RX8 61 (-1000001), Cond.constant RX8 77 (-1000000), Cond.methodLink RX8 201 yX8_areTwo, Cond.instanceMethod yX8_areTwo, Cond.selects RX8 yX8_areTwo yX8_areTwo, Cond.initialized RX8, Cond.code yX8_areTwo cX8_areTwo 3 (some .boolean), Cond.methodLink RX8 162 yX8_isHand, Cond.instanceMethod yX8_isHand, Cond.selects RX8 yX8_isHand yX8_isHand, Cond.code yX8_isHand cX8_isHand 2 (some .boolean), Cond.fieldLink RX8 19 "AlikeHandsModel" "clock" "[I", Cond.methodLink RX8 51 yX8_in, Cond.static yX8_in, Cond.code yX8_in cX8_in 6 (some .boolean), Cond.methodLink RX8 184 yX8_isMoment, Cond.static yX8_isMoment, Cond.code yX8_isMoment cX8_isMoment 2 (some .boolean), Cond.constantLong RX8 165 (9999), Cond.methodLink RX8 198 yX8_partsOf, Cond.instanceMethod yX8_partsOf, Cond.selects RX8 yX8_partsOf yX8_partsOf, Cond.code yX8_partsOf cX8_partsOf 3 (some .int)]
def wsX8_isDoubt_r2 : List Cond := [Cond.methodLink RX8 181 yX8_speed, Cond.instanceMethod yX8_speed, Cond.selects RX8 yX8_speed yX8_speed, Cond.code yX8_speed cX8_speed 2 (some .int), Cond.methodLink RX8 167 yX8_of, Cond.instanceMethod yX8_of, Cond.selects RX8 yX8_of yX8_of, Cond.code yX8_of cX8_of 3 (some .int), Cond.methodLink RX8 195 yX8_size, Cond.static yX8_size, Cond.code yX8_size cX8_size 1 (some .int), Cond.methodLink RX8 204 yX8_otherOf, Cond.instanceMethod yX8_otherOf, Cond.selects RX8 yX8_otherOf yX8_otherOf, Cond.code yX8_otherOf cX8_otherOf 8 (some .int)]
def wsX8_isDoubt : List Cond := .code yX8_isDoubt cX8_isDoubt 6 (some .int) :: ((wsX8_isDoubt_r1 ++ wsX8_isDoubt_r2) ++ wsX80)
def wsX8_isSo : List Cond := .code yX8_isSo cX8_isSo 2 (some .boolean) :: ([])
def wsX8_next_r1 : List Cond := [Cond.fieldLink RX8 41 "AlikeHandsModel" "thrown" "I", Cond.constantLong RX8 59 (2), Cond.constant RX8 61 (-1000001), Cond.constant RX8 77 (-1000000), Cond.methodLink RX8 201 yX8_areTwo, Cond.instanceMethod yX8_areTwo, Cond.selects RX8 yX8_areTwo yX8_areTwo, Cond.initialized RX8, Cond.code yX8_areTwo cX8_areTwo 3 (some .boolean), Cond.methodLink RX8 162 yX8_isHand, Cond.instanceMethod yX8_isHand, Cond.selects RX8 yX8_isHand yX8_isHand, Cond.code yX8_isHand cX8_isHand 2 (some .boolean), Cond.fieldLink RX8 19 "AlikeHandsModel" "clock" "[I", Cond.methodLink RX8 51 yX8_in, Cond.static yX8_in, Cond.code yX8_in cX8_in 6 (some .boolean), Cond.methodLink RX8 184 yX8_isMoment, Cond.static yX8_isMoment, Cond.code yX8_isMoment cX8_isMoment 2 (some .boolean), Cond.constantLong RX8 165 (9999), Cond.methodLink RX8 181 yX8_speed, Cond.instanceMethod yX8_speed, Cond.selects RX8 yX8_speed yX8_speed]
def wsX8_next_r2 : List Cond := [Cond.code yX8_speed cX8_speed 2 (some .int), Cond.methodLink RX8 167 yX8_of, Cond.instanceMethod yX8_of, Cond.selects RX8 yX8_of yX8_of, Cond.code yX8_of cX8_of 3 (some .int), Cond.methodLink RX8 195 yX8_size, Cond.static yX8_size, Cond.code yX8_size cX8_size 1 (some .int), Cond.methodLink RX8 209 yX8_isSo, Cond.static yX8_isSo, Cond.code yX8_isSo cX8_isSo 2 (some .boolean), Cond.methodLink RX8 192 yX8_told, Cond.static yX8_told, Cond.code yX8_told cX8_told 3 (some .int), Cond.methodLink RX8 170 yX8_divisor, Cond.static yX8_divisor, Cond.code yX8_divisor cX8_divisor 5 (some .int)]
def wsX8_next : List Cond := .code yX8_next cX8_next 11 (some .int) :: ((wsX8_next_r1 ++ wsX8_next_r2) ++ wsX80)
def wsX8_often_r1 : List Cond := [Cond.fieldLink RX8 41 "AlikeHandsModel" "thrown" "I", Cond.constantLong RX8 59 (2), Cond.constant RX8 61 (-1000001), Cond.constant RX8 77 (-1000000), Cond.methodLink RX8 201 yX8_areTwo, Cond.instanceMethod yX8_areTwo, Cond.selects RX8 yX8_areTwo yX8_areTwo, Cond.initialized RX8, Cond.code yX8_areTwo cX8_areTwo 3 (some .boolean), Cond.methodLink RX8 162 yX8_isHand, Cond.instanceMethod yX8_isHand, Cond.selects RX8 yX8_isHand yX8_isHand, Cond.code yX8_isHand cX8_isHand 2 (some .boolean), Cond.fieldLink RX8 19 "AlikeHandsModel" "clock" "[I", Cond.methodLink RX8 51 yX8_in, Cond.static yX8_in, Cond.code yX8_in cX8_in 6 (some .boolean), Cond.methodLink RX8 181 yX8_speed, Cond.instanceMethod yX8_speed, Cond.selects RX8 yX8_speed yX8_speed, Cond.code yX8_speed cX8_speed 2 (some .int), Cond.methodLink RX8 167 yX8_of, Cond.instanceMethod yX8_of, Cond.selects RX8 yX8_of yX8_of]
def wsX8_often_r2 : List Cond := [Cond.code yX8_of cX8_of 3 (some .int), Cond.methodLink RX8 195 yX8_size, Cond.static yX8_size, Cond.code yX8_size cX8_size 1 (some .int)]
def wsX8_often : List Cond := .code yX8_often cX8_often 5 (some .int) :: ((wsX8_often_r1 ++ wsX8_often_r2) ++ wsX80)
def wsX8_all : List Cond := .code yX8_all cX8_all 3 (some .int) :: ([.fieldLink RX8 41 "AlikeHandsModel" "thrown" "I", .constant RX8 180 (-1000002), .fieldLink RX8 19 "AlikeHandsModel" "clock" "[I", .constant RX8 77 (-1000000), .methodLink RX8 212 yX8_isThere, .instanceMethod yX8_isThere, .selects RX8 yX8_isThere yX8_isThere, .initialized RX8, .code yX8_isThere cX8_isThere 1 (some .boolean), .methodLink RX8 181 yX8_speed, .instanceMethod yX8_speed, .selects RX8 yX8_speed yX8_speed, .code yX8_speed cX8_speed 2 (some .int), .methodLink RX8 167 yX8_of, .instanceMethod yX8_of, .selects RX8 yX8_of yX8_of, .code yX8_of cX8_of 3 (some .int), .methodLink RX8 195 yX8_size, .static yX8_size, .code yX8_size cX8_size 1 (some .int), .methodLink RX8 170 yX8_divisor, .static yX8_divisor, .code yX8_divisor cX8_divisor 5 (some .int)] ++ wsX80)
def wsX8_isTrue : List Cond := .code yX8_isTrue cX8_isTrue 14 (some .boolean) :: ([.constant RX8 77 (-1000000), .fieldLink RX8 216 "AlikeHandsModel" "least" "I", .fieldLink RX8 219 "AlikeHandsModel" "leastOf" "I", .fieldLink RX8 19 "AlikeHandsModel" "clock" "[I", .fieldLink RX8 16 "AlikeHandsModel" "item" "[I", .methodLink RX8 181 yX8_speed, .instanceMethod yX8_speed, .selects RX8 yX8_speed yX8_speed, .initialized RX8, .code yX8_speed cX8_speed 2 (some .int), .methodLink RX8 167 yX8_of, .instanceMethod yX8_of, .selects RX8 yX8_of yX8_of, .code yX8_of cX8_of 3 (some .int), .methodLink RX8 195 yX8_size, .static yX8_size, .code yX8_size cX8_size 1 (some .int), .methodLink RX8 177 yX8_rest, .static yX8_rest, .code yX8_rest cX8_rest 3 (some .int)] ++ wsX80)
def wsX8_lacks : List Cond := .code yX8_lacks cX8_lacks 4 (some .int) :: ([.fieldLink RX8 7 "AlikeHandsModel" "lane" "[I", .fieldLink RX8 13 "AlikeHandsModel" "many" "[I"] ++ wsX80)
def wsX8_areArcs : List Cond := .code yX8_areArcs cX8_areArcs 6 (some .boolean) :: ([.fieldLink RX8 16 "AlikeHandsModel" "item" "[I", .methodLink RX8 51 yX8_in, .static yX8_in, .initialized RX8, .code yX8_in cX8_in 6 (some .boolean)] ++ wsX80)
def wsX8_lies_r1 : List Cond := [Cond.fieldLink RX8 41 "AlikeHandsModel" "thrown" "I", Cond.constant RX8 180 (-1000002), Cond.constantLong RX8 222 (720), Cond.constantLong RX8 207 (3), Cond.constant RX8 61 (-1000001), Cond.fieldLink RX8 19 "AlikeHandsModel" "clock" "[I", Cond.fieldLink RX8 45 "AlikeHandsModel" "status" "I", Cond.constant RX8 77 (-1000000), Cond.fieldLink RX8 216 "AlikeHandsModel" "least" "I", Cond.fieldLink RX8 219 "AlikeHandsModel" "leastOf" "I", Cond.methodLink RX8 212 yX8_isThere, Cond.instanceMethod yX8_isThere, Cond.selects RX8 yX8_isThere yX8_isThere, Cond.initialized RX8, Cond.code yX8_isThere cX8_isThere 1 (some .boolean), Cond.methodLink RX8 55 yX8_isRow, Cond.static yX8_isRow, Cond.code yX8_isRow cX8_isRow 1 (some .boolean), Cond.constantLong RX8 49 (7), Cond.methodLink RX8 51 yX8_in, Cond.static yX8_in, Cond.code yX8_in cX8_in 6 (some .boolean), Cond.methodLink RX8 224 yX8_lacks, Cond.instanceMethod yX8_lacks]
def wsX8_lies_r2 : List Cond := [Cond.selects RX8 yX8_lacks yX8_lacks, Cond.code yX8_lacks cX8_lacks 4 (some .int), Cond.fieldLink RX8 7 "AlikeHandsModel" "lane" "[I", Cond.fieldLink RX8 13 "AlikeHandsModel" "many" "[I", Cond.methodLink RX8 62 yX8_finding, Cond.instanceMethod yX8_finding, Cond.selects RX8 yX8_finding yX8_finding, Cond.code yX8_finding cX8_finding 2 (some .int), Cond.constant RX8 48 (-1000010), Cond.methodLink RX8 227 yX8_areArcs, Cond.instanceMethod yX8_areArcs, Cond.selects RX8 yX8_areArcs yX8_areArcs, Cond.code yX8_areArcs cX8_areArcs 6 (some .boolean), Cond.fieldLink RX8 16 "AlikeHandsModel" "item" "[I", Cond.methodLink RX8 231 yX8_isTrue, Cond.instanceMethod yX8_isTrue, Cond.selects RX8 yX8_isTrue yX8_isTrue, Cond.code yX8_isTrue cX8_isTrue 14 (some .boolean), Cond.methodLink RX8 181 yX8_speed, Cond.instanceMethod yX8_speed, Cond.selects RX8 yX8_speed yX8_speed, Cond.code yX8_speed cX8_speed 2 (some .int), Cond.methodLink RX8 167 yX8_of, Cond.instanceMethod yX8_of]
def wsX8_lies_r3 : List Cond := [Cond.selects RX8 yX8_of yX8_of, Cond.code yX8_of cX8_of 3 (some .int), Cond.methodLink RX8 195 yX8_size, Cond.static yX8_size, Cond.code yX8_size cX8_size 1 (some .int), Cond.methodLink RX8 177 yX8_rest, Cond.static yX8_rest, Cond.code yX8_rest cX8_rest 3 (some .int), Cond.methodLink RX8 192 yX8_told, Cond.static yX8_told, Cond.code yX8_told cX8_told 3 (some .int), Cond.methodLink RX8 170 yX8_divisor, Cond.static yX8_divisor, Cond.code yX8_divisor cX8_divisor 5 (some .int)]
def wsX8_lies : List Cond := .code yX8_lies cX8_lies 9 (some .int) :: ((wsX8_lies_r1 ++ (wsX8_lies_r2 ++ wsX8_lies_r3)) ++ wsX80)
def wsX8_firstLie_r1 : List Cond := [Cond.fieldLink RX8 41 "AlikeHandsModel" "thrown" "I", Cond.constant RX8 180 (-1000002), Cond.constantLong RX8 234 (10), Cond.constantLong RX8 222 (720), Cond.constant RX8 61 (-1000001), Cond.fieldLink RX8 19 "AlikeHandsModel" "clock" "[I", Cond.fieldLink RX8 45 "AlikeHandsModel" "status" "I", Cond.constant RX8 77 (-1000000), Cond.methodLink RX8 212 yX8_isThere, Cond.instanceMethod yX8_isThere, Cond.selects RX8 yX8_isThere yX8_isThere, Cond.initialized RX8, Cond.code yX8_isThere cX8_isThere 1 (some .boolean), Cond.methodLink RX8 55 yX8_isRow, Cond.static yX8_isRow, Cond.code yX8_isRow cX8_isRow 1 (some .boolean), Cond.constantLong RX8 49 (7), Cond.methodLink RX8 51 yX8_in, Cond.static yX8_in, Cond.code yX8_in cX8_in 6 (some .boolean), Cond.methodLink RX8 224 yX8_lacks, Cond.instanceMethod yX8_lacks, Cond.selects RX8 yX8_lacks yX8_lacks, Cond.code yX8_lacks cX8_lacks 4 (some .int)]
def wsX8_firstLie_r2 : List Cond := [Cond.fieldLink RX8 7 "AlikeHandsModel" "lane" "[I", Cond.fieldLink RX8 13 "AlikeHandsModel" "many" "[I", Cond.methodLink RX8 62 yX8_finding, Cond.instanceMethod yX8_finding, Cond.selects RX8 yX8_finding yX8_finding, Cond.code yX8_finding cX8_finding 2 (some .int), Cond.constant RX8 48 (-1000010), Cond.methodLink RX8 227 yX8_areArcs, Cond.instanceMethod yX8_areArcs, Cond.selects RX8 yX8_areArcs yX8_areArcs, Cond.code yX8_areArcs cX8_areArcs 6 (some .boolean), Cond.fieldLink RX8 16 "AlikeHandsModel" "item" "[I", Cond.methodLink RX8 231 yX8_isTrue, Cond.instanceMethod yX8_isTrue, Cond.selects RX8 yX8_isTrue yX8_isTrue, Cond.code yX8_isTrue cX8_isTrue 14 (some .boolean), Cond.fieldLink RX8 216 "AlikeHandsModel" "least" "I", Cond.fieldLink RX8 219 "AlikeHandsModel" "leastOf" "I", Cond.methodLink RX8 181 yX8_speed, Cond.instanceMethod yX8_speed, Cond.selects RX8 yX8_speed yX8_speed, Cond.code yX8_speed cX8_speed 2 (some .int), Cond.methodLink RX8 167 yX8_of, Cond.instanceMethod yX8_of]
def wsX8_firstLie_r3 : List Cond := [Cond.selects RX8 yX8_of yX8_of, Cond.code yX8_of cX8_of 3 (some .int), Cond.methodLink RX8 195 yX8_size, Cond.static yX8_size, Cond.code yX8_size cX8_size 1 (some .int), Cond.methodLink RX8 177 yX8_rest, Cond.static yX8_rest, Cond.code yX8_rest cX8_rest 3 (some .int)]
def wsX8_firstLie : List Cond := .code yX8_firstLie cX8_firstLie 6 (some .int) :: ((wsX8_firstLie_r1 ++ (wsX8_firstLie_r2 ++ wsX8_firstLie_r3)) ++ wsX80)
def wsX8_glass_r1 : List Cond := [Cond.fieldLink RX8 41 "AlikeHandsModel" "thrown" "I", Cond.constant RX8 180 (-1000002), Cond.constantLong RX8 59 (2), Cond.constant RX8 61 (-1000001), Cond.fieldLink RX8 19 "AlikeHandsModel" "clock" "[I", Cond.methodLink RX8 212 yX8_isThere, Cond.instanceMethod yX8_isThere, Cond.selects RX8 yX8_isThere yX8_isThere, Cond.initialized RX8, Cond.code yX8_isThere cX8_isThere 1 (some .boolean), Cond.methodLink RX8 184 yX8_isMoment, Cond.static yX8_isMoment, Cond.code yX8_isMoment cX8_isMoment 2 (some .boolean), Cond.constantLong RX8 165 (9999), Cond.methodLink RX8 51 yX8_in, Cond.static yX8_in, Cond.code yX8_in cX8_in 6 (some .boolean), Cond.methodLink RX8 192 yX8_told, Cond.static yX8_told, Cond.code yX8_told cX8_told 3 (some .int), Cond.methodLink RX8 170 yX8_divisor, Cond.static yX8_divisor, Cond.code yX8_divisor cX8_divisor 5 (some .int), Cond.methodLink RX8 188 yX8_arc]
def wsX8_glass_r2 : List Cond := [Cond.instanceMethod yX8_arc, Cond.selects RX8 yX8_arc yX8_arc, Cond.code yX8_arc cX8_arc 4 (some .int), Cond.methodLink RX8 181 yX8_speed, Cond.instanceMethod yX8_speed, Cond.selects RX8 yX8_speed yX8_speed, Cond.code yX8_speed cX8_speed 2 (some .int), Cond.methodLink RX8 167 yX8_of, Cond.instanceMethod yX8_of, Cond.selects RX8 yX8_of yX8_of, Cond.code yX8_of cX8_of 3 (some .int), Cond.methodLink RX8 177 yX8_rest, Cond.static yX8_rest, Cond.code yX8_rest cX8_rest 3 (some .int)]
def wsX8_glass : List Cond := .code yX8_glass cX8_glass 6 (some .int) :: ((wsX8_glass_r1 ++ wsX8_glass_r2) ++ wsX80)
def wsX8_image : List Cond := .code yX8_image cX8_image 3 (some .int) :: ([.fieldLink RX8 41 "AlikeHandsModel" "thrown" "I", .constant RX8 61 (-1000001), .constant RX8 180 (-1000002), .fieldLink RX8 35 "AlikeHandsModel" "kept" "[I", .fieldLink RX8 19 "AlikeHandsModel" "clock" "[I", .fieldLink RX8 31 "AlikeHandsModel" "isKept" "[Z", .methodLink RX8 51 yX8_in, .static yX8_in, .initialized RX8, .code yX8_in cX8_in 6 (some .boolean), .methodLink RX8 212 yX8_isThere, .instanceMethod yX8_isThere, .selects RX8 yX8_isThere yX8_isThere, .code yX8_isThere cX8_isThere 1 (some .boolean)] ++ wsX80)
def wsX8_restore : List Cond := .code yX8_restore cX8_restore 3 (some .int) :: ([.fieldLink RX8 41 "AlikeHandsModel" "thrown" "I", .constant RX8 61 (-1000001), .fieldLink RX8 31 "AlikeHandsModel" "isKept" "[Z", .constant RX8 180 (-1000002), .fieldLink RX8 19 "AlikeHandsModel" "clock" "[I", .fieldLink RX8 35 "AlikeHandsModel" "kept" "[I", .fieldLink RX8 159 "AlikeHandsModel" "acts" "I", .methodLink RX8 51 yX8_in, .static yX8_in, .initialized RX8, .code yX8_in cX8_in 6 (some .boolean)] ++ wsX80)
def wsX8_isOf : List Cond := .code yX8_isOf cX8_isOf 2 (some .boolean) :: ([])
def wsX8_kind : List Cond := .code yX8_kind cX8_kind 2 (some .int) :: ([.fieldLink RX8 41 "AlikeHandsModel" "thrown" "I", .constant RX8 61 (-1000001), .methodLink RX8 162 yX8_isHand, .instanceMethod yX8_isHand, .selects RX8 yX8_isHand yX8_isHand, .initialized RX8, .code yX8_isHand cX8_isHand 2 (some .boolean), .fieldLink RX8 19 "AlikeHandsModel" "clock" "[I", .methodLink RX8 51 yX8_in, .static yX8_in, .code yX8_in cX8_in 6 (some .boolean), .methodLink RX8 167 yX8_of, .instanceMethod yX8_of, .selects RX8 yX8_of yX8_of, .code yX8_of cX8_of 3 (some .int)] ++ wsX80)
def wsX8_as_r1 : List Cond := [Cond.fieldLink RX8 41 "AlikeHandsModel" "thrown" "I", Cond.constantLong RX8 236 (5), Cond.constant RX8 61 (-1000001), Cond.fieldLink RX8 45 "AlikeHandsModel" "status" "I", Cond.methodLink RX8 162 yX8_isHand, Cond.instanceMethod yX8_isHand, Cond.selects RX8 yX8_isHand yX8_isHand, Cond.initialized RX8, Cond.code yX8_isHand cX8_isHand 2 (some .boolean), Cond.fieldLink RX8 19 "AlikeHandsModel" "clock" "[I", Cond.methodLink RX8 51 yX8_in, Cond.static yX8_in, Cond.code yX8_in cX8_in 6 (some .boolean), Cond.methodLink RX8 167 yX8_of, Cond.instanceMethod yX8_of, Cond.selects RX8 yX8_of yX8_of, Cond.code yX8_of cX8_of 3 (some .int), Cond.methodLink RX8 238 yX8_isOf, Cond.static yX8_isOf, Cond.code yX8_isOf cX8_isOf 2 (some .boolean), Cond.methodLink RX8 62 yX8_finding, Cond.instanceMethod yX8_finding, Cond.selects RX8 yX8_finding yX8_finding, Cond.code yX8_finding cX8_finding 2 (some .int)]
def wsX8_as_r2 : List Cond := [Cond.constant RX8 48 (-1000010)]
def wsX8_as : List Cond := .code yX8_as cX8_as 3 (some .int) :: ((wsX8_as_r1 ++ wsX8_as_r2) ++ wsX80)
def wsX8_began : List Cond := .code yX8_began cX8_began 2 none :: ([.fieldLink RX8 241 "AlikeHandsModel" "traced" "I", .fieldLink RX8 38 "AlikeHandsModel" "trace" "[I"] ++ wsX80)
def wsX8_plainSize : List Cond := .code yX8_plainSize cX8_plainSize 2 (some .int) :: ([.methodLink RX8 244 yX8_began, .instanceMethod yX8_began, .selects RX8 yX8_began yX8_began, .initialized RX8, .code yX8_began cX8_began 2 none, .fieldLink RX8 241 "AlikeHandsModel" "traced" "I", .fieldLink RX8 38 "AlikeHandsModel" "trace" "[I", .methodLink RX8 167 yX8_of, .instanceMethod yX8_of, .selects RX8 yX8_of yX8_of, .code yX8_of cX8_of 3 (some .int), .fieldLink RX8 19 "AlikeHandsModel" "clock" "[I"] ++ wsX80)
def wsX8_backSize : List Cond := .code yX8_backSize cX8_backSize 3 (some .int) :: ([.methodLink RX8 167 yX8_of, .instanceMethod yX8_of, .selects RX8 yX8_of yX8_of, .initialized RX8, .code yX8_of cX8_of 3 (some .int), .fieldLink RX8 19 "AlikeHandsModel" "clock" "[I", .methodLink RX8 244 yX8_began, .instanceMethod yX8_began, .selects RX8 yX8_began yX8_began, .code yX8_began cX8_began 2 none, .fieldLink RX8 241 "AlikeHandsModel" "traced" "I", .fieldLink RX8 38 "AlikeHandsModel" "trace" "[I", .methodLink RX8 247 yX8_plainSize, .instanceMethod yX8_plainSize, .selects RX8 yX8_plainSize yX8_plainSize, .code yX8_plainSize cX8_plainSize 2 (some .int)] ++ wsX80)
def wsX8_markOf : List Cond := .code yX8_markOf cX8_markOf 4 (some .int) :: ([.methodLink RX8 167 yX8_of, .instanceMethod yX8_of, .selects RX8 yX8_of yX8_of, .initialized RX8, .code yX8_of cX8_of 3 (some .int), .fieldLink RX8 19 "AlikeHandsModel" "clock" "[I", .methodLink RX8 244 yX8_began, .instanceMethod yX8_began, .selects RX8 yX8_began yX8_began, .code yX8_began cX8_began 2 none, .fieldLink RX8 241 "AlikeHandsModel" "traced" "I", .fieldLink RX8 38 "AlikeHandsModel" "trace" "[I", .methodLink RX8 250 yX8_backSize, .instanceMethod yX8_backSize, .selects RX8 yX8_backSize yX8_backSize, .code yX8_backSize cX8_backSize 3 (some .int), .methodLink RX8 247 yX8_plainSize, .instanceMethod yX8_plainSize, .selects RX8 yX8_plainSize yX8_plainSize, .code yX8_plainSize cX8_plainSize 2 (some .int)] ++ wsX80)
def wsX8_sizeOf : List Cond := .code yX8_sizeOf cX8_sizeOf 4 (some .int) :: ([.methodLink RX8 167 yX8_of, .instanceMethod yX8_of, .selects RX8 yX8_of yX8_of, .initialized RX8, .code yX8_of cX8_of 3 (some .int), .fieldLink RX8 19 "AlikeHandsModel" "clock" "[I", .methodLink RX8 250 yX8_backSize, .instanceMethod yX8_backSize, .selects RX8 yX8_backSize yX8_backSize, .code yX8_backSize cX8_backSize 3 (some .int), .methodLink RX8 244 yX8_began, .instanceMethod yX8_began, .selects RX8 yX8_began yX8_began, .code yX8_began cX8_began 2 none, .fieldLink RX8 241 "AlikeHandsModel" "traced" "I", .fieldLink RX8 38 "AlikeHandsModel" "trace" "[I", .methodLink RX8 247 yX8_plainSize, .instanceMethod yX8_plainSize, .selects RX8 yX8_plainSize yX8_plainSize, .code yX8_plainSize cX8_plainSize 2 (some .int), .methodLink RX8 253 yX8_markOf, .instanceMethod yX8_markOf, .selects RX8 yX8_markOf yX8_markOf, .code yX8_markOf cX8_markOf 4 (some .int)] ++ wsX80)
def wsX8_ask_r1 : List Cond := [Cond.fieldLink RX8 41 "AlikeHandsModel" "thrown" "I", Cond.constant RX8 61 (-1000001), Cond.fieldLink RX8 241 "AlikeHandsModel" "traced" "I", Cond.methodLink RX8 162 yX8_isHand, Cond.instanceMethod yX8_isHand, Cond.selects RX8 yX8_isHand yX8_isHand, Cond.initialized RX8, Cond.code yX8_isHand cX8_isHand 2 (some .boolean), Cond.fieldLink RX8 19 "AlikeHandsModel" "clock" "[I", Cond.methodLink RX8 51 yX8_in, Cond.static yX8_in, Cond.code yX8_in cX8_in 6 (some .boolean), Cond.methodLink RX8 256 yX8_sizeOf, Cond.instanceMethod yX8_sizeOf, Cond.selects RX8 yX8_sizeOf yX8_sizeOf, Cond.code yX8_sizeOf cX8_sizeOf 4 (some .int), Cond.methodLink RX8 167 yX8_of, Cond.instanceMethod yX8_of, Cond.selects RX8 yX8_of yX8_of, Cond.code yX8_of cX8_of 3 (some .int), Cond.methodLink RX8 250 yX8_backSize, Cond.instanceMethod yX8_backSize, Cond.selects RX8 yX8_backSize yX8_backSize, Cond.code yX8_backSize cX8_backSize 3 (some .int)]
def wsX8_ask_r2 : List Cond := [Cond.methodLink RX8 244 yX8_began, Cond.instanceMethod yX8_began, Cond.selects RX8 yX8_began yX8_began, Cond.code yX8_began cX8_began 2 none, Cond.fieldLink RX8 38 "AlikeHandsModel" "trace" "[I", Cond.methodLink RX8 247 yX8_plainSize, Cond.instanceMethod yX8_plainSize, Cond.selects RX8 yX8_plainSize yX8_plainSize, Cond.code yX8_plainSize cX8_plainSize 2 (some .int), Cond.methodLink RX8 253 yX8_markOf, Cond.instanceMethod yX8_markOf, Cond.selects RX8 yX8_markOf yX8_markOf, Cond.code yX8_markOf cX8_markOf 4 (some .int)]
def wsX8_ask : List Cond := .code yX8_ask cX8_ask 3 (some .int) :: ((wsX8_ask_r1 ++ wsX8_ask_r2) ++ wsX80)
def wsX8_trace : List Cond := .code yX8_trace cX8_trace 2 (some .int) :: ([.fieldLink RX8 41 "AlikeHandsModel" "thrown" "I", .fieldLink RX8 241 "AlikeHandsModel" "traced" "I", .fieldLink RX8 38 "AlikeHandsModel" "trace" "[I", .constant RX8 77 (-1000000), .methodLink RX8 51 yX8_in, .static yX8_in, .initialized RX8, .code yX8_in cX8_in 6 (some .boolean)] ++ wsX80)
def wsX8_count : List Cond := .code yX8_count cX8_count 4 (some .int) :: ([.fieldLink RX8 41 "AlikeHandsModel" "thrown" "I", .fieldLink RX8 7 "AlikeHandsModel" "lane" "[I", .fieldLink RX8 19 "AlikeHandsModel" "clock" "[I", .fieldLink RX8 159 "AlikeHandsModel" "acts" "I", .fieldLink RX8 68 "AlikeHandsModel" "taped" "I", .constant RX8 61 (-1000001), .methodLink RX8 167 yX8_of, .instanceMethod yX8_of, .selects RX8 yX8_of yX8_of, .initialized RX8, .code yX8_of cX8_of 3 (some .int)] ++ wsX80)
def wsX8_status : List Cond := .code yX8_status cX8_status 1 (some .int) :: ([.fieldLink RX8 41 "AlikeHandsModel" "thrown" "I", .fieldLink RX8 45 "AlikeHandsModel" "status" "I"] ++ wsX80)
def wsJ9_abs_0f7a4 : List Cond := .code yJ9_abs_0f7a4 cJ9_abs_0f7a4 1 (some .int) :: ([])
def wsJ9_max_7cf53 : List Cond := .code yJ9_max_7cf53 cJ9_max_7cf53 2 (some .int) :: ([])
def wsJ9_min_7cf53 : List Cond := .code yJ9_min_7cf53 cJ9_min_7cf53 2 (some .int) :: ([])
def wsL_law_r1 : List Cond := [Cond.classLink RL 7 RX7, Cond.instantiable RX7 12, Cond.initialized RX7, Cond.classLink RL 10 RX8, Cond.instantiable RX8 25, Cond.initialized RX8, Cond.constantLong RL 32 (4294967295), Cond.methodLink RL 9 yX7_init, Cond.instanceMethod yX7_init, Cond.code yX7_init cX7_init 1 none, Cond.methodLink RX7 1 objectInit, Cond.instanceMethod objectInit, Cond.code objectInit ⟨#[0xb1]⟩ 1 none, Cond.classLink RX7 7 RX5, Cond.instantiable RX5 3, Cond.initialized RX5, Cond.fieldLink RX7 10 "AlikeHands" "rows" "LAlikeHands$Rows;", Cond.classLink RX7 16 RX6, Cond.instantiable RX6 6, Cond.initialized RX6, Cond.fieldLink RX7 19 "AlikeHands" "tape" "LAlikeHands$Tape;", Cond.classLink RX7 23 RX2, Cond.instantiable RX2 5, Cond.initialized RX2]
def wsL_law_r2 : List Cond := [Cond.fieldLink RX7 26 "AlikeHands" "clock" "LAlikeHands$Clock;", Cond.fieldLink RX7 30 "AlikeHands" "draft" "LAlikeHands$Clock;", Cond.fieldLink RX7 33 "AlikeHands" "firstImage" "LAlikeHands$Clock;", Cond.fieldLink RX7 36 "AlikeHands" "secondImage" "LAlikeHands$Clock;", Cond.classLink RX7 39 RX0, Cond.instantiable RX0 3, Cond.initialized RX0, Cond.fieldLink RX7 42 "AlikeHands" "acts" "LAlikeHands$Acts;", Cond.classLink RX7 46 RX3, Cond.instantiable RX3 4, Cond.initialized RX3, Cond.fieldLink RX7 49 "AlikeHands" "pair" "LAlikeHands$Doubts;", Cond.classLink RX7 53 RX4, Cond.instantiable RX4 4, Cond.initialized RX4, Cond.fieldLink RX7 56 "AlikeHands" "reading" "LAlikeHands$Reading;", Cond.classLink RX7 60 RX1, Cond.instantiable RX1 2, Cond.initialized RX1, Cond.fieldLink RX7 63 "AlikeHands" "asks" "LAlikeHands$Asks;", Cond.methodLink RX7 9 yX5_init, Cond.instanceMethod yX5_init, Cond.code yX5_init cX5_init 1 none, Cond.methodLink RX5 3 objectInit]
def wsL_law_r3 : List Cond := [Cond.arrayClass .int, Cond.fieldLink RX5 9 "AlikeHands$Rows" "items" "[I", Cond.fieldLink RX5 15 "AlikeHands$Rows" "lanes" "[I", Cond.fieldLink RX5 18 "AlikeHands$Rows" "lengths" "[I", Cond.methodLink RX5 21 yJ7_fill_53178, Cond.static yJ7_fill_53178, Cond.initialized RJ7, Cond.code yJ7_fill_53178 cJ7_fill_53178 4 none, Cond.instanceMethod yX6_init, Cond.code yX6_init cX6_init 1 none, Cond.methodLink RX6 3 objectInit, Cond.fieldLink RX6 11 "AlikeHands$Tape" "bytes" "[I", Cond.instanceMethod yX2_init, Cond.code yX2_init cX2_init 1 none, Cond.methodLink RX2 3 objectInit, Cond.fieldLink RX2 9 "AlikeHands$Clock" "sorts" "[I", Cond.fieldLink RX2 15 "AlikeHands$Clock" "turns" "[I", Cond.fieldLink RX2 18 "AlikeHands$Clock" "slips" "[I", Cond.instanceMethod yX0_init, Cond.code yX0_init cX0_init 1 none, Cond.methodLink RX0 1 objectInit, Cond.fieldLink RX0 9 "AlikeHands$Acts" "hands" "[I", Cond.fieldLink RX0 13 "AlikeHands$Acts" "slips" "[I", Cond.instanceMethod yX3_init]
def wsL_law_r4 : List Cond := [Cond.code yX3_init cX3_init 1 none, Cond.methodLink RX3 1 objectInit, Cond.instanceMethod yX4_init, Cond.code yX4_init cX4_init 1 none, Cond.methodLink RX4 3 objectInit, Cond.fieldLink RX4 9 "AlikeHands$Reading" "arcs" "[I", Cond.fieldLink RX4 15 "AlikeHands$Reading" "speeds" "[I", Cond.instanceMethod yX1_init, Cond.code yX1_init cX1_init 1 none, Cond.methodLink RX1 3 objectInit, Cond.fieldLink RX1 11 "AlikeHands$Asks" "bodies" "[I", Cond.methodLink RL 12 yX8_init, Cond.instanceMethod yX8_init, Cond.code yX8_init cX8_init 1 none, Cond.methodLink RX8 1 objectInit, Cond.fieldLink RX8 7 "AlikeHandsModel" "lane" "[I", Cond.fieldLink RX8 13 "AlikeHandsModel" "many" "[I", Cond.fieldLink RX8 16 "AlikeHandsModel" "item" "[I", Cond.fieldLink RX8 19 "AlikeHandsModel" "clock" "[I", Cond.fieldLink RX8 22 "AlikeHandsModel" "fresh" "[I", Cond.fieldLink RX8 25 "AlikeHandsModel" "was" "[I", Cond.fieldLink RX8 28 "AlikeHandsModel" "tape" "[I", Cond.arrayClass .boolean, Cond.fieldLink RX8 31 "AlikeHandsModel" "isKept" "[Z"]
def wsL_law_r5 : List Cond := [Cond.fieldLink RX8 35 "AlikeHandsModel" "kept" "[I", Cond.fieldLink RX8 38 "AlikeHandsModel" "trace" "[I", Cond.methodLink RL 13 yX7_row, Cond.instanceMethod yX7_row, Cond.selects RX7 yX7_row yX7_row, Cond.code yX7_row cX7_row 4 (some .int), Cond.constant RX7 75 (-1000001), Cond.methodLink RX7 67 yX7_isRow, Cond.static yX7_isRow, Cond.code yX7_isRow cX7_isRow 1 (some .boolean), Cond.methodLink RX7 71 yX7_isWithin, Cond.static yX7_isWithin, Cond.code yX7_isWithin cX7_isWithin 3 (some .boolean), Cond.methodLink RX7 76 yX7_found, Cond.instanceMethod yX7_found, Cond.selects RX7 yX7_found yX7_found, Cond.code yX7_found cX7_found 2 (some .int), Cond.fieldLink RX7 285 "AlikeHands" "finding" "I", Cond.constant RX7 288 (-1000010), Cond.methodLink RX7 80 yX5_make, Cond.instanceMethod yX5_make, Cond.selects RX5 yX5_make yX5_make, Cond.code yX5_make cX5_make 5 none, Cond.methodLink RX7 84 yX7_fine]
def wsL_law_r6 : List Cond := [Cond.instanceMethod yX7_fine, Cond.selects RX7 yX7_fine yX7_fine, Cond.code yX7_fine cX7_fine 2 (some .int), Cond.methodLink RL 17 yX8_row, Cond.instanceMethod yX8_row, Cond.selects RX8 yX8_row yX8_row, Cond.code yX8_row cX8_row 5 (some .int), Cond.fieldLink RX8 41 "AlikeHandsModel" "thrown" "I", Cond.constantLong RX8 59 (2), Cond.constant RX8 61 (-1000001), Cond.fieldLink RX8 45 "AlikeHandsModel" "status" "I", Cond.methodLink RX8 55 yX8_isRow, Cond.static yX8_isRow, Cond.code yX8_isRow cX8_isRow 1 (some .boolean), Cond.constantLong RX8 49 (7), Cond.methodLink RX8 51 yX8_in, Cond.static yX8_in, Cond.code yX8_in cX8_in 6 (some .boolean), Cond.methodLink RX8 62 yX8_finding, Cond.instanceMethod yX8_finding, Cond.selects RX8 yX8_finding yX8_finding, Cond.code yX8_finding cX8_finding 2 (some .int), Cond.constant RX8 48 (-1000010), Cond.methodLink RL 18 yX7_set]
def wsL_law_r7 : List Cond := [Cond.instanceMethod yX7_set, Cond.selects RX7 yX7_set yX7_set, Cond.code yX7_set cX7_set 5 (some .int), Cond.methodLink RX7 87 yX5_wrongAt, Cond.instanceMethod yX5_wrongAt, Cond.selects RX5 yX5_wrongAt yX5_wrongAt, Cond.code yX5_wrongAt cX5_wrongAt 4 (some .int), Cond.methodLink RX5 38 yX5_isMissing, Cond.instanceMethod yX5_isMissing, Cond.selects RX5 yX5_isMissing yX5_isMissing, Cond.code yX5_isMissing cX5_isMissing 2 (some .boolean), Cond.methodLink RX5 31 yX5_laneOf, Cond.instanceMethod yX5_laneOf, Cond.selects RX5 yX5_laneOf yX5_laneOf, Cond.code yX5_laneOf cX5_laneOf 2 (some .int), Cond.methodLink RX5 41 yX5_reaches, Cond.instanceMethod yX5_reaches, Cond.selects RX5 yX5_reaches yX5_reaches, Cond.code yX5_reaches cX5_reaches 4 (some .boolean), Cond.methodLink RX5 35 yX5_length, Cond.instanceMethod yX5_length, Cond.selects RX5 yX5_length yX5_length, Cond.code yX5_length cX5_length 2 (some .int), Cond.methodLink RX7 91 yX5_put]
def wsL_law_r8 : List Cond := [Cond.instanceMethod yX5_put, Cond.selects RX5 yX5_put yX5_put, Cond.code yX5_put cX5_put 4 none, Cond.methodLink RX5 48 yX5_cut, Cond.static yX5_cut, Cond.code yX5_cut cX5_cut 2 (some .int), Cond.methodLink RX7 94 yX5_item, Cond.instanceMethod yX5_item, Cond.selects RX5 yX5_item yX5_item, Cond.code yX5_item cX5_item 3 (some .int), Cond.methodLink RL 21 yX8_set, Cond.instanceMethod yX8_set, Cond.selects RX8 yX8_set yX8_set, Cond.code yX8_set cX8_set 4 (some .int), Cond.methodLink RL 22 yX7_copy, Cond.instanceMethod yX7_copy, Cond.selects RX7 yX7_copy yX7_copy, Cond.code yX7_copy cX7_copy 6 (some .int), Cond.methodLink RX7 98 yX5_isMissing, Cond.methodLink RX7 101 yX5_laneOf, Cond.methodLink RX7 104 yX5_reaches, Cond.methodLink RX7 107 yX5_move, Cond.instanceMethod yX5_move, Cond.selects RX5 yX5_move yX5_move]
def wsL_law_r9 : List Cond := [Cond.code yX5_move cX5_move 6 none, Cond.methodLink RX5 52 arraycopyName, Cond.native arraycopyName, Cond.static arraycopyName, Cond.initialized "java/lang/System", Cond.methodLink RL 26 yX8_copy, Cond.instanceMethod yX8_copy, Cond.selects RX8 yX8_copy yX8_copy, Cond.code yX8_copy cX8_copy 9 (some .int), Cond.methodLink RL 27 yX7_drop, Cond.instanceMethod yX7_drop, Cond.selects RX7 yX7_drop yX7_drop, Cond.code yX7_drop cX7_drop 3 (some .int), Cond.methodLink RX7 111 yX5_length, Cond.methodLink RX7 114 yX5_lose, Cond.instanceMethod yX5_lose, Cond.selects RX5 yX5_lose yX5_lose, Cond.code yX5_lose cX5_lose 2 none, Cond.methodLink RL 31 yX8_drop, Cond.instanceMethod yX8_drop, Cond.selects RX8 yX8_drop yX8_drop, Cond.code yX8_drop cX8_drop 2 (some .int), Cond.methodLink RL 34 yX7_feed, Cond.instanceMethod yX7_feed]
def wsL_law_r10 : List Cond := [Cond.selects RX7 yX7_feed yX7_feed, Cond.code yX7_feed cX7_feed 5 (some .int), Cond.constant RX7 121 (-1000003), Cond.fieldLink RX7 125 "AlikeHands$Tape" "length" "I", Cond.methodLink RX7 118 yX6_hasRoom, Cond.instanceMethod yX6_hasRoom, Cond.selects RX6 yX6_hasRoom yX6_hasRoom, Cond.code yX6_hasRoom cX6_hasRoom 2 (some .boolean), Cond.fieldLink RX6 15 "AlikeHands$Tape" "length" "I", Cond.methodLink RX7 122 yX6_append, Cond.instanceMethod yX6_append, Cond.selects RX6 yX6_append yX6_append, Cond.code yX6_append cX6_append 2 none, Cond.methodLink RL 38 yX8_feed, Cond.instanceMethod yX8_feed, Cond.selects RX8 yX8_feed yX8_feed, Cond.code yX8_feed cX8_feed 5 (some .int), Cond.constantLong RX8 66 (8), Cond.fieldLink RX8 68 "AlikeHandsModel" "taped" "I", Cond.constant RX8 71 (-1000003), Cond.constantLong RX8 72 (255), Cond.methodLink RL 39 yX7_clock, Cond.instanceMethod yX7_clock, Cond.selects RX7 yX7_clock yX7_clock]
def wsL_law_r11 : List Cond := [Cond.code yX7_clock cX7_clock 1 (some .int), Cond.fieldLink RX7 132 "AlikeHands$Tape" "fault" "I", Cond.fieldLink RX7 135 "AlikeHands" "latestFault" "I", Cond.constant RX7 138 (-1000100), Cond.fieldLink RX7 139 "AlikeHands$Tape" "from" "I", Cond.fieldLink RX7 145 "AlikeHands$Acts" "length" "I", Cond.fieldLink RX7 146 "AlikeHands$Clock" "count" "I", Cond.methodLink RX7 128 yX6_readInto, Cond.instanceMethod yX6_readInto, Cond.selects RX6 yX6_readInto yX6_readInto, Cond.code yX6_readInto cX6_readInto 3 none, Cond.fieldLink RX6 19 "AlikeHands$Tape" "fault" "I", Cond.fieldLink RX6 22 "AlikeHands$Tape" "to" "I", Cond.fieldLink RX6 25 "AlikeHands$Clock" "count" "I", Cond.fieldLink RX6 43 "AlikeHands$Clock" "marks" "I", Cond.fieldLink RX6 53 "AlikeHands$Tape" "token" "I", Cond.methodLink RX6 30 yX6_advance, Cond.instanceMethod yX6_advance, Cond.selects RX6 yX6_advance yX6_advance, Cond.code yX6_advance cX6_advance 1 none, Cond.fieldLink RX6 84 "AlikeHands$Tape" "from" "I", Cond.methodLink RX6 87 yX6_at, Cond.instanceMethod yX6_at, Cond.selects RX6 yX6_at yX6_at]
def wsL_law_r12 : List Cond := [Cond.code yX6_at cX6_at 2 (some .int), Cond.methodLink RX6 91 yX6_isLetter, Cond.static yX6_isLetter, Cond.code yX6_isLetter cX6_isLetter 1 (some .boolean), Cond.methodLink RX6 95 yX6_isFigure, Cond.static yX6_isFigure, Cond.code yX6_isFigure cX6_isFigure 1 (some .boolean), Cond.methodLink RX6 35 yX6_takeWord, Cond.instanceMethod yX6_takeWord, Cond.selects RX6 yX6_takeWord yX6_takeWord, Cond.code yX6_takeWord cX6_takeWord 2 none, Cond.methodLink RX6 58 yX6_isWord, Cond.instanceMethod yX6_isWord, Cond.selects RX6 yX6_isWord yX6_isWord, Cond.code yX6_isWord cX6_isWord 3 (some .boolean), Cond.methodLink RX6 98 yJ0_length_8abf5, Cond.instanceMethod yJ0_length_8abf5, Cond.selects RJ0 yJ0_length_8abf5 yJ0_length_8abf5, Cond.initialized RJ0, Cond.code yJ0_length_8abf5 cJ0_length_8abf5 1 (some .int), Cond.fieldLink RJ0 9 "java/lang/String" "value" "[B", Cond.methodLink RJ0 335 yJ0_coder_7d493, Cond.instanceMethod yJ0_coder_7d493, Cond.selects RJ0 yJ0_coder_7d493 yJ0_coder_7d493]
def wsL_law_r13 : List Cond := [Cond.code yJ0_coder_7d493 cJ0_coder_7d493 1 (some .byte), Cond.fieldLink RJ0 38 "java/lang/String" "COMPACT_STRINGS" "Z", Cond.fieldLink RJ0 15 "java/lang/String" "coder" "B", Cond.methodLink RX6 102 yJ0_charAt_5068e, Cond.instanceMethod yJ0_charAt_5068e, Cond.selects RJ0 yJ0_charAt_5068e yJ0_charAt_5068e, Cond.code yJ0_charAt_5068e cJ0_charAt_5068e 2 (some .char), Cond.methodLink RJ0 492 yJ0_isLatin1_aae02, Cond.instanceMethod yJ0_isLatin1_aae02, Cond.selects RJ0 yJ0_isLatin1_aae02 yJ0_isLatin1_aae02, Cond.code yJ0_isLatin1_aae02 cJ0_isLatin1_aae02 1 (some .boolean), Cond.methodLink RJ0 495 yJ1_charAt_3b067, Cond.static yJ1_charAt_3b067, Cond.initialized RJ1, Cond.code yJ1_charAt_3b067 cJ1_charAt_3b067 2 (some .char), Cond.methodLink RJ1 9 yJ0_checkIndex_df160, Cond.static yJ0_checkIndex_df160, Cond.code yJ0_checkIndex_df160 cJ0_checkIndex_df160 2 none, Cond.fieldLink RJ0 1053 "jdk/internal/util/Preconditions" "SIOOBE_FORMATTER" "Ljava/util/function/BiFunction;", Cond.methodLink RJ0 1059 yJ3_checkIndex_8e157, Cond.static yJ3_checkIndex_8e157, Cond.initialized RJ3, Cond.code yJ3_checkIndex_8e157 cJ3_checkIndex_8e157 3 (some .int), Cond.methodLink RJ0 498 yJ2_charAt_3b067]
def wsL_law_r14 : List Cond := [Cond.static yJ2_charAt_3b067, Cond.initialized RJ2, Cond.code yJ2_charAt_3b067 cJ2_charAt_3b067 2 (some .char), Cond.methodLink RJ2 67 yJ2_checkIndex_2214a, Cond.static yJ2_checkIndex_2214a, Cond.code yJ2_checkIndex_2214a cJ2_checkIndex_2214a 2 none, Cond.methodLink RJ2 48 yJ2_length_9d52b, Cond.static yJ2_length_9d52b, Cond.code yJ2_length_9d52b cJ2_length_9d52b 1 (some .int), Cond.methodLink RJ2 414 yJ0_checkIndex_df160, Cond.methodLink RJ2 71 yJ2_getChar_3b067, Cond.static yJ2_getChar_3b067, Cond.code yJ2_getChar_3b067 cJ2_getChar_3b067 2 (some .char), Cond.fieldLink RJ2 44 "java/lang/StringUTF16" "$assertionsDisabled" "Z", Cond.fieldLink RJ2 59 "java/lang/StringUTF16" "HI_BYTE_SHIFT" "I", Cond.fieldLink RJ2 63 "java/lang/StringUTF16" "LO_BYTE_SHIFT" "I", Cond.methodLink RX6 70 yX6_pass, Cond.instanceMethod yX6_pass, Cond.selects RX6 yX6_pass yX6_pass, Cond.code yX6_pass cX6_pass 3 none, Cond.methodLink RX6 39 yX6_takeNumber, Cond.instanceMethod yX6_takeNumber, Cond.selects RX6 yX6_takeNumber yX6_takeNumber, Cond.code yX6_takeNumber cX6_takeNumber 4 (some .int)]
def wsL_law_r15 : List Cond := [Cond.methodLink RX6 77 yX6_numberHere, Cond.instanceMethod yX6_numberHere, Cond.selects RX6 yX6_numberHere yX6_numberHere, Cond.code yX6_numberHere cX6_numberHere 3 (some .int), Cond.methodLink RX6 46 yX6_takeSign, Cond.instanceMethod yX6_takeSign, Cond.selects RX6 yX6_takeSign yX6_takeSign, Cond.code yX6_takeSign cX6_takeSign 1 none, Cond.methodLink RX6 49 yX6_takeHand, Cond.instanceMethod yX6_takeHand, Cond.selects RX6 yX6_takeHand yX6_takeHand, Cond.code yX6_takeHand cX6_takeHand 4 none, Cond.methodLink RX6 62 yX6_takeSort, Cond.instanceMethod yX6_takeSort, Cond.selects RX6 yX6_takeSort yX6_takeSort, Cond.code yX6_takeSort cX6_takeSort 2 (some .int), Cond.methodLink RX6 74 yX6_sortHere, Cond.instanceMethod yX6_sortHere, Cond.selects RX6 yX6_sortHere yX6_sortHere, Cond.code yX6_sortHere cX6_sortHere 1 (some .int), Cond.methodLink RX6 66 yX2_add, Cond.instanceMethod yX2_add, Cond.selects RX2 yX2_add yX2_add, Cond.code yX2_add cX2_add 3 none]
def wsL_law_r16 : List Cond := [Cond.fieldLink RX2 21 "AlikeHands$Clock" "count" "I", Cond.methodLink RX7 142 yX2_become, Cond.instanceMethod yX2_become, Cond.selects RX2 yX2_become yX2_become, Cond.code yX2_become cX2_become 3 none, Cond.fieldLink RX2 39 "AlikeHands$Clock" "marks" "I", Cond.methodLink RL 43 yX8_clock, Cond.instanceMethod yX8_clock, Cond.selects RX8 yX8_clock yX8_clock, Cond.code yX8_clock cX8_clock 2 (some .int), Cond.constantLong RX8 148 (1684627820), Cond.constantLong RX8 150 (1751215716), Cond.fieldLink RX8 99 "AlikeHandsModel" "fault" "I", Cond.fieldLink RX8 87 "AlikeHandsModel" "token" "I", Cond.fieldLink RX8 155 "AlikeHandsModel" "latest" "I", Cond.constant RX8 158 (-1000100), Cond.fieldLink RX8 105 "AlikeHandsModel" "faultAt" "I", Cond.fieldLink RX8 159 "AlikeHandsModel" "acts" "I", Cond.methodLink RX8 145 yX8_begin, Cond.instanceMethod yX8_begin, Cond.selects RX8 yX8_begin yX8_begin, Cond.code yX8_begin cX8_begin 1 none, Cond.fieldLink RX8 74 "AlikeHandsModel" "length" "I", Cond.fieldLink RX8 78 "AlikeHandsModel" "cursor" "I"]
def wsL_law_r17 : List Cond := [Cond.methodLink RX8 102 yX8_nextToken, Cond.instanceMethod yX8_nextToken, Cond.selects RX8 yX8_nextToken yX8_nextToken, Cond.code yX8_nextToken cX8_nextToken 2 none, Cond.fieldLink RX8 84 "AlikeHandsModel" "start" "I", Cond.constant RX8 77 (-1000000), Cond.fieldLink RX8 96 "AlikeHandsModel" "till" "I", Cond.methodLink RX8 81 yX8_byteAt, Cond.instanceMethod yX8_byteAt, Cond.selects RX8 yX8_byteAt yX8_byteAt, Cond.code yX8_byteAt cX8_byteAt 2 (some .int), Cond.methodLink RX8 90 yX8_isLetter, Cond.static yX8_isLetter, Cond.code yX8_isLetter cX8_isLetter 1 (some .boolean), Cond.methodLink RX8 93 yX8_isFigure, Cond.static yX8_isFigure, Cond.code yX8_isFigure cX8_isFigure 1 (some .boolean), Cond.methodLink RX8 130 yX8_name, Cond.instanceMethod yX8_name, Cond.selects RX8 yX8_name yX8_name, Cond.code yX8_name cX8_name 4 (some .long), Cond.methodLink RX8 116 yX8_must, Cond.instanceMethod yX8_must, Cond.selects RX8 yX8_must yX8_must]
def wsL_law_r18 : List Cond := [Cond.code yX8_must cX8_must 2 none, Cond.methodLink RX8 108 yX8_bad, Cond.instanceMethod yX8_bad, Cond.selects RX8 yX8_bad yX8_bad, Cond.code yX8_bad cX8_bad 2 none, Cond.methodLink RX8 138 yX8_number, Cond.instanceMethod yX8_number, Cond.selects RX8 yX8_number yX8_number, Cond.code yX8_number cX8_number 4 (some .int), Cond.methodLink RX8 112 yX8_figures, Cond.instanceMethod yX8_figures, Cond.selects RX8 yX8_figures yX8_figures, Cond.code yX8_figures cX8_figures 3 (some .int), Cond.methodLink RX8 142 yX8_mustEnd, Cond.instanceMethod yX8_mustEnd, Cond.selects RX8 yX8_mustEnd yX8_mustEnd, Cond.code yX8_mustEnd cX8_mustEnd 1 none, Cond.methodLink RX8 152 yX8_readHand, Cond.instanceMethod yX8_readHand, Cond.selects RX8 yX8_readHand yX8_readHand, Cond.code yX8_readHand cX8_readHand 3 none, Cond.methodLink RX8 134 yX8_kindBy, Cond.static yX8_kindBy, Cond.code yX8_kindBy cX8_kindBy 2 (some .int)]
def wsL_law_r19 : List Cond := [Cond.constantLong RX8 120 (1752135026), Cond.constantLong RX8 122 (1836019566), Cond.constantLong RX8 124 (495924372848), Cond.constantLong RX8 126 (1650549611), Cond.constantLong RX8 128 (1953064037), Cond.methodLink RL 44 yX7_fault, Cond.instanceMethod yX7_fault, Cond.selects RX7 yX7_fault yX7_fault, Cond.code yX7_fault cX7_fault 1 (some .int), Cond.methodLink RL 47 yX8_fault, Cond.instanceMethod yX8_fault, Cond.selects RX8 yX8_fault yX8_fault, Cond.code yX8_fault cX8_fault 1 (some .int), Cond.methodLink RL 48 yX7_slip, Cond.instanceMethod yX7_slip, Cond.selects RX7 yX7_slip yX7_slip, Cond.code yX7_slip cX7_slip 4 (some .int), Cond.fieldLink RX7 159 "AlikeHands$Clock" "marks" "I", Cond.methodLink RX7 149 yX2_has, Cond.instanceMethod yX2_has, Cond.selects RX2 yX2_has yX2_has, Cond.code yX2_has cX2_has 2 (some .boolean), Cond.methodLink RX7 152 yX2_slipOf, Cond.instanceMethod yX2_slipOf]
def wsL_law_r20 : List Cond := [Cond.selects RX2 yX2_slipOf yX2_slipOf, Cond.code yX2_slipOf cX2_slipOf 2 (some .int), Cond.methodLink RX2 25 yX2_has, Cond.methodLink RX7 155 yX0_keep, Cond.instanceMethod yX0_keep, Cond.selects RX0 yX0_keep yX0_keep, Cond.code yX0_keep cX0_keep 3 none, Cond.fieldLink RX0 16 "AlikeHands$Acts" "length" "I", Cond.methodLink RX0 20 yX0_forgetOldest, Cond.instanceMethod yX0_forgetOldest, Cond.selects RX0 yX0_forgetOldest yX0_forgetOldest, Cond.code yX0_forgetOldest cX0_forgetOldest 1 none, Cond.methodLink RX0 23 arraycopyName, Cond.methodLink RX7 162 yX7_rest, Cond.static yX7_rest, Cond.code yX7_rest cX7_rest 2 (some .int), Cond.methodLink RX7 305 yJ9_floorMod_7cf53, Cond.static yJ9_floorMod_7cf53, Cond.initialized RJ9, Cond.code yJ9_floorMod_7cf53 cJ9_floorMod_7cf53 3 (some .int), Cond.methodLink RX7 165 yX2_setSlip, Cond.instanceMethod yX2_setSlip, Cond.selects RX2 yX2_setSlip yX2_setSlip, Cond.code yX2_setSlip cX2_setSlip 3 none]
def wsL_law_r21 : List Cond := [Cond.methodLink RL 52 yX8_slip, Cond.instanceMethod yX8_slip, Cond.selects RX8 yX8_slip yX8_slip, Cond.code yX8_slip cX8_slip 4 (some .int), Cond.constantLong RX8 173 (-60), Cond.constantLong RX8 175 (60), Cond.methodLink RX8 162 yX8_isHand, Cond.instanceMethod yX8_isHand, Cond.selects RX8 yX8_isHand yX8_isHand, Cond.code yX8_isHand cX8_isHand 2 (some .boolean), Cond.methodLink RX8 167 yX8_of, Cond.instanceMethod yX8_of, Cond.selects RX8 yX8_of yX8_of, Cond.code yX8_of cX8_of 3 (some .int), Cond.methodLink RX8 177 yX8_rest, Cond.static yX8_rest, Cond.code yX8_rest cX8_rest 3 (some .int), Cond.methodLink RL 53 yX7_undo, Cond.instanceMethod yX7_undo, Cond.selects RX7 yX7_undo yX7_undo, Cond.code yX7_undo cX7_undo 1 (some .int), Cond.constant RX7 168 (-1000002), Cond.methodLink RX7 169 yX0_lastHand, Cond.instanceMethod yX0_lastHand]
def wsL_law_r22 : List Cond := [Cond.selects RX0 yX0_lastHand yX0_lastHand, Cond.code yX0_lastHand cX0_lastHand 1 (some .int), Cond.methodLink RX7 173 yX0_lastSlip, Cond.instanceMethod yX0_lastSlip, Cond.selects RX0 yX0_lastSlip yX0_lastSlip, Cond.code yX0_lastSlip cX0_lastSlip 1 (some .int), Cond.methodLink RL 56 yX8_undo, Cond.instanceMethod yX8_undo, Cond.selects RX8 yX8_undo yX8_undo, Cond.code yX8_undo cX8_undo 2 (some .int), Cond.constant RX8 180 (-1000002), Cond.methodLink RL 57 yX7_hand, Cond.instanceMethod yX7_hand, Cond.selects RX7 yX7_hand yX7_hand, Cond.code yX7_hand cX7_hand 3 (some .int), Cond.methodLink RX7 176 yX2_turnsOf, Cond.instanceMethod yX2_turnsOf, Cond.selects RX2 yX2_turnsOf yX2_turnsOf, Cond.code yX2_turnsOf cX2_turnsOf 2 (some .int), Cond.methodLink RX7 179 yX2_speedOf, Cond.instanceMethod yX2_speedOf, Cond.selects RX2 yX2_speedOf yX2_speedOf, Cond.code yX2_speedOf cX2_speedOf 3 (some .int), Cond.methodLink RX2 29 yX2_sortOf]
def wsL_law_r23 : List Cond := [Cond.instanceMethod yX2_sortOf, Cond.selects RX2 yX2_sortOf yX2_sortOf, Cond.code yX2_sortOf cX2_sortOf 2 (some .int), Cond.methodLink RX2 33 yX2_turnsOf, Cond.methodLink RL 60 yX8_hand, Cond.instanceMethod yX8_hand, Cond.selects RX8 yX8_hand yX8_hand, Cond.code yX8_hand cX8_hand 3 (some .int), Cond.methodLink RX8 181 yX8_speed, Cond.instanceMethod yX8_speed, Cond.selects RX8 yX8_speed yX8_speed, Cond.code yX8_speed cX8_speed 2 (some .int), Cond.methodLink RL 61 yX7_points, Cond.instanceMethod yX7_points, Cond.selects RX7 yX7_points yX7_points, Cond.code yX7_points cX7_points 5 (some .int), Cond.methodLink RX7 182 yX7_isMoment, Cond.static yX7_isMoment, Cond.code yX7_isMoment cX7_isMoment 2 (some .boolean), Cond.methodLink RX7 186 yX2_arcAbove, Cond.instanceMethod yX2_arcAbove, Cond.selects RX2 yX2_arcAbove yX2_arcAbove, Cond.code yX2_arcAbove cX2_arcAbove 4 (some .int), Cond.methodLink RX2 36 yX2_speedOf]
def wsL_law_r24 : List Cond := [Cond.methodLink RX2 42 yX2_slipOf, Cond.methodLink RX2 45 yX2_arcBelow, Cond.instanceMethod yX2_arcBelow, Cond.selects RX2 yX2_arcBelow yX2_arcBelow, Cond.code yX2_arcBelow cX2_arcBelow 2 (some .int), Cond.methodLink RX7 189 yX2_arcBelow, Cond.methodLink RX7 192 yX7_part, Cond.static yX7_part, Cond.code yX7_part cX7_part 4 (some .int), Cond.methodLink RX7 232 yX7_common, Cond.static yX7_common, Cond.code yX7_common cX7_common 6 (some .int), Cond.methodLink RL 65 yX8_points, Cond.instanceMethod yX8_points, Cond.selects RX8 yX8_points yX8_points, Cond.code yX8_points cX8_points 5 (some .int), Cond.methodLink RX8 184 yX8_isMoment, Cond.static yX8_isMoment, Cond.code yX8_isMoment cX8_isMoment 2 (some .boolean), Cond.constantLong RX8 165 (9999), Cond.methodLink RX8 188 yX8_arc, Cond.instanceMethod yX8_arc, Cond.selects RX8 yX8_arc yX8_arc, Cond.code yX8_arc cX8_arc 4 (some .int)]
def wsL_law_r25 : List Cond := [Cond.methodLink RX8 192 yX8_told, Cond.static yX8_told, Cond.code yX8_told cX8_told 3 (some .int), Cond.methodLink RX8 170 yX8_divisor, Cond.static yX8_divisor, Cond.code yX8_divisor cX8_divisor 5 (some .int), Cond.methodLink RL 66 yX7_doubts, Cond.instanceMethod yX7_doubts, Cond.selects RX7 yX7_doubts yX7_doubts, Cond.code yX7_doubts cX7_doubts 3 (some .int), Cond.constant RX7 205 (-1000000), Cond.methodLink RX7 195 yX7_isPair, Cond.instanceMethod yX7_isPair, Cond.selects RX7 yX7_isPair yX7_isPair, Cond.code yX7_isPair cX7_isPair 3 (some .boolean), Cond.methodLink RX7 198 yX3_of, Cond.instanceMethod yX3_of, Cond.selects RX3 yX3_of yX3_of, Cond.code yX3_of cX3_of 3 none, Cond.methodLink RX3 7 Lib.Math.abs.name, Cond.static Lib.Math.abs.name, Cond.initialized "java/lang/Math", Cond.code Lib.Math.abs.name Lib.Math.abs.code 1 (some .int), Cond.fieldLink RX3 13 "AlikeHands$Doubts" "whole" "I"]
def wsL_law_r26 : List Cond := [Cond.fieldLink RX3 25 "AlikeHands$Doubts" "shared" "I", Cond.fieldLink RX3 28 "AlikeHands$Doubts" "moments" "I", Cond.fieldLink RX3 34 "AlikeHands$Doubts" "firstOther" "I", Cond.methodLink RX3 31 yX3_leastOther, Cond.instanceMethod yX3_leastOther, Cond.selects RX3 yX3_leastOther yX3_leastOther, Cond.code yX3_leastOther cX3_leastOther 4 (some .int), Cond.methodLink RX7 201 yX3_isNone, Cond.instanceMethod yX3_isNone, Cond.selects RX3 yX3_isNone yX3_isNone, Cond.code yX3_isNone cX3_isNone 1 (some .boolean), Cond.methodLink RX7 206 yX3_howMany, Cond.instanceMethod yX3_howMany, Cond.selects RX3 yX3_howMany yX3_howMany, Cond.code yX3_howMany cX3_howMany 3 (some .int), Cond.methodLink RX3 40 yX3_otherOf, Cond.instanceMethod yX3_otherOf, Cond.selects RX3 yX3_otherOf yX3_otherOf, Cond.code yX3_otherOf cX3_otherOf 3 (some .int), Cond.methodLink RL 69 yX8_doubts, Cond.instanceMethod yX8_doubts, Cond.selects RX8 yX8_doubts yX8_doubts, Cond.code yX8_doubts cX8_doubts 6 (some .int), Cond.methodLink RX8 201 yX8_areTwo]
def wsL_law_r27 : List Cond := [Cond.instanceMethod yX8_areTwo, Cond.selects RX8 yX8_areTwo yX8_areTwo, Cond.code yX8_areTwo cX8_areTwo 3 (some .boolean), Cond.methodLink RX8 198 yX8_partsOf, Cond.instanceMethod yX8_partsOf, Cond.selects RX8 yX8_partsOf yX8_partsOf, Cond.code yX8_partsOf cX8_partsOf 3 (some .int), Cond.methodLink RX8 195 yX8_size, Cond.static yX8_size, Cond.code yX8_size cX8_size 1 (some .int), Cond.methodLink RX8 204 yX8_otherOf, Cond.instanceMethod yX8_otherOf, Cond.selects RX8 yX8_otherOf yX8_otherOf, Cond.code yX8_otherOf cX8_otherOf 8 (some .int), Cond.methodLink RL 70 yX7_doubt, Cond.instanceMethod yX7_doubt, Cond.selects RX7 yX7_doubt yX7_doubt, Cond.code yX7_doubt cX7_doubt 6 (some .int), Cond.fieldLink RX7 212 "AlikeHands$Doubts" "moments" "I", Cond.fieldLink RX7 218 "AlikeHands$Doubts" "whole" "I", Cond.methodLink RX7 209 yX3_number, Cond.instanceMethod yX3_number, Cond.selects RX3 yX3_number yX3_number, Cond.code yX3_number cX3_number 4 (some .int)]
def wsL_law_r28 : List Cond := [Cond.methodLink RX7 215 yX3_otherOf, Cond.methodLink RL 73 yX8_doubt, Cond.instanceMethod yX8_doubt, Cond.selects RX8 yX8_doubt yX8_doubt, Cond.code yX8_doubt cX8_doubt 9 (some .int), Cond.constantLong RX8 207 (3), Cond.methodLink RL 74 yX7_isDoubt, Cond.instanceMethod yX7_isDoubt, Cond.selects RX7 yX7_isDoubt yX7_isDoubt, Cond.code yX7_isDoubt cX7_isDoubt 5 (some .int), Cond.methodLink RX7 221 yX3_isAt, Cond.instanceMethod yX3_isAt, Cond.selects RX3 yX3_isAt yX3_isAt, Cond.code yX3_isAt cX3_isAt 3 (some .boolean), Cond.methodLink RL 77 yX8_isDoubt, Cond.instanceMethod yX8_isDoubt, Cond.selects RX8 yX8_isDoubt yX8_isDoubt, Cond.code yX8_isDoubt cX8_isDoubt 6 (some .int), Cond.methodLink RL 78 yX7_next, Cond.instanceMethod yX7_next, Cond.selects RX7 yX7_next yX7_next, Cond.code yX7_next cX7_next 9 (some .int), Cond.methodLink RX7 224 yX7_speedApart, Cond.instanceMethod yX7_speedApart]
def wsL_law_r29 : List Cond := [Cond.selects RX7 yX7_speedApart yX7_speedApart, Cond.code yX7_speedApart cX7_speedApart 3 (some .int), Cond.methodLink RX7 289 Lib.Math.abs.name, Cond.methodLink RX7 227 yX7_firstMeeting, Cond.static yX7_firstMeeting, Cond.code yX7_firstMeeting cX7_firstMeeting 6 (some .int), Cond.methodLink RL 82 yX8_next, Cond.instanceMethod yX8_next, Cond.selects RX8 yX8_next yX8_next, Cond.code yX8_next cX8_next 11 (some .int), Cond.methodLink RX8 209 yX8_isSo, Cond.static yX8_isSo, Cond.code yX8_isSo cX8_isSo 2 (some .boolean), Cond.methodLink RL 83 yX7_often, Cond.instanceMethod yX7_often, Cond.selects RX7 yX7_often yX7_often, Cond.code yX7_often cX7_often 5 (some .int), Cond.methodLink RL 86 yX8_often, Cond.instanceMethod yX8_often, Cond.selects RX8 yX8_often yX8_often, Cond.code yX8_often cX8_often 5 (some .int), Cond.methodLink RL 87 yX7_all, Cond.instanceMethod yX7_all, Cond.selects RX7 yX7_all yX7_all]
def wsL_law_r30 : List Cond := [Cond.code yX7_all cX7_all 3 (some .int), Cond.methodLink RX7 231 yX2_isNone, Cond.instanceMethod yX2_isNone, Cond.selects RX2 yX2_isNone yX2_isNone, Cond.code yX2_isNone cX2_isNone 1 (some .boolean), Cond.methodLink RL 90 yX8_all, Cond.instanceMethod yX8_all, Cond.selects RX8 yX8_all yX8_all, Cond.code yX8_all cX8_all 3 (some .int), Cond.methodLink RX8 212 yX8_isThere, Cond.instanceMethod yX8_isThere, Cond.selects RX8 yX8_isThere yX8_isThere, Cond.code yX8_isThere cX8_isThere 1 (some .boolean), Cond.methodLink RL 91 yX7_lies, Cond.instanceMethod yX7_lies, Cond.selects RX7 yX7_lies yX7_lies, Cond.code yX7_lies cX7_lies 6 (some .int), Cond.methodLink RX7 235 yX5_areBelow, Cond.instanceMethod yX5_areBelow, Cond.selects RX5 yX5_areBelow yX5_areBelow, Cond.code yX5_areBelow cX5_areBelow 6 (some .boolean), Cond.methodLink RX5 58 yX5_item, Cond.methodLink RX7 239 yX4_take, Cond.instanceMethod yX4_take]
def wsL_law_r31 : List Cond := [Cond.selects RX4 yX4_take yX4_take, Cond.code yX4_take cX4_take 7 none, Cond.fieldLink RX4 18 "AlikeHands$Clock" "count" "I", Cond.methodLink RX4 24 Lib.Math.min.name, Cond.static Lib.Math.min.name, Cond.code Lib.Math.min.name Lib.Math.min.code 2 (some .int), Cond.fieldLink RX4 30 "AlikeHands$Reading" "count" "I", Cond.fieldLink RX4 31 "AlikeHands$Reading" "parts" "I", Cond.methodLink RX4 34 yX5_item, Cond.methodLink RX4 39 yX2_speedOf, Cond.methodLink RX7 243 yX7_lieOfReading, Cond.instanceMethod yX7_lieOfReading, Cond.selects RX7 yX7_lieOfReading yX7_lieOfReading, Cond.code yX7_lieOfReading cX7_lieOfReading 3 (some .int), Cond.methodLink RX7 294 yX4_fitsWithout, Cond.instanceMethod yX4_fitsWithout, Cond.selects RX4 yX4_fitsWithout yX4_fitsWithout, Cond.code yX4_fitsWithout cX4_fitsWithout 5 (some .boolean), Cond.methodLink RX4 44 Lib.Math.abs.name, Cond.methodLink RX4 43 yX4_speedOf, Cond.instanceMethod yX4_speedOf, Cond.selects RX4 yX4_speedOf yX4_speedOf, Cond.code yX4_speedOf cX4_speedOf 2 (some .int), Cond.methodLink RX4 60 yX4_fitsAt]
def wsL_law_r32 : List Cond := [Cond.instanceMethod yX4_fitsAt, Cond.selects RX4 yX4_fitsAt yX4_fitsAt, Cond.code yX4_fitsAt cX4_fitsAt 5 (some .boolean), Cond.methodLink RX4 56 yX4_gap, Cond.instanceMethod yX4_gap, Cond.selects RX4 yX4_gap yX4_gap, Cond.code yX4_gap cX4_gap 8 (some .int), Cond.methodLink RX4 50 yX4_arcOf, Cond.instanceMethod yX4_arcOf, Cond.selects RX4 yX4_arcOf yX4_arcOf, Cond.code yX4_arcOf cX4_arcOf 2 (some .int), Cond.methodLink RX7 297 yX4_moved, Cond.instanceMethod yX4_moved, Cond.selects RX4 yX4_moved yX4_moved, Cond.code yX4_moved cX4_moved 3 (some .int), Cond.methodLink RX4 64 yX4_fitsWithout, Cond.methodLink RX7 300 yX4_leastMove, Cond.instanceMethod yX4_leastMove, Cond.selects RX4 yX4_leastMove yX4_leastMove, Cond.code yX4_leastMove cX4_leastMove 6 (some .int), Cond.methodLink RX7 303 yX4_whole, Cond.instanceMethod yX4_whole, Cond.selects RX4 yX4_whole yX4_whole, Cond.code yX4_whole cX4_whole 1 (some .int)]
def wsL_law_r33 : List Cond := [Cond.methodLink RX4 47 Lib.Math.max.name, Cond.static Lib.Math.max.name, Cond.code Lib.Math.max.name Lib.Math.max.code 2 (some .int), Cond.methodLink RL 94 yX8_lies, Cond.instanceMethod yX8_lies, Cond.selects RX8 yX8_lies yX8_lies, Cond.code yX8_lies cX8_lies 9 (some .int), Cond.constantLong RX8 222 (720), Cond.fieldLink RX8 216 "AlikeHandsModel" "least" "I", Cond.fieldLink RX8 219 "AlikeHandsModel" "leastOf" "I", Cond.methodLink RX8 224 yX8_lacks, Cond.instanceMethod yX8_lacks, Cond.selects RX8 yX8_lacks yX8_lacks, Cond.code yX8_lacks cX8_lacks 4 (some .int), Cond.methodLink RX8 227 yX8_areArcs, Cond.instanceMethod yX8_areArcs, Cond.selects RX8 yX8_areArcs yX8_areArcs, Cond.code yX8_areArcs cX8_areArcs 6 (some .boolean), Cond.methodLink RX8 231 yX8_isTrue, Cond.instanceMethod yX8_isTrue, Cond.selects RX8 yX8_isTrue yX8_isTrue, Cond.code yX8_isTrue cX8_isTrue 14 (some .boolean), Cond.methodLink RL 95 yX7_firstLie, Cond.instanceMethod yX7_firstLie]
def wsL_law_r34 : List Cond := [Cond.selects RX7 yX7_firstLie yX7_firstLie, Cond.code yX7_firstLie cX7_firstLie 5 (some .int), Cond.methodLink RX7 246 yX7_firstLieOf, Cond.instanceMethod yX7_firstLieOf, Cond.selects RX7 yX7_firstLieOf yX7_firstLieOf, Cond.code yX7_firstLieOf cX7_firstLieOf 5 (some .int), Cond.methodLink RL 98 yX8_firstLie, Cond.instanceMethod yX8_firstLie, Cond.selects RX8 yX8_firstLie yX8_firstLie, Cond.code yX8_firstLie cX8_firstLie 6 (some .int), Cond.constantLong RX8 234 (10), Cond.methodLink RL 99 yX7_glass, Cond.instanceMethod yX7_glass, Cond.selects RX7 yX7_glass yX7_glass, Cond.code yX7_glass cX7_glass 4 (some .int), Cond.methodLink RX7 249 yX7_trueInGlass, Cond.instanceMethod yX7_trueInGlass, Cond.selects RX7 yX7_trueInGlass yX7_trueInGlass, Cond.code yX7_trueInGlass cX7_trueInGlass 5 (some .int), Cond.methodLink RL 102 yX8_glass, Cond.instanceMethod yX8_glass, Cond.selects RX8 yX8_glass yX8_glass, Cond.code yX8_glass cX8_glass 6 (some .int), Cond.methodLink RL 103 yX7_image]
def wsL_law_r35 : List Cond := [Cond.instanceMethod yX7_image, Cond.selects RX7 yX7_image yX7_image, Cond.code yX7_image cX7_image 2 (some .int), Cond.methodLink RX7 252 yX7_imageOf, Cond.instanceMethod yX7_imageOf, Cond.selects RX7 yX7_imageOf yX7_imageOf, Cond.code yX7_imageOf cX7_imageOf 2 (some (.object "AlikeHands$Clock")), Cond.methodLink RL 106 yX8_image, Cond.instanceMethod yX8_image, Cond.selects RX8 yX8_image yX8_image, Cond.code yX8_image cX8_image 3 (some .int), Cond.methodLink RL 107 yX7_restore, Cond.instanceMethod yX7_restore, Cond.selects RX7 yX7_restore yX7_restore, Cond.code yX7_restore cX7_restore 2 (some .int), Cond.methodLink RL 110 yX8_restore, Cond.instanceMethod yX8_restore, Cond.selects RX8 yX8_restore yX8_restore, Cond.code yX8_restore cX8_restore 3 (some .int), Cond.methodLink RL 111 yX7_kind, Cond.instanceMethod yX7_kind, Cond.selects RX7 yX7_kind yX7_kind, Cond.code yX7_kind cX7_kind 2 (some .int), Cond.methodLink RX7 256 yX2_sortOf]
def wsL_law_r36 : List Cond := [Cond.methodLink RL 114 yX8_kind, Cond.instanceMethod yX8_kind, Cond.selects RX8 yX8_kind yX8_kind, Cond.code yX8_kind cX8_kind 2 (some .int), Cond.methodLink RL 115 yX7_as, Cond.instanceMethod yX7_as, Cond.selects RX7 yX7_as yX7_as, Cond.code yX7_as cX7_as 3 (some .int), Cond.methodLink RX7 259 yX7_isOfKind, Cond.static yX7_isOfKind, Cond.code yX7_isOfKind cX7_isOfKind 2 (some .boolean), Cond.methodLink RL 118 yX8_as, Cond.instanceMethod yX8_as, Cond.selects RX8 yX8_as yX8_as, Cond.code yX8_as cX8_as 3 (some .int), Cond.constantLong RX8 236 (5), Cond.methodLink RX8 238 yX8_isOf, Cond.static yX8_isOf, Cond.code yX8_isOf cX8_isOf 2 (some .boolean), Cond.methodLink RL 119 yX7_ask, Cond.instanceMethod yX7_ask, Cond.selects RX7 yX7_ask yX7_ask, Cond.code yX7_ask cX7_ask 3 (some .int), Cond.fieldLink RX7 262 "AlikeHands$Asks" "length" "I"]
def wsL_law_r37 : List Cond := [Cond.methodLink RX7 263 yX1_sizeOfBacks, Cond.instanceMethod yX1_sizeOfBacks, Cond.selects RX1 yX1_sizeOfBacks yX1_sizeOfBacks, Cond.code yX1_sizeOfBacks cX1_sizeOfBacks 3 (some .int), Cond.methodLink RX1 43 yX2_sortOf, Cond.methodLink RX1 20 yX1_leave, Cond.instanceMethod yX1_leave, Cond.selects RX1 yX1_leave yX1_leave, Cond.code yX1_leave cX1_leave 2 none, Cond.fieldLink RX1 15 "AlikeHands$Asks" "length" "I", Cond.methodLink RX1 52 yX1_backSize, Cond.instanceMethod yX1_backSize, Cond.selects RX1 yX1_backSize yX1_backSize, Cond.code yX1_backSize cX1_backSize 3 (some .int), Cond.methodLink RX1 30 yX1_lentSize, Cond.instanceMethod yX1_lentSize, Cond.selects RX1 yX1_lentSize yX1_lentSize, Cond.code yX1_lentSize cX1_lentSize 3 (some .int), Cond.methodLink RX1 24 yX2_turnsOf, Cond.methodLink RX7 267 yX1_markOfBacks, Cond.instanceMethod yX1_markOfBacks, Cond.selects RX1 yX1_markOfBacks yX1_markOfBacks, Cond.code yX1_markOfBacks cX1_markOfBacks 4 (some .int), Cond.methodLink RX1 37 yX1_lentMark]
def wsL_law_r38 : List Cond := [Cond.instanceMethod yX1_lentMark, Cond.selects RX1 yX1_lentMark yX1_lentMark, Cond.code yX1_lentMark cX1_lentMark 2 (some .int), Cond.methodLink RX1 55 yX1_sizeOfBacks, Cond.methodLink RX7 270 yX1_sizeOfHours, Cond.instanceMethod yX1_sizeOfHours, Cond.selects RX1 yX1_sizeOfHours yX1_sizeOfHours, Cond.code yX1_sizeOfHours cX1_sizeOfHours 3 (some .int), Cond.methodLink RX1 46 yX1_hourSize, Cond.instanceMethod yX1_hourSize, Cond.selects RX1 yX1_hourSize yX1_hourSize, Cond.code yX1_hourSize cX1_hourSize 4 (some .int), Cond.methodLink RX1 34 yX1_markOfHours, Cond.instanceMethod yX1_markOfHours, Cond.selects RX1 yX1_markOfHours yX1_markOfHours, Cond.code yX1_markOfHours cX1_markOfHours 4 (some .int), Cond.methodLink RX1 49 yX1_hourMark, Cond.instanceMethod yX1_hourMark, Cond.selects RX1 yX1_hourMark yX1_hourMark, Cond.code yX1_hourMark cX1_hourMark 3 (some .int), Cond.methodLink RX1 40 yX2_slipOf, Cond.methodLink RX7 273 yX1_markOfHours, Cond.methodLink RL 122 yX8_ask, Cond.instanceMethod yX8_ask]
def wsL_law_r39 : List Cond := [Cond.selects RX8 yX8_ask yX8_ask, Cond.code yX8_ask cX8_ask 3 (some .int), Cond.fieldLink RX8 241 "AlikeHandsModel" "traced" "I", Cond.methodLink RX8 256 yX8_sizeOf, Cond.instanceMethod yX8_sizeOf, Cond.selects RX8 yX8_sizeOf yX8_sizeOf, Cond.code yX8_sizeOf cX8_sizeOf 4 (some .int), Cond.methodLink RX8 250 yX8_backSize, Cond.instanceMethod yX8_backSize, Cond.selects RX8 yX8_backSize yX8_backSize, Cond.code yX8_backSize cX8_backSize 3 (some .int), Cond.methodLink RX8 244 yX8_began, Cond.instanceMethod yX8_began, Cond.selects RX8 yX8_began yX8_began, Cond.code yX8_began cX8_began 2 none, Cond.methodLink RX8 247 yX8_plainSize, Cond.instanceMethod yX8_plainSize, Cond.selects RX8 yX8_plainSize yX8_plainSize, Cond.code yX8_plainSize cX8_plainSize 2 (some .int), Cond.methodLink RX8 253 yX8_markOf, Cond.instanceMethod yX8_markOf, Cond.selects RX8 yX8_markOf yX8_markOf, Cond.code yX8_markOf cX8_markOf 4 (some .int), Cond.methodLink RL 123 yX7_trace]
def wsL_law_r40 : List Cond := [Cond.instanceMethod yX7_trace, Cond.selects RX7 yX7_trace yX7_trace, Cond.code yX7_trace cX7_trace 2 (some .int), Cond.methodLink RX7 276 yX1_numberAt, Cond.instanceMethod yX1_numberAt, Cond.selects RX1 yX1_numberAt yX1_numberAt, Cond.code yX1_numberAt cX1_numberAt 2 (some .int), Cond.constant RX1 19 (-1000000), Cond.methodLink RL 126 yX8_trace, Cond.instanceMethod yX8_trace, Cond.selects RX8 yX8_trace yX8_trace, Cond.code yX8_trace cX8_trace 2 (some .int), Cond.methodLink RL 127 yX7_count, Cond.instanceMethod yX7_count, Cond.selects RX7 yX7_count yX7_count, Cond.code yX7_count cX7_count 2 (some .int), Cond.methodLink RX7 279 yX5_present, Cond.instanceMethod yX5_present, Cond.selects RX5 yX5_present yX5_present, Cond.code yX5_present cX5_present 3 (some .int), Cond.methodLink RX7 282 yX2_slippedHands, Cond.instanceMethod yX2_slippedHands, Cond.selects RX2 yX2_slippedHands yX2_slippedHands, Cond.code yX2_slippedHands cX2_slippedHands 3 (some .int)]
def wsL_law_r41 : List Cond := [Cond.methodLink RL 130 yX8_count, Cond.instanceMethod yX8_count, Cond.selects RX8 yX8_count yX8_count, Cond.code yX8_count cX8_count 4 (some .int), Cond.methodLink RL 131 yX7_status, Cond.instanceMethod yX7_status, Cond.selects RX7 yX7_status yX7_status, Cond.code yX7_status cX7_status 1 (some .int), Cond.methodLink RL 134 yX8_status, Cond.instanceMethod yX8_status, Cond.selects RX8 yX8_status yX8_status, Cond.code yX8_status cX8_status 1 (some .int)]
def wsL_law : List Cond := (wsL_law_r1 ++ (wsL_law_r2 ++ (wsL_law_r3 ++ (wsL_law_r4 ++ (wsL_law_r5 ++ (wsL_law_r6 ++ (wsL_law_r7 ++ (wsL_law_r8 ++ (wsL_law_r9 ++ (wsL_law_r10 ++ (wsL_law_r11 ++ (wsL_law_r12 ++ (wsL_law_r13 ++ (wsL_law_r14 ++ (wsL_law_r15 ++ (wsL_law_r16 ++ (wsL_law_r17 ++ (wsL_law_r18 ++ (wsL_law_r19 ++ (wsL_law_r20 ++ (wsL_law_r21 ++ (wsL_law_r22 ++ (wsL_law_r23 ++ (wsL_law_r24 ++ (wsL_law_r25 ++ (wsL_law_r26 ++ (wsL_law_r27 ++ (wsL_law_r28 ++ (wsL_law_r29 ++ (wsL_law_r30 ++ (wsL_law_r31 ++ (wsL_law_r32 ++ (wsL_law_r33 ++ (wsL_law_r34 ++ (wsL_law_r35 ++ (wsL_law_r36 ++ (wsL_law_r37 ++ (wsL_law_r38 ++ (wsL_law_r39 ++ (wsL_law_r40 ++ wsL_law_r41)))))))))))))))))))))))))))))))))))))))) ++ wsX70 ++ wsX80 ++ wsX50 ++ wsX60 ++ wsX20 ++ wsX00 ++ wsX30 ++ wsX40 ++ wsX10 ++ ([] : List Cond)
theorem inL_p {big : List Cond} (ws : List Cond) (ps : List Nat) (hp : ws = ps.filterMap (fun i => big[i]?)) : ∀ w ∈ ws, w ∈ big := by
  intro w hw
  rw [hp] at hw
  obtain ⟨i, -, hi⟩ := List.mem_filterMap.mp hw
  exact List.mem_of_getElem? hi
theorem inL_app {big a b : List Cond} (ha : ∀ w ∈ a, w ∈ big) (hb : ∀ w ∈ b, w ∈ big) : ∀ w ∈ a ++ b, w ∈ big := fun w h => (List.mem_append.mp h).elim (ha w) (hb w)
theorem inL_wsL_law_r1 : ∀ w ∈ wsL_law_r1, w ∈ lw_tbl := inL_p _ [52, 53, 36, 805, 806, 45, 1168, 54, 55, 56, 57, 58, 59, 60, 61, 37, 206, 80, 81, 39, 207, 108, 109, 40] (by decide +kernel)
theorem inL_wsL_law_r2 : ∀ w ∈ wsL_law_r2, w ∈ lw_tbl := inL_p _ [208, 209, 210, 211, 135, 136, 41, 212, 152, 153, 42, 213, 173, 174, 43, 214, 192, 193, 44, 215, 62, 63, 64, 65] (by decide +kernel)
theorem inL_wsL_law_r3 : ∀ w ∈ wsL_law_r3, w ∈ lw_tbl := inL_p _ [79, 69, 70, 71, 66, 67, 38, 68, 83, 84, 85, 86, 111, 112, 113, 114, 115, 116, 138, 139, 140, 141, 142, 155] (by decide +kernel)
theorem inL_wsL_law_r4 : ∀ w ∈ wsL_law_r4, w ∈ lw_tbl := inL_p _ [156, 157, 176, 177, 178, 179, 180, 195, 196, 197, 198, 807, 808, 809, 810, 813, 814, 815, 816, 817, 818, 820, 887, 832] (by decide +kernel)
theorem inL_wsL_law_r5 : ∀ w ∈ wsL_law_r5, w ∈ lw_tbl := inL_p _ [833, 834, 243, 244, 245, 246, 253, 247, 248, 249, 250, 251, 252, 254, 256, 0, 257, 217, 258, 259, 260, 261, 262, 265] (by decide +kernel)
theorem inL_wsL_law_r6 : ∀ w ∈ wsL_law_r6, w ∈ lw_tbl := inL_p _ [267, 1, 268, 888, 889, 890, 891, 811, 899, 900, 812, 892, 893, 894, 895, 896, 897, 898, 901, 903, 8, 904, 905, 269] (by decide +kernel)
theorem inL_wsL_law_r7 : ∀ w ∈ wsL_law_r7, w ∈ lw_tbl := inL_p _ [270, 271, 272, 273, 274, 275, 276, 277, 278, 279, 280, 281, 282, 283, 284, 285, 286, 287, 288, 289, 290, 291, 292, 293] (by decide +kernel)
theorem inL_wsL_law_r8 : ∀ w ∈ wsL_law_r8, w ∈ lw_tbl := inL_p _ [294, 295, 296, 297, 298, 299, 300, 301, 302, 303, 906, 907, 908, 909, 304, 305, 306, 307, 308, 309, 310, 311, 312, 313] (by decide +kernel)
theorem inL_wsL_law_r9 : ∀ w ∈ wsL_law_r9, w ∈ lw_tbl := inL_p _ [314, 315, 317, 316, 46, 910, 911, 912, 913, 318, 319, 320, 321, 322, 323, 324, 325, 326, 914, 915, 916, 917, 327, 328] (by decide +kernel)
theorem inL_wsL_law_r10 : ∀ w ∈ wsL_law_r10, w ∈ lw_tbl := inL_p _ [329, 330, 335, 88, 331, 332, 333, 334, 87, 336, 337, 338, 339, 918, 919, 920, 921, 922, 821, 923, 924, 340, 341, 342] (by decide +kernel)
theorem inL_wsL_law_r11 : ∀ w ∈ wsL_law_r11, w ∈ lw_tbl := inL_p _ [343, 94, 216, 458, 90, 144, 123, 344, 345, 346, 347, 93, 92, 122, 117, 89, 348, 349, 350, 351, 91, 352, 353, 354] (by decide +kernel)
theorem inL_wsL_law_r12 : ∀ w ∈ wsL_law_r12, w ∈ lw_tbl := inL_p _ [355, 356, 357, 358, 359, 360, 361, 363, 364, 365, 366, 367, 368, 369, 370, 371, 372, 373, 47, 374, 1169, 375, 376, 377] (by decide +kernel)
theorem inL_wsL_law_r13 : ∀ w ∈ wsL_law_r13, w ∈ lw_tbl := inL_p _ [378, 379, 1170, 381, 382, 383, 384, 385, 386, 387, 388, 389, 390, 48, 391, 392, 393, 394, 395, 397, 398, 49, 399, 400] (by decide +kernel)
theorem inL_wsL_law_r14 : ∀ w ∈ wsL_law_r14, w ∈ lw_tbl := inL_p _ [401, 50, 402, 403, 404, 405, 406, 407, 408, 409, 410, 411, 412, 413, 415, 417, 419, 420, 421, 422, 423, 424, 425, 426] (by decide +kernel)
theorem inL_wsL_law_r15 : ∀ w ∈ wsL_law_r15, w ∈ lw_tbl := inL_p _ [427, 428, 429, 430, 432, 433, 434, 435, 436, 437, 438, 439, 441, 442, 443, 444, 445, 446, 447, 448, 454, 455, 456, 457] (by decide +kernel)
theorem inL_wsL_law_r16 : ∀ w ∈ wsL_law_r16, w ∈ lw_tbl := inL_p _ [120, 459, 460, 461, 462, 118, 925, 926, 927, 928, 952, 973, 828, 825, 822, 986, 829, 819, 929, 931, 9, 932, 823, 824] (by decide +kernel)
theorem inL_wsL_law_r17 : ∀ w ∈ wsL_law_r17, w ∈ lw_tbl := inL_p _ [933, 935, 10, 936, 826, 941, 827, 937, 939, 11, 940, 942, 943, 944, 945, 946, 947, 948, 950, 12, 951, 953, 955, 13] (by decide +kernel)
theorem inL_wsL_law_r18 : ∀ w ∈ wsL_law_r18, w ∈ lw_tbl := inL_p _ [956, 957, 959, 14, 960, 961, 963, 15, 964, 965, 967, 16, 968, 969, 971, 17, 972, 974, 976, 18, 977, 978, 979, 980] (by decide +kernel)
theorem inL_wsL_law_r19 : ∀ w ∈ wsL_law_r19, w ∈ lw_tbl := inL_p _ [981, 982, 983, 984, 985, 464, 465, 466, 467, 987, 988, 989, 990, 468, 469, 470, 471, 119, 472, 473, 474, 475, 476, 477] (by decide +kernel)
theorem inL_wsL_law_r20 : ∀ w ∈ wsL_law_r20, w ∈ lw_tbl := inL_p _ [478, 479, 480, 481, 482, 483, 484, 143, 485, 486, 487, 488, 489, 490, 491, 492, 493, 494, 51, 495, 496, 497, 498, 499] (by decide +kernel)
theorem inL_wsL_law_r21 : ∀ w ∈ wsL_law_r21, w ∈ lw_tbl := inL_p _ [991, 992, 993, 994, 999, 1000, 995, 997, 19, 998, 1001, 1003, 20, 1004, 1005, 1006, 1007, 500, 501, 502, 503, 504, 505, 506] (by decide +kernel)
theorem inL_wsL_law_r22 : ∀ w ∈ wsL_law_r22, w ∈ lw_tbl := inL_p _ [507, 508, 510, 511, 512, 513, 1008, 1009, 1010, 1011, 1012, 514, 515, 516, 517, 518, 519, 520, 521, 522, 523, 524, 525, 526] (by decide +kernel)
theorem inL_wsL_law_r23 : ∀ w ∈ wsL_law_r23, w ∈ lw_tbl := inL_p _ [527, 528, 529, 530, 1013, 1014, 1015, 1016, 1017, 1019, 21, 1020, 531, 532, 533, 534, 535, 536, 537, 538, 539, 540, 541, 542] (by decide +kernel)
theorem inL_wsL_law_r24 : ∀ w ∈ wsL_law_r24, w ∈ lw_tbl := inL_p _ [543, 544, 545, 546, 547, 549, 550, 551, 552, 553, 554, 555, 1021, 1022, 1023, 1024, 1025, 1026, 1027, 1028, 1029, 1031, 22, 1032] (by decide +kernel)
theorem inL_wsL_law_r25 : ∀ w ∈ wsL_law_r25, w ∈ lw_tbl := inL_p _ [1033, 1034, 1035, 1036, 1037, 1038, 556, 557, 558, 559, 581, 560, 562, 2, 563, 564, 565, 566, 567, 568, 569, 51, 570, 158] (by decide +kernel)
theorem inL_wsL_law_r26 : ∀ w ∈ wsL_law_r26, w ∈ lw_tbl := inL_p _ [160, 161, 163, 572, 573, 574, 575, 577, 578, 579, 580, 582, 583, 584, 585, 586, 587, 588, 589, 1039, 1040, 1041, 1042, 1043] (by decide +kernel)
theorem inL_wsL_law_r27 : ∀ w ∈ wsL_law_r27, w ∈ lw_tbl := inL_p _ [1045, 23, 1046, 1047, 1049, 24, 1050, 1051, 1052, 1053, 1054, 1056, 25, 1057, 590, 591, 592, 593, 162, 159, 594, 595, 596, 597] (by decide +kernel)
theorem inL_wsL_law_r28 : ∀ w ∈ wsL_law_r28, w ∈ lw_tbl := inL_p _ [598, 1058, 1059, 1060, 1061, 1062, 599, 600, 601, 602, 603, 604, 605, 606, 1063, 1064, 1065, 1066, 607, 608, 609, 610, 611, 613] (by decide +kernel)
theorem inL_wsL_law_r29 : ∀ w ∈ wsL_law_r29, w ∈ lw_tbl := inL_p _ [3, 614, 615, 616, 617, 618, 1067, 1068, 1069, 1070, 1071, 1072, 1073, 619, 620, 621, 622, 1074, 1075, 1076, 1077, 623, 624, 625] (by decide +kernel)
theorem inL_wsL_law_r30 : ∀ w ∈ wsL_law_r30, w ∈ lw_tbl := inL_p _ [626, 627, 628, 629, 630, 1078, 1079, 1080, 1081, 1082, 1084, 26, 1085, 631, 632, 633, 634, 635, 636, 637, 638, 639, 640, 641] (by decide +kernel)
theorem inL_wsL_law_r31 : ∀ w ∈ wsL_law_r31, w ∈ lw_tbl := inL_p _ [642, 643, 121, 644, 645, 646, 181, 182, 647, 648, 649, 651, 4, 652, 653, 654, 655, 656, 661, 657, 658, 659, 660, 662] (by decide +kernel)
theorem inL_wsL_law_r32 : ∀ w ∈ wsL_law_r32, w ∈ lw_tbl := inL_p _ [663, 664, 665, 666, 667, 668, 669, 670, 671, 672, 673, 675, 676, 677, 678, 679, 680, 681, 682, 683, 684, 685, 686, 687] (by decide +kernel)
theorem inL_wsL_law_r33 : ∀ w ∈ wsL_law_r33, w ∈ lw_tbl := inL_p _ [688, 689, 690, 1086, 1087, 1088, 1089, 1090, 830, 831, 1091, 1093, 27, 1094, 1095, 1097, 28, 1098, 1099, 1101, 29, 1102, 691, 692] (by decide +kernel)
theorem inL_wsL_law_r34 : ∀ w ∈ wsL_law_r34, w ∈ lw_tbl := inL_p _ [693, 694, 695, 697, 5, 698, 1103, 1104, 1105, 1106, 1107, 699, 700, 701, 702, 703, 705, 6, 706, 1108, 1109, 1110, 1111, 707] (by decide +kernel)
theorem inL_wsL_law_r35 : ∀ w ∈ wsL_law_r35, w ∈ lw_tbl := inL_p _ [708, 709, 710, 711, 713, 7, 714, 1112, 1113, 1114, 1115, 715, 716, 717, 718, 1116, 1117, 1118, 1119, 719, 720, 721, 722, 723] (by decide +kernel)
theorem inL_wsL_law_r36 : ∀ w ∈ wsL_law_r36, w ∈ lw_tbl := inL_p _ [1120, 1121, 1122, 1123, 724, 725, 726, 727, 728, 729, 730, 1124, 1125, 1126, 1127, 1128, 1129, 1130, 1131, 731, 732, 733, 734, 200] (by decide +kernel)
theorem inL_wsL_law_r37 : ∀ w ∈ wsL_law_r37, w ∈ lw_tbl := inL_p _ [735, 736, 737, 738, 739, 740, 741, 742, 743, 199, 744, 745, 746, 747, 748, 749, 750, 751, 752, 753, 754, 755, 756, 757] (by decide +kernel)
theorem inL_wsL_law_r38 : ∀ w ∈ wsL_law_r38, w ∈ lw_tbl := inL_p _ [758, 759, 760, 761, 762, 763, 764, 765, 766, 767, 768, 769, 770, 771, 772, 773, 774, 775, 776, 777, 778, 779, 1132, 1133] (by decide +kernel)
theorem inL_wsL_law_r39 : ∀ w ∈ wsL_law_r39, w ∈ lw_tbl := inL_p _ [1134, 1135, 835, 1136, 1138, 30, 1139, 1140, 1142, 31, 1143, 1144, 1146, 32, 1147, 1148, 1150, 33, 1151, 1152, 1154, 34, 1155, 780] (by decide +kernel)
theorem inL_wsL_law_r40 : ∀ w ∈ wsL_law_r40, w ∈ lw_tbl := inL_p _ [781, 782, 783, 784, 785, 786, 787, 788, 1156, 1157, 1158, 1159, 789, 790, 791, 792, 793, 794, 795, 796, 797, 798, 799, 800] (by decide +kernel)
theorem inL_wsL_law_r41 : ∀ w ∈ wsL_law_r41, w ∈ lw_tbl := inL_p _ [1160, 1161, 1162, 1163, 801, 802, 803, 804, 1164, 1165, 1166, 1167] (by decide +kernel)
theorem inL_wsX70 : ∀ w ∈ wsX70, w ∈ lw_tbl := inL_p _ [218, 220, 222, 224, 226, 228, 230, 232, 234, 236, 238, 240] (by decide +kernel)
theorem inL_wsX80 : ∀ w ∈ wsX80, w ∈ lw_tbl := inL_p _ [836, 838, 840, 842, 844, 846, 848, 850, 852, 854, 856, 858, 860, 862, 864, 866, 868, 870, 872, 874, 876, 878, 880, 882, 884] (by decide +kernel)
theorem inL_wsX50 : ∀ w ∈ wsX50, w ∈ lw_tbl := inL_p _ [72, 74, 76] (by decide +kernel)
theorem inL_wsX60 : ∀ w ∈ wsX60, w ∈ lw_tbl := inL_p _ [95, 97, 99, 101, 103, 105] (by decide +kernel)
theorem inL_wsX20 : ∀ w ∈ wsX20, w ∈ lw_tbl := inL_p _ [124, 126, 128, 130, 132] (by decide +kernel)
theorem inL_wsX00 : ∀ w ∈ wsX00, w ∈ lw_tbl := inL_p _ [145, 147, 149] (by decide +kernel)
theorem inL_wsX30 : ∀ w ∈ wsX30, w ∈ lw_tbl := inL_p _ [164, 166, 168, 170] (by decide +kernel)
theorem inL_wsX40 : ∀ w ∈ wsX40, w ∈ lw_tbl := inL_p _ [183, 185, 187, 189] (by decide +kernel)
theorem inL_wsX10 : ∀ w ∈ wsX10, w ∈ lw_tbl := inL_p _ [201, 203] (by decide +kernel)
set_option maxRecDepth 20000 in
theorem wsL_law_in : ∀ w ∈ wsL_law, w ∈ lw_tbl := (inL_app (inL_app (inL_app (inL_app (inL_app (inL_app (inL_app (inL_app (inL_app (inL_app (inL_app inL_wsL_law_r1 (inL_app inL_wsL_law_r2 (inL_app inL_wsL_law_r3 (inL_app inL_wsL_law_r4 (inL_app inL_wsL_law_r5 (inL_app inL_wsL_law_r6 (inL_app inL_wsL_law_r7 (inL_app inL_wsL_law_r8 (inL_app inL_wsL_law_r9 (inL_app inL_wsL_law_r10 (inL_app inL_wsL_law_r11 (inL_app inL_wsL_law_r12 (inL_app inL_wsL_law_r13 (inL_app inL_wsL_law_r14 (inL_app inL_wsL_law_r15 (inL_app inL_wsL_law_r16 (inL_app inL_wsL_law_r17 (inL_app inL_wsL_law_r18 (inL_app inL_wsL_law_r19 (inL_app inL_wsL_law_r20 (inL_app inL_wsL_law_r21 (inL_app inL_wsL_law_r22 (inL_app inL_wsL_law_r23 (inL_app inL_wsL_law_r24 (inL_app inL_wsL_law_r25 (inL_app inL_wsL_law_r26 (inL_app inL_wsL_law_r27 (inL_app inL_wsL_law_r28 (inL_app inL_wsL_law_r29 (inL_app inL_wsL_law_r30 (inL_app inL_wsL_law_r31 (inL_app inL_wsL_law_r32 (inL_app inL_wsL_law_r33 (inL_app inL_wsL_law_r34 (inL_app inL_wsL_law_r35 (inL_app inL_wsL_law_r36 (inL_app inL_wsL_law_r37 (inL_app inL_wsL_law_r38 (inL_app inL_wsL_law_r39 (inL_app inL_wsL_law_r40 inL_wsL_law_r41)))))))))))))))))))))))))))))))))))))))) inL_wsX70) inL_wsX80) inL_wsX50) inL_wsX60) inL_wsX20) inL_wsX00) inL_wsX30) inL_wsX40) inL_wsX10) (fun _ h => absurd h List.not_mem_nil))
theorem inlX0 : ∀ w ∈ wsX00, w ∈ wsL_law := fun _ h => List.mem_append_left _ (List.mem_append_left _ (List.mem_append_left _ (List.mem_append_left _ (List.mem_append_right _ h))))
theorem inX0 : ∀ w ∈ wsX00, w ∈ lw_tbl := fun w h => wsL_law_in w (inlX0 w h)
theorem inlX1 : ∀ w ∈ wsX10, w ∈ wsL_law := fun _ h => List.mem_append_left _ (List.mem_append_right _ h)
theorem inX1 : ∀ w ∈ wsX10, w ∈ lw_tbl := fun w h => wsL_law_in w (inlX1 w h)
theorem inlX2 : ∀ w ∈ wsX20, w ∈ wsL_law := fun _ h => List.mem_append_left _ (List.mem_append_left _ (List.mem_append_left _ (List.mem_append_left _ (List.mem_append_left _ (List.mem_append_right _ h)))))
theorem inX2 : ∀ w ∈ wsX20, w ∈ lw_tbl := fun w h => wsL_law_in w (inlX2 w h)
theorem inlX3 : ∀ w ∈ wsX30, w ∈ wsL_law := fun _ h => List.mem_append_left _ (List.mem_append_left _ (List.mem_append_left _ (List.mem_append_right _ h)))
theorem inX3 : ∀ w ∈ wsX30, w ∈ lw_tbl := fun w h => wsL_law_in w (inlX3 w h)
theorem inlX4 : ∀ w ∈ wsX40, w ∈ wsL_law := fun _ h => List.mem_append_left _ (List.mem_append_left _ (List.mem_append_right _ h))
theorem inX4 : ∀ w ∈ wsX40, w ∈ lw_tbl := fun w h => wsL_law_in w (inlX4 w h)
theorem inlX5 : ∀ w ∈ wsX50, w ∈ wsL_law := fun _ h => List.mem_append_left _ (List.mem_append_left _ (List.mem_append_left _ (List.mem_append_left _ (List.mem_append_left _ (List.mem_append_left _ (List.mem_append_left _ (List.mem_append_right _ h)))))))
theorem inX5 : ∀ w ∈ wsX50, w ∈ lw_tbl := fun w h => wsL_law_in w (inlX5 w h)
theorem inlX6 : ∀ w ∈ wsX60, w ∈ wsL_law := fun _ h => List.mem_append_left _ (List.mem_append_left _ (List.mem_append_left _ (List.mem_append_left _ (List.mem_append_left _ (List.mem_append_left _ (List.mem_append_right _ h))))))
theorem inX6 : ∀ w ∈ wsX60, w ∈ lw_tbl := fun w h => wsL_law_in w (inlX6 w h)
theorem inlX7 : ∀ w ∈ wsX70, w ∈ wsL_law := fun _ h => List.mem_append_left _ (List.mem_append_left _ (List.mem_append_left _ (List.mem_append_left _ (List.mem_append_left _ (List.mem_append_left _ (List.mem_append_left _ (List.mem_append_left _ (List.mem_append_left _ (List.mem_append_right _ h)))))))))
theorem inX7 : ∀ w ∈ wsX70, w ∈ lw_tbl := fun w h => wsL_law_in w (inlX7 w h)
theorem inlX8 : ∀ w ∈ wsX80, w ∈ wsL_law := fun _ h => List.mem_append_left _ (List.mem_append_left _ (List.mem_append_left _ (List.mem_append_left _ (List.mem_append_left _ (List.mem_append_left _ (List.mem_append_left _ (List.mem_append_left _ (List.mem_append_right _ h))))))))
theorem inX8 : ∀ w ∈ wsX80, w ∈ lw_tbl := fun w h => wsL_law_in w (inlX8 w h)
theorem inJx145de : ∀ w ∈ wsJx145de0, w ∈ lw_tbl := by decide +kernel
theorem inJx9f9b0 : ∀ w ∈ wsJx9f9b00, w ∈ lw_tbl := by decide +kernel
theorem inJxb160c : ∀ w ∈ wsJxb160c0, w ∈ lw_tbl := by decide +kernel
theorem inJ9 : ∀ w ∈ wsJ90, w ∈ lw_tbl := by decide +kernel
theorem inJ0 : ∀ w ∈ wsJ00, w ∈ lw_tbl := by decide +kernel
theorem inJ1 : ∀ w ∈ wsJ10, w ∈ lw_tbl := by decide +kernel
theorem inJ2 : ∀ w ∈ wsJ20, w ∈ lw_tbl := by decide +kernel
theorem inJ10 : ∀ w ∈ wsJ100, w ∈ lw_tbl := by decide +kernel
theorem inJxfd54e : ∀ w ∈ wsJxfd54e0, w ∈ lw_tbl := by decide +kernel
theorem inJx3cf43 : ∀ w ∈ wsJx3cf430, w ∈ lw_tbl := by decide +kernel
theorem inJ7 : ∀ w ∈ wsJ70, w ∈ lw_tbl := by decide +kernel
theorem inJ3 : ∀ w ∈ wsJ30, w ∈ lw_tbl := by decide +kernel
abbrev vwCl : List vw_C := [(RX0, TX0, 3), (RX1, TX1, 2), (RX2, TX2, 5), (RX3, TX3, 4), (RX4, TX4, 4), (RX5, TX5, 3), (RX6, TX6, 6), (RX7, TX7, 12), (RX8, TX8, 25)]
end
section
/-! whole numbers as ints and longs -/
def iI (z : Int) : Int32 := Int32.ofInt z
def lI (z : Int) : Int64 := Int64.ofInt z
abbrev R32 (z : Int) : Prop := -2147483648 ≤ z ∧ z ≤ 2147483647
abbrev R64 (z : Int) : Prop := -9223372036854775808 ≤ z ∧ z ≤ 9223372036854775807
theorem iI_toInt {z : Int} (h : R32 z) : (iI z).toInt = z := Int32.toInt_ofInt_of_le (by omega) (by omega)
theorem iI_of (x : Int32) : iI x.toInt = x := Int32.ofInt_toInt x
theorem iI_r (x : Int32) : R32 x.toInt := ⟨by have := x.le_toInt; omega, by have := x.toInt_lt; omega⟩
theorem lI_toInt {z : Int} (h : R64 z) : (lI z).toInt = z := Int64.toInt_ofInt_of_le (by omega) (by omega)
theorem lI_of (x : Int64) : lI x.toInt = x := Int64.ofInt_toInt x
theorem iI_add (x y : Int) : iI x + iI y = iI (x + y) := (Int32.ofInt_add x y).symm
theorem iI_sub (x y : Int) : iI x - iI y = iI (x - y) := (Int32.ofInt_sub x y).symm
theorem iI_mul (x y : Int) : iI x * iI y = iI (x * y) := (Int32.ofInt_mul x y).symm
theorem iI_neg (x : Int) : -iI x = iI (-x) := (Int32.ofInt_neg x).symm
theorem iI_inj {x y : Int} (hx : R32 x) (hy : R32 y) : iI x = iI y ↔ x = y := by
  constructor
  · intro h
    rw [← iI_toInt hx, ← iI_toInt hy, h]
  · intro h; rw [h]
theorem iI_le {x y : Int} (hx : R32 x) (hy : R32 y) : iI x ≤ iI y ↔ x ≤ y := by rw [Int32.le_iff_toInt_le, iI_toInt hx, iI_toInt hy]
theorem iI_lt {x y : Int} (hx : R32 x) (hy : R32 y) : iI x < iI y ↔ x < y := by rw [Int32.lt_iff_toInt_lt, iI_toInt hx, iI_toInt hy]
theorem iI_0 : iI 0 = 0 := rfl
theorem iI_div {x y : Int} (hx : R32 x) (hy : R32 y) : iI x / iI y = iI (x.tdiv y) := (Int32.ofInt_tdiv (by exact hx.1) (by exact hx.2) (by exact hy.1) (by exact hy.2)).symm
theorem iI_rem {x y : Int} (hx : R32 x) (hy : R32 y) : iI x - iI x / iI y * iI y = iI (x.tmod y) := by
  rw [iI_div hx hy, iI_mul, iI_sub]
  congr 1
  have := Int.tmod_add_mul_tdiv x y
  rw [Int.mul_comm] at this
  omega
theorem iI_ne0 {y : Int} (hy : R32 y) (h : y ≠ 0) : ¬ iI y = 0 := fun e => h ((iI_inj hy (by omega)).mp (e.trans iI_0.symm))
theorem iI_clamp {z : Int} (h : R32 z) : (iI z).toNatClampNeg = z.toNat := Int32.toNatClampNeg_ofInt_of_le (by omega) (by omega)
theorem iI_in {z : Int} {n : Nat} (h0 : 0 ≤ z) (h1 : z < n) (hn : z ≤ 2147483647) : vp_in (iI z) n := by
  intro h
  rcases h with h | h
  · have := (iI_lt (x := z) (y := 0) (by omega) (by omega)).mp h
    omega
  · rw [iI_clamp (by omega)] at h
    omega
theorem iI_b {n : Int} (h : -128 ≤ n ∧ n ≤ 127) : (Int8.ofInt n).toInt32 = iI n := by
  apply Int32.toInt_inj.mp
  rw [Int8.toInt_toInt32, iI_toInt (by omega), Int8.toInt_ofInt_of_le (by omega) (by omega)]
theorem iI_s {n : Int} (h : -32768 ≤ n ∧ n ≤ 32767) : (Int16.ofInt n).toInt32 = iI n := by
  apply Int32.toInt_inj.mp
  rw [Int16.toInt_toInt32, iI_toInt (by omega), Int16.toInt_ofInt_of_le (by omega) (by omega)]
/-- bits by their ints -/
def iOr (a b : Int) : Int := (iI a ||| iI b).toInt
def iAnd (a b : Int) : Int := (iI a &&& iI b).toInt
def iShl (a b : Int) : Int := (iI a <<< (iI b &&& 31)).toInt
def iByte (a : Int) : Int := (iI a).toInt8.toInt
def iShort (a : Int) : Int := (iI a).toInt16.toInt
def iLow (w : Int64) : Int := w.toInt32.toInt
def cpyI (f g : Nat → Int) (sp dp n : Nat) : Nat → Int := fun k => if dp ≤ k ∧ k < dp + n then f (sp + (k - dp)) else g k
def updI (f : Nat → Int) (k : Nat) (x : Int) : Nat → Int := fun j => if j = k then x else f j
theorem updI_s (f : Nat → Int) (k : Nat) (x : Int) : updI f k x k = x := if_pos rfl
theorem updI_n {f : Nat → Int} {k j : Nat} (x : Int) (h : j ≠ k) : updI f k x j = f j := if_neg h
/-- every entry lies between -/
def Bd (lo hi : Int) (f : Nat → Int) : Prop := ∀ j : Nat, lo ≤ f j ∧ f j ≤ hi
theorem Bd_0 : Bd 0 0 (fun _ => 0) := fun _ => ⟨Int.le_refl _, Int.le_refl _⟩
theorem Bd_up {lo hi : Int} {f : Nat → Int} {k : Nat} {x : Int} (h : Bd lo hi f) (h1 : lo ≤ x) (h2 : x ≤ hi) : Bd lo hi (updI f k x) := by
  intro j
  unfold updI
  split
  · exact ⟨h1, h2⟩
  · exact h j
theorem Bd_cpy {lo hi : Int} {f g : Nat → Int} {a b n : Nat} (h : Bd lo hi f) (h2 : Bd lo hi g) : Bd lo hi (cpyI f g a b n) := by
  intro j
  unfold cpyI
  split
  · exact h _
  · exact h2 j
theorem Bd_w {a b lo hi : Int} {f : Nat → Int} (h : Bd a b f) (h1 : lo ≤ a) (h2 : b ≤ hi) : Bd lo hi f := fun j => ⟨Int.le_trans h1 (h j).1, Int.le_trans (h j).2 h2⟩
/-- the locals, place by place -/
def loL : Nat → List (Option Value) → List (Nat × Value)
  | _, [] => []
  | i, none :: r => loL (i + 1) r
  | i, some v :: r => (i, v) :: loL (i + 1) r
theorem loL_in : ∀ (lo : List (Option Value)) (k i : Nat) (v : Value), (i, v) ∈ loL k lo → ∃ j : Nat, i = k + j ∧ lo[j]? = some (some v) := by
  intro lo
  induction lo with
  | nil => intro k i v h; simp [loL] at h
  | cons a r ih =>
    intro k i v h
    cases a with
    | none =>
      obtain ⟨j, h1, h2⟩ := ih (k + 1) i v h
      exact ⟨j + 1, by omega, by simpa using h2⟩
    | some w =>
      simp only [loL, List.mem_cons, Prod.mk.injEq] at h
      rcases h with ⟨rfl, rfl⟩ | h
      · exact ⟨0, rfl, rfl⟩
      · obtain ⟨j, h1, h2⟩ := ih (k + 1) i v h
        exact ⟨j + 1, by omega, by simpa using h2⟩
theorem loL_mem : ∀ (lo : List (Option Value)) (k j : Nat) (v : Value), lo[j]? = some (some v) → (k + j, v) ∈ loL k lo := by
  intro lo
  induction lo with
  | nil => intro k j v h; simp at h
  | cons a r ih =>
    intro k j v h
    cases j with
    | zero =>
      simp at h
      subst h
      simp [loL]
    | succ j =>
      have h2 := ih (k + 1) j v (by simpa using h)
      rw [show k + (j + 1) = k + 1 + j by omega]
      cases a with
      | none => exact h2
      | some w => exact List.mem_cons_of_mem _ h2
def lvO (ls : Array Slot) (nL : Nat) (lo : List (Option Value)) : Prop := lv_has ls nL (loL 0 lo)
theorem lvO_at {ls : Array Slot} {nL : Nat} {lo : List (Option Value)} {i : Nat} {v : Value} (h : lvO ls nL lo) (hi : lo[i]? = some (some v)) : ls[i]? = some (.val v) := by
  have := h.2.2 (0 + i, v) (loL_mem lo 0 i v hi)
  simpa using this
theorem lvO_of {ls : Array Slot} {nL : Nat} {lo : List (Option Value)} {l : List (Nat × Value)} (h : lv_has ls nL l) (hs : ∀ (i : Nat) (v : Value), lo[i]? = some (some v) → (i, v) ∈ l) : lvO ls nL lo := by
  refine ⟨h.1, h.2.1, ?_⟩
  rintro ⟨i, v⟩ hq
  obtain ⟨j, h1, h2⟩ := loL_in lo 0 i v hq
  have h3 : i = j := by omega
  subst h3
  exact h.2.2 (i, v) (hs i v h2)
theorem lvO_sub {ls : Array Slot} {nL : Nat} {lo lo2 : List (Option Value)} (h : lvO ls nL lo) (hs : ∀ (i : Nat) (v : Value), lo2[i]? = some (some v) → lo[i]? = some (some v)) : lvO ls nL lo2 :=
  lvO_of h (fun i v hi => by have := loL_mem lo 0 i v (hs i v hi); simpa using this)
/-- no long stands just ahead of the place -/
def okS (lo : List (Option Value)) : Nat → Bool
  | 0 => true
  | i + 1 => match lo[i]? with
    | some (some (.long _)) => false
    | some (some (.double _)) => false
    | _ => true
theorem okS_cat {lo : List (Option Value)} {i j : Nat} {v : Value} (h : okS lo i = true) (hj : j + 1 = i) (hv : lo[j]? = some (some v)) : (v.category == 2) = false := by
  subst hj
  simp only [okS, hv] at h
  cases v <;> simp_all [Value.category]
theorem lvO_set1 {ls : Array Slot} {nL : Nat} {lo : List (Option Value)} {i : Nat} {v : Value} (hk : okS lo i = true) (h : lv_has ls nL ((i, v) :: (loL 0 lo).filter (fun q => !(q.1 == i) && !(q.1 + 1 == i && q.2.category == 2)))) : lvO ls nL (lo.set i (some v)) := by
  refine lvO_of h (fun j w hj => ?_)
  by_cases e : j = i
  · subst e
    have hl : j < lo.length := by
      rcases Nat.lt_or_ge j lo.length with q | q
      · exact q
      · rw [List.getElem?_eq_none (by simpa using q)] at hj; cases hj
    rw [List.getElem?_set_self hl] at hj
    cases hj
    exact List.mem_cons_self
  · rw [List.getElem?_set_ne (Ne.symm e)] at hj
    refine List.mem_cons_of_mem _ (List.mem_filter.mpr ⟨by have := loL_mem lo 0 j w hj; simpa using this, ?_⟩)
    have e1 : (j == i) = false := by simpa using e
    simp only [e1, Bool.not_false, Bool.true_and]
    by_cases e2 : j + 1 = i
    · rw [okS_cat hk e2 hj]
      simp
    · have e3 : (j + 1 == i) = false := by simpa using e2
      simp [e3]
theorem lvO_set2 {ls : Array Slot} {nL : Nat} {lo : List (Option Value)} {i : Nat} {v : Value} (hk : okS lo i = true) (h : lv_has ls nL ((i, v) :: (loL 0 lo).filter (fun q => !(q.1 == i) && (!(q.1 == i + 1) && !(q.1 + 1 == i && q.2.category == 2))))) : lvO ls nL ((lo.set i (some v)).set (i + 1) none) := by
  refine lvO_of h (fun j w hj => ?_)
  by_cases e : j = i + 1
  · subst e
    exfalso
    rcases Nat.lt_or_ge (i + 1) (lo.set i (some v)).length with q | q
    · rw [List.getElem?_set_self q] at hj; cases hj
    · rw [List.getElem?_eq_none (by simpa using q)] at hj; cases hj
  · rw [List.getElem?_set_ne (Ne.symm e)] at hj
    by_cases e0 : j = i
    · subst e0
      have hl : j < lo.length := by
        rcases Nat.lt_or_ge j lo.length with q | q
        · exact q
        · rw [List.getElem?_eq_none (by simpa using q)] at hj; cases hj
      rw [List.getElem?_set_self hl] at hj
      cases hj
      exact List.mem_cons_self
    · rw [List.getElem?_set_ne (Ne.symm e0)] at hj
      refine List.mem_cons_of_mem _ (List.mem_filter.mpr ⟨by have := loL_mem lo 0 j w hj; simpa using this, ?_⟩)
      have e1 : (j == i) = false := by simpa using e0
      have e4 : (j == i + 1) = false := by simpa using e
      simp only [e1, e4, Bool.not_false, Bool.true_and]
      by_cases e2 : j + 1 = i
      · rw [okS_cat hk e2 hj]
        simp
      · have e3 : (j + 1 == i) = false := by simpa using e2
        simp [e3]
/-- the locals at the entry -/
def enL : List Value → Nat → List (Option Value)
  | [], n => List.replicate n none
  | v :: vs, n => if v.category = 2 then some v :: none :: enL vs (n - 2) else some v :: enL vs (n - 1)
theorem enL_in : ∀ (vs : List Value) (n k i : Nat) (v : Value), (enL vs n)[i]? = some (some v) → (k + i, v) ∈ lv_args k vs := by
  intro vs
  induction vs with
  | nil =>
    intro n k i v h
    simp only [enL] at h
    rw [List.getElem?_replicate] at h
    split at h <;> simp at h
  | cons a r ih =>
    intro n k i v h
    simp only [enL] at h
    split at h
    next hc =>
      cases i with
      | zero => simp at h; subst h; simp [lv_args]
      | succ i =>
        cases i with
        | zero => simp at h
        | succ i =>
          have := ih (n - 2) (k + 2) i v (by simpa using h)
          simp only [lv_args, hc, if_true]
          rw [show k + (i + 1 + 1) = k + 2 + i by omega]
          exact List.mem_cons_of_mem _ this
    next hc =>
      cases i with
      | zero => simp at h; subst h; simp [lv_args]
      | succ i =>
        have := ih (n - 1) (k + 1) i v (by simpa using h)
        simp only [lv_args, hc, if_false]
        rw [show k + (i + 1) = k + 1 + i by omega]
        exact List.mem_cons_of_mem _ this
/-- some cells of a world put in the place of others at the same addresses -/
def patch : va_W → List Nat → va_W → va_W
  | ws, i :: is, q :: qs => patch (ws.set i q) is qs
  | ws, _, _ => ws
theorem patch_len : ∀ (is : List Nat) (ws w1 : va_W), (patch ws is w1).length = ws.length := by
  intro is
  induction is with
  | nil => intro ws w1; simp [patch]
  | cons i is ih =>
    intro ws w1
    cases w1 with
    | nil => simp [patch]
    | cons q qs => simp [patch, ih]
theorem patch_get : ∀ (is : List Nat) (ws w1 : va_W), is.length = w1.length → ∀ (k : Nat) (q : Nat × va_E), (patch ws is w1)[k]? = some q → (∃ j : Nat, is[j]? = some k ∧ w1[j]? = some q) ∨ (k ∉ is ∧ ws[k]? = some q) := by
  intro is
  induction is with
  | nil => intro ws w1 _ k q h; exact Or.inr ⟨List.not_mem_nil, by simpa [patch] using h⟩
  | cons i is ih =>
    intro ws w1 hl k q h
    cases w1 with
    | nil => simp at hl
    | cons a as =>
      simp only [patch] at h
      rcases ih (ws.set i a) as (by simpa using hl) k q h with ⟨j, h1, h2⟩ | ⟨h1, h2⟩
      · exact Or.inl ⟨j + 1, by simpa using h1, by simpa using h2⟩
      · by_cases e : k = i
        · subst e
          have hk : k < ws.length := by
            rcases Nat.lt_or_ge k ws.length with z | z
            · exact z
            · rw [List.getElem?_eq_none (by simpa using z)] at h2; cases h2
          rw [List.getElem?_set_self hk] at h2
          exact Or.inl ⟨0, rfl, by simpa using h2⟩
        · rw [List.getElem?_set_ne (Ne.symm e)] at h2
          exact Or.inr ⟨by simp [e, h1], h2⟩
theorem patch_fst : ∀ (is : List Nat) (ws w0 w1 : va_W), is.map (fun i => ws[i]?) = w0.map some → w1.map Prod.fst = w0.map Prod.fst → va_nd is = true → (patch ws is w1).map Prod.fst = ws.map Prod.fst := by
  intro is
  induction is with
  | nil => intro ws w0 w1 _ _ _; simp [patch]
  | cons i is ih =>
    intro ws w0 w1 h0 h1 hn
    cases w0 with
    | nil => simp at h0
    | cons b bs =>
      cases w1 with
      | nil => simp at h1
      | cons a as =>
        simp only [List.map_cons, List.cons.injEq] at h0 h1
        simp only [patch]
        have hi : i < ws.length := by
          rcases Nat.lt_or_ge i ws.length with z | z
          · exact z
          · have := h0.1; rw [List.getElem?_eq_none z] at this; cases this
        have hni : i ∉ is := by
          intro hm
          have := va_nd_inj _ hn
          obtain ⟨j, hj⟩ := List.getElem?_of_mem hm
          have := this 0 (j + 1) i (by simp) (by simpa using hj)
          omega
        have hn2 : va_nd is = true := by
          simp only [va_nd, Bool.and_eq_true] at hn
          exact hn.2
        rw [ih (ws.set i a) bs as (by
          rw [← h0.2]
          refine List.map_congr_left (fun j hj => ?_)
          exact List.getElem?_set_ne (fun e => hni (by rw [e]; exact hj))) h1.2 hn2]
        rw [List.map_set]
        refine List.ext_getElem? (fun j => ?_)
        by_cases e : j = i
        · subst e
          rw [List.getElem?_set_self (by simpa using hi), List.getElem?_map, h0.1]
          simp [h1.1]
        · rw [List.getElem?_set_ne (Ne.symm e)]
theorem patch_id : ∀ (is : List Nat) (ws w0 : va_W), is.map (fun i => ws[i]?) = w0.map some → patch ws is w0 = ws := by
  intro is
  induction is with
  | nil => intro ws w0 _; simp [patch]
  | cons i is ih =>
    intro ws w0 h
    cases w0 with
    | nil => simp [patch]
    | cons b bs =>
      simp only [List.map_cons, List.cons.injEq] at h
      have e : ws.set i b = ws := by
        refine List.ext_getElem? (fun j => ?_)
        by_cases e : j = i
        · subst e
          rcases Nat.lt_or_ge j ws.length with z | z
          · rw [List.getElem?_set_self z, h.1]
          · have := h.1; rw [List.getElem?_eq_none z] at this; cases this
        · rw [List.getElem?_set_ne (Ne.symm e)]
      simp only [patch]
      rw [e]
      exact ih ws bs h.2
theorem va_D_fst {A : Nat → Prop} {ws w2 : va_W} (h : va_D A ws) (e : w2.map Prod.fst = ws.map Prod.fst) : va_D A w2 := by
  have key : ∀ (k : Nat) (q : Nat × va_E), w2[k]? = some q → ∃ r : Nat × va_E, ws[k]? = some r ∧ r.1 = q.1 := by
    intro k q hq
    have h1 : (w2.map Prod.fst)[k]? = some q.1 := by rw [List.getElem?_map, hq]; rfl
    rw [e, List.getElem?_map] at h1
    cases hr : ws[k]? with
    | none => rw [hr] at h1; cases h1
    | some r => rw [hr] at h1; exact ⟨r, rfl, Option.some.inj h1⟩
  refine ⟨fun i j p q hp hq hpq => ?_, fun k q hq => ?_⟩
  · obtain ⟨p2, h1, h2⟩ := key i p hp
    obtain ⟨q2, h3, h4⟩ := key j q hq
    exact h.1 i j p2 q2 h1 h3 (by rw [h2, h4, hpq])
  · obtain ⟨r, h1, h2⟩ := key k q hq
    rw [← h2]
    exact h.2 k r h1
/-- behind a call: the callee's cells put back in their places -/
theorem va_back {A0 : Nat → Prop} {D : va_G} {cl : List vw_C} {ws wc w1 : va_W} {H H1 : Heap} (hP : va_P D cl ws H) (hD : va_D A0 ws) (isC : List Nat) (hC : isC.map (fun i => ws[i]?) = wc.map some) (hn : va_nd isC = true) (hf : w1.map Prod.fst = wc.map Prod.fst)
    (hk : ∀ q : Nat, q < H.size → ¬ va_A wc H.size q → H1[q]? = H[q]?) (hP1 : va_P D cl w1 H1) : va_P D cl (patch ws isC w1) H1 ∧ va_D A0 (patch ws isC w1) := by
  refine ⟨fun k q hq => ?_, va_D_fst hD (patch_fst isC ws wc w1 hC hf hn)⟩
  have hlen : isC.length = w1.length := by
    have h1 := congrArg List.length hC
    have h2 := congrArg List.length hf
    simp only [List.length_map] at h1 h2
    omega
  rcases patch_get isC ws w1 hlen k q hq with ⟨j, h1, h2⟩ | ⟨h1, h2⟩
  · exact hP1 j q h2
  · have hl := (hP k q h2).lt
    refine (hP k q h2).kept (hk q.1 hl (fun h => ?_))
    rcases h with ⟨k2, e, h⟩ | h
    · have h3 : (isC.map (fun i => ws[i]?))[k2]? = some (some (q.1, e)) := by rw [hC, List.getElem?_map, h]; rfl
      rw [List.getElem?_map] at h3
      cases hi : isC[k2]? with
      | none => rw [hi] at h3; cases h3
      | some i =>
        rw [hi] at h3
        have h4 : ws[i]? = some (q.1, e) := Option.some.inj h3
        have hij := hD.1 k i q (q.1, e) h2 h4 rfl
        subst hij
        exact h1 (List.mem_of_getElem? hi)
    · omega
theorem isC_fm : ∀ (is : List Nat) (ws w0 : va_W), is.map (fun i => ws[i]?) = w0.map some → is.filterMap (fun i => ws[i]?) = w0 := by
  intro is
  induction is with
  | nil => intro ws w0 h; cases w0 with
    | nil => rfl
    | cons b bs => simp at h
  | cons i is ih =>
    intro ws w0 h
    cases w0 with
    | nil => simp at h
    | cons b bs =>
      simp only [List.map_cons, List.cons.injEq] at h
      rw [List.filterMap_cons, h.1, ih ws bs h.2]
end
section
/-! what stays the same through all calls: links of nest mates, text constants, two statics -/
abbrev Gx : Type := Launch × va_G × ClassId × ClassId × (Nat → Nat) × (Nat → Nat)
def nestQ : List (String × Nat × MethodName × String) := [(RX7, 18, yX6_init, RX7), (RX7, 25, yX2_init, RX7), (RX7, 41, yX0_init, RX7), (RX7, 48, yX3_init, RX7), (RX7, 55, yX4_init, RX7), (RX7, 62, yX1_init, RX7), (RX5, 27, yX7_isRow, RX7), (RX5, 45, yX7_isWithin, RX7), (RX6, 80, yX7_isWithin, RX7), (RX0, 29, yX7_isWithin, RX7), (RX2, 48, yX7_rest, RX7), (RX3, 19, yX7_common, RX7), (RX3, 37, yX7_rest, RX7), (RX4, 53, yX7_rest, RX7)]
def strQ : List (Nat × String) := [(33, "dial"), (56, "hand"), (106, "hour"), (108, "moon"), (110, "sweep"), (112, "back"), (114, "tide")]
def lenQ : List Nat := [4, 4, 4, 4, 5, 4, 4]
def bytQ : List (List Int32) := [[100, 105, 97, 108], [104, 97, 110, 100], [104, 111, 117, 114], [109, 111, 111, 110], [115, 119, 101, 101, 112], [98, 97, 99, 107], [116, 105, 100, 101]]
def Ev (g : Gx) (A : Nat → Prop) (U : State) (H : Heap) : Prop :=
  (∀ q ∈ nestQ, va_Nw (.methodLinkNest q.1 q.2.1 q.2.2.1 q.2.2.2) U) ∧ (∀ (i : Nat) (q : Nat × String), strQ[i]? = some q → vk_R RX6 q.1 q.2 (g.2.2.2.2.1 i) U) ∧ vk_S 7 lenQ bytQ g.2.2.2.2.1 g.2.2.2.2.2 A U H ∧ va_Z "java/lang/String" "COMPACT_STRINGS" "Z" (.int 1) A U H ∧ va_Zq "jdk/internal/util/Preconditions" "SIOOBE_FORMATTER" "Ljava/util/function/BiFunction;" A U H
theorem Ev.warm {g : Gx} {A : Nat → Prop} {s U : State} {H : Heap} (hW : s.WarmedH U.vm) (h : Ev g A s H) : Ev g A U H :=
  ⟨fun q hq => va_Nw.warmM hW (h.1 q hq), fun i q hq => (h.2.1 i q hq).warm hW, h.2.2.1.moved hW.alike, h.2.2.2.1.moved hW.alike, h.2.2.2.2.moved hW.alike⟩
theorem Ev.same {g : Gx} {A : Nat → Prop} {s U : State} {H : Heap} (hv : s.vm = U.vm) (h : Ev g A s H) : Ev g A U H :=
  ⟨fun q hq => (h.1 q hq).same rfl hv, fun i q hq => (h.2.1 i q hq).same hv.symm, h.2.2.1.moved (by rw [hv]; exact Vm.Alike.refl U.vm), h.2.2.2.1.moved (by rw [hv]; exact Vm.Alike.refl U.vm), h.2.2.2.2.moved (by rw [hv]; exact Vm.Alike.refl U.vm)⟩
theorem Ev.kept {g : Gx} {A : Nat → Prop} {U : State} {H H1 : Heap} (h : Ev g A U H) (hq : ∀ a : Nat, a < H.size → ¬ A a → H1[a]? = H[a]?) : Ev g A U H1 :=
  ⟨h.1, h.2.1, h.2.2.1.kept hq, h.2.2.2.1.kept hq, h.2.2.2.2.kept hq⟩
theorem Ev.narrow {g : Gx} {A B : Nat → Prop} {U : State} {H : Heap} (h : Ev g A U H) (hAB : ∀ q, B q → A q) : Ev g B U H :=
  ⟨h.1, h.2.1, h.2.2.1.narrow hAB, h.2.2.2.1.narrow hAB, h.2.2.2.2.narrow hAB⟩
/-! the place of a walk: its world, its locals, its stack -/
abbrev Xt : Type := (Program × Env × State × MethodId × Array Value) × (List Frame × Method × Code × (Nat → Prop) × Nat × Room × (State → Prop))
abbrev TYg (g : Gx) : List (ClassId × FieldType) := [(g.2.2.1, .int), (g.2.2.2.1, .boolean)]
abbrev aI (g : Gx) (n : Nat) (f : Nat → Int) : va_E := .inl (g.2.2.1, n, .inl (fun j => iI (f j)))
abbrev aZ (g : Gx) (n : Nat) (f : Nat → Int) : va_E := .inl (g.2.2.2.1, n, .inl (fun j => iI (f j)))
def V (g : Gx) (x : Xt) (cs sl : Nat) (ws : va_W) (lo : List (Option Value)) (pc : Nat) (st : List Value) : Prop :=
  match x with
  | ((p, e, s, m, args), (below, meth, c, A, nL, R, Q)) => ∀ (H : Heap) (locs : List Loc) (ls : Array Slot), va_P g.2.1 vwCl ws H → va_D A ws → va_S A s.heap H locs → lvO ls nL lo → W p g.1 e R s m args below meth c H locs cs sl Q (F0 m pc ls st)
def Xo (g : Gx) (x : Xt) (Ts : List Cond) (own : String) (cc : ByteArray) (nL : Nat) (rm : Room) : Prop :=
  match x with
  | ((p, _, s, m, args), (_, meth, c, A, nL0, R, _)) => p.tables.exec = Jvm.exec ∧ c.code = cc ∧ c.maxLocals = nL ∧ s.vm.findClass own = some m.cls ∧ (∀ w ∈ Ts, w.before args s = true) ∧ va_K g.2.1 vwCl (TYg g) s ∧ (∀ q : Nat, s.heap.size ≤ q → A q) ∧ Ev g A s s.heap ∧ meth.locks = false ∧ nL0 = nL ∧ R = rm
section VR
variable {g : Gx} {x : Xt} {Ts : List Cond} {own : String} {cc : ByteArray} {nL : Nat} {rm : Room} {cs sl : Nat} {ws : va_W} {lo : List (Option Value)} {pc : Nat} {st : List Value}
theorem v_eq {pc2 : Nat} {st2 : List Value} {ws2 : va_W} {lo2 : List (Option Value)} (h1 : pc2 = pc) (h2 : st2 = st) (h3 : ws2 = ws) (h4 : lo2 = lo) (k : V g x cs sl ws2 lo2 pc2 st2) : V g x cs sl ws lo pc st := by subst h1; subst h2; subst h3; subst h4; exact k
theorem v_lo {lo2 : List (Option Value)} (hs : ∀ (i : Nat) (v : Value), lo2[i]? = some (some v) → lo[i]? = some (some v)) (k : V g x cs sl ws lo2 pc st) : V g x cs sl ws lo pc st := by
  obtain ⟨⟨p, e, s, m, args⟩, ⟨below, meth, c, A, nL0, R, Q⟩⟩ := x
  intro H locs ls hP hD hS hl
  exact k H locs ls hP hD hS (lvO_sub hl hs)
theorem v_widen {c2 s2 : Nat} (h1 : cs ≤ c2) (h2 : sl ≤ s2) (k : V g x c2 s2 ws lo pc st) : V g x cs sl ws lo pc st := by
  obtain ⟨⟨p, e, s, m, args⟩, ⟨below, meth, c, A, nL0, R, Q⟩⟩ := x
  intro H locs ls hP hD hS hl
  exact W.widen h1 h2 (k H locs ls hP hD hS hl)
theorem v_drop (n : Nat) (k : V g x cs sl ws (lo.set n none) pc st) : V g x cs sl ws lo pc st := by
  refine v_lo (fun i v h => ?_) k
  by_cases e : i = n
  · subst e
    exfalso
    rcases Nat.lt_or_ge i lo.length with q | q
    · rw [List.getElem?_set_self q] at h; cases h
    · rw [List.getElem?_eq_none (by simpa using q)] at h; cases h
  · rwa [List.getElem?_set_ne (Ne.symm e)] at h
theorem v_iconst (X : Xo g x Ts own cc nL rm) {n : Int} (hdg : decode cc pc = .ok (.iconst n, 1)) (k : V g x cs sl ws lo (pc + 1) (.int (iI n) :: st)) : V g x cs sl ws lo pc st := by
  obtain ⟨⟨p, e, s, m, args⟩, ⟨below, meth, c, A, nL0, R, Q⟩⟩ := x
  obtain ⟨hx, hb, hml, hown, hts, hK, hA, hE, hlk, rfl, rfl⟩ := X
  intro H locs ls hP hD hS hl
  exact lv_iconst hx hb hdg rfl (k H locs ls hP hD hS hl)
theorem v_bipush (X : Xo g x Ts own cc nL rm) {n : Int} (hdg : decode cc pc = .ok (.bipush n, 2)) (hn : -128 ≤ n ∧ n ≤ 127) (k : V g x cs sl ws lo (pc + 2) (.int (iI n) :: st)) : V g x cs sl ws lo pc st := by
  obtain ⟨⟨p, e, s, m, args⟩, ⟨below, meth, c, A, nL0, R, Q⟩⟩ := x
  obtain ⟨hx, hb, hml, hown, hts, hK, hA, hE, hlk, rfl, rfl⟩ := X
  intro H locs ls hP hD hS hl
  exact lv_bipush hx hb hdg (iI_b hn) (k H locs ls hP hD hS hl)
theorem v_sipush (X : Xo g x Ts own cc nL rm) {n : Int} (hdg : decode cc pc = .ok (.sipush n, 3)) (hn : -32768 ≤ n ∧ n ≤ 32767) (k : V g x cs sl ws lo (pc + 3) (.int (iI n) :: st)) : V g x cs sl ws lo pc st := by
  obtain ⟨⟨p, e, s, m, args⟩, ⟨below, meth, c, A, nL0, R, Q⟩⟩ := x
  obtain ⟨hx, hb, hml, hown, hts, hK, hA, hE, hlk, rfl, rfl⟩ := X
  intro H locs ls hP hD hS hl
  exact lv_sipush hx hb hdg (iI_s hn) (k H locs ls hP hD hS hl)
theorem v_ldc (X : Xo g x Ts own cc nL rm) {index : Nat} {v : Int32} (hw : Cond.constant own index v ∈ Ts) (hdg : decode cc pc = .ok (.ldc index, 2)) {n : Int} (hv : iI n = v) (k : V g x cs sl ws lo (pc + 2) (.int (iI n) :: st)) : V g x cs sl ws lo pc st := by
  obtain ⟨⟨p, e, s, m, args⟩, ⟨below, meth, c, A, nL0, R, Q⟩⟩ := x
  obtain ⟨hx, hb, hml, hown, hts, hK, hA, hE, hlk, rfl, rfl⟩ := X
  intro H locs ls hP hD hS hl
  subst hv
  exact lv_ldc hx hb hown (hts _ hw) hdg (k H locs ls hP hD hS hl)
theorem v_ldcw (X : Xo g x Ts own cc nL rm) {index : Nat} {v : Int32} (hw : Cond.constant own index v ∈ Ts) (hdg : decode cc pc = .ok (.ldc_w index, 3)) {n : Int} (hv : iI n = v) (k : V g x cs sl ws lo (pc + 3) (.int (iI n) :: st)) : V g x cs sl ws lo pc st := by
  obtain ⟨⟨p, e, s, m, args⟩, ⟨below, meth, c, A, nL0, R, Q⟩⟩ := x
  obtain ⟨hx, hb, hml, hown, hts, hK, hA, hE, hlk, rfl, rfl⟩ := X
  intro H locs ls hP hD hS hl
  subst hv
  exact lv_ldcw hx hb hown (hts _ hw) hdg (k H locs ls hP hD hS hl)
theorem v_ldc2 (X : Xo g x Ts own cc nL rm) {index : Nat} {v : Int64} (hw : Cond.constantLong own index v ∈ Ts) (hdg : decode cc pc = .ok (.ldc2_w index, 3)) {n : Int} (hv : lI n = v) (k : V g x cs sl ws lo (pc + 3) (.long (lI n) :: st)) : V g x cs sl ws lo pc st := by
  obtain ⟨⟨p, e, s, m, args⟩, ⟨below, meth, c, A, nL0, R, Q⟩⟩ := x
  obtain ⟨hx, hb, hml, hown, hts, hK, hA, hE, hlk, rfl, rfl⟩ := X
  intro H locs ls hP hD hS hl
  subst hv
  exact lv_ldc2 hx hb hown (hts _ hw) hdg (k H locs ls hP hD hS hl)
theorem v_lconst0 (X : Xo g x Ts own cc nL rm) (hdg : decode cc pc = .ok (.lconst 0, 1)) (k : V g x cs sl ws lo (pc + 1) (.long (lI 0) :: st)) : V g x cs sl ws lo pc st := by
  obtain ⟨⟨p, e, s, m, args⟩, ⟨below, meth, c, A, nL0, R, Q⟩⟩ := x
  obtain ⟨hx, hb, hml, hown, hts, hK, hA, hE, hlk, rfl, rfl⟩ := X
  intro H locs ls hP hD hS hl
  exact lv_lconst hx hb hdg rfl (k H locs ls hP hD hS hl)
theorem v_lconst1 (X : Xo g x Ts own cc nL rm) (hdg : decode cc pc = .ok (.lconst 1, 1)) (k : V g x cs sl ws lo (pc + 1) (.long (lI 1) :: st)) : V g x cs sl ws lo pc st := by
  obtain ⟨⟨p, e, s, m, args⟩, ⟨below, meth, c, A, nL0, R, Q⟩⟩ := x
  obtain ⟨hx, hb, hml, hown, hts, hK, hA, hE, hlk, rfl, rfl⟩ := X
  intro H locs ls hP hD hS hl
  exact lv_lconst hx hb hdg rfl (k H locs ls hP hD hS hl)
theorem v_iload_n (X : Xo g x Ts own cc nL rm) {n : Fin 4} {y : Int32} (hdg : decode cc pc = .ok (.iload_n n, 1)) (hv : lo[(n : Nat)]? = some (some (.int y))) (k : V g x cs sl ws lo (pc + 1) (.int y :: st)) : V g x cs sl ws lo pc st := by
  obtain ⟨⟨p, e, s, m, args⟩, ⟨below, meth, c, A, nL0, R, Q⟩⟩ := x
  obtain ⟨hx, hb, hml, hown, hts, hK, hA, hE, hlk, rfl, rfl⟩ := X
  intro H locs ls hP hD hS hl
  exact lv_iload_n hx hb hdg rfl (lvO_at hl hv) (k H locs ls hP hD hS hl)
theorem v_iload (X : Xo g x Ts own cc nL rm) {n : Nat} {y : Int32} (hdg : decode cc pc = .ok (.iload n, 2)) (hv : lo[n]? = some (some (.int y))) (k : V g x cs sl ws lo (pc + 2) (.int y :: st)) : V g x cs sl ws lo pc st := by
  obtain ⟨⟨p, e, s, m, args⟩, ⟨below, meth, c, A, nL0, R, Q⟩⟩ := x
  obtain ⟨hx, hb, hml, hown, hts, hK, hA, hE, hlk, rfl, rfl⟩ := X
  intro H locs ls hP hD hS hl
  exact lv_iload hx hb hdg (lvO_at hl hv) (k H locs ls hP hD hS hl)
theorem v_lload_n (X : Xo g x Ts own cc nL rm) {n : Fin 4} {y : Int64} (hdg : decode cc pc = .ok (.lload_n n, 1)) (hv : lo[(n : Nat)]? = some (some (.long y))) (k : V g x cs sl ws lo (pc + 1) (.long y :: st)) : V g x cs sl ws lo pc st := by
  obtain ⟨⟨p, e, s, m, args⟩, ⟨below, meth, c, A, nL0, R, Q⟩⟩ := x
  obtain ⟨hx, hb, hml, hown, hts, hK, hA, hE, hlk, rfl, rfl⟩ := X
  intro H locs ls hP hD hS hl
  exact lv_lload_n hx hb hdg rfl (lvO_at hl hv) (k H locs ls hP hD hS hl)
theorem v_lload (X : Xo g x Ts own cc nL rm) {n : Nat} {y : Int64} (hdg : decode cc pc = .ok (.lload n, 2)) (hv : lo[n]? = some (some (.long y))) (k : V g x cs sl ws lo (pc + 2) (.long y :: st)) : V g x cs sl ws lo pc st := by
  obtain ⟨⟨p, e, s, m, args⟩, ⟨below, meth, c, A, nL0, R, Q⟩⟩ := x
  obtain ⟨hx, hb, hml, hown, hts, hK, hA, hE, hlk, rfl, rfl⟩ := X
  intro H locs ls hP hD hS hl
  exact lv_lload hx hb hdg (lvO_at hl hv) (k H locs ls hP hD hS hl)
theorem v_aload_n (X : Xo g x Ts own cc nL rm) {n : Fin 4} {y : Nat} (hdg : decode cc pc = .ok (.aload_n n, 1)) (hv : lo[(n : Nat)]? = some (some (.ref y))) (k : V g x cs sl ws lo (pc + 1) (.ref y :: st)) : V g x cs sl ws lo pc st := by
  obtain ⟨⟨p, e, s, m, args⟩, ⟨below, meth, c, A, nL0, R, Q⟩⟩ := x
  obtain ⟨hx, hb, hml, hown, hts, hK, hA, hE, hlk, rfl, rfl⟩ := X
  intro H locs ls hP hD hS hl
  exact lv_aload_n hx hb hdg rfl (lvO_at hl hv) (k H locs ls hP hD hS hl)
theorem v_aload (X : Xo g x Ts own cc nL rm) {n : Nat} {y : Nat} (hdg : decode cc pc = .ok (.aload n, 2)) (hv : lo[n]? = some (some (.ref y))) (k : V g x cs sl ws lo (pc + 2) (.ref y :: st)) : V g x cs sl ws lo pc st := by
  obtain ⟨⟨p, e, s, m, args⟩, ⟨below, meth, c, A, nL0, R, Q⟩⟩ := x
  obtain ⟨hx, hb, hml, hown, hts, hK, hA, hE, hlk, rfl, rfl⟩ := X
  intro H locs ls hP hD hS hl
  exact lv_aload hx hb hdg (lvO_at hl hv) (k H locs ls hP hD hS hl)
theorem v_istore_n (X : Xo g x Ts own cc nL rm) {n : Fin 4} {y : Int32} (hdg : decode cc pc = .ok (.istore_n n, 1)) (i : Nat) (hi : (n : Nat) = i) (hn : i < nL) (hk : okS lo i = true) (k : V g x cs sl ws (lo.set i (some (.int y))) (pc + 1) st) : V g x cs sl ws lo pc (.int y :: st) := by
  obtain ⟨⟨p, e, s, m, args⟩, ⟨below, meth, c, A, nL0, R, Q⟩⟩ := x
  obtain ⟨hx, hb, hml, hown, hts, hK, hA, hE, hlk, rfl, rfl⟩ := X
  intro H locs ls hP hD hS hl
  subst hi
  exact lv_istore_n hx hb hdg rfl hl hn rfl (fun ls2 h2 => k H locs ls2 hP hD hS (lvO_set1 hk h2))
theorem v_istore (X : Xo g x Ts own cc nL rm) {n : Nat} {y : Int32} (hdg : decode cc pc = .ok (.istore n, 2)) (hn : n < nL) (hk : okS lo n = true) (k : V g x cs sl ws (lo.set n (some (.int y))) (pc + 2) st) : V g x cs sl ws lo pc (.int y :: st) := by
  obtain ⟨⟨p, e, s, m, args⟩, ⟨below, meth, c, A, nL0, R, Q⟩⟩ := x
  obtain ⟨hx, hb, hml, hown, hts, hK, hA, hE, hlk, rfl, rfl⟩ := X
  intro H locs ls hP hD hS hl
  exact lv_istore hx hb hdg hl hn rfl (fun ls2 h2 => k H locs ls2 hP hD hS (lvO_set1 hk h2))
theorem v_astore_n (X : Xo g x Ts own cc nL rm) {n : Fin 4} {y : Nat} (hdg : decode cc pc = .ok (.astore_n n, 1)) (i : Nat) (hi : (n : Nat) = i) (hn : i < nL) (hk : okS lo i = true) (k : V g x cs sl ws (lo.set i (some (.ref y))) (pc + 1) st) : V g x cs sl ws lo pc (.ref y :: st) := by
  obtain ⟨⟨p, e, s, m, args⟩, ⟨below, meth, c, A, nL0, R, Q⟩⟩ := x
  obtain ⟨hx, hb, hml, hown, hts, hK, hA, hE, hlk, rfl, rfl⟩ := X
  intro H locs ls hP hD hS hl
  subst hi
  exact lv_astore_n hx hb hdg rfl hl hn rfl (fun ls2 h2 => k H locs ls2 hP hD hS (lvO_set1 hk h2))
theorem v_astore (X : Xo g x Ts own cc nL rm) {n : Nat} {y : Nat} (hdg : decode cc pc = .ok (.astore n, 2)) (hn : n < nL) (hk : okS lo n = true) (k : V g x cs sl ws (lo.set n (some (.ref y))) (pc + 2) st) : V g x cs sl ws lo pc (.ref y :: st) := by
  obtain ⟨⟨p, e, s, m, args⟩, ⟨below, meth, c, A, nL0, R, Q⟩⟩ := x
  obtain ⟨hx, hb, hml, hown, hts, hK, hA, hE, hlk, rfl, rfl⟩ := X
  intro H locs ls hP hD hS hl
  exact lv_astore hx hb hdg hl hn rfl (fun ls2 h2 => k H locs ls2 hP hD hS (lvO_set1 hk h2))
theorem v_lstore_n (X : Xo g x Ts own cc nL rm) {n : Fin 4} {y : Int64} (hdg : decode cc pc = .ok (.lstore_n n, 1)) (i : Nat) (hi : (n : Nat) = i) (hn : i + 1 < nL) (hk : okS lo i = true) (k : V g x cs sl ws ((lo.set i (some (.long y))).set (i + 1) none) (pc + 1) st) : V g x cs sl ws lo pc (.long y :: st) := by
  obtain ⟨⟨p, e, s, m, args⟩, ⟨below, meth, c, A, nL0, R, Q⟩⟩ := x
  obtain ⟨hx, hb, hml, hown, hts, hK, hA, hE, hlk, rfl, rfl⟩ := X
  intro H locs ls hP hD hS hl
  subst hi
  exact lv_lstore_n hx hb hdg rfl hl hn rfl (fun ls2 h2 => k H locs ls2 hP hD hS (lvO_set2 hk h2))
theorem v_lstore (X : Xo g x Ts own cc nL rm) {n : Nat} {y : Int64} (hdg : decode cc pc = .ok (.lstore n, 2)) (hn : n + 1 < nL) (hk : okS lo n = true) (k : V g x cs sl ws ((lo.set n (some (.long y))).set (n + 1) none) (pc + 2) st) : V g x cs sl ws lo pc (.long y :: st) := by
  obtain ⟨⟨p, e, s, m, args⟩, ⟨below, meth, c, A, nL0, R, Q⟩⟩ := x
  obtain ⟨hx, hb, hml, hown, hts, hK, hA, hE, hlk, rfl, rfl⟩ := X
  intro H locs ls hP hD hS hl
  exact lv_lstore hx hb hdg hl hn rfl (fun ls2 h2 => k H locs ls2 hP hD hS (lvO_set2 hk h2))
theorem v_iinc (X : Xo g x Ts own cc nL rm) {i : Nat} {n a : Int} (hdg : decode cc pc = .ok (.iinc i n, 3)) (hv : lo[i]? = some (some (.int (iI a)))) (hn : i < nL) (hk : okS lo i = true) (k : V g x cs sl ws (lo.set i (some (.int (iI (a + n))))) (pc + 3) st) : V g x cs sl ws lo pc st := by
  obtain ⟨⟨p, e, s, m, args⟩, ⟨below, meth, c, A, nL0, R, Q⟩⟩ := x
  obtain ⟨hx, hb, hml, hown, hts, hK, hA, hE, hlk, rfl, rfl⟩ := X
  intro H locs ls hP hD hS hl
  have hm := loL_mem lo 0 i _ hv
  rw [Nat.zero_add] at hm
  obtain ⟨q, hq⟩ := List.getElem?_of_mem hm
  exact lv_iinc hx hb hdg hl hq (show iI a + Int32.ofInt n = iI (a + n) from iI_add a n) hn rfl (fun ls2 h2 => k H locs ls2 hP hD hS (lvO_set1 hk h2))
theorem v_iadd (X : Xo g x Ts own cc nL rm) {a b : Int} (hdg : decode cc pc = .ok (.iadd, 1)) (k : V g x cs sl ws lo (pc + 1) (.int (iI (a + b)) :: st)) : V g x cs sl ws lo pc (.int (iI b) :: .int (iI a) :: st) := by
  obtain ⟨⟨p, e, s, m, args⟩, ⟨below, meth, c, A, nL0, R, Q⟩⟩ := x
  obtain ⟨hx, hb, hml, hown, hts, hK, hA, hE, hlk, rfl, rfl⟩ := X
  intro H locs ls hP hD hS hl
  exact lv_iadd hx hb hdg (by rw [iI_add]; exact (k H locs ls hP hD hS hl))
theorem v_isub (X : Xo g x Ts own cc nL rm) {a b : Int} (hdg : decode cc pc = .ok (.isub, 1)) (k : V g x cs sl ws lo (pc + 1) (.int (iI (a - b)) :: st)) : V g x cs sl ws lo pc (.int (iI b) :: .int (iI a) :: st) := by
  obtain ⟨⟨p, e, s, m, args⟩, ⟨below, meth, c, A, nL0, R, Q⟩⟩ := x
  obtain ⟨hx, hb, hml, hown, hts, hK, hA, hE, hlk, rfl, rfl⟩ := X
  intro H locs ls hP hD hS hl
  exact lv_isub hx hb hdg (by rw [iI_sub]; exact (k H locs ls hP hD hS hl))
theorem v_imul (X : Xo g x Ts own cc nL rm) {a b : Int} (hdg : decode cc pc = .ok (.imul, 1)) (k : V g x cs sl ws lo (pc + 1) (.int (iI (a * b)) :: st)) : V g x cs sl ws lo pc (.int (iI b) :: .int (iI a) :: st) := by
  obtain ⟨⟨p, e, s, m, args⟩, ⟨below, meth, c, A, nL0, R, Q⟩⟩ := x
  obtain ⟨hx, hb, hml, hown, hts, hK, hA, hE, hlk, rfl, rfl⟩ := X
  intro H locs ls hP hD hS hl
  exact lv_imul hx hb hdg (by rw [iI_mul]; exact (k H locs ls hP hD hS hl))
theorem v_ineg (X : Xo g x Ts own cc nL rm) {a : Int} (hdg : decode cc pc = .ok (.ineg, 1)) (k : V g x cs sl ws lo (pc + 1) (.int (iI (-a)) :: st)) : V g x cs sl ws lo pc (.int (iI a) :: st) := by
  obtain ⟨⟨p, e, s, m, args⟩, ⟨below, meth, c, A, nL0, R, Q⟩⟩ := x
  obtain ⟨hx, hb, hml, hown, hts, hK, hA, hE, hlk, rfl, rfl⟩ := X
  intro H locs ls hP hD hS hl
  exact lv_ineg hx hb hdg (by rw [iI_neg]; exact (k H locs ls hP hD hS hl))
theorem v_idiv (X : Xo g x Ts own cc nL rm) {a b : Int} (hdg : decode cc pc = .ok (.idiv, 1)) (ha : R32 a) (hb2 : R32 b) (h0 : b ≠ 0) (k : V g x cs sl ws lo (pc + 1) (.int (iI (a.tdiv b)) :: st)) : V g x cs sl ws lo pc (.int (iI b) :: .int (iI a) :: st) := by
  obtain ⟨⟨p, e, s, m, args⟩, ⟨below, meth, c, A, nL0, R, Q⟩⟩ := x
  obtain ⟨hx, hb, hml, hown, hts, hK, hA, hE, hlk, rfl, rfl⟩ := X
  intro H locs ls hP hD hS hl
  exact lv_idiv hx hb hdg (iI_ne0 hb2 h0) (by rw [iI_div ha hb2]; exact (k H locs ls hP hD hS hl))
theorem v_irem (X : Xo g x Ts own cc nL rm) {a b : Int} (hdg : decode cc pc = .ok (.irem, 1)) (ha : R32 a) (hb2 : R32 b) (h0 : b ≠ 0) (k : V g x cs sl ws lo (pc + 1) (.int (iI (a.tmod b)) :: st)) : V g x cs sl ws lo pc (.int (iI b) :: .int (iI a) :: st) := by
  obtain ⟨⟨p, e, s, m, args⟩, ⟨below, meth, c, A, nL0, R, Q⟩⟩ := x
  obtain ⟨hx, hb, hml, hown, hts, hK, hA, hE, hlk, rfl, rfl⟩ := X
  intro H locs ls hP hD hS hl
  exact lv_irem hx hb hdg (iI_ne0 hb2 h0) (by rw [iI_rem ha hb2]; exact (k H locs ls hP hD hS hl))
theorem v_iand (X : Xo g x Ts own cc nL rm) {a b : Int} (hdg : decode cc pc = .ok (.iand, 1)) (k : V g x cs sl ws lo (pc + 1) (.int (iI (iAnd a b)) :: st)) : V g x cs sl ws lo pc (.int (iI b) :: .int (iI a) :: st) := by
  obtain ⟨⟨p, e, s, m, args⟩, ⟨below, meth, c, A, nL0, R, Q⟩⟩ := x
  obtain ⟨hx, hb, hml, hown, hts, hK, hA, hE, hlk, rfl, rfl⟩ := X
  intro H locs ls hP hD hS hl
  have k2 := (k H locs ls hP hD hS hl)
  unfold iAnd at k2
  rw [iI_of] at k2
  exact lv_iand hx hb hdg k2
theorem v_ior (X : Xo g x Ts own cc nL rm) {a b : Int} (hdg : decode cc pc = .ok (.ior, 1)) (k : V g x cs sl ws lo (pc + 1) (.int (iI (iOr a b)) :: st)) : V g x cs sl ws lo pc (.int (iI b) :: .int (iI a) :: st) := by
  obtain ⟨⟨p, e, s, m, args⟩, ⟨below, meth, c, A, nL0, R, Q⟩⟩ := x
  obtain ⟨hx, hb, hml, hown, hts, hK, hA, hE, hlk, rfl, rfl⟩ := X
  intro H locs ls hP hD hS hl
  have k2 := (k H locs ls hP hD hS hl)
  unfold iOr at k2
  rw [iI_of] at k2
  exact lv_ior hx hb hdg k2
theorem v_ishl (X : Xo g x Ts own cc nL rm) {a b : Int} (hdg : decode cc pc = .ok (.ishl, 1)) (k : V g x cs sl ws lo (pc + 1) (.int (iI (iShl a b)) :: st)) : V g x cs sl ws lo pc (.int (iI b) :: .int (iI a) :: st) := by
  obtain ⟨⟨p, e, s, m, args⟩, ⟨below, meth, c, A, nL0, R, Q⟩⟩ := x
  obtain ⟨hx, hb, hml, hown, hts, hK, hA, hE, hlk, rfl, rfl⟩ := X
  intro H locs ls hP hD hS hl
  have k2 := (k H locs ls hP hD hS hl)
  unfold iShl at k2
  rw [iI_of] at k2
  exact lv_ishl hx hb hdg k2
theorem v_i2b (X : Xo g x Ts own cc nL rm) {a : Int} (hdg : decode cc pc = .ok (.i2b, 1)) (k : V g x cs sl ws lo (pc + 1) (.int (iI (iByte a)) :: st)) : V g x cs sl ws lo pc (.int (iI a) :: st) := by
  obtain ⟨⟨p, e, s, m, args⟩, ⟨below, meth, c, A, nL0, R, Q⟩⟩ := x
  obtain ⟨hx, hb, hml, hown, hts, hK, hA, hE, hlk, rfl, rfl⟩ := X
  intro H locs ls hP hD hS hl
  exact lv_i2b hx hb hdg (show (iI a).toInt8.toInt32 = iI (iByte a) from rfl) (k H locs ls hP hD hS hl)
theorem v_i2s (X : Xo g x Ts own cc nL rm) {a : Int} (hdg : decode cc pc = .ok (.i2s, 1)) (k : V g x cs sl ws lo (pc + 1) (.int (iI (iShort a)) :: st)) : V g x cs sl ws lo pc (.int (iI a) :: st) := by
  obtain ⟨⟨p, e, s, m, args⟩, ⟨below, meth, c, A, nL0, R, Q⟩⟩ := x
  obtain ⟨hx, hb, hml, hown, hts, hK, hA, hE, hlk, rfl, rfl⟩ := X
  intro H locs ls hP hD hS hl
  exact lv_i2s hx hb hdg (show (iI a).toInt16.toInt32 = iI (iShort a) from rfl) (k H locs ls hP hD hS hl)
theorem v_i2l (X : Xo g x Ts own cc nL rm) {a : Int} (hdg : decode cc pc = .ok (.i2l, 1)) (ha : R32 a) (k : V g x cs sl ws lo (pc + 1) (.long (lI a) :: st)) : V g x cs sl ws lo pc (.int (iI a) :: st) := by
  obtain ⟨⟨p, e, s, m, args⟩, ⟨below, meth, c, A, nL0, R, Q⟩⟩ := x
  obtain ⟨hx, hb, hml, hown, hts, hK, hA, hE, hlk, rfl, rfl⟩ := X
  intro H locs ls hP hD hS hl
  exact lv_i2l hx hb hdg (Int32.toInt64_ofInt (by exact ha.1) (by exact ha.2)) (k H locs ls hP hD hS hl)
theorem v_l2i (X : Xo g x Ts own cc nL rm) {w : Int64} (hdg : decode cc pc = .ok (.l2i, 1)) (k : V g x cs sl ws lo (pc + 1) (.int (iI (iLow w)) :: st)) : V g x cs sl ws lo pc (.long w :: st) := by
  obtain ⟨⟨p, e, s, m, args⟩, ⟨below, meth, c, A, nL0, R, Q⟩⟩ := x
  obtain ⟨hx, hb, hml, hown, hts, hK, hA, hE, hlk, rfl, rfl⟩ := X
  intro H locs ls hP hD hS hl
  exact lv_l2i hx hb hdg (by unfold iLow; rw [iI_of]) (k H locs ls hP hD hS hl)
theorem v_ladd (X : Xo g x Ts own cc nL rm) {a b : Int} (hdg : decode cc pc = .ok (.ladd, 1)) (k : V g x cs sl ws lo (pc + 1) (.long (lI (a + b)) :: st)) : V g x cs sl ws lo pc (.long (lI b) :: .long (lI a) :: st) := by
  obtain ⟨⟨p, e, s, m, args⟩, ⟨below, meth, c, A, nL0, R, Q⟩⟩ := x
  obtain ⟨hx, hb, hml, hown, hts, hK, hA, hE, hlk, rfl, rfl⟩ := X
  intro H locs ls hP hD hS hl
  exact lv_ladd hx hb hdg (by rw [show lI a + lI b = lI (a + b) from (Int64.ofInt_add a b).symm]; exact (k H locs ls hP hD hS hl))
theorem v_land (X : Xo g x Ts own cc nL rm) {a b : Int64} (hdg : decode cc pc = .ok (.land, 1)) (k : V g x cs sl ws lo (pc + 1) (.long (a &&& b) :: st)) : V g x cs sl ws lo pc (.long b :: .long a :: st) := by
  obtain ⟨⟨p, e, s, m, args⟩, ⟨below, meth, c, A, nL0, R, Q⟩⟩ := x
  obtain ⟨hx, hb, hml, hown, hts, hK, hA, hE, hlk, rfl, rfl⟩ := X
  intro H locs ls hP hD hS hl
  exact lv_land hx hb hdg (k H locs ls hP hD hS hl)
theorem v_lor (X : Xo g x Ts own cc nL rm) {a b : Int64} (hdg : decode cc pc = .ok (.lor, 1)) (k : V g x cs sl ws lo (pc + 1) (.long (a ||| b) :: st)) : V g x cs sl ws lo pc (.long b :: .long a :: st) := by
  obtain ⟨⟨p, e, s, m, args⟩, ⟨below, meth, c, A, nL0, R, Q⟩⟩ := x
  obtain ⟨hx, hb, hml, hown, hts, hK, hA, hE, hlk, rfl, rfl⟩ := X
  intro H locs ls hP hD hS hl
  exact lv_lor hx hb hdg (k H locs ls hP hD hS hl)
theorem v_lshl (X : Xo g x Ts own cc nL rm) {a : Int64} {b : Int32} (hdg : decode cc pc = .ok (.lshl, 1)) (k : V g x cs sl ws lo (pc + 1) (.long (a <<< (b.toInt64 &&& 63)) :: st)) : V g x cs sl ws lo pc (.int b :: .long a :: st) := by
  obtain ⟨⟨p, e, s, m, args⟩, ⟨below, meth, c, A, nL0, R, Q⟩⟩ := x
  obtain ⟨hx, hb, hml, hown, hts, hK, hA, hE, hlk, rfl, rfl⟩ := X
  intro H locs ls hP hD hS hl
  exact lv_lshl hx hb hdg rfl (k H locs ls hP hD hS hl)
theorem v_lshr (X : Xo g x Ts own cc nL rm) {a : Int64} {b : Int32} (hdg : decode cc pc = .ok (.lshr, 1)) (k : V g x cs sl ws lo (pc + 1) (.long (a >>> (b.toInt64 &&& 63)) :: st)) : V g x cs sl ws lo pc (.int b :: .long a :: st) := by
  obtain ⟨⟨p, e, s, m, args⟩, ⟨below, meth, c, A, nL0, R, Q⟩⟩ := x
  obtain ⟨hx, hb, hml, hown, hts, hK, hA, hE, hlk, rfl, rfl⟩ := X
  intro H locs ls hP hD hS hl
  exact lv_lshr hx hb hdg rfl (k H locs ls hP hD hS hl)
theorem v_lushr (X : Xo g x Ts own cc nL rm) {a : Int64} {b : Int32} (hdg : decode cc pc = .ok (.lushr, 1)) (k : V g x cs sl ws lo (pc + 1) (.long ((a.toUInt64 >>> (b.toInt64.toUInt64 &&& Int64.toUInt64 63)).toInt64) :: st)) : V g x cs sl ws lo pc (.int b :: .long a :: st) := by
  obtain ⟨⟨p, e, s, m, args⟩, ⟨below, meth, c, A, nL0, R, Q⟩⟩ := x
  obtain ⟨hx, hb, hml, hown, hts, hK, hA, hE, hlk, rfl, rfl⟩ := X
  intro H locs ls hP hD hS hl
  exact lv_lushr hx hb hdg rfl (k H locs ls hP hD hS hl)
theorem v_dup (X : Xo g x Ts own cc nL rm) {a : Value} (hdg : decode cc pc = .ok (.dup, 1)) (hv : a.category = 1) (k : V g x cs sl ws lo (pc + 1) (a :: a :: st)) : V g x cs sl ws lo pc (a :: st) := by
  obtain ⟨⟨p, e, s, m, args⟩, ⟨below, meth, c, A, nL0, R, Q⟩⟩ := x
  obtain ⟨hx, hb, hml, hown, hts, hK, hA, hE, hlk, rfl, rfl⟩ := X
  intro H locs ls hP hD hS hl
  exact lv_dup hx hb hdg hv (k H locs ls hP hD hS hl)
theorem v_dup2 (X : Xo g x Ts own cc nL rm) {a b : Value} (hdg : decode cc pc = .ok (.dup2, 1)) (hva : a.category = 1) (hvb : b.category = 1) (k : V g x cs sl ws lo (pc + 1) (a :: b :: a :: b :: st)) : V g x cs sl ws lo pc (a :: b :: st) := by
  obtain ⟨⟨p, e, s, m, args⟩, ⟨below, meth, c, A, nL0, R, Q⟩⟩ := x
  obtain ⟨hx, hb, hml, hown, hts, hK, hA, hE, hlk, rfl, rfl⟩ := X
  intro H locs ls hP hD hS hl
  exact lv_dup2_11 hx hb hdg hva hvb (k H locs ls hP hD hS hl)
theorem v_goto (X : Xo g x Ts own cc nL rm) {off : Int} {tgt : Nat} (hdg : decode cc pc = .ok (.goto off, 3)) (ht : (pc : Int) + off = (tgt : Int)) (k : V g x cs sl ws lo tgt st) : V g x cs sl ws lo pc st := by
  obtain ⟨⟨p, e, s, m, args⟩, ⟨below, meth, c, A, nL0, R, Q⟩⟩ := x
  obtain ⟨hx, hb, hml, hown, hts, hK, hA, hE, hlk, rfl, rfl⟩ := X
  intro H locs ls hP hD hS hl
  exact lv_goto hx hb hdg ht (k H locs ls hP hD hS hl)
theorem v_icmp_eq (X : Xo g x Ts own cc nL rm) {a b : Int} {off : Int} {tgt : Nat} (hdg : decode cc pc = .ok (.if_icmp .eq off, 3)) (ht : (pc : Int) + off = (tgt : Int)) (ha : R32 a) (hb2 : R32 b) (kt : (a = b) → V g x cs sl ws lo tgt st) (kf : (a ≠ b) → V g x cs sl ws lo (pc + 3) st) : V g x cs sl ws lo pc (.int (iI b) :: .int (iI a) :: st) := by
  obtain ⟨⟨p, e, s, m, args⟩, ⟨below, meth, c, A, nL0, R, Q⟩⟩ := x
  obtain ⟨hx, hb, hml, hown, hts, hK, hA, hE, hlk, rfl, rfl⟩ := X
  intro H locs ls hP hD hS hl
  exact lv_icmp_eq hx hb hdg ht (fun h => kt ((iI_inj ha hb2).mp h) H locs ls hP hD hS hl) (fun h => kf (fun q => h ((iI_inj ha hb2).mpr q)) H locs ls hP hD hS hl)
theorem v_if_eq (X : Xo g x Ts own cc nL rm) {a : Int} {off : Int} {tgt : Nat} (hdg : decode cc pc = .ok (.ifCond .eq off, 3)) (ht : (pc : Int) + off = (tgt : Int)) (ha : R32 a) (kt : (a = 0) → V g x cs sl ws lo tgt st) (kf : (a ≠ 0) → V g x cs sl ws lo (pc + 3) st) : V g x cs sl ws lo pc (.int (iI a) :: st) := by
  obtain ⟨⟨p, e, s, m, args⟩, ⟨below, meth, c, A, nL0, R, Q⟩⟩ := x
  obtain ⟨hx, hb, hml, hown, hts, hK, hA, hE, hlk, rfl, rfl⟩ := X
  intro H locs ls hP hD hS hl
  have r0 : R32 0 := by omega
  exact lv_if_eq hx hb hdg ht (fun h => kt ((iI_inj ha r0).mp h) H locs ls hP hD hS hl) (fun h => kf (fun q => h ((iI_inj ha r0).mpr q)) H locs ls hP hD hS hl)
theorem v_icmp_ne (X : Xo g x Ts own cc nL rm) {a b : Int} {off : Int} {tgt : Nat} (hdg : decode cc pc = .ok (.if_icmp .ne off, 3)) (ht : (pc : Int) + off = (tgt : Int)) (ha : R32 a) (hb2 : R32 b) (kt : (a ≠ b) → V g x cs sl ws lo tgt st) (kf : (a = b) → V g x cs sl ws lo (pc + 3) st) : V g x cs sl ws lo pc (.int (iI b) :: .int (iI a) :: st) := by
  obtain ⟨⟨p, e, s, m, args⟩, ⟨below, meth, c, A, nL0, R, Q⟩⟩ := x
  obtain ⟨hx, hb, hml, hown, hts, hK, hA, hE, hlk, rfl, rfl⟩ := X
  intro H locs ls hP hD hS hl
  exact lv_icmp_ne hx hb hdg ht (fun h => kt (fun q => h ((iI_inj ha hb2).mpr q)) H locs ls hP hD hS hl) (fun h => kf ((iI_inj ha hb2).mp h) H locs ls hP hD hS hl)
theorem v_if_ne (X : Xo g x Ts own cc nL rm) {a : Int} {off : Int} {tgt : Nat} (hdg : decode cc pc = .ok (.ifCond .ne off, 3)) (ht : (pc : Int) + off = (tgt : Int)) (ha : R32 a) (kt : (a ≠ 0) → V g x cs sl ws lo tgt st) (kf : (a = 0) → V g x cs sl ws lo (pc + 3) st) : V g x cs sl ws lo pc (.int (iI a) :: st) := by
  obtain ⟨⟨p, e, s, m, args⟩, ⟨below, meth, c, A, nL0, R, Q⟩⟩ := x
  obtain ⟨hx, hb, hml, hown, hts, hK, hA, hE, hlk, rfl, rfl⟩ := X
  intro H locs ls hP hD hS hl
  have r0 : R32 0 := by omega
  exact lv_if_ne hx hb hdg ht (fun h => kt (fun q => h ((iI_inj ha r0).mpr q)) H locs ls hP hD hS hl) (fun h => kf ((iI_inj ha r0).mp h) H locs ls hP hD hS hl)
theorem v_icmp_lt (X : Xo g x Ts own cc nL rm) {a b : Int} {off : Int} {tgt : Nat} (hdg : decode cc pc = .ok (.if_icmp .lt off, 3)) (ht : (pc : Int) + off = (tgt : Int)) (ha : R32 a) (hb2 : R32 b) (kt : (a < b) → V g x cs sl ws lo tgt st) (kf : (b ≤ a) → V g x cs sl ws lo (pc + 3) st) : V g x cs sl ws lo pc (.int (iI b) :: .int (iI a) :: st) := by
  obtain ⟨⟨p, e, s, m, args⟩, ⟨below, meth, c, A, nL0, R, Q⟩⟩ := x
  obtain ⟨hx, hb, hml, hown, hts, hK, hA, hE, hlk, rfl, rfl⟩ := X
  intro H locs ls hP hD hS hl
  exact lv_icmp_lt hx hb hdg ht (fun h => kt ((iI_lt ha hb2).mp h) H locs ls hP hD hS hl) (fun h => kf (Int.not_lt.mp fun q => h ((iI_lt ha hb2).mpr q)) H locs ls hP hD hS hl)
theorem v_if_lt (X : Xo g x Ts own cc nL rm) {a : Int} {off : Int} {tgt : Nat} (hdg : decode cc pc = .ok (.ifCond .lt off, 3)) (ht : (pc : Int) + off = (tgt : Int)) (ha : R32 a) (kt : (a < 0) → V g x cs sl ws lo tgt st) (kf : (0 ≤ a) → V g x cs sl ws lo (pc + 3) st) : V g x cs sl ws lo pc (.int (iI a) :: st) := by
  obtain ⟨⟨p, e, s, m, args⟩, ⟨below, meth, c, A, nL0, R, Q⟩⟩ := x
  obtain ⟨hx, hb, hml, hown, hts, hK, hA, hE, hlk, rfl, rfl⟩ := X
  intro H locs ls hP hD hS hl
  have r0 : R32 0 := by omega
  exact lv_if_lt hx hb hdg ht (fun h => kt ((iI_lt ha r0).mp h) H locs ls hP hD hS hl) (fun h => kf (Int.not_lt.mp fun q => h ((iI_lt ha r0).mpr q)) H locs ls hP hD hS hl)
theorem v_icmp_ge (X : Xo g x Ts own cc nL rm) {a b : Int} {off : Int} {tgt : Nat} (hdg : decode cc pc = .ok (.if_icmp .ge off, 3)) (ht : (pc : Int) + off = (tgt : Int)) (ha : R32 a) (hb2 : R32 b) (kt : (b ≤ a) → V g x cs sl ws lo tgt st) (kf : (a < b) → V g x cs sl ws lo (pc + 3) st) : V g x cs sl ws lo pc (.int (iI b) :: .int (iI a) :: st) := by
  obtain ⟨⟨p, e, s, m, args⟩, ⟨below, meth, c, A, nL0, R, Q⟩⟩ := x
  obtain ⟨hx, hb, hml, hown, hts, hK, hA, hE, hlk, rfl, rfl⟩ := X
  intro H locs ls hP hD hS hl
  exact lv_icmp_ge hx hb hdg ht (fun h => kt ((iI_le hb2 ha).mp h) H locs ls hP hD hS hl) (fun h => kf (Int.not_le.mp fun q => h ((iI_le hb2 ha).mpr q)) H locs ls hP hD hS hl)
theorem v_if_ge (X : Xo g x Ts own cc nL rm) {a : Int} {off : Int} {tgt : Nat} (hdg : decode cc pc = .ok (.ifCond .ge off, 3)) (ht : (pc : Int) + off = (tgt : Int)) (ha : R32 a) (kt : (0 ≤ a) → V g x cs sl ws lo tgt st) (kf : (a < 0) → V g x cs sl ws lo (pc + 3) st) : V g x cs sl ws lo pc (.int (iI a) :: st) := by
  obtain ⟨⟨p, e, s, m, args⟩, ⟨below, meth, c, A, nL0, R, Q⟩⟩ := x
  obtain ⟨hx, hb, hml, hown, hts, hK, hA, hE, hlk, rfl, rfl⟩ := X
  intro H locs ls hP hD hS hl
  have r0 : R32 0 := by omega
  exact lv_if_ge hx hb hdg ht (fun h => kt ((iI_le r0 ha).mp h) H locs ls hP hD hS hl) (fun h => kf (Int.not_le.mp fun q => h ((iI_le r0 ha).mpr q)) H locs ls hP hD hS hl)
theorem v_icmp_gt (X : Xo g x Ts own cc nL rm) {a b : Int} {off : Int} {tgt : Nat} (hdg : decode cc pc = .ok (.if_icmp .gt off, 3)) (ht : (pc : Int) + off = (tgt : Int)) (ha : R32 a) (hb2 : R32 b) (kt : (b < a) → V g x cs sl ws lo tgt st) (kf : (a ≤ b) → V g x cs sl ws lo (pc + 3) st) : V g x cs sl ws lo pc (.int (iI b) :: .int (iI a) :: st) := by
  obtain ⟨⟨p, e, s, m, args⟩, ⟨below, meth, c, A, nL0, R, Q⟩⟩ := x
  obtain ⟨hx, hb, hml, hown, hts, hK, hA, hE, hlk, rfl, rfl⟩ := X
  intro H locs ls hP hD hS hl
  exact lv_icmp_gt hx hb hdg ht (fun h => kt ((iI_lt hb2 ha).mp h) H locs ls hP hD hS hl) (fun h => kf (Int.not_lt.mp fun q => h ((iI_lt hb2 ha).mpr q)) H locs ls hP hD hS hl)
theorem v_if_gt (X : Xo g x Ts own cc nL rm) {a : Int} {off : Int} {tgt : Nat} (hdg : decode cc pc = .ok (.ifCond .gt off, 3)) (ht : (pc : Int) + off = (tgt : Int)) (ha : R32 a) (kt : (0 < a) → V g x cs sl ws lo tgt st) (kf : (a ≤ 0) → V g x cs sl ws lo (pc + 3) st) : V g x cs sl ws lo pc (.int (iI a) :: st) := by
  obtain ⟨⟨p, e, s, m, args⟩, ⟨below, meth, c, A, nL0, R, Q⟩⟩ := x
  obtain ⟨hx, hb, hml, hown, hts, hK, hA, hE, hlk, rfl, rfl⟩ := X
  intro H locs ls hP hD hS hl
  have r0 : R32 0 := by omega
  exact lv_if_gt hx hb hdg ht (fun h => kt ((iI_lt r0 ha).mp h) H locs ls hP hD hS hl) (fun h => kf (Int.not_lt.mp fun q => h ((iI_lt r0 ha).mpr q)) H locs ls hP hD hS hl)
theorem v_icmp_le (X : Xo g x Ts own cc nL rm) {a b : Int} {off : Int} {tgt : Nat} (hdg : decode cc pc = .ok (.if_icmp .le off, 3)) (ht : (pc : Int) + off = (tgt : Int)) (ha : R32 a) (hb2 : R32 b) (kt : (a ≤ b) → V g x cs sl ws lo tgt st) (kf : (b < a) → V g x cs sl ws lo (pc + 3) st) : V g x cs sl ws lo pc (.int (iI b) :: .int (iI a) :: st) := by
  obtain ⟨⟨p, e, s, m, args⟩, ⟨below, meth, c, A, nL0, R, Q⟩⟩ := x
  obtain ⟨hx, hb, hml, hown, hts, hK, hA, hE, hlk, rfl, rfl⟩ := X
  intro H locs ls hP hD hS hl
  exact lv_icmp_le hx hb hdg ht (fun h => kt ((iI_le ha hb2).mp h) H locs ls hP hD hS hl) (fun h => kf (Int.not_le.mp fun q => h ((iI_le ha hb2).mpr q)) H locs ls hP hD hS hl)
theorem v_if_le (X : Xo g x Ts own cc nL rm) {a : Int} {off : Int} {tgt : Nat} (hdg : decode cc pc = .ok (.ifCond .le off, 3)) (ht : (pc : Int) + off = (tgt : Int)) (ha : R32 a) (kt : (a ≤ 0) → V g x cs sl ws lo tgt st) (kf : (0 < a) → V g x cs sl ws lo (pc + 3) st) : V g x cs sl ws lo pc (.int (iI a) :: st) := by
  obtain ⟨⟨p, e, s, m, args⟩, ⟨below, meth, c, A, nL0, R, Q⟩⟩ := x
  obtain ⟨hx, hb, hml, hown, hts, hK, hA, hE, hlk, rfl, rfl⟩ := X
  intro H locs ls hP hD hS hl
  have r0 : R32 0 := by omega
  exact lv_if_le hx hb hdg ht (fun h => kt ((iI_le ha r0).mp h) H locs ls hP hD hS hl) (fun h => kf (Int.not_le.mp fun q => h ((iI_le ha r0).mpr q)) H locs ls hP hD hS hl)
theorem v_lcmp (X : Xo g x Ts own cc nL rm) {a b : Int} (hdg : decode cc pc = .ok (.lcmp, 1)) (ha : R64 a) (hb2 : R64 b) (kg : b < a → V g x cs sl ws lo (pc + 1) (.int (iI 1) :: st)) (ke : a = b → V g x cs sl ws lo (pc + 1) (.int (iI 0) :: st)) (kl : a < b → V g x cs sl ws lo (pc + 1) (.int (iI (-1)) :: st)) : V g x cs sl ws lo pc (.long (lI b) :: .long (lI a) :: st) := by
  obtain ⟨⟨p, e, s, m, args⟩, ⟨below, meth, c, A, nL0, R, Q⟩⟩ := x
  obtain ⟨hx, hb, hml, hown, hts, hK, hA, hE, hlk, rfl, rfl⟩ := X
  intro H locs ls hP hD hS hl
  refine W.lcmp hx hb hdg ?_
  have hlt : ∀ u v : Int, R64 u → R64 v → (lI u < lI v ↔ u < v) := fun u v hu hv => by rw [Int64.lt_iff_toInt_lt, lI_toInt hu, lI_toInt hv]
  by_cases h1 : b < a
  · have e : lg_cmp (lI a) (lI b) = iI 1 := by
      have := (hlt b a hb2 ha).mpr h1
      simp [lg_cmp, this]
      rfl
    rw [e]
    exact kg h1 H locs ls hP hD hS hl
  · have n1 : ¬ lI b < lI a := fun q => h1 ((hlt b a hb2 ha).mp q)
    by_cases h2 : a = b
    · subst h2
      have e : lg_cmp (lI a) (lI a) = iI 0 := by
        simp [lg_cmp]
        rfl
      rw [e]
      exact ke rfl H locs ls hP hD hS hl
    · have n2 : ¬ lI a = lI b := fun q => h2 (by rw [← lI_toInt ha, ← lI_toInt hb2, q])
      have e : lg_cmp (lI a) (lI b) = iI (-1) := by
        simp [lg_cmp, n1, n2]
        rfl
      rw [e]
      exact kl (by omega) H locs ls hP hD hS hl
theorem v_tabOut (X : Xo g x Ts own cc nL rm) {dflt lw hi : Int} {offs : Array Int} {len : Nat} {a : Int} {tgt : Nat} (hdg : decode cc pc = .ok (.tableswitch dflt lw hi offs, len)) (ha : R32 a) (h : a < lw ∨ hi < a) (ht : (pc : Int) + dflt = (tgt : Int)) (k : V g x cs sl ws lo tgt st) : V g x cs sl ws lo pc (.int (iI a) :: st) := by
  obtain ⟨⟨p, e, s, m, args⟩, ⟨below, meth, c, A, nL0, R, Q⟩⟩ := x
  obtain ⟨hx, hb, hml, hown, hts, hK, hA, hE, hlk, rfl, rfl⟩ := X
  intro H locs ls hP hD hS hl
  exact lv_tableOut hx hb hdg (by rw [iI_toInt ha]; exact h) ht (k H locs ls hP hD hS hl)
theorem v_tabIn (X : Xo g x Ts own cc nL rm) {dflt lw hi : Int} {offs : Array Int} {len : Nat} {a : Int} {off : Int} {tgt : Nat} (hdg : decode cc pc = .ok (.tableswitch dflt lw hi offs, len)) (ha : R32 a) (h1 : lw ≤ a) (h2 : a ≤ hi) (ho : offs[(a - lw).toNat]? = some off) (ht : (pc : Int) + off = (tgt : Int)) (k : V g x cs sl ws lo tgt st) : V g x cs sl ws lo pc (.int (iI a) :: st) := by
  obtain ⟨⟨p, e, s, m, args⟩, ⟨below, meth, c, A, nL0, R, Q⟩⟩ := x
  obtain ⟨hx, hb, hml, hown, hts, hK, hA, hE, hlk, rfl, rfl⟩ := X
  intro H locs ls hP hD hS hl
  exact lv_tableIn hx hb hdg (by rw [iI_toInt ha]; omega) (by rw [iI_toInt ha]; omega) (by rw [iI_toInt ha]; exact ho) ht (k H locs ls hP hD hS hl)
theorem v_get (X : Xo g x Ts own cc nL rm) {ref C : String} {T : u_T} {N ci index : Nat} (hin : ∀ w ∈ u_ws C T N, w ∈ Ts) (q0 : Nat) {a : Nat} {fs : List Value} (he : ws[q0]? = some (a, .inr (ci, fs))) (hc : vwCl[ci]? = some (C, T, N)) (j : Nat) (hj : j < N) (hr : ref = (T j).1) (hw : Cond.fieldLink own index ref (T j).2.1 (T j).2.2.1 ∈ Ts) {v : Value} (hv : fs[j]? = some v) (hdg : decode cc pc = .ok (.getfield index, 3)) (k : V g x cs sl ws lo (pc + 3) (v :: st)) : V g x cs sl ws lo pc (.ref a :: st) := by
  obtain ⟨⟨p, e, s, m, args⟩, ⟨below, meth, c, A, nL0, R, Q⟩⟩ := x
  obtain ⟨hx, hb, hml, hown, hts, hK, hA, hE, hlk, rfl, rfl⟩ := X
  intro H locs ls hP hD hS hl
  subst hr
  exact va_get (D := g.2.1) (cl := vwCl) (ci := ci) (C := C) (T := T) (N := N) hx hb hts hin hown hK hP q0 he hc j hj (hts _ hw) (fun _ h9 => h9) hv hdg (k H locs ls hP hD hS hl)
theorem v_put (X : Xo g x Ts own cc nL rm) {ref C : String} {T : u_T} {N ci index : Nat} (hin : ∀ w ∈ u_ws C T N, w ∈ Ts) (ty0 : Nat → FieldType) (hty : ∀ k, k < N → parseFieldDescriptor (T k).2.2.1 = some (ty0 k)) (hnm : ∀ a, a < N → ∀ b, b < N → a ≠ b → (T a).2.1 ≠ (T b).2.1) (q0 : Nat) {a : Nat} {fs : List Value} (he : ws[q0]? = some (a, .inr (ci, fs))) (hc : vwCl[ci]? = some (C, T, N)) (j : Nat) (hj : j < N) (hr : ref = (T j).1) (hw : Cond.fieldLink own index ref (T j).2.1 (T j).2.2.1 ∈ Ts) (hfin : (T j).2.2.2 = false) {v : Value} (hn : narrow (ty0 j) v = v) (hfit : fits (ty0 j) v = true) (hl0 : j < fs.length) (hdg : decode cc pc = .ok (.putfield index, 3)) (k : V g x cs sl (ws.set q0 (a, .inr (ci, fs.set j v))) lo (pc + 3) st) : V g x cs sl ws lo pc (v :: .ref a :: st) := by
  obtain ⟨⟨p, e, s, m, args⟩, ⟨below, meth, c, A, nL0, R, Q⟩⟩ := x
  obtain ⟨hx, hb, hml, hown, hts, hK, hA, hE, hlk, rfl, rfl⟩ := X
  intro H locs ls hP hD hS hl
  subst hr
  exact va_put (D := g.2.1) (cl := vwCl) (ci := ci) (C := C) (T := T) (N := N) hx hb hts hin ty0 hty hnm hown hK hP hD hS q0 he hc j hj (hts _ hw) (fun _ h9 => h9) hfin (hty j hj) hn hfit hl0 hdg (fun H1 locs1 hP1 hD1 hS1 => k H1 locs1 ls hP1 hD1 hS1 hl)
theorem v_putF (X : Xo g x Ts own cc nL rm) (hini : x.2.2.1.name = "<init>") {C : String} {T : u_T} {N ci index : Nat} (hin : ∀ w ∈ u_ws C T N, w ∈ Ts) (ty0 : Nat → FieldType) (hty : ∀ k, k < N → parseFieldDescriptor (T k).2.2.1 = some (ty0 k)) (hnm : ∀ a, a < N → ∀ b, b < N → a ≠ b → (T a).2.1 ≠ (T b).2.1) (q0 : Nat) {a : Nat} {fs : List Value} (he : ws[q0]? = some (a, .inr (ci, fs))) (hc : vwCl[ci]? = some (C, T, N)) (j : Nat) (hj : j < N) (hr : own = (T j).1) (hw : Cond.fieldLink own index own (T j).2.1 (T j).2.2.1 ∈ Ts) (hfin : (T j).2.2.2 = true) {v : Value} (hn : narrow (ty0 j) v = v) (hfit : fits (ty0 j) v = true) (hl0 : j < fs.length) (hdg : decode cc pc = .ok (.putfield index, 3)) (k : V g x cs sl (ws.set q0 (a, .inr (ci, fs.set j v))) lo (pc + 3) st) : V g x cs sl ws lo pc (v :: .ref a :: st) := by
  obtain ⟨⟨p, e, s, m, args⟩, ⟨below, meth, c, A, nL0, R, Q⟩⟩ := x
  obtain ⟨hx, hb, hml, hown, hts, hK, hA, hE, hlk, rfl, rfl⟩ := X
  intro H locs ls hP hD hS hl
  subst hr
  exact va_putF (D := g.2.1) (cl := vwCl) (ci := ci) (C := C) (T := T) (N := N) (ref := (T j).1) hx hb hts hin ty0 hty hnm hown hK hP hD hS q0 he hc j hj (hts _ hw) (fun _ h9 => h9) hfin hini rfl (hty j hj) hn hfit hl0 hdg (fun H1 locs1 hP1 hD1 hS1 => k H1 locs1 ls hP1 hD1 hS1 hl)
theorem v_iald (X : Xo g x Ts own cc nL rm) (q0 : Nat) {a n : Nat} {f : Nat → Int} (he : ws[q0]? = some (a, aI g n f)) {i : Int} (h0 : 0 ≤ i) (h1 : i < n) (h2 : i ≤ 2147483647) (hdg : decode cc pc = .ok (.iaload, 1)) {lw hi : Int} (hr : Bd lw hi f) (k : ∀ z : Int, z = f i.toNat → lw ≤ z → z ≤ hi → V g x cs sl ws lo (pc + 1) (.int (iI z) :: st)) : V g x cs sl ws lo pc (.int (iI i) :: .ref a :: st) := by
  obtain ⟨⟨p, e, s, m, args⟩, ⟨below, meth, c, A, nL0, R, Q⟩⟩ := x
  obtain ⟨hx, hb, hml, hown, hts, hK, hA, hE, hlk, rfl, rfl⟩ := X
  intro H locs ls hP hD hS hl
  have k2 := k (f i.toNat) rfl (hr _).1 (hr _).2 H locs ls hP hD hS hl
  refine va_iald (f := fun j => iI (f j)) hx hb hK hP q0 0 he rfl (iI_in h0 h1 h2) hdg ?_
  rw [iI_clamp ⟨by omega, h2⟩]
  exact k2
theorem v_zald (X : Xo g x Ts own cc nL rm) (q0 : Nat) {a n : Nat} {f : Nat → Int} (he : ws[q0]? = some (a, aZ g n f)) {i : Int} (h0 : 0 ≤ i) (h1 : i < n) (h2 : i ≤ 2147483647) (hdg : decode cc pc = .ok (.baload, 1)) {lw hi : Int} (hr : Bd lw hi f) (k : ∀ z : Int, z = f i.toNat → lw ≤ z → z ≤ hi → V g x cs sl ws lo (pc + 1) (.int (iI z) :: st)) : V g x cs sl ws lo pc (.int (iI i) :: .ref a :: st) := by
  obtain ⟨⟨p, e, s, m, args⟩, ⟨below, meth, c, A, nL0, R, Q⟩⟩ := x
  obtain ⟨hx, hb, hml, hown, hts, hK, hA, hE, hlk, rfl, rfl⟩ := X
  intro H locs ls hP hD hS hl
  have k2 := k (f i.toNat) rfl (hr _).1 (hr _).2 H locs ls hP hD hS hl
  refine va_zald (f := fun j => iI (f j)) hx hb hK hP q0 1 he rfl (iI_in h0 h1 h2) hdg ?_
  rw [iI_clamp ⟨by omega, h2⟩]
  exact k2
theorem upd_iI (f : Nat → Int) (k : Nat) (z : Int) : upd (fun j => iI (f j)) k (iI z) = fun j => iI (updI f k z j) := by
  funext j
  unfold upd updI
  split <;> rfl
theorem v_iast (X : Xo g x Ts own cc nL rm) (q0 : Nat) {a n : Nat} {f : Nat → Int} (he : ws[q0]? = some (a, aI g n f)) {i z : Int} (h0 : 0 ≤ i) (h1 : i < n) (h2 : i ≤ 2147483647) (hdg : decode cc pc = .ok (.iastore, 1)) (k : V g x cs sl (ws.set q0 (a, aI g n (updI f i.toNat z))) lo (pc + 1) st) : V g x cs sl ws lo pc (.int (iI z) :: .int (iI i) :: .ref a :: st) := by
  obtain ⟨⟨p, e, s, m, args⟩, ⟨below, meth, c, A, nL0, R, Q⟩⟩ := x
  obtain ⟨hx, hb, hml, hown, hts, hK, hA, hE, hlk, rfl, rfl⟩ := X
  intro H locs ls hP hD hS hl
  refine va_iast (f := fun j => iI (f j)) hx hb hK hP hD hS q0 0 he rfl (iI_in h0 h1 h2) hdg (fun H1 locs1 hP1 hD1 hS1 => ?_)
  rw [iI_clamp ⟨by omega, h2⟩, upd_iI] at hP1 hD1
  exact k H1 locs1 ls hP1 hD1 hS1 hl
theorem v_zast (X : Xo g x Ts own cc nL rm) (q0 : Nat) {a n : Nat} {f : Nat → Int} (he : ws[q0]? = some (a, aZ g n f)) {i z : Int} (h0 : 0 ≤ i) (h1 : i < n) (h2 : i ≤ 2147483647) (hz : z = 0 ∨ z = 1) (hdg : decode cc pc = .ok (.bastore, 1)) (k : V g x cs sl (ws.set q0 (a, aZ g n (updI f i.toNat z))) lo (pc + 1) st) : V g x cs sl ws lo pc (.int (iI z) :: .int (iI i) :: .ref a :: st) := by
  obtain ⟨⟨p, e, s, m, args⟩, ⟨below, meth, c, A, nL0, R, Q⟩⟩ := x
  obtain ⟨hx, hb, hml, hown, hts, hK, hA, hE, hlk, rfl, rfl⟩ := X
  intro H locs ls hP hD hS hl
  refine va_zast (f := fun j => iI (f j)) hx hb hK hP hD hS q0 1 he rfl (iI_in h0 h1 h2) hdg (fun H1 locs1 hP1 hD1 hS1 => ?_)
  have e : vp_nar .boolean (iI z) = iI z := by rcases hz with rfl | rfl <;> decide
  rw [e, iI_clamp ⟨by omega, h2⟩, upd_iI] at hP1 hD1
  exact k H1 locs1 ls hP1 hD1 hS1 hl
theorem v_alen (X : Xo g x Ts own cc nL rm) (q0 : Nat) {a n : Nat} {f : Nat → Int} (he : ws[q0]? = some (a, aI g n f)) (hdg : decode cc pc = .ok (.arraylength, 1)) (k : V g x cs sl ws lo (pc + 1) (.int (iI (n : Int)) :: st)) : V g x cs sl ws lo pc (.ref a :: st) := by
  obtain ⟨⟨p, e, s, m, args⟩, ⟨below, meth, c, A, nL0, R, Q⟩⟩ := x
  obtain ⟨hx, hb, hml, hown, hts, hK, hA, hE, hlk, rfl, rfl⟩ := X
  intro H locs ls hP hD hS hl
  exact va_alen hx hb hK hP q0 0 he rfl (show Int32.ofNat n = iI (n : Int) from rfl) hdg (k H locs ls hP hD hS hl)
end VR
/-! contracts: what a method needs of its world, what it answers, what its world is then -/
def Pw (g : Gx) (w0 : va_W) (sz : Nat) : State → Prop := fun U => U.heap.size = sz ∧ va_P g.2.1 vwCl w0 U.heap ∧ va_K g.2.1 vwCl (TYg g) U ∧ va_D (fun _ => True) w0 ∧ Ev g (va_A w0 sz) U U.heap
def Bw (g : Gx) (A : Nat → Prop) (w1 : va_W) : State → Prop := fun t => va_P g.2.1 vwCl w1 t.heap ∧ va_D A w1
def QcI {S : Type} (g : Gx) (w0 : va_W) (post : Int → S → Prop) (w1 : S → va_W) (sz : Nat) : Array Value → State → Outcome → State → Prop := va_Qi (S := Int × S) (fun r u => r = iI u.1 ∧ post u.1 u.2) (fun u t => Bw g (va_A w0 sz) (w1 u.2) t) (va_A w0 sz)
def QcV {S : Type} (g : Gx) (w0 : va_W) (post : S → Prop) (w1 : S → va_W) (sz : Nat) : Array Value → State → Outcome → State → Prop := va_Qv (S := S) post (fun u t => Bw g (va_A w0 sz) (w1 u) t) (va_A w0 sz)
def QcL {S : Type} (g : Gx) (w0 : va_W) (post : Int64 → S → Prop) (w1 : S → va_W) (sz : Nat) : Array Value → State → Outcome → State → Prop := va_Ql (S := S) post (fun u t => Bw g (va_A w0 sz) (w1 u) t) (va_A w0 sz)
def QcR {S : Type} (g : Gx) (w0 : va_W) (post : Nat → S → Prop) (w1 : S → va_W) (sz : Nat) : Array Value → State → Outcome → State → Prop := va_Qr (S := Nat × S) (fun u => post u.1 u.2) (fun u a t => a = u.1 ∧ Bw g (va_A w0 sz) (w1 u.2) t) (va_A w0 sz)
def Ct (g : Gx) (y : MethodName) (wl : List Cond) (fr mc ms lo : Nat) (as : List Value) (w0 : va_W) (Qc : Nat → Array Value → State → Outcome → State → Prop) : Prop :=
  ∀ sz : Nat, Met g.1 y wl { frames := fr, cells := mc, slots := ms, locals := lo } (va_Pc as (Pw g w0 sz)) (Qc sz) mc ms (va_A w0 sz)
def CtI {S : Type} (g : Gx) (y : MethodName) (wl : List Cond) (fr lo : Nat) (as : List Value) (w0 : va_W) (post : Int → S → Prop) (w1 : S → va_W) : Prop := Ct g y wl fr 0 0 lo as w0 (QcI g w0 post w1)
def CtV {S : Type} (g : Gx) (y : MethodName) (wl : List Cond) (fr lo : Nat) (as : List Value) (w0 : va_W) (post : S → Prop) (w1 : S → va_W) : Prop := Ct g y wl fr 0 0 lo as w0 (QcV g w0 post w1)
def CtL {S : Type} (g : Gx) (y : MethodName) (wl : List Cond) (fr lo : Nat) (as : List Value) (w0 : va_W) (post : Int64 → S → Prop) (w1 : S → va_W) : Prop := Ct g y wl fr 0 0 lo as w0 (QcL g w0 post w1)
def CtR {S : Type} (g : Gx) (y : MethodName) (wl : List Cond) (fr lo : Nat) (as : List Value) (w0 : va_W) (post : Nat → S → Prop) (w1 : S → va_W) : Prop := Ct g y wl fr 0 0 lo as w0 (QcR g w0 post w1)
/-- the answer is F, the world w1 -/
def CtE (g : Gx) (y : MethodName) (wl : List Cond) (fr lo : Nat) (as : List Value) (w0 : va_W) (F : Int) (w1 : va_W) : Prop := CtI (S := Unit) g y wl fr lo as w0 (fun r _ => r = F) (fun _ => w1)
def CtW (g : Gx) (y : MethodName) (wl : List Cond) (fr lo : Nat) (as : List Value) (w0 : va_W) (w1 : va_W) : Prop := CtV (S := Unit) g y wl fr lo as w0 (fun _ => True) (fun _ => w1)
theorem Pw.blind {g : Gx} {w0 : va_W} {sz : Nat} {as : List Value} : FrameBlind (va_Pc as (Pw g w0 sz)) := fun a U f mk q => by
  obtain ⟨q0, q1, qP, qK, qD, qE⟩ := q
  exact ⟨q0, q1, qP, va_K.moved (u := U) (U := U.calling f mk a) (Vm.Alike.refl U.vm) qK, qD, Ev.same (s := U) (U := U.calling f mk a) rfl qE⟩
/-- what a walk knows of its own end -/
def Rt (x : Xt) (ty : Option FieldType) (w0 : va_W) (mc ms : Nat) (Qc : Nat → Array Value → State → Outcome → State → Prop) : Prop :=
  match x with
  | ((_, _, s, _, args), (below, meth, _, A, _, _, Q)) => meth.sig.returnType = ty ∧ A = va_A w0 s.heap.size ∧ Q = MQ below (Qc s.heap.size) args s mc ms (va_A w0 s.heap.size)
theorem m_go {g : Gx} {y : MethodName} {wl wl2 : List Cond} {cc : ByteArray} {nL : Nat} {ret : Option FieldType} {fr mc ms lo0 : Nat} {as : List Value} {w0 : va_W} {Qc : Nat → Array Value → State → Outcome → State → Prop} (hy : plainName y.cls = true) (hw : wl = Cond.code y cc nL ret :: wl2) (hn : (lg_sl as).length ≤ nL)
    (body : ∀ x : Xt, Xo g x wl y.cls cc nL { frames := fr, cells := mc, slots := ms, locals := lo0 } → Rt x ret w0 mc ms Qc → x.2.2.1.name = y.name → V g x 0 0 w0 (enL as nL) 0 []) : Ct g y wl fr mc ms lo0 as w0 Qc := by
  intro sz
  refine Met.ofW (cc := cc) (maxL := nL) (ret := ret) hy hw ?_
  intro p e s m args below meth c s₁ B hml hv
  obtain ⟨rfl, hsz, hP, hK, hD0, hE⟩ := hv
  have hx := B.exec
  have hb := B.bytes
  have hr := B.returns
  have hts := atoms_spec (ws := wl) B.pre
  have hown : s.vm.findClass y.cls = some m.cls := findClass_of_methodNamed B.named
  have hlocks := B.notSynchronized
  have hnm : meth.name = y.name := (name_of_methodNamed B.named B.method).1
  subst hsz
  have hD := hD0.self (sz := s.heap.size)
  have hl := lv_entry as (n := nL) hn
  rw [lg_entry_eq]
  exact body ((p, e, s, m, as.toArray), (below, meth, c, va_A w0 s.heap.size, nL, _, _)) ⟨hx, hb, hml, hown, hts, hK, fun q h => Or.inr h, hE, hlocks, rfl, rfl⟩ ⟨hr, rfl, rfl⟩ hnm s.heap [] _ hP hD va_S.rf (lvO_of hl (fun i v h => by have := enL_in as nL 0 i v h; simpa using this))
section VT
variable {g : Gx} {x : Xt} {Ts : List Cond} {own : String} {cc : ByteArray} {nL : Nat} {rm : Room} {cs sl : Nat} {ws : va_W} {lo : List (Option Value)} {pc : Nat} {st : List Value}
theorem v_iret (X : Xo g x Ts own cc nL rm) {S : Type} {w0 : va_W} {post : Int → S → Prop} {w1 : S → va_W} {mc ms : Nat} (Y : Rt x (some .int) w0 mc ms (QcI g w0 post w1)) (hdg : decode cc pc = .ok (.ireturn, 1)) {r : Int} {u : S} (hp : post r u) (hw : ws = w1 u) : V g x mc ms ws lo pc [.int (iI r)] := by
  obtain ⟨⟨p, e, s, m, args⟩, ⟨below, meth, c, A, nL0, R, Q⟩⟩ := x
  obtain ⟨hx, hb, hml, hown, hts, hK, hA, hE, hlk, rfl, rfl⟩ := X
  obtain ⟨hr, rfl, rfl⟩ := Y
  intro H locs ls hP hD hS hl
  subst hw
  exact W.iret hx hb hr (fun t ht hW => ⟨⟨iI r, (r, u), rfl, ⟨rfl, hp⟩, by rw [ht]; exact hP, hD⟩, hS.F ht⟩) hS.2.2 hdg hlk
theorem v_zret (X : Xo g x Ts own cc nL rm) {S : Type} {w0 : va_W} {post : Int → S → Prop} {w1 : S → va_W} {mc ms : Nat} (Y : Rt x (some .boolean) w0 mc ms (QcI g w0 post w1)) (hdg : decode cc pc = .ok (.ireturn, 1)) {r : Int} (hz : r = 0 ∨ r = 1) {u : S} (hp : post r u) (hw : ws = w1 u) : V g x mc ms ws lo pc [.int (iI r)] := by
  obtain ⟨⟨p, e, s, m, args⟩, ⟨below, meth, c, A, nL0, R, Q⟩⟩ := x
  obtain ⟨hx, hb, hml, hown, hts, hK, hA, hE, hlk, rfl, rfl⟩ := X
  obtain ⟨hr, rfl, rfl⟩ := Y
  intro H locs ls hP hD hS hl
  subst hw
  exact W.zret hx hb hr (by rcases hz with rfl | rfl <;> decide) (fun t ht hW => ⟨⟨iI r, (r, u), rfl, ⟨rfl, hp⟩, by rw [ht]; exact hP, hD⟩, hS.F ht⟩) hS.2.2 hdg hlk
theorem v_vret (X : Xo g x Ts own cc nL rm) {S : Type} {w0 : va_W} {post : S → Prop} {w1 : S → va_W} {mc ms : Nat} (Y : Rt x none w0 mc ms (QcV g w0 post w1)) (hdg : decode cc pc = .ok (.return_, 1)) {u : S} (hp : post u) (hw : ws = w1 u) : V g x mc ms ws lo pc [] := by
  obtain ⟨⟨p, e, s, m, args⟩, ⟨below, meth, c, A, nL0, R, Q⟩⟩ := x
  obtain ⟨hx, hb, hml, hown, hts, hK, hA, hE, hlk, rfl, rfl⟩ := X
  obtain ⟨hr, rfl, rfl⟩ := Y
  intro H locs ls hP hD hS hl
  subst hw
  exact W.vret hx hb hr (fun t ht hW => ⟨⟨u, rfl, hp, by rw [ht]; exact hP, hD⟩, hS.F ht⟩) hS.2.2 hdg hlk
theorem v_lret (X : Xo g x Ts own cc nL rm) {S : Type} {w0 : va_W} {post : Int64 → S → Prop} {w1 : S → va_W} {mc ms : Nat} (Y : Rt x (some .long) w0 mc ms (QcL g w0 post w1)) (hdg : decode cc pc = .ok (.lreturn, 1)) {r : Int64} {u : S} (hp : post r u) (hw : ws = w1 u) : V g x mc ms ws lo pc [.long r] := by
  obtain ⟨⟨p, e, s, m, args⟩, ⟨below, meth, c, A, nL0, R, Q⟩⟩ := x
  obtain ⟨hx, hb, hml, hown, hts, hK, hA, hE, hlk, rfl, rfl⟩ := X
  obtain ⟨hr, rfl, rfl⟩ := Y
  intro H locs ls hP hD hS hl
  subst hw
  exact W.lret hx hb hr (fun t ht hW => ⟨⟨r, u, rfl, hp, by rw [ht]; exact hP, hD⟩, hS.F ht⟩) hS.2.2 hdg hlk
theorem v_aret (X : Xo g x Ts own cc nL rm) {S : Type} {w0 : va_W} {post : Nat → S → Prop} {w1 : S → va_W} {mc ms : Nat} {C : String} (Y : Rt x (some (.object C)) w0 mc ms (QcR g w0 post w1)) (hdg : decode cc pc = .ok (.areturn, 1)) {r : Nat} {u : S} (hp : post r u) (hw : ws = w1 u) : V g x mc ms ws lo pc [.ref r] := by
  obtain ⟨⟨p, e, s, m, args⟩, ⟨below, meth, c, A, nL0, R, Q⟩⟩ := x
  obtain ⟨hx, hb, hml, hown, hts, hK, hA, hE, hlk, rfl, rfl⟩ := X
  obtain ⟨hr, rfl, rfl⟩ := Y
  intro H locs ls hP hD hS hl
  subst hw
  exact W.aret hx hb hr (Or.inl ⟨C, rfl⟩) (Or.inr ⟨r, rfl⟩) (fun t ht hW => ⟨⟨(r, u), r, rfl, hp, rfl, by rw [ht]; exact hP, hD⟩, hS.F ht⟩) hS.2.2 hdg hlk
/-! calls -/
def Rn (g : Gx) (x : Xt) (cs sl mc ms : Nat) (ws : va_W) (lo : List (Option Value)) (pc : Nat) (st0 st : List Value) (w0 : va_W) (as : List Value) (Qc : Nat → Array Value → State → Outcome → State → Prop) : Prop :=
  match x with
  | ((p, e, s, m, args), (below, meth, c, A, nL, R, _)) => ∀ (H : Heap) (locs : List Loc) (ls : Array Slot), va_P g.2.1 vwCl ws H → va_D A ws → va_S A s.heap H locs → lvO ls nL lo → va_Run p g.1 e R s m args below meth c H locs cs sl mc ms (F0 m pc ls st0) st (Qc H.size as.toArray) (va_A w0 H.size)
variable {y : MethodName} {wl wl2 : List Cond} {fr mc ms lo0 maxL index n : Nat} {w0 : va_W} {Qc : Nat → Array Value → State → Outcome → State → Prop} {ret : Option FieldType} {bytes : ByteArray} {As : List Value} {st0 : List Value}
theorem Pw.call {U s : State} {H : Heap} {A : Nat → Prop} {locs : List Loc} {H0 : Heap} (hK : va_K g.2.1 vwCl (TYg g) s) (hP : va_P g.2.1 vwCl ws H) (hD : va_D A ws) (hS : va_S A H0 H locs) (hA : ∀ q : Nat, H0.size ≤ q → A q) (hE : Ev g A s H0) (isC : List Nat) (hC : isC.map (fun i => ws[i]?) = w0.map some) (hnd : va_nd isC = true) (hU : U.heap = H) (hW : s.WarmedH U.vm) : Pw g w0 H.size U := by
  have hf := isC_fm isC ws w0 hC
  have hF := va_free (wc := w0) hD hS hA isC hC
  refine ⟨by rw [hU], by rw [hU]; exact hP.sub isC hf, va_K.moved hW.alike hK, (hD.sub isC hnd hC).weaken (fun _ _ _ _ => trivial), ?_⟩
  rw [hU]
  exact ((hE.kept hS.2.1).narrow hF).warm hW
theorem run_V {C : String} {b : Nat} (X : Xo g x Ts own cc nL rm) (hM : Ct g y wl fr mc ms lo0 (.ref b :: As) w0 Qc) (hG : GoodIn Ts (wsV own index C y wl)) (hw : wl = Cond.code y bytes maxL ret :: wl2) (hd : y.cls = C ∧ y.cls ≠ "java/lang/invoke/MethodHandle" ∧ y.cls ≠ "java/lang/invoke/VarHandle" ∧ (parseMethodDescriptor y.desc).map (fun d => d.parameters.length) = some n) (hR : fr + 1 ≤ rm.frames ∧ 8 + (maxL + 11) + lo0 ≤ rm.locals) (hcs : cs + mc ≤ rm.cells ∧ sl + ms ≤ rm.slots)
    (q0 : Nat) {ci : Nat} {fs : List Value} {cl : vw_C} (hc : vwCl[ci]? = some cl) (hcl : cl.1 = C) (he : ws[q0]? = some (b, .inr (ci, fs))) (isC : List Nat) (hC : isC.map (fun i => ws[i]?) = w0.map some) (hnd : va_nd isC = true) (hn : As.length = n) (hst : st0 = As.reverse ++ .ref b :: st) (hroom : (st.map fun v => v.category).sum ≤ 8) (hdg : decode cc pc = .ok (.invokevirtual index, 3)) : Rn g x cs sl mc ms ws lo pc st0 st w0 (.ref b :: As) Qc := by
  obtain ⟨⟨p, e, s, m, args⟩, ⟨below, meth, c, A, nL0, R, Q⟩⟩ := x
  obtain ⟨hx, hb, hml, hown, hts, hK, hA, hE, hlk, rfl, rfl⟩ := X
  intro H locs ls hP hD hS hl
  subst hcl
  exact va_runV ⟨hx, hb, hml, hown, hts⟩ (hM H.size) (cwV n hts hG hw rfl rfl hd hR) ⟨Pw.blind, va_recv hK hP hc he, fun U hU hW => ⟨rfl, Pw.call hK hP hD hS hA hE isC hC hnd hU hW⟩⟩ rfl hn hl.1 hst (lv_room hroom) hdg hcs
theorem run_S (X : Xo g x Ts own cc nL rm) (hM : Ct g y wl fr mc ms lo0 As w0 Qc) (hG : GoodIn Ts (va_wsS own index y wl)) (hw : wl = Cond.code y bytes maxL ret :: wl2) (hd : y.cls ≠ "java/lang/invoke/MethodHandle" ∧ y.cls ≠ "java/lang/invoke/VarHandle" ∧ (parseMethodDescriptor y.desc).map (fun d => d.parameters.length) = some n) (hR : fr + 1 ≤ rm.frames ∧ 8 + (maxL + 11) + lo0 ≤ rm.locals) (hcs : cs + mc ≤ rm.cells ∧ sl + ms ≤ rm.slots)
    (isC : List Nat) (hC : isC.map (fun i => ws[i]?) = w0.map some) (hnd : va_nd isC = true) (hn : As.length = n) (hst : st0 = As.reverse ++ st) (hroom : (st.map fun v => v.category).sum ≤ 8) (hdg : decode cc pc = .ok (.invokestatic index, 3)) : Rn g x cs sl mc ms ws lo pc st0 st w0 As Qc := by
  obtain ⟨⟨p, e, s, m, args⟩, ⟨below, meth, c, A, nL0, R, Q⟩⟩ := x
  obtain ⟨hx, hb, hml, hown, hts, hK, hA, hE, hlk, rfl, rfl⟩ := X
  intro H locs ls hP hD hS hl
  exact va_runS ⟨hx, hb, hml, hown, hts⟩ (hM H.size) (va_cwS n hts hG hw rfl rfl hd hR) ⟨Pw.blind, fun U hU hW => ⟨rfl, Pw.call hK hP hD hS hA hE isC hC hnd hU hW⟩⟩ rfl hn hl.1 hst (lv_room hroom) hdg hcs
theorem run_SN {host : String} (X : Xo g x Ts own cc nL rm) (hM : Ct g y wl fr mc ms lo0 As w0 Qc) (hG : GoodIn Ts wl) (hw : wl = Cond.code y bytes maxL ret :: wl2) (hq : (own, index, y, host) ∈ nestQ) (hini : Cond.initialized y.cls ∈ Ts) (hstat : Cond.static y ∈ Ts) (hd : y.cls ≠ "java/lang/invoke/MethodHandle" ∧ y.cls ≠ "java/lang/invoke/VarHandle" ∧ (parseMethodDescriptor y.desc).map (fun d => d.parameters.length) = some n) (hR : fr + 1 ≤ rm.frames ∧ 8 + (maxL + 11) + lo0 ≤ rm.locals) (hcs : cs + mc ≤ rm.cells ∧ sl + ms ≤ rm.slots)
    (isC : List Nat) (hC : isC.map (fun i => ws[i]?) = w0.map some) (hnd : va_nd isC = true) (hn : As.length = n) (hst : st0 = As.reverse ++ st) (hroom : (st.map fun v => v.category).sum ≤ 8) (hdg : decode cc pc = .ok (.invokestatic index, 3)) : Rn g x cs sl mc ms ws lo pc st0 st w0 As Qc := by
  obtain ⟨⟨p, e, s, m, args⟩, ⟨below, meth, c, A, nL0, R, Q⟩⟩ := x
  obtain ⟨hx, hb, hml, hown, hts, hK, hA, hE, hlk, rfl, rfl⟩ := X
  intro H locs ls hP hD hS hl
  exact va_runSN ⟨hx, hb, hml, hown, hts⟩ (hM H.size) ⟨va_cnB n hts hG hw rfl rfl (hE.1 _ hq) (hts _ hini) hd hR, hts _ hstat, trivial⟩ ⟨Pw.blind, fun U hU hW => ⟨rfl, Pw.call hK hP hD hS hA hE isC hC hnd hU hW⟩⟩ rfl hn hl.1 hst (lv_room hroom) hdg hcs
/-! what comes back -/
theorem res_I (X : Xo g x Ts own cc nL rm) {S : Type} {post : Int → S → Prop} {w1 : S → va_W} {as : List Value} (hr : Rn g x cs sl 0 0 ws lo pc st0 st w0 as (QcI g w0 post w1)) (isC : List Nat) (hC : isC.map (fun i => ws[i]?) = w0.map some) (hnd : va_nd isC = true) (hf : ∀ u : S, (w1 u).map Prod.fst = w0.map Prod.fst) (k : ∀ (r : Int) (u : S), post r u → V g x cs sl (patch ws isC (w1 u)) lo (pc + 3) (.int (iI r) :: st)) : V g x cs sl ws lo pc st0 := by
  obtain ⟨⟨p, e, s, m, args⟩, ⟨below, meth, c, A, nL0, R, Q⟩⟩ := x
  obtain ⟨hx, hb, hml, hown, hts, hK, hA, hE, hlk, rfl, rfl⟩ := X
  intro H locs ls hP hD hS hl
  have hF := va_free (wc := w0) hD hS hA isC hC
  refine va_calli (hr H locs ls hP hD hS hl) hS (fun q _ h => hF q h) hF (fun r u t H1 locs1 ht hvm hp hB hz hk hS1 => ?_)
  obtain ⟨r2, u⟩ := u
  obtain ⟨rfl, hp⟩ := hp
  obtain ⟨hP1, -⟩ := hB
  rw [ht] at hP1
  obtain ⟨hP2, hD2⟩ := va_back hP hD isC hC hnd (hf u) hk hP1
  exact k r2 u hp H1 locs1 ls hP2 hD2 hS1 hl
theorem res_V (X : Xo g x Ts own cc nL rm) {S : Type} {post : S → Prop} {w1 : S → va_W} {as : List Value} (hr : Rn g x cs sl 0 0 ws lo pc st0 st w0 as (QcV g w0 post w1)) (isC : List Nat) (hC : isC.map (fun i => ws[i]?) = w0.map some) (hnd : va_nd isC = true) (hf : ∀ u : S, (w1 u).map Prod.fst = w0.map Prod.fst) (k : ∀ (u : S), post u → V g x cs sl (patch ws isC (w1 u)) lo (pc + 3) st) : V g x cs sl ws lo pc st0 := by
  obtain ⟨⟨p, e, s, m, args⟩, ⟨below, meth, c, A, nL0, R, Q⟩⟩ := x
  obtain ⟨hx, hb, hml, hown, hts, hK, hA, hE, hlk, rfl, rfl⟩ := X
  intro H locs ls hP hD hS hl
  have hF := va_free (wc := w0) hD hS hA isC hC
  refine va_callv (hr H locs ls hP hD hS hl) hS (fun q _ h => hF q h) hF (fun u t H1 locs1 ht hvm hp hB hz hk hS1 => ?_)
  obtain ⟨hP1, -⟩ := hB
  rw [ht] at hP1
  obtain ⟨hP2, hD2⟩ := va_back hP hD isC hC hnd (hf u) hk hP1
  exact k u hp H1 locs1 ls hP2 hD2 hS1 hl
theorem res_L (X : Xo g x Ts own cc nL rm) {S : Type} {post : Int64 → S → Prop} {w1 : S → va_W} {as : List Value} (hr : Rn g x cs sl 0 0 ws lo pc st0 st w0 as (QcL g w0 post w1)) (isC : List Nat) (hC : isC.map (fun i => ws[i]?) = w0.map some) (hnd : va_nd isC = true) (hf : ∀ u : S, (w1 u).map Prod.fst = w0.map Prod.fst) (k : ∀ (r : Int64) (u : S), post r u → V g x cs sl (patch ws isC (w1 u)) lo (pc + 3) (.long r :: st)) : V g x cs sl ws lo pc st0 := by
  obtain ⟨⟨p, e, s, m, args⟩, ⟨below, meth, c, A, nL0, R, Q⟩⟩ := x
  obtain ⟨hx, hb, hml, hown, hts, hK, hA, hE, hlk, rfl, rfl⟩ := X
  intro H locs ls hP hD hS hl
  have hF := va_free (wc := w0) hD hS hA isC hC
  refine va_calll (hr H locs ls hP hD hS hl) hS (fun q _ h => hF q h) hF (fun r u t H1 locs1 ht hvm hp hB hz hk hS1 => ?_)
  obtain ⟨hP1, -⟩ := hB
  rw [ht] at hP1
  obtain ⟨hP2, hD2⟩ := va_back hP hD isC hC hnd (hf u) hk hP1
  exact k r u hp H1 locs1 ls hP2 hD2 hS1 hl
theorem res_R (X : Xo g x Ts own cc nL rm) {S : Type} {post : Nat → S → Prop} {w1 : S → va_W} {as : List Value} (hr : Rn g x cs sl 0 0 ws lo pc st0 st w0 as (QcR g w0 post w1)) (isC : List Nat) (hC : isC.map (fun i => ws[i]?) = w0.map some) (hnd : va_nd isC = true) (hf : ∀ u : S, (w1 u).map Prod.fst = w0.map Prod.fst) (k : ∀ (r : Nat) (u : S), post r u → V g x cs sl (patch ws isC (w1 u)) lo (pc + 3) (.ref r :: st)) : V g x cs sl ws lo pc st0 := by
  obtain ⟨⟨p, e, s, m, args⟩, ⟨below, meth, c, A, nL0, R, Q⟩⟩ := x
  obtain ⟨hx, hb, hml, hown, hts, hK, hA, hE, hlk, rfl, rfl⟩ := X
  intro H locs ls hP hD hS hl
  have hF := va_free (wc := w0) hD hS hA isC hC
  refine va_callr (hr H locs ls hP hD hS hl) hS (fun q _ h => hF q h) hF (fun u ra t H1 locs1 ht hvm hp hB hz hk hS1 => ?_)
  obtain ⟨r2, u⟩ := u
  obtain ⟨rfl, hP1, -⟩ := hB
  rw [ht] at hP1
  obtain ⟨hP2, hD2⟩ := va_back hP hD isC hC hnd (hf u) hk hP1
  exact k _ u hp H1 locs1 ls hP2 hD2 hS1 hl
/-- the answer is told, the world stays -/
theorem res_E (X : Xo g x Ts own cc nL rm) {F : Int} {as : List Value} (hr : Rn g x cs sl 0 0 ws lo pc st0 st w0 as (QcI (S := Unit) g w0 (fun r _ => r = F) (fun _ => w0))) (isC : List Nat) (hC : isC.map (fun i => ws[i]?) = w0.map some) (hnd : va_nd isC = true) (k : V g x cs sl ws lo (pc + 3) (.int (iI F) :: st)) : V g x cs sl ws lo pc st0 :=
  res_I X hr isC hC hnd (fun _ => rfl) (fun r _ h => by rw [h, patch_id isC ws w0 hC]; exact k)
/-- the answer is told, and what the world becomes -/
theorem res_F (X : Xo g x Ts own cc nL rm) {F : Int} {w1 : va_W} {as : List Value} (hr : Rn g x cs sl 0 0 ws lo pc st0 st w0 as (QcI (S := Unit) g w0 (fun r _ => r = F) (fun _ => w1))) (isC : List Nat) (hC : isC.map (fun i => ws[i]?) = w0.map some) (hnd : va_nd isC = true) (hf : w1.map Prod.fst = w0.map Prod.fst) (k : V g x cs sl (patch ws isC w1) lo (pc + 3) (.int (iI F) :: st)) : V g x cs sl ws lo pc st0 :=
  res_I X hr isC hC hnd (fun _ => hf) (fun r _ h => by rw [h]; exact k)
theorem res_W (X : Xo g x Ts own cc nL rm) {w1 : va_W} {as : List Value} (hr : Rn g x cs sl 0 0 ws lo pc st0 st w0 as (QcV (S := Unit) g w0 (fun _ => True) (fun _ => w1))) (isC : List Nat) (hC : isC.map (fun i => ws[i]?) = w0.map some) (hnd : va_nd isC = true) (hf : w1.map Prod.fst = w0.map Prod.fst) (k : V g x cs sl (patch ws isC w1) lo (pc + 3) st) : V g x cs sl ws lo pc st0 :=
  res_V X hr isC hC hnd (fun _ => hf) (fun _ _ => k)
/-! Math and arraycopy -/
theorem v_abs (X : Xo g x Ts own cc nL rm) (hl1 : Cond.methodLink own index Lib.Math.abs.name ∈ Ts) (hs1 : Cond.static Lib.Math.abs.name ∈ Ts) (hi1 : Cond.initialized "java/lang/Math" ∈ Ts) (hc1 : Cond.code Lib.Math.abs.name Lib.Math.abs.code 1 (some .int) ∈ Ts) (hR : 1 ≤ rm.frames ∧ (st.map fun v => v.category).sum + 13 ≤ rm.locals ∧ cs ≤ rm.cells ∧ sl ≤ rm.slots) {a : Int} (ha : R32 a) (hdg : decode cc pc = .ok (.invokestatic index, 3)) (k : V g x cs sl ws lo (pc + 3) (.int (iI (if 0 ≤ a then a else -a)) :: st)) : V g x cs sl ws lo pc (.int (iI a) :: st) := by
  obtain ⟨⟨p, e, s, m, args⟩, ⟨below, meth, c, A, nL0, R, Q⟩⟩ := x
  obtain ⟨hx, hb, hml, hown, hts, hK, hA, hE, hlk, rfl, rfl⟩ := X
  intro H locs ls hP hD hS hl
  refine va_mabs hx hb (hml.trans hl.1.symm) hown (hts _ hl1) (hts _ hs1) (hts _ hi1) (hts _ hc1) hR.1 hR.2.1 hR.2.2.1 hR.2.2.2 hdg ?_
  have k2 := k H locs ls hP hD hS hl
  have e : (if 0 ≤ iI a then iI a else 0 - iI a) = iI (if 0 ≤ a then a else -a) := by
    by_cases h : 0 ≤ a
    · rw [if_pos h, if_pos (show (0 : Int32) ≤ iI a from (iI_le (x := 0) (y := a) (by omega) ha).mpr h)]
    · rw [if_neg h, if_neg (show ¬ (0 : Int32) ≤ iI a from fun q => h ((iI_le (x := 0) (y := a) (by omega) ha).mp q)), show (0 : Int32) = iI 0 from rfl, iI_sub]
      congr 1
      omega
  rw [e]
  exact k2
theorem v_min (X : Xo g x Ts own cc nL rm) (hl1 : Cond.methodLink own index Lib.Math.min.name ∈ Ts) (hs1 : Cond.static Lib.Math.min.name ∈ Ts) (hi1 : Cond.initialized "java/lang/Math" ∈ Ts) (hc1 : Cond.code Lib.Math.min.name Lib.Math.min.code 2 (some .int) ∈ Ts) (hR : 1 ≤ rm.frames ∧ (st.map fun v => v.category).sum + 13 ≤ rm.locals ∧ cs ≤ rm.cells ∧ sl ≤ rm.slots) {a b : Int} (ha : R32 a) (hb2 : R32 b) (hdg : decode cc pc = .ok (.invokestatic index, 3)) (k : V g x cs sl ws lo (pc + 3) (.int (iI (if b < a then b else a)) :: st)) : V g x cs sl ws lo pc (.int (iI b) :: .int (iI a) :: st) := by
  obtain ⟨⟨p, e, s, m, args⟩, ⟨below, meth, c, A, nL0, R, Q⟩⟩ := x
  obtain ⟨hx, hb, hml, hown, hts, hK, hA, hE, hlk, rfl, rfl⟩ := X
  intro H locs ls hP hD hS hl
  refine va_mmin hx hb (hml.trans hl.1.symm) hown (hts _ hl1) (hts _ hs1) (hts _ hi1) (hts _ hc1) hR.1 hR.2.1 hR.2.2.1 hR.2.2.2 hdg ?_
  have k2 := k H locs ls hP hD hS hl
  have e : (if iI b < iI a then iI b else iI a) = iI (if b < a then b else a) := by
    by_cases h : b < a
    · rw [if_pos h, if_pos ((iI_lt hb2 ha).mpr h)]
    · rw [if_neg h, if_neg (fun q => h ((iI_lt hb2 ha).mp q))]
  rw [e]
  exact k2
theorem v_max (X : Xo g x Ts own cc nL rm) (hl1 : Cond.methodLink own index Lib.Math.max.name ∈ Ts) (hs1 : Cond.static Lib.Math.max.name ∈ Ts) (hi1 : Cond.initialized "java/lang/Math" ∈ Ts) (hc1 : Cond.code Lib.Math.max.name Lib.Math.max.code 2 (some .int) ∈ Ts) (hR : 1 ≤ rm.frames ∧ (st.map fun v => v.category).sum + 13 ≤ rm.locals ∧ cs ≤ rm.cells ∧ sl ≤ rm.slots) {a b : Int} (ha : R32 a) (hb2 : R32 b) (hdg : decode cc pc = .ok (.invokestatic index, 3)) (k : V g x cs sl ws lo (pc + 3) (.int (iI (if a < b then b else a)) :: st)) : V g x cs sl ws lo pc (.int (iI b) :: .int (iI a) :: st) := by
  obtain ⟨⟨p, e, s, m, args⟩, ⟨below, meth, c, A, nL0, R, Q⟩⟩ := x
  obtain ⟨hx, hb, hml, hown, hts, hK, hA, hE, hlk, rfl, rfl⟩ := X
  intro H locs ls hP hD hS hl
  refine va_mmax hx hb (hml.trans hl.1.symm) hown (hts _ hl1) (hts _ hs1) (hts _ hi1) (hts _ hc1) hR.1 hR.2.1 hR.2.2.1 hR.2.2.2 hdg ?_
  have k2 := k H locs ls hP hD hS hl
  have e : (if iI a < iI b then iI b else iI a) = iI (if a < b then b else a) := by
    by_cases h : a < b
    · rw [if_pos h, if_pos ((iI_lt ha hb2).mpr h)]
    · rw [if_neg h, if_neg (fun q => h ((iI_lt ha hb2).mp q))]
  rw [e]
  exact k2
theorem cpy_iI (f h : Nat → Int) (a b n : Nat) : va_cpy (fun j => iI (f j)) (fun j => iI (h j)) a b n = fun j => iI (cpyI f h a b n j) := by
  funext j
  unfold va_cpy cpyI
  split <;> rfl
theorem v_copy (X : Xo g x Ts own cc nL rm) (hl1 : Cond.methodLink own index arraycopyName ∈ Ts) (hn1 : Cond.native arraycopyName ∈ Ts) (hs1 : Cond.static arraycopyName ∈ Ts) (hi1 : Cond.initialized "java/lang/System" ∈ Ts) (q0 q1 : Nat) {a0 a1 n0 n1 : Nat} {f h : Nat → Int} (ha0 : ws[q0]? = some (a0, aI g n0 f)) (ha1 : ws[q1]? = some (a1, aI g n1 h)) {sp dp k0 : Int} (h1 : 0 ≤ sp ∧ sp ≤ 2147483647) (h2 : 0 ≤ dp ∧ dp ≤ 2147483647) (h3 : 0 ≤ k0 ∧ k0 ≤ 2147483647) (h4 : sp + k0 ≤ n0) (h5 : dp + k0 ≤ n1) (hR : 1 ≤ rm.frames ∧ (st.map fun v => v.category).sum + (nativeFrameWords "java/lang/System" "arraycopy" 5 + 11) ≤ rm.locals) (hdg : decode cc pc = .ok (.invokestatic index, 3)) (k : V g x cs sl (ws.set q1 (a1, aI g n1 (cpyI f h sp.toNat dp.toNat k0.toNat))) lo (pc + 3) st) : V g x cs sl ws lo pc (.int (iI k0) :: .int (iI dp) :: .ref a1 :: .int (iI sp) :: .ref a0 :: st) := by
  obtain ⟨⟨p, e, s, m, args⟩, ⟨below, meth, c, A, nL0, R, Q⟩⟩ := x
  obtain ⟨hx, hb, hml, hown, hts, hK, hA, hE, hlk, rfl, rfl⟩ := X
  intro H locs ls hP hD hS hl
  have n0' : ∀ z : Int, 0 ≤ z → z ≤ 2147483647 → ¬ iI z < 0 := fun z q1 q2 q => by
    have := (iI_lt (x := z) (y := 0) (by omega) (by omega)).mp q
    omega
  refine va_copyi (f := fun j => iI (f j)) (g := fun j => iI (h j)) hx hb (hml.trans hl.1.symm) hown (hts _ hl1) (hts _ hn1) (hts _ hs1) (hts _ hi1) hK hP hD hS q0 q1 0 0 ha0 ha1 rfl rfl rfl (n0' _ h1.1 h1.2) (n0' _ h2.1 h2.2) (n0' _ h3.1 h3.2) (by rw [iI_clamp (by omega), iI_clamp (by omega)]; omega) (by rw [iI_clamp (by omega), iI_clamp (by omega)]; omega) (fun _ _ => rfl) hR.1 hR.2 hdg (fun H1 locs1 hP1 hD1 hS1 => ?_)
  rw [iI_clamp (by omega), iI_clamp (by omega), iI_clamp (by omega), cpy_iI] at hP1 hD1
  exact k H1 locs1 ls hP1 hD1 hS1 hl
end VT
end
