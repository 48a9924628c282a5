section
-- ===== PART A: goes FIRST, ahead of the names: the tables' words, and 'selects' of the private methods out of them =====
/-- a private method of a class that the tables say can be made, by its rows of tables_1 -/
def lw_okq (q : MethodName × Nat) : Prop := (q.1.cls ≠ "java/lang/invoke/MethodHandle" ∧ q.1.cls ≠ "java/lang/invoke/VarHandle") ∧ Cond.instantiable q.1.cls q.2 ∈ tables_1 ∧ Cond.privateMethod q.1 ∈ tables_1 ∧ Cond.instanceMethod q.1 ∈ tables_1
theorem lw_p0 : lw_okq (⟨"PegClerks", "nextStampsByStep", "()I"⟩, 6) := ⟨⟨by decide +kernel, by decide +kernel⟩, List.mem_of_getElem? (i := 11) (by decide +kernel), List.mem_of_getElem? (i := 428) (by decide +kernel), List.mem_of_getElem? (i := 429) (by decide +kernel)⟩
theorem lw_p1 : lw_okq (⟨"PegClerks", "nextStampsByPegs", "()I"⟩, 6) := ⟨⟨by decide +kernel, by decide +kernel⟩, List.mem_of_getElem? (i := 11) (by decide +kernel), List.mem_of_getElem? (i := 433) (by decide +kernel), List.mem_of_getElem? (i := 434) (by decide +kernel)⟩
theorem lw_p2 : lw_okq (⟨"PegClerks", "rightWithRow", "(II)I"⟩, 6) := ⟨⟨by decide +kernel, by decide +kernel⟩, List.mem_of_getElem? (i := 11) (by decide +kernel), List.mem_of_getElem? (i := 446) (by decide +kernel), List.mem_of_getElem? (i := 447) (by decide +kernel)⟩
def lw_privs_1 : List (MethodName × Nat) := [(⟨"PegClerks", "nextStampsByStep", "()I"⟩, 6), (⟨"PegClerks", "nextStampsByPegs", "()I"⟩, 6), (⟨"PegClerks", "rightWithRow", "(II)I"⟩, 6)]
theorem lw_r1 : ∀ q ∈ lw_privs_1, lw_okq q := List.forall_mem_cons.mpr ⟨lw_p0, List.forall_mem_cons.mpr ⟨lw_p1, List.forall_mem_cons.mpr ⟨lw_p2, fun _ h => absurd h List.not_mem_nil⟩⟩⟩
def lw_privs : List (MethodName × Nat) := lw_privs_1
def lw_tbl : List Cond := k2_sels lw_privs ++ tables_1
theorem lw_privs_ok : ∀ q ∈ lw_privs, lw_okq q := lw_r1
/-! ===== BEGIN words of one list among another's, by their places ===== -/
theorem goodIn_r {big : List Cond} (ws : List Cond) (ps : List Nat) (hp : ws = ps.filterMap (fun i => big[i]?)) (h : ws.all goodWord = true) : GoodIn big ws := by
  intro w hw
  have h1 := List.all_eq_true.mp h w hw
  rw [hp] at hw
  obtain ⟨i, -, hi⟩ := List.mem_filterMap.mp hw
  have hm : w ∈ big := by first | exact List.mem_of_getElem? hi | exact List.getElem?_mem hi
  exact ⟨hm, good_of_word h1⟩
theorem goodIn_app {big a b : List Cond} (ha : GoodIn big a) (hb : GoodIn big b) : GoodIn big (a ++ b) := fun w h => (List.mem_append.mp h).elim (ha w) (hb w)
theorem goodIn_ca {big a b : List Cond} {c : Cond} (ha : GoodIn big (c :: a)) (hb : GoodIn big b) : GoodIn big (c :: (a ++ b)) := fun w h => (List.mem_cons.mp h).elim (fun e => ha w (List.mem_cons.mpr (Or.inl e))) (fun h => (List.mem_append.mp h).elim (fun h => ha w (List.mem_cons.mpr (Or.inr h))) (hb w))
theorem goodIn_sub {big ws : List Cond} (hm : ∀ w ∈ ws, w ∈ big) (h : ws.all goodWord = true) : GoodIn big ws := fun w hw => ⟨hm w hw, good_of_word (List.all_eq_true.mp h w hw)⟩
/-! ===== END ===== -/

/-! ===== BEGIN printed: names, fields, word lists, decode rows ===== -/
def RX0 : String := "PegClerks$Clerk"
def TX0 : u_T := fun k => match k with
  | 0 => ("PegClerks$Clerk", "settings", "[I", true)
  | 1 => ("PegClerks$Clerk", "drum", "LPegClerks$Drum;", true)
  | 2 => ("PegClerks$Clerk", "stamps", "LPegClerks$Stamps;", true)
  | 3 => ("PegClerks$Clerk", "jammed", "Z", false)
  | 4 => ("PegClerks$Clerk", "order", "I", false)
  | 5 => ("PegClerks$Clerk", "formStamps", "I", false)
  | 6 => ("PegClerks$Clerk", "formSpoiled", "Z", false)
  | 7 => ("PegClerks$Clerk", "formSteps", "I", false)
  | 8 => ("PegClerks$Clerk", "steps", "I", false)
  | 9 => ("PegClerks$Clerk", "rightForms", "I", false)
  | 10 => ("PegClerks$Clerk", "wrongForms", "I", false)
  | 11 => ("PegClerks$Clerk", "spoiledForms", "I", false)
  | _ => ("PegClerks$Clerk", "jams", "I", false)
def tyX0 : Nat → FieldType := fun k => match k with
  | 0 => .array .int
  | 1 => .object "PegClerks$Drum"
  | 2 => .object "PegClerks$Stamps"
  | 3 => .boolean
  | 4 => .int
  | 5 => .int
  | 6 => .boolean
  | 7 => .int
  | 8 => .int
  | 9 => .int
  | 10 => .int
  | 11 => .int
  | _ => .int
abbrev wsX00 : List Cond := u_ws RX0 TX0 13
theorem nmX0 : ∀ a, a < 13 → ∀ b, b < 13 → a ≠ b → (TX0 a).2.1 ≠ (TX0 b).2.1 := by decide +kernel
theorem tyX0_ok : ∀ k, k < 13 → parseFieldDescriptor (TX0 k).2.2.1 = some (tyX0 k) := by decide +kernel
abbrev cX0_init : ByteArray := prog_2_method_1_code
def yX0_init : MethodName := ⟨RX0, "<init>", "()V"⟩
abbrev cX0_copyFrom : ByteArray := prog_2_method_2_code
def yX0_copyFrom : MethodName := ⟨RX0, "copyFrom", "(LPegClerks$Clerk;)V"⟩
abbrev cX0_wouldJamAt : ByteArray := prog_2_method_3_code
def yX0_wouldJamAt : MethodName := ⟨RX0, "wouldJamAt", "(I)Z"⟩
abbrev cX0_makeSteps : ByteArray := prog_2_method_4_code
def yX0_makeSteps : MethodName := ⟨RX0, "makeSteps", "(I)I"⟩
abbrev cX0_makeOneStep : ByteArray := prog_2_method_5_code
def yX0_makeOneStep : MethodName := ⟨RX0, "makeOneStep", "()Z"⟩
abbrev cX0_letStampsFall : ByteArray := prog_2_method_6_code
def yX0_letStampsFall : MethodName := ⟨RX0, "letStampsFall", "(I)V"⟩
abbrev cX0_letStampFall : ByteArray := prog_2_method_7_code
def yX0_letStampFall : MethodName := ⟨RX0, "letStampFall", "(I)V"⟩
abbrev cX0_finishForm : ByteArray := prog_2_method_8_code
def yX0_finishForm : MethodName := ⟨RX0, "finishForm", "()V"⟩
abbrev cX0_layForm : ByteArray := prog_2_method_9_code
def yX0_layForm : MethodName := ⟨RX0, "layForm", "()V"⟩
def RX1 : String := "PegClerks$Drum"
def TX1 : u_T := fun k => match k with
  | 0 => ("PegClerks$Drum", "rows", "[I", true)
  | 1 => ("PegClerks$Drum", "stampings", "[I", true)
  | 2 => ("PegClerks$Drum", "at", "I", false)
  | _ => ("PegClerks$Drum", "fallenOut", "I", false)
def tyX1 : Nat → FieldType := fun k => match k with
  | 0 => .array .int
  | 1 => .array .int
  | 2 => .int
  | _ => .int
abbrev wsX10 : List Cond := u_ws RX1 TX1 4
theorem nmX1 : ∀ a, a < 4 → ∀ b, b < 4 → a ≠ b → (TX1 a).2.1 ≠ (TX1 b).2.1 := by decide +kernel
theorem tyX1_ok : ∀ k, k < 4 → parseFieldDescriptor (TX1 k).2.2.1 = some (tyX1 k) := by decide +kernel
abbrev cX1_init : ByteArray := prog_3_method_1_code
def yX1_init : MethodName := ⟨RX1, "<init>", "()V"⟩
abbrev cX1_copyFrom : ByteArray := prog_3_method_2_code
def yX1_copyFrom : MethodName := ⟨RX1, "copyFrom", "(LPegClerks$Drum;)V"⟩
abbrev cX1_rowBehind : ByteArray := prog_3_method_3_code
def yX1_rowBehind : MethodName := ⟨RX1, "rowBehind", "(I)I"⟩
abbrev cX1_goOn : ByteArray := prog_3_method_4_code
def yX1_goOn : MethodName := ⟨RX1, "goOn", "()V"⟩
abbrev cX1_hasPeg : ByteArray := prog_3_method_5_code
def yX1_hasPeg : MethodName := ⟨RX1, "hasPeg", "(II)Z"⟩
abbrev cX1_pegsInRow : ByteArray := prog_3_method_6_code
def yX1_pegsInRow : MethodName := ⟨RX1, "pegsInRow", "(I)I"⟩
abbrev cX1_pegsAtPlace : ByteArray := prog_3_method_7_code
def yX1_pegsAtPlace : MethodName := ⟨RX1, "pegsAtPlace", "(I)I"⟩
abbrev cX1_allPegs : ByteArray := prog_3_method_8_code
def yX1_allPegs : MethodName := ⟨RX1, "allPegs", "()I"⟩
abbrev cX1_giveRow : ByteArray := prog_3_method_9_code
def yX1_giveRow : MethodName := ⟨RX1, "giveRow", "(II)V"⟩
abbrev cX1_wearPeg : ByteArray := prog_3_method_10_code
def yX1_wearPeg : MethodName := ⟨RX1, "wearPeg", "(III)V"⟩
def RX2 : String := "PegClerks$History"
def TX2 : u_T := fun k => match k with
  | 0 => ("PegClerks$History", "states", "[LPegClerks$Clerk;", true)
  | 1 => ("PegClerks$History", "next", "I", false)
  | _ => ("PegClerks$History", "kept", "I", false)
def tyX2 : Nat → FieldType := fun k => match k with
  | 0 => .array (.object "PegClerks$Clerk")
  | 1 => .int
  | _ => .int
abbrev wsX20 : List Cond := u_ws RX2 TX2 3
theorem nmX2 : ∀ a, a < 3 → ∀ b, b < 3 → a ≠ b → (TX2 a).2.1 ≠ (TX2 b).2.1 := by decide +kernel
theorem tyX2_ok : ∀ k, k < 3 → parseFieldDescriptor (TX2 k).2.2.1 = some (tyX2 k) := by decide +kernel
abbrev cX2_init : ByteArray := prog_4_method_1_code
def yX2_init : MethodName := ⟨RX2, "<init>", "()V"⟩
abbrev cX2_keep : ByteArray := prog_4_method_2_code
def yX2_keep : MethodName := ⟨RX2, "keep", "(LPegClerks$Clerk;)V"⟩
def RX3 : String := "PegClerks$Pad"
def TX3 : u_T := fun k => match k with
  | 0 => ("PegClerks$Pad", "signs", "[C", true)
  | _ => ("PegClerks$Pad", "length", "I", false)
def tyX3 : Nat → FieldType := fun k => match k with
  | 0 => .array .char
  | _ => .int
abbrev wsX30 : List Cond := u_ws RX3 TX3 2
theorem nmX3 : ∀ a, a < 2 → ∀ b, b < 2 → a ≠ b → (TX3 a).2.1 ≠ (TX3 b).2.1 := by decide +kernel
theorem tyX3_ok : ∀ k, k < 2 → parseFieldDescriptor (TX3 k).2.2.1 = some (tyX3 k) := by decide +kernel
abbrev cX3_init : ByteArray := prog_5_method_1_code
def yX3_init : MethodName := ⟨RX3, "<init>", "()V"⟩
abbrev cX3_charactersIn : ByteArray := prog_5_method_2_code
def yX3_charactersIn : MethodName := ⟨RX3, "charactersIn", "(J)I"⟩
abbrev cX3_append : ByteArray := prog_5_method_3_code
def yX3_append : MethodName := ⟨RX3, "append", "(JI)V"⟩
abbrev cX3_empty : ByteArray := prog_5_method_4_code
def yX3_empty : MethodName := ⟨RX3, "empty", "()V"⟩
abbrev cX3_firstFault : ByteArray := prog_5_method_5_code
def yX3_firstFault : MethodName := ⟨RX3, "firstFault", "()I"⟩
abbrev cX3_dueBehind : ByteArray := prog_5_method_6_code
def yX3_dueBehind : MethodName := ⟨RX3, "dueBehind", "(IC)I"⟩
abbrev cX3_dueBehindPlaces : ByteArray := prog_5_method_7_code
def yX3_dueBehindPlaces : MethodName := ⟨RX3, "dueBehindPlaces", "(IC)I"⟩
abbrev cX3_changeRows : ByteArray := prog_5_method_8_code
def yX3_changeRows : MethodName := ⟨RX3, "changeRows", "(LPegClerks$Drum;)V"⟩
def RX4 : String := "PegClerks$Stamps"
def TX4 : u_T := fun k => match k with
  | 0 => ("PegClerks$Stamps", "inks", "[I", true)
  | 1 => ("PegClerks$Stamps", "marks", "[I", true)
  | 2 => ("PegClerks$Stamps", "dryFalls", "[I", true)
  | _ => ("PegClerks$Stamps", "spoilings", "[I", true)
def tyX4 : Nat → FieldType := fun k => match k with
  | 0 => .array .int
  | 1 => .array .int
  | 2 => .array .int
  | _ => .array .int
abbrev wsX40 : List Cond := u_ws RX4 TX4 4
theorem nmX4 : ∀ a, a < 4 → ∀ b, b < 4 → a ≠ b → (TX4 a).2.1 ≠ (TX4 b).2.1 := by decide +kernel
theorem tyX4_ok : ∀ k, k < 4 → parseFieldDescriptor (TX4 k).2.2.1 = some (tyX4 k) := by decide +kernel
abbrev cX4_init : ByteArray := prog_6_method_1_code
def yX4_init : MethodName := ⟨RX4, "<init>", "()V"⟩
abbrev cX4_copyFrom : ByteArray := prog_6_method_2_code
def yX4_copyFrom : MethodName := ⟨RX4, "copyFrom", "(LPegClerks$Stamps;)V"⟩
abbrev cX4_leavesMark : ByteArray := prog_6_method_3_code
def yX4_leavesMark : MethodName := ⟨RX4, "leavesMark", "(II)Z"⟩
abbrev cX4_allMarks : ByteArray := prog_6_method_4_code
def yX4_allMarks : MethodName := ⟨RX4, "allMarks", "()I"⟩
def RX5 : String := "PegClerks"
def TX5 : u_T := fun k => match k with
  | 0 => ("PegClerks", "clerk", "LPegClerks$Clerk;", true)
  | 1 => ("PegClerks", "trial", "LPegClerks$Clerk;", true)
  | 2 => ("PegClerks", "history", "LPegClerks$History;", true)
  | 3 => ("PegClerks", "pad", "LPegClerks$Pad;", true)
  | 4 => ("PegClerks", "slots", "[LPegClerks$Clerk;", true)
  | _ => ("PegClerks", "saved", "[Z", true)
def tyX5 : Nat → FieldType := fun k => match k with
  | 0 => .object "PegClerks$Clerk"
  | 1 => .object "PegClerks$Clerk"
  | 2 => .object "PegClerks$History"
  | 3 => .object "PegClerks$Pad"
  | 4 => .array (.object "PegClerks$Clerk")
  | _ => .array .boolean
abbrev wsX50 : List Cond := u_ws RX5 TX5 6
theorem nmX5 : ∀ a, a < 6 → ∀ b, b < 6 → a ≠ b → (TX5 a).2.1 ≠ (TX5 b).2.1 := by decide +kernel
theorem tyX5_ok : ∀ k, k < 6 → parseFieldDescriptor (TX5 k).2.2.1 = some (tyX5 k) := by decide +kernel
abbrev cX5_init : ByteArray := prog_1_method_1_code
def yX5_init : MethodName := ⟨RX5, "<init>", "()V"⟩
abbrev cX5_set : ByteArray := prog_1_method_2_code
def yX5_set : MethodName := ⟨RX5, "set", "(II)I"⟩
abbrev cX5_peg : ByteArray := prog_1_method_3_code
def yX5_peg : MethodName := ⟨RX5, "peg", "(II)I"⟩
abbrev cX5_order : ByteArray := prog_1_method_4_code
def yX5_order : MethodName := ⟨RX5, "order", "(I)I"⟩
abbrev cX5_ink : ByteArray := prog_1_method_5_code
def yX5_ink : MethodName := ⟨RX5, "ink", "(I)I"⟩
abbrev cX5_step : ByteArray := prog_1_method_6_code
def yX5_step : MethodName := ⟨RX5, "step", "(I)I"⟩
abbrev cX5_free : ByteArray := prog_1_method_7_code
def yX5_free : MethodName := ⟨RX5, "free", "()I"⟩
abbrev cX5_newForm : ByteArray := prog_1_method_8_code
def yX5_newForm : MethodName := ⟨RX5, "newForm", "()I"⟩
abbrev cX5_read : ByteArray := prog_1_method_9_code
def yX5_read : MethodName := ⟨RX5, "read", "()I"⟩
abbrev cX5_row : ByteArray := prog_1_method_10_code
def yX5_row : MethodName := ⟨RX5, "row", "(II)I"⟩
abbrev cX5_stamped : ByteArray := prog_1_method_11_code
def yX5_stamped : MethodName := ⟨RX5, "stamped", "(II)I"⟩
abbrev cX5_stamp : ByteArray := prog_1_method_12_code
def yX5_stamp : MethodName := ⟨RX5, "stamp", "(II)I"⟩
abbrev cX5_count : ByteArray := prog_1_method_13_code
def yX5_count : MethodName := ⟨RX5, "count", "(I)I"⟩
abbrev cX5_untilJam : ByteArray := prog_1_method_14_code
def yX5_untilJam : MethodName := ⟨RX5, "untilJam", "()I"⟩
abbrev cX5_ifStepped : ByteArray := prog_1_method_15_code
def yX5_ifStepped : MethodName := ⟨RX5, "ifStepped", "(II)I"⟩
abbrev cX5_bestOut : ByteArray := prog_1_method_16_code
def yX5_bestOut : MethodName := ⟨RX5, "bestOut", "()I"⟩
abbrev cX5_nextStamps : ByteArray := prog_1_method_17_code
def yX5_nextStamps : MethodName := ⟨RX5, "nextStamps", "(I)I"⟩
abbrev cX5_put : ByteArray := prog_1_method_18_code
def yX5_put : MethodName := ⟨RX5, "put", "(J)I"⟩
abbrev cX5_wipe : ByteArray := prog_1_method_19_code
def yX5_wipe : MethodName := ⟨RX5, "wipe", "()I"⟩
abbrev cX5_save : ByteArray := prog_1_method_22_code
def yX5_save : MethodName := ⟨RX5, "save", "(I)I"⟩
abbrev cX5_restore : ByteArray := prog_1_method_23_code
def yX5_restore : MethodName := ⟨RX5, "restore", "(I)I"⟩
abbrev cX5_isRow : ByteArray := prog_1_method_24_code
def yX5_isRow : MethodName := ⟨RX5, "isRow", "(I)Z"⟩
abbrev cX5_isPlace : ByteArray := prog_1_method_25_code
def yX5_isPlace : MethodName := ⟨RX5, "isPlace", "(I)Z"⟩
abbrev cX5_asNumber : ByteArray := prog_1_method_26_code
def yX5_asNumber : MethodName := ⟨RX5, "asNumber", "(Z)I"⟩
abbrev cX5_rightWithRow : ByteArray := prog_1_method_27_code
def yX5_rightWithRow : MethodName := ⟨RX5, "rightWithRow", "(II)I"⟩
abbrev cX5_nextStampsByStep : ByteArray := prog_1_method_28_code
def yX5_nextStampsByStep : MethodName := ⟨RX5, "nextStampsByStep", "()I"⟩
abbrev cX5_nextStampsByPegs : ByteArray := prog_1_method_29_code
def yX5_nextStampsByPegs : MethodName := ⟨RX5, "nextStampsByPegs", "()I"⟩
def RX6 : String := "PegClerksModel"
def TX6 : u_T := fun k => match k with
  | _ => ("", "", "", false)
def tyX6 : Nat → FieldType := fun k => match k with
  | _ => .int
abbrev wsX60 : List Cond := u_ws RX6 TX6 0
theorem nmX6 : ∀ a, a < 0 → ∀ b, b < 0 → a ≠ b → (TX6 a).2.1 ≠ (TX6 b).2.1 := by decide +kernel
theorem tyX6_ok : ∀ k, k < 0 → parseFieldDescriptor (TX6 k).2.2.1 = some (tyX6 k) := by decide +kernel
def RJ6 : String := "java/lang/Integer"
def TJ6 : u_T := fun k => match k with
  | _ => ("", "", "", false)
def tyJ6 : Nat → FieldType := fun k => match k with
  | _ => .int
abbrev wsJ60 : List Cond := u_ws RJ6 TJ6 0
theorem nmJ6 : ∀ a, a < 0 → ∀ b, b < 0 → a ≠ b → (TJ6 a).2.1 ≠ (TJ6 b).2.1 := by decide +kernel
theorem tyJ6_ok : ∀ k, k < 0 → parseFieldDescriptor (TJ6 k).2.2.1 = some (tyJ6 k) := by decide +kernel
abbrev cJ6_bitCount_0f7a4 : ByteArray := prog_9_method_49_code
def yJ6_bitCount_0f7a4 : MethodName := ⟨RJ6, "bitCount", "(I)I"⟩
def RJ9 : String := "java/lang/Math"
def TJ9 : u_T := fun k => match k with
  | _ => ("", "", "", false)
def tyJ9 : Nat → FieldType := fun k => match k with
  | _ => .int
abbrev wsJ90 : List Cond := u_ws RJ9 TJ9 0
theorem nmJ9 : ∀ a, a < 0 → ∀ b, b < 0 → a ≠ b → (TJ9 a).2.1 ≠ (TJ9 b).2.1 := by decide +kernel
theorem tyJ9_ok : ∀ k, k < 0 → parseFieldDescriptor (TJ9 k).2.2.1 = some (tyJ9 k) := by decide +kernel
abbrev cJ9_floorMod_7cf53 : ByteArray := prog_10_method_50_code
def yJ9_floorMod_7cf53 : MethodName := ⟨RJ9, "floorMod", "(II)I"⟩
abbrev cJ9_min_7cf53 : ByteArray := prog_10_method_69_code
def yJ9_min_7cf53 : MethodName := ⟨RJ9, "min", "(II)I"⟩
def RJ10 : String := "java/lang/System"
def TJ10 : u_T := fun k => match k with
  | _ => ("", "", "", false)
def tyJ10 : Nat → FieldType := fun k => match k with
  | _ => .int
abbrev wsJ100 : List Cond := u_ws RJ10 TJ10 0
theorem nmJ10 : ∀ a, a < 0 → ∀ b, b < 0 → a ≠ b → (TJ10 a).2.1 ≠ (TJ10 b).2.1 := by decide +kernel
theorem tyJ10_ok : ∀ k, k < 0 → parseFieldDescriptor (TJ10 k).2.2.1 = some (tyJ10 k) := by decide +kernel
def RL : String := "PegClerksLaw"
abbrev cL_cell : ByteArray := method_2_code
def yL_cell : MethodName := ⟨RL, "cell", "([II)I"⟩
abbrev cL_up : ByteArray := method_3_code
def yL_up : MethodName := ⟨RL, "up", "(II)I"⟩
abbrev cL_turned : ByteArray := method_4_code
def yL_turned : MethodName := ⟨RL, "turned", "(I)I"⟩
abbrev cL_isRead : ByteArray := method_5_code
def yL_isRead : MethodName := ⟨RL, "isRead", "(LPegClerks;LPegClerks;II)Z"⟩
abbrev cL_isStep : ByteArray := method_6_code
def yL_isStep : MethodName := ⟨RL, "isStep", "(LPegClerks;LPegClerks;II)Z"⟩
abbrev cL_areAlike : ByteArray := method_7_code
def yL_areAlike : MethodName := ⟨RL, "areAlike", "(LPegClerks;LPegClerks;I)Z"⟩
abbrev cL_isWell : ByteArray := method_8_code
def yL_isWell : MethodName := ⟨RL, "isWell", "(LPegClerks;)Z"⟩
abbrev cL_law : ByteArray := code
def yL_law : MethodName := ⟨RL, "law", "([I)Z"⟩
def wsX1_init : List Cond := .code yX1_init cX1_init 1 none :: ([.methodLink RX1 3 objectInit, .instanceMethod objectInit, .code objectInit ⟨#[0xb1]⟩ 1 none, .arrayClass .int, .fieldLink RX1 9 "PegClerks$Drum" "rows" "[I", .fieldLink RX1 15 "PegClerks$Drum" "stampings" "[I"] ++ wsX10)
def wsX4_init : List Cond := .code yX4_init cX4_init 1 none :: ([.methodLink RX4 3 objectInit, .instanceMethod objectInit, .code objectInit ⟨#[0xb1]⟩ 1 none, .arrayClass .int, .fieldLink RX4 9 "PegClerks$Stamps" "inks" "[I", .fieldLink RX4 15 "PegClerks$Stamps" "marks" "[I", .fieldLink RX4 18 "PegClerks$Stamps" "dryFalls" "[I", .fieldLink RX4 21 "PegClerks$Stamps" "spoilings" "[I"] ++ wsX40)
def wsX0_init_r1 : List Cond := [Cond.methodLink RX0 3 objectInit, Cond.instanceMethod objectInit, Cond.code objectInit ⟨#[0xb1]⟩ 1 none, Cond.arrayClass .int, Cond.fieldLink RX0 9 "PegClerks$Clerk" "settings" "[I", Cond.classLink RX0 15 RX1, Cond.instantiable RX1 4, Cond.initialized RX1, Cond.fieldLink RX0 18 "PegClerks$Clerk" "drum" "LPegClerks$Drum;", Cond.classLink RX0 22 RX4, Cond.instantiable RX4 4, Cond.initialized RX4, Cond.fieldLink RX0 25 "PegClerks$Clerk" "stamps" "LPegClerks$Stamps;", Cond.instanceMethod yX1_init, Cond.code yX1_init cX1_init 1 none, Cond.methodLink RX1 3 objectInit, Cond.fieldLink RX1 9 "PegClerks$Drum" "rows" "[I", Cond.fieldLink RX1 15 "PegClerks$Drum" "stampings" "[I", Cond.instanceMethod yX4_init, Cond.code yX4_init cX4_init 1 none, Cond.methodLink RX4 3 objectInit, Cond.fieldLink RX4 9 "PegClerks$Stamps" "inks" "[I", Cond.fieldLink RX4 15 "PegClerks$Stamps" "marks" "[I", Cond.fieldLink RX4 18 "PegClerks$Stamps" "dryFalls" "[I"]
def wsX0_init_r2 : List Cond := [Cond.fieldLink RX4 21 "PegClerks$Stamps" "spoilings" "[I"]
def wsX0_init : List Cond := .code yX0_init cX0_init 1 none :: ((wsX0_init_r1 ++ wsX0_init_r2) ++ wsX00 ++ wsX10 ++ wsX40)
def wsX1_copyFrom : List Cond := .code yX1_copyFrom cX1_copyFrom 2 none :: ([.fieldLink RX1 9 "PegClerks$Drum" "rows" "[I", .methodLink RX1 18 arraycopyName, .native arraycopyName, .static arraycopyName, .initialized "java/lang/System", .fieldLink RX1 15 "PegClerks$Drum" "stampings" "[I", .fieldLink RX1 24 "PegClerks$Drum" "at" "I", .fieldLink RX1 28 "PegClerks$Drum" "fallenOut" "I"] ++ wsX10)
def wsX4_copyFrom : List Cond := .code yX4_copyFrom cX4_copyFrom 2 none :: ([.fieldLink RX4 9 "PegClerks$Stamps" "inks" "[I", .methodLink RX4 24 arraycopyName, .native arraycopyName, .static arraycopyName, .initialized "java/lang/System", .fieldLink RX4 15 "PegClerks$Stamps" "marks" "[I", .fieldLink RX4 18 "PegClerks$Stamps" "dryFalls" "[I", .fieldLink RX4 21 "PegClerks$Stamps" "spoilings" "[I"] ++ wsX40)
def wsX0_copyFrom_r1 : List Cond := [Cond.fieldLink RX0 9 "PegClerks$Clerk" "settings" "[I", Cond.methodLink RX0 29 arraycopyName, Cond.native arraycopyName, Cond.static arraycopyName, Cond.initialized "java/lang/System", Cond.fieldLink RX0 18 "PegClerks$Clerk" "drum" "LPegClerks$Drum;", Cond.fieldLink RX0 25 "PegClerks$Clerk" "stamps" "LPegClerks$Stamps;", Cond.fieldLink RX0 42 "PegClerks$Clerk" "jammed" "Z", Cond.fieldLink RX0 46 "PegClerks$Clerk" "order" "I", Cond.fieldLink RX0 50 "PegClerks$Clerk" "formStamps" "I", Cond.fieldLink RX0 53 "PegClerks$Clerk" "formSpoiled" "Z", Cond.fieldLink RX0 56 "PegClerks$Clerk" "formSteps" "I", Cond.fieldLink RX0 59 "PegClerks$Clerk" "steps" "I", Cond.fieldLink RX0 62 "PegClerks$Clerk" "rightForms" "I", Cond.fieldLink RX0 65 "PegClerks$Clerk" "wrongForms" "I", Cond.fieldLink RX0 68 "PegClerks$Clerk" "spoiledForms" "I", Cond.fieldLink RX0 71 "PegClerks$Clerk" "jams" "I", Cond.methodLink RX0 35 yX1_copyFrom, Cond.instanceMethod yX1_copyFrom, Cond.selects RX1 yX1_copyFrom yX1_copyFrom, Cond.initialized RX1, Cond.code yX1_copyFrom cX1_copyFrom 2 none, Cond.fieldLink RX1 9 "PegClerks$Drum" "rows" "[I", Cond.methodLink RX1 18 arraycopyName]
def wsX0_copyFrom_r2 : List Cond := [Cond.fieldLink RX1 15 "PegClerks$Drum" "stampings" "[I", Cond.fieldLink RX1 24 "PegClerks$Drum" "at" "I", Cond.fieldLink RX1 28 "PegClerks$Drum" "fallenOut" "I", Cond.methodLink RX0 39 yX4_copyFrom, Cond.instanceMethod yX4_copyFrom, Cond.selects RX4 yX4_copyFrom yX4_copyFrom, Cond.initialized RX4, Cond.code yX4_copyFrom cX4_copyFrom 2 none, Cond.fieldLink RX4 9 "PegClerks$Stamps" "inks" "[I", Cond.methodLink RX4 24 arraycopyName, Cond.fieldLink RX4 15 "PegClerks$Stamps" "marks" "[I", Cond.fieldLink RX4 18 "PegClerks$Stamps" "dryFalls" "[I", Cond.fieldLink RX4 21 "PegClerks$Stamps" "spoilings" "[I"]
def wsX0_copyFrom : List Cond := .code yX0_copyFrom cX0_copyFrom 2 none :: ((wsX0_copyFrom_r1 ++ wsX0_copyFrom_r2) ++ wsX00 ++ wsX10 ++ wsX40)
def wsJ6_bitCount_0f7a4 : List Cond := .code yJ6_bitCount_0f7a4 cJ6_bitCount_0f7a4 1 (some .int) :: ([.constant RJ6 265 (1431655765), .constant RJ6 266 (858993459), .constant RJ6 267 (252645135)])
def wsX1_pegsInRow : List Cond := .code yX1_pegsInRow cX1_pegsInRow 2 (some .int) :: ([.fieldLink RX1 9 "PegClerks$Drum" "rows" "[I", .methodLink RX1 35 yJ6_bitCount_0f7a4, .static yJ6_bitCount_0f7a4, .initialized RJ6, .code yJ6_bitCount_0f7a4 cJ6_bitCount_0f7a4 1 (some .int), .constant RJ6 265 (1431655765), .constant RJ6 266 (858993459), .constant RJ6 267 (252645135)] ++ wsX10)
def wsX0_wouldJamAt : List Cond := .code yX0_wouldJamAt cX0_wouldJamAt 2 (some .boolean) :: ([.fieldLink RX0 18 "PegClerks$Clerk" "drum" "LPegClerks$Drum;", .fieldLink RX0 9 "PegClerks$Clerk" "settings" "[I", .methodLink RX0 74 yX1_pegsInRow, .instanceMethod yX1_pegsInRow, .selects RX1 yX1_pegsInRow yX1_pegsInRow, .initialized RX1, .code yX1_pegsInRow cX1_pegsInRow 2 (some .int), .fieldLink RX1 9 "PegClerks$Drum" "rows" "[I", .methodLink RX1 35 yJ6_bitCount_0f7a4, .static yJ6_bitCount_0f7a4, .initialized RJ6, .code yJ6_bitCount_0f7a4 cJ6_bitCount_0f7a4 1 (some .int), .constant RJ6 265 (1431655765), .constant RJ6 266 (858993459), .constant RJ6 267 (252645135)] ++ wsX00 ++ wsX10)
def wsX4_leavesMark : List Cond := .code yX4_leavesMark cX4_leavesMark 3 (some .boolean) :: ([.fieldLink RX4 9 "PegClerks$Stamps" "inks" "[I", .fieldLink RX4 18 "PegClerks$Stamps" "dryFalls" "[I", .fieldLink RX4 15 "PegClerks$Stamps" "marks" "[I"] ++ wsX40)
def wsX0_letStampFall : List Cond := .code yX0_letStampFall cX0_letStampFall 2 none :: ([.fieldLink RX0 50 "PegClerks$Clerk" "formStamps" "I", .fieldLink RX0 53 "PegClerks$Clerk" "formSpoiled" "Z", .fieldLink RX0 25 "PegClerks$Clerk" "stamps" "LPegClerks$Stamps;", .fieldLink RX0 109 "PegClerks$Stamps" "spoilings" "[I", .fieldLink RX0 9 "PegClerks$Clerk" "settings" "[I", .methodLink RX0 112 yX4_leavesMark, .instanceMethod yX4_leavesMark, .selects RX4 yX4_leavesMark yX4_leavesMark, .initialized RX4, .code yX4_leavesMark cX4_leavesMark 3 (some .boolean), .fieldLink RX4 9 "PegClerks$Stamps" "inks" "[I", .fieldLink RX4 18 "PegClerks$Stamps" "dryFalls" "[I", .fieldLink RX4 15 "PegClerks$Stamps" "marks" "[I"] ++ wsX00 ++ wsX40)
def wsX1_wearPeg : List Cond := .code yX1_wearPeg cX1_wearPeg 5 none :: ([.fieldLink RX1 15 "PegClerks$Drum" "stampings" "[I", .fieldLink RX1 9 "PegClerks$Drum" "rows" "[I", .fieldLink RX1 28 "PegClerks$Drum" "fallenOut" "I"] ++ wsX10)
def wsX0_letStampsFall_r1 : List Cond := [Cond.fieldLink RX0 18 "PegClerks$Clerk" "drum" "LPegClerks$Drum;", Cond.fieldLink RX0 82 "PegClerks$Drum" "at" "I", Cond.fieldLink RX0 9 "PegClerks$Clerk" "settings" "[I", Cond.methodLink RX0 102 yX0_letStampFall, Cond.instanceMethod yX0_letStampFall, Cond.selects RX0 yX0_letStampFall yX0_letStampFall, Cond.initialized RX0, Cond.code yX0_letStampFall cX0_letStampFall 2 none, Cond.fieldLink RX0 50 "PegClerks$Clerk" "formStamps" "I", Cond.fieldLink RX0 53 "PegClerks$Clerk" "formSpoiled" "Z", Cond.fieldLink RX0 25 "PegClerks$Clerk" "stamps" "LPegClerks$Stamps;", Cond.fieldLink RX0 109 "PegClerks$Stamps" "spoilings" "[I", Cond.methodLink RX0 112 yX4_leavesMark, Cond.instanceMethod yX4_leavesMark, Cond.selects RX4 yX4_leavesMark yX4_leavesMark, Cond.initialized RX4, Cond.code yX4_leavesMark cX4_leavesMark 3 (some .boolean), Cond.fieldLink RX4 9 "PegClerks$Stamps" "inks" "[I", Cond.fieldLink RX4 18 "PegClerks$Stamps" "dryFalls" "[I", Cond.fieldLink RX4 15 "PegClerks$Stamps" "marks" "[I", Cond.methodLink RX0 105 yX1_wearPeg, Cond.instanceMethod yX1_wearPeg, Cond.selects RX1 yX1_wearPeg yX1_wearPeg, Cond.initialized RX1]
def wsX0_letStampsFall_r2 : List Cond := [Cond.code yX1_wearPeg cX1_wearPeg 5 none, Cond.fieldLink RX1 15 "PegClerks$Drum" "stampings" "[I", Cond.fieldLink RX1 9 "PegClerks$Drum" "rows" "[I", Cond.fieldLink RX1 28 "PegClerks$Drum" "fallenOut" "I"]
def wsX0_letStampsFall : List Cond := .code yX0_letStampsFall cX0_letStampsFall 3 none :: ((wsX0_letStampsFall_r1 ++ wsX0_letStampsFall_r2) ++ wsX00 ++ wsX10 ++ wsX40)
def wsX1_rowBehind : List Cond := .code yX1_rowBehind cX1_rowBehind 1 (some .int) :: ([])
def wsX1_goOn : List Cond := .code yX1_goOn cX1_goOn 1 none :: ([.fieldLink RX1 24 "PegClerks$Drum" "at" "I", .methodLink RX1 31 yX1_rowBehind, .static yX1_rowBehind, .initialized RX1, .code yX1_rowBehind cX1_rowBehind 1 (some .int)] ++ wsX10)
def wsX0_layForm : List Cond := .code yX0_layForm cX0_layForm 1 none :: ([.fieldLink RX0 50 "PegClerks$Clerk" "formStamps" "I", .fieldLink RX0 53 "PegClerks$Clerk" "formSpoiled" "Z", .fieldLink RX0 56 "PegClerks$Clerk" "formSteps" "I"] ++ wsX00)
def wsX0_finishForm : List Cond := .code yX0_finishForm cX0_finishForm 1 none :: ([.fieldLink RX0 53 "PegClerks$Clerk" "formSpoiled" "Z", .fieldLink RX0 68 "PegClerks$Clerk" "spoiledForms" "I", .fieldLink RX0 50 "PegClerks$Clerk" "formStamps" "I", .fieldLink RX0 46 "PegClerks$Clerk" "order" "I", .fieldLink RX0 62 "PegClerks$Clerk" "rightForms" "I", .fieldLink RX0 65 "PegClerks$Clerk" "wrongForms" "I", .methodLink RX0 116 yX0_layForm, .instanceMethod yX0_layForm, .selects RX0 yX0_layForm yX0_layForm, .initialized RX0, .code yX0_layForm cX0_layForm 1 none, .fieldLink RX0 56 "PegClerks$Clerk" "formSteps" "I"] ++ wsX00)
def wsX0_makeOneStep_r1 : List Cond := [Cond.fieldLink RX0 42 "PegClerks$Clerk" "jammed" "Z", Cond.fieldLink RX0 18 "PegClerks$Clerk" "drum" "LPegClerks$Drum;", Cond.fieldLink RX0 82 "PegClerks$Drum" "at" "I", Cond.fieldLink RX0 71 "PegClerks$Clerk" "jams" "I", Cond.fieldLink RX0 89 "PegClerks$Drum" "rows" "[I", Cond.fieldLink RX0 59 "PegClerks$Clerk" "steps" "I", Cond.fieldLink RX0 56 "PegClerks$Clerk" "formSteps" "I", Cond.fieldLink RX0 9 "PegClerks$Clerk" "settings" "[I", Cond.methodLink RX0 85 yX0_wouldJamAt, Cond.instanceMethod yX0_wouldJamAt, Cond.selects RX0 yX0_wouldJamAt yX0_wouldJamAt, Cond.initialized RX0, Cond.code yX0_wouldJamAt cX0_wouldJamAt 2 (some .boolean), Cond.methodLink RX0 74 yX1_pegsInRow, Cond.instanceMethod yX1_pegsInRow, Cond.selects RX1 yX1_pegsInRow yX1_pegsInRow, Cond.initialized RX1, Cond.code yX1_pegsInRow cX1_pegsInRow 2 (some .int), Cond.fieldLink RX1 9 "PegClerks$Drum" "rows" "[I", Cond.methodLink RX1 35 yJ6_bitCount_0f7a4, Cond.static yJ6_bitCount_0f7a4, Cond.initialized RJ6, Cond.code yJ6_bitCount_0f7a4 cJ6_bitCount_0f7a4 1 (some .int), Cond.constant RJ6 265 (1431655765)]
def wsX0_makeOneStep_r2 : List Cond := [Cond.constant RJ6 266 (858993459), Cond.constant RJ6 267 (252645135), Cond.methodLink RX0 92 yX0_letStampsFall, Cond.instanceMethod yX0_letStampsFall, Cond.selects RX0 yX0_letStampsFall yX0_letStampsFall, Cond.code yX0_letStampsFall cX0_letStampsFall 3 none, Cond.methodLink RX0 102 yX0_letStampFall, Cond.instanceMethod yX0_letStampFall, Cond.selects RX0 yX0_letStampFall yX0_letStampFall, Cond.code yX0_letStampFall cX0_letStampFall 2 none, Cond.fieldLink RX0 50 "PegClerks$Clerk" "formStamps" "I", Cond.fieldLink RX0 53 "PegClerks$Clerk" "formSpoiled" "Z", Cond.fieldLink RX0 25 "PegClerks$Clerk" "stamps" "LPegClerks$Stamps;", Cond.fieldLink RX0 109 "PegClerks$Stamps" "spoilings" "[I", Cond.methodLink RX0 112 yX4_leavesMark, Cond.instanceMethod yX4_leavesMark, Cond.selects RX4 yX4_leavesMark yX4_leavesMark, Cond.initialized RX4, Cond.code yX4_leavesMark cX4_leavesMark 3 (some .boolean), Cond.fieldLink RX4 9 "PegClerks$Stamps" "inks" "[I", Cond.fieldLink RX4 18 "PegClerks$Stamps" "dryFalls" "[I", Cond.fieldLink RX4 15 "PegClerks$Stamps" "marks" "[I", Cond.methodLink RX0 105 yX1_wearPeg, Cond.instanceMethod yX1_wearPeg]
def wsX0_makeOneStep_r3 : List Cond := [Cond.selects RX1 yX1_wearPeg yX1_wearPeg, Cond.code yX1_wearPeg cX1_wearPeg 5 none, Cond.fieldLink RX1 15 "PegClerks$Drum" "stampings" "[I", Cond.fieldLink RX1 28 "PegClerks$Drum" "fallenOut" "I", Cond.methodLink RX0 96 yX1_goOn, Cond.instanceMethod yX1_goOn, Cond.selects RX1 yX1_goOn yX1_goOn, Cond.code yX1_goOn cX1_goOn 1 none, Cond.fieldLink RX1 24 "PegClerks$Drum" "at" "I", Cond.methodLink RX1 31 yX1_rowBehind, Cond.static yX1_rowBehind, Cond.code yX1_rowBehind cX1_rowBehind 1 (some .int), Cond.methodLink RX0 99 yX0_finishForm, Cond.instanceMethod yX0_finishForm, Cond.selects RX0 yX0_finishForm yX0_finishForm, Cond.code yX0_finishForm cX0_finishForm 1 none, Cond.fieldLink RX0 68 "PegClerks$Clerk" "spoiledForms" "I", Cond.fieldLink RX0 46 "PegClerks$Clerk" "order" "I", Cond.fieldLink RX0 62 "PegClerks$Clerk" "rightForms" "I", Cond.fieldLink RX0 65 "PegClerks$Clerk" "wrongForms" "I", Cond.methodLink RX0 116 yX0_layForm, Cond.instanceMethod yX0_layForm, Cond.selects RX0 yX0_layForm yX0_layForm, Cond.code yX0_layForm cX0_layForm 1 none]
def wsX0_makeOneStep : List Cond := .code yX0_makeOneStep cX0_makeOneStep 1 (some .boolean) :: ((wsX0_makeOneStep_r1 ++ (wsX0_makeOneStep_r2 ++ wsX0_makeOneStep_r3)) ++ wsX00 ++ wsX10 ++ wsX40)
def wsX0_makeSteps_r1 : List Cond := [Cond.methodLink RX0 78 yX0_makeOneStep, Cond.instanceMethod yX0_makeOneStep, Cond.selects RX0 yX0_makeOneStep yX0_makeOneStep, Cond.initialized RX0, Cond.code yX0_makeOneStep cX0_makeOneStep 1 (some .boolean), Cond.fieldLink RX0 42 "PegClerks$Clerk" "jammed" "Z", Cond.fieldLink RX0 18 "PegClerks$Clerk" "drum" "LPegClerks$Drum;", Cond.fieldLink RX0 82 "PegClerks$Drum" "at" "I", Cond.fieldLink RX0 71 "PegClerks$Clerk" "jams" "I", Cond.fieldLink RX0 89 "PegClerks$Drum" "rows" "[I", Cond.fieldLink RX0 59 "PegClerks$Clerk" "steps" "I", Cond.fieldLink RX0 56 "PegClerks$Clerk" "formSteps" "I", Cond.fieldLink RX0 9 "PegClerks$Clerk" "settings" "[I", Cond.methodLink RX0 85 yX0_wouldJamAt, Cond.instanceMethod yX0_wouldJamAt, Cond.selects RX0 yX0_wouldJamAt yX0_wouldJamAt, Cond.code yX0_wouldJamAt cX0_wouldJamAt 2 (some .boolean), Cond.methodLink RX0 74 yX1_pegsInRow, Cond.instanceMethod yX1_pegsInRow, Cond.selects RX1 yX1_pegsInRow yX1_pegsInRow, Cond.initialized RX1, Cond.code yX1_pegsInRow cX1_pegsInRow 2 (some .int), Cond.fieldLink RX1 9 "PegClerks$Drum" "rows" "[I", Cond.methodLink RX1 35 yJ6_bitCount_0f7a4]
def wsX0_makeSteps_r2 : List Cond := [Cond.static yJ6_bitCount_0f7a4, Cond.initialized RJ6, Cond.code yJ6_bitCount_0f7a4 cJ6_bitCount_0f7a4 1 (some .int), Cond.constant RJ6 265 (1431655765), Cond.constant RJ6 266 (858993459), Cond.constant RJ6 267 (252645135), Cond.methodLink RX0 92 yX0_letStampsFall, Cond.instanceMethod yX0_letStampsFall, Cond.selects RX0 yX0_letStampsFall yX0_letStampsFall, Cond.code yX0_letStampsFall cX0_letStampsFall 3 none, Cond.methodLink RX0 102 yX0_letStampFall, Cond.instanceMethod yX0_letStampFall, Cond.selects RX0 yX0_letStampFall yX0_letStampFall, Cond.code yX0_letStampFall cX0_letStampFall 2 none, Cond.fieldLink RX0 50 "PegClerks$Clerk" "formStamps" "I", Cond.fieldLink RX0 53 "PegClerks$Clerk" "formSpoiled" "Z", Cond.fieldLink RX0 25 "PegClerks$Clerk" "stamps" "LPegClerks$Stamps;", Cond.fieldLink RX0 109 "PegClerks$Stamps" "spoilings" "[I", Cond.methodLink RX0 112 yX4_leavesMark, Cond.instanceMethod yX4_leavesMark, Cond.selects RX4 yX4_leavesMark yX4_leavesMark, Cond.initialized RX4, Cond.code yX4_leavesMark cX4_leavesMark 3 (some .boolean), Cond.fieldLink RX4 9 "PegClerks$Stamps" "inks" "[I"]
def wsX0_makeSteps_r3 : List Cond := [Cond.fieldLink RX4 18 "PegClerks$Stamps" "dryFalls" "[I", Cond.fieldLink RX4 15 "PegClerks$Stamps" "marks" "[I", Cond.methodLink RX0 105 yX1_wearPeg, Cond.instanceMethod yX1_wearPeg, Cond.selects RX1 yX1_wearPeg yX1_wearPeg, Cond.code yX1_wearPeg cX1_wearPeg 5 none, Cond.fieldLink RX1 15 "PegClerks$Drum" "stampings" "[I", Cond.fieldLink RX1 28 "PegClerks$Drum" "fallenOut" "I", Cond.methodLink RX0 96 yX1_goOn, Cond.instanceMethod yX1_goOn, Cond.selects RX1 yX1_goOn yX1_goOn, Cond.code yX1_goOn cX1_goOn 1 none, Cond.fieldLink RX1 24 "PegClerks$Drum" "at" "I", Cond.methodLink RX1 31 yX1_rowBehind, Cond.static yX1_rowBehind, Cond.code yX1_rowBehind cX1_rowBehind 1 (some .int), Cond.methodLink RX0 99 yX0_finishForm, Cond.instanceMethod yX0_finishForm, Cond.selects RX0 yX0_finishForm yX0_finishForm, Cond.code yX0_finishForm cX0_finishForm 1 none, Cond.fieldLink RX0 68 "PegClerks$Clerk" "spoiledForms" "I", Cond.fieldLink RX0 46 "PegClerks$Clerk" "order" "I", Cond.fieldLink RX0 62 "PegClerks$Clerk" "rightForms" "I", Cond.fieldLink RX0 65 "PegClerks$Clerk" "wrongForms" "I"]
def wsX0_makeSteps_r4 : List Cond := [Cond.methodLink RX0 116 yX0_layForm, Cond.instanceMethod yX0_layForm, Cond.selects RX0 yX0_layForm yX0_layForm, Cond.code yX0_layForm cX0_layForm 1 none]
def wsX0_makeSteps : List Cond := .code yX0_makeSteps cX0_makeSteps 3 (some .int) :: ((wsX0_makeSteps_r1 ++ (wsX0_makeSteps_r2 ++ (wsX0_makeSteps_r3 ++ wsX0_makeSteps_r4))) ++ wsX00 ++ wsX10 ++ wsX40)
def wsX1_hasPeg : List Cond := .code yX1_hasPeg cX1_hasPeg 3 (some .boolean) :: ([.fieldLink RX1 9 "PegClerks$Drum" "rows" "[I"] ++ wsX10)
def wsX1_pegsAtPlace : List Cond := .code yX1_pegsAtPlace cX1_pegsAtPlace 4 (some .int) :: ([.methodLink RX1 40 yX1_hasPeg, .instanceMethod yX1_hasPeg, .selects RX1 yX1_hasPeg yX1_hasPeg, .initialized RX1, .code yX1_hasPeg cX1_hasPeg 3 (some .boolean), .fieldLink RX1 9 "PegClerks$Drum" "rows" "[I"] ++ wsX10)
def wsX1_allPegs : List Cond := .code yX1_allPegs cX1_allPegs 3 (some .int) :: ([.methodLink RX1 44 yX1_pegsInRow, .instanceMethod yX1_pegsInRow, .selects RX1 yX1_pegsInRow yX1_pegsInRow, .initialized RX1, .code yX1_pegsInRow cX1_pegsInRow 2 (some .int), .fieldLink RX1 9 "PegClerks$Drum" "rows" "[I", .methodLink RX1 35 yJ6_bitCount_0f7a4, .static yJ6_bitCount_0f7a4, .initialized RJ6, .code yJ6_bitCount_0f7a4 cJ6_bitCount_0f7a4 1 (some .int), .constant RJ6 265 (1431655765), .constant RJ6 266 (858993459), .constant RJ6 267 (252645135)] ++ wsX10)
def wsX1_giveRow : List Cond := .code yX1_giveRow cX1_giveRow 4 none :: ([.fieldLink RX1 15 "PegClerks$Drum" "stampings" "[I", .fieldLink RX1 9 "PegClerks$Drum" "rows" "[I", .methodLink RX1 40 yX1_hasPeg, .instanceMethod yX1_hasPeg, .selects RX1 yX1_hasPeg yX1_hasPeg, .initialized RX1, .code yX1_hasPeg cX1_hasPeg 3 (some .boolean)] ++ wsX10)
def wsX2_init_r1 : List Cond := [Cond.methodLink RX2 1 objectInit, Cond.instanceMethod objectInit, Cond.code objectInit ⟨#[0xb1]⟩ 1 none, Cond.classLink RX2 7 RX0, Cond.instantiable RX0 13, Cond.initialized RX0, Cond.fieldLink RX2 10 "PegClerks$History" "states" "[LPegClerks$Clerk;", Cond.instanceMethod yX0_init, Cond.code yX0_init cX0_init 1 none, Cond.methodLink RX0 3 objectInit, Cond.arrayClass .int, Cond.fieldLink RX0 9 "PegClerks$Clerk" "settings" "[I", Cond.classLink RX0 15 RX1, Cond.instantiable RX1 4, Cond.initialized RX1, Cond.fieldLink RX0 18 "PegClerks$Clerk" "drum" "LPegClerks$Drum;", Cond.classLink RX0 22 RX4, Cond.instantiable RX4 4, Cond.initialized RX4, Cond.fieldLink RX0 25 "PegClerks$Clerk" "stamps" "LPegClerks$Stamps;", Cond.instanceMethod yX1_init, Cond.code yX1_init cX1_init 1 none, Cond.methodLink RX1 3 objectInit, Cond.fieldLink RX1 9 "PegClerks$Drum" "rows" "[I"]
def wsX2_init_r2 : List Cond := [Cond.fieldLink RX1 15 "PegClerks$Drum" "stampings" "[I", Cond.instanceMethod yX4_init, Cond.code yX4_init cX4_init 1 none, Cond.methodLink RX4 3 objectInit, Cond.fieldLink RX4 9 "PegClerks$Stamps" "inks" "[I", Cond.fieldLink RX4 15 "PegClerks$Stamps" "marks" "[I", Cond.fieldLink RX4 18 "PegClerks$Stamps" "dryFalls" "[I", Cond.fieldLink RX4 21 "PegClerks$Stamps" "spoilings" "[I"]
def wsX2_init : List Cond := .code yX2_init cX2_init 1 none :: ((wsX2_init_r1 ++ wsX2_init_r2) ++ wsX00 ++ wsX20 ++ wsX10 ++ wsX40)
def wsX2_keep_r1 : List Cond := [Cond.fieldLink RX2 10 "PegClerks$History" "states" "[LPegClerks$Clerk;", Cond.fieldLink RX2 16 "PegClerks$History" "next" "I", Cond.fieldLink RX2 24 "PegClerks$History" "kept" "I", Cond.methodLink RX2 27 Lib.Math.min.name, Cond.static Lib.Math.min.name, Cond.initialized "java/lang/Math", Cond.code Lib.Math.min.name Lib.Math.min.code 2 (some .int), Cond.methodLink RX2 20 yX0_copyFrom, Cond.instanceMethod yX0_copyFrom, Cond.selects RX0 yX0_copyFrom yX0_copyFrom, Cond.initialized RX0, Cond.code yX0_copyFrom cX0_copyFrom 2 none, Cond.fieldLink RX0 9 "PegClerks$Clerk" "settings" "[I", Cond.methodLink RX0 29 arraycopyName, Cond.native arraycopyName, Cond.static arraycopyName, Cond.initialized "java/lang/System", Cond.fieldLink RX0 18 "PegClerks$Clerk" "drum" "LPegClerks$Drum;", Cond.fieldLink RX0 25 "PegClerks$Clerk" "stamps" "LPegClerks$Stamps;", Cond.fieldLink RX0 42 "PegClerks$Clerk" "jammed" "Z", Cond.fieldLink RX0 46 "PegClerks$Clerk" "order" "I", Cond.fieldLink RX0 50 "PegClerks$Clerk" "formStamps" "I", Cond.fieldLink RX0 53 "PegClerks$Clerk" "formSpoiled" "Z", Cond.fieldLink RX0 56 "PegClerks$Clerk" "formSteps" "I"]
def wsX2_keep_r2 : List Cond := [Cond.fieldLink RX0 59 "PegClerks$Clerk" "steps" "I", Cond.fieldLink RX0 62 "PegClerks$Clerk" "rightForms" "I", Cond.fieldLink RX0 65 "PegClerks$Clerk" "wrongForms" "I", Cond.fieldLink RX0 68 "PegClerks$Clerk" "spoiledForms" "I", Cond.fieldLink RX0 71 "PegClerks$Clerk" "jams" "I", Cond.methodLink RX0 35 yX1_copyFrom, Cond.instanceMethod yX1_copyFrom, Cond.selects RX1 yX1_copyFrom yX1_copyFrom, Cond.initialized RX1, Cond.code yX1_copyFrom cX1_copyFrom 2 none, Cond.fieldLink RX1 9 "PegClerks$Drum" "rows" "[I", Cond.methodLink RX1 18 arraycopyName, Cond.fieldLink RX1 15 "PegClerks$Drum" "stampings" "[I", Cond.fieldLink RX1 24 "PegClerks$Drum" "at" "I", Cond.fieldLink RX1 28 "PegClerks$Drum" "fallenOut" "I", Cond.methodLink RX0 39 yX4_copyFrom, Cond.instanceMethod yX4_copyFrom, Cond.selects RX4 yX4_copyFrom yX4_copyFrom, Cond.initialized RX4, Cond.code yX4_copyFrom cX4_copyFrom 2 none, Cond.fieldLink RX4 9 "PegClerks$Stamps" "inks" "[I", Cond.methodLink RX4 24 arraycopyName, Cond.fieldLink RX4 15 "PegClerks$Stamps" "marks" "[I", Cond.fieldLink RX4 18 "PegClerks$Stamps" "dryFalls" "[I"]
def wsX2_keep_r3 : List Cond := [Cond.fieldLink RX4 21 "PegClerks$Stamps" "spoilings" "[I"]
def wsX2_keep : List Cond := .code yX2_keep cX2_keep 2 none :: ((wsX2_keep_r1 ++ (wsX2_keep_r2 ++ wsX2_keep_r3)) ++ wsX20 ++ wsX00 ++ wsX10 ++ wsX40)
def wsX3_init : List Cond := .code yX3_init cX3_init 1 none :: ([.methodLink RX3 3 objectInit, .instanceMethod objectInit, .code objectInit ⟨#[0xb1]⟩ 1 none, .arrayClass .char, .fieldLink RX3 11 "PegClerks$Pad" "signs" "[C"] ++ wsX30)
def wsX3_charactersIn : List Cond := .code yX3_charactersIn cX3_charactersIn 6 (some .int) :: ([.constantLong RX3 15 (255)])
def wsX3_append : List Cond := .code yX3_append cX3_append 5 none :: ([.fieldLink RX3 11 "PegClerks$Pad" "signs" "[C", .fieldLink RX3 17 "PegClerks$Pad" "length" "I", .constantLong RX3 15 (255)] ++ wsX30)
def wsX3_empty : List Cond := .code yX3_empty cX3_empty 1 none :: ([.fieldLink RX3 17 "PegClerks$Pad" "length" "I"] ++ wsX30)
def wsX5_isPlace : List Cond := .code yX5_isPlace cX5_isPlace 1 (some .boolean) :: ([])
def wsX3_dueBehindPlaces : List Cond := .code yX3_dueBehindPlaces cX3_dueBehindPlaces 3 (some .int) :: ([.static yX5_isPlace, .initialized RX5, .code yX5_isPlace cX5_isPlace 1 (some .boolean)])
def wsX3_dueBehind : List Cond := .code yX3_dueBehind cX3_dueBehind 2 (some .int) :: ([.methodLink RX3 25 yX3_dueBehindPlaces, .static yX3_dueBehindPlaces, .initialized RX3, .code yX3_dueBehindPlaces cX3_dueBehindPlaces 3 (some .int), .static yX5_isPlace, .initialized RX5, .code yX5_isPlace cX5_isPlace 1 (some .boolean)])
def wsX3_firstFault : List Cond := .code yX3_firstFault cX3_firstFault 3 (some .int) :: ([.fieldLink RX3 17 "PegClerks$Pad" "length" "I", .fieldLink RX3 11 "PegClerks$Pad" "signs" "[C", .methodLink RX3 21 yX3_dueBehind, .static yX3_dueBehind, .initialized RX3, .code yX3_dueBehind cX3_dueBehind 2 (some .int), .methodLink RX3 25 yX3_dueBehindPlaces, .static yX3_dueBehindPlaces, .code yX3_dueBehindPlaces cX3_dueBehindPlaces 3 (some .int), .static yX5_isPlace, .initialized RX5, .code yX5_isPlace cX5_isPlace 1 (some .boolean)] ++ wsX30)
def wsX5_isRow : List Cond := .code yX5_isRow cX5_isRow 1 (some .boolean) :: ([])
def wsX3_changeRows : List Cond := .code yX3_changeRows cX3_changeRows 6 none :: ([.fieldLink RX3 17 "PegClerks$Pad" "length" "I", .fieldLink RX3 11 "PegClerks$Pad" "signs" "[C", .static yX5_isRow, .initialized RX5, .code yX5_isRow cX5_isRow 1 (some .boolean), .methodLink RX3 35 yX1_giveRow, .instanceMethod yX1_giveRow, .selects RX1 yX1_giveRow yX1_giveRow, .initialized RX1, .code yX1_giveRow cX1_giveRow 4 none, .fieldLink RX1 15 "PegClerks$Drum" "stampings" "[I", .fieldLink RX1 9 "PegClerks$Drum" "rows" "[I", .methodLink RX1 40 yX1_hasPeg, .instanceMethod yX1_hasPeg, .selects RX1 yX1_hasPeg yX1_hasPeg, .code yX1_hasPeg cX1_hasPeg 3 (some .boolean)] ++ wsX30 ++ wsX10)
def wsX4_allMarks : List Cond := .code yX4_allMarks cX4_allMarks 3 (some .int) :: ([.fieldLink RX4 15 "PegClerks$Stamps" "marks" "[I"] ++ wsX40)
def wsX5_init_r1 : List Cond := [Cond.methodLink RX5 1 objectInit, Cond.instanceMethod objectInit, Cond.code objectInit ⟨#[0xb1]⟩ 1 none, Cond.classLink RX5 7 RX0, Cond.instantiable RX0 13, Cond.initialized RX0, Cond.fieldLink RX5 10 "PegClerks" "clerk" "LPegClerks$Clerk;", Cond.fieldLink RX5 16 "PegClerks" "trial" "LPegClerks$Clerk;", Cond.classLink RX5 19 RX2, Cond.instantiable RX2 3, Cond.initialized RX2, Cond.fieldLink RX5 22 "PegClerks" "history" "LPegClerks$History;", Cond.classLink RX5 26 RX3, Cond.instantiable RX3 2, Cond.initialized RX3, Cond.fieldLink RX5 29 "PegClerks" "pad" "LPegClerks$Pad;", Cond.fieldLink RX5 33 "PegClerks" "slots" "[LPegClerks$Clerk;", Cond.arrayClass .boolean, Cond.fieldLink RX5 37 "PegClerks" "saved" "[Z", Cond.instanceMethod yX0_init, Cond.code yX0_init cX0_init 1 none, Cond.methodLink RX0 3 objectInit, Cond.arrayClass .int, Cond.fieldLink RX0 9 "PegClerks$Clerk" "settings" "[I"]
def wsX5_init_r2 : List Cond := [Cond.classLink RX0 15 RX1, Cond.instantiable RX1 4, Cond.initialized RX1, Cond.fieldLink RX0 18 "PegClerks$Clerk" "drum" "LPegClerks$Drum;", Cond.classLink RX0 22 RX4, Cond.instantiable RX4 4, Cond.initialized RX4, Cond.fieldLink RX0 25 "PegClerks$Clerk" "stamps" "LPegClerks$Stamps;", Cond.instanceMethod yX1_init, Cond.code yX1_init cX1_init 1 none, Cond.methodLink RX1 3 objectInit, Cond.fieldLink RX1 9 "PegClerks$Drum" "rows" "[I", Cond.fieldLink RX1 15 "PegClerks$Drum" "stampings" "[I", Cond.instanceMethod yX4_init, Cond.code yX4_init cX4_init 1 none, Cond.methodLink RX4 3 objectInit, Cond.fieldLink RX4 9 "PegClerks$Stamps" "inks" "[I", Cond.fieldLink RX4 15 "PegClerks$Stamps" "marks" "[I", Cond.fieldLink RX4 18 "PegClerks$Stamps" "dryFalls" "[I", Cond.fieldLink RX4 21 "PegClerks$Stamps" "spoilings" "[I", Cond.instanceMethod yX2_init, Cond.code yX2_init cX2_init 1 none, Cond.methodLink RX2 1 objectInit, Cond.classLink RX2 7 RX0]
def wsX5_init_r3 : List Cond := [Cond.fieldLink RX2 10 "PegClerks$History" "states" "[LPegClerks$Clerk;", Cond.instanceMethod yX3_init, Cond.code yX3_init cX3_init 1 none, Cond.methodLink RX3 3 objectInit, Cond.arrayClass .char, Cond.fieldLink RX3 11 "PegClerks$Pad" "signs" "[C"]
def wsX5_init : List Cond := .code yX5_init cX5_init 1 none :: ((wsX5_init_r1 ++ (wsX5_init_r2 ++ wsX5_init_r3)) ++ wsX00 ++ wsX50 ++ wsX20 ++ wsX30 ++ wsX10 ++ wsX40)
def wsX5_set_r1 : List Cond := [Cond.fieldLink RX5 41 "PegClerks" "LEAST" "[I", Cond.fieldLink RX5 45 "PegClerks" "MOST" "[I", Cond.fieldLink RX5 22 "PegClerks" "history" "LPegClerks$History;", Cond.fieldLink RX5 10 "PegClerks" "clerk" "LPegClerks$Clerk;", Cond.fieldLink RX5 52 "PegClerks$Clerk" "settings" "[I", Cond.methodLink RX5 48 yX2_keep, Cond.instanceMethod yX2_keep, Cond.selects RX2 yX2_keep yX2_keep, Cond.initialized RX2, Cond.code yX2_keep cX2_keep 2 none, Cond.fieldLink RX2 10 "PegClerks$History" "states" "[LPegClerks$Clerk;", Cond.fieldLink RX2 16 "PegClerks$History" "next" "I", Cond.fieldLink RX2 24 "PegClerks$History" "kept" "I", Cond.methodLink RX2 27 Lib.Math.min.name, Cond.static Lib.Math.min.name, Cond.initialized "java/lang/Math", Cond.code Lib.Math.min.name Lib.Math.min.code 2 (some .int), Cond.methodLink RX2 20 yX0_copyFrom, Cond.instanceMethod yX0_copyFrom, Cond.selects RX0 yX0_copyFrom yX0_copyFrom, Cond.initialized RX0, Cond.code yX0_copyFrom cX0_copyFrom 2 none, Cond.fieldLink RX0 9 "PegClerks$Clerk" "settings" "[I", Cond.methodLink RX0 29 arraycopyName]
def wsX5_set_r2 : List Cond := [Cond.native arraycopyName, Cond.static arraycopyName, Cond.initialized "java/lang/System", Cond.fieldLink RX0 18 "PegClerks$Clerk" "drum" "LPegClerks$Drum;", Cond.fieldLink RX0 25 "PegClerks$Clerk" "stamps" "LPegClerks$Stamps;", Cond.fieldLink RX0 42 "PegClerks$Clerk" "jammed" "Z", Cond.fieldLink RX0 46 "PegClerks$Clerk" "order" "I", Cond.fieldLink RX0 50 "PegClerks$Clerk" "formStamps" "I", Cond.fieldLink RX0 53 "PegClerks$Clerk" "formSpoiled" "Z", Cond.fieldLink RX0 56 "PegClerks$Clerk" "formSteps" "I", Cond.fieldLink RX0 59 "PegClerks$Clerk" "steps" "I", Cond.fieldLink RX0 62 "PegClerks$Clerk" "rightForms" "I", Cond.fieldLink RX0 65 "PegClerks$Clerk" "wrongForms" "I", Cond.fieldLink RX0 68 "PegClerks$Clerk" "spoiledForms" "I", Cond.fieldLink RX0 71 "PegClerks$Clerk" "jams" "I", Cond.methodLink RX0 35 yX1_copyFrom, Cond.instanceMethod yX1_copyFrom, Cond.selects RX1 yX1_copyFrom yX1_copyFrom, Cond.initialized RX1, Cond.code yX1_copyFrom cX1_copyFrom 2 none, Cond.fieldLink RX1 9 "PegClerks$Drum" "rows" "[I", Cond.methodLink RX1 18 arraycopyName, Cond.fieldLink RX1 15 "PegClerks$Drum" "stampings" "[I", Cond.fieldLink RX1 24 "PegClerks$Drum" "at" "I"]
def wsX5_set_r3 : List Cond := [Cond.fieldLink RX1 28 "PegClerks$Drum" "fallenOut" "I", Cond.methodLink RX0 39 yX4_copyFrom, Cond.instanceMethod yX4_copyFrom, Cond.selects RX4 yX4_copyFrom yX4_copyFrom, Cond.initialized RX4, Cond.code yX4_copyFrom cX4_copyFrom 2 none, Cond.fieldLink RX4 9 "PegClerks$Stamps" "inks" "[I", Cond.methodLink RX4 24 arraycopyName, Cond.fieldLink RX4 15 "PegClerks$Stamps" "marks" "[I", Cond.fieldLink RX4 18 "PegClerks$Stamps" "dryFalls" "[I", Cond.fieldLink RX4 21 "PegClerks$Stamps" "spoilings" "[I"]
def wsX5_set : List Cond := .code yX5_set cX5_set 4 (some .int) :: ((wsX5_set_r1 ++ (wsX5_set_r2 ++ wsX5_set_r3)) ++ wsX50 ++ wsX00 ++ wsX20 ++ wsX10 ++ wsX40)
def wsX5_peg_r1 : List Cond := [Cond.fieldLink RX5 22 "PegClerks" "history" "LPegClerks$History;", Cond.fieldLink RX5 10 "PegClerks" "clerk" "LPegClerks$Clerk;", Cond.fieldLink RX5 62 "PegClerks$Clerk" "drum" "LPegClerks$Drum;", Cond.fieldLink RX5 66 "PegClerks$Drum" "rows" "[I", Cond.methodLink RX5 55 yX5_isRow, Cond.static yX5_isRow, Cond.initialized RX5, Cond.code yX5_isRow cX5_isRow 1 (some .boolean), Cond.methodLink RX5 59 yX5_isPlace, Cond.static yX5_isPlace, Cond.code yX5_isPlace cX5_isPlace 1 (some .boolean), Cond.methodLink RX5 48 yX2_keep, Cond.instanceMethod yX2_keep, Cond.selects RX2 yX2_keep yX2_keep, Cond.initialized RX2, Cond.code yX2_keep cX2_keep 2 none, Cond.fieldLink RX2 10 "PegClerks$History" "states" "[LPegClerks$Clerk;", Cond.fieldLink RX2 16 "PegClerks$History" "next" "I", Cond.fieldLink RX2 24 "PegClerks$History" "kept" "I", Cond.methodLink RX2 27 Lib.Math.min.name, Cond.static Lib.Math.min.name, Cond.initialized "java/lang/Math", Cond.code Lib.Math.min.name Lib.Math.min.code 2 (some .int), Cond.methodLink RX2 20 yX0_copyFrom]
def wsX5_peg_r2 : List Cond := [Cond.instanceMethod yX0_copyFrom, Cond.selects RX0 yX0_copyFrom yX0_copyFrom, Cond.initialized RX0, Cond.code yX0_copyFrom cX0_copyFrom 2 none, Cond.fieldLink RX0 9 "PegClerks$Clerk" "settings" "[I", Cond.methodLink RX0 29 arraycopyName, Cond.native arraycopyName, Cond.static arraycopyName, Cond.initialized "java/lang/System", Cond.fieldLink RX0 18 "PegClerks$Clerk" "drum" "LPegClerks$Drum;", Cond.fieldLink RX0 25 "PegClerks$Clerk" "stamps" "LPegClerks$Stamps;", Cond.fieldLink RX0 42 "PegClerks$Clerk" "jammed" "Z", Cond.fieldLink RX0 46 "PegClerks$Clerk" "order" "I", Cond.fieldLink RX0 50 "PegClerks$Clerk" "formStamps" "I", Cond.fieldLink RX0 53 "PegClerks$Clerk" "formSpoiled" "Z", Cond.fieldLink RX0 56 "PegClerks$Clerk" "formSteps" "I", Cond.fieldLink RX0 59 "PegClerks$Clerk" "steps" "I", Cond.fieldLink RX0 62 "PegClerks$Clerk" "rightForms" "I", Cond.fieldLink RX0 65 "PegClerks$Clerk" "wrongForms" "I", Cond.fieldLink RX0 68 "PegClerks$Clerk" "spoiledForms" "I", Cond.fieldLink RX0 71 "PegClerks$Clerk" "jams" "I", Cond.methodLink RX0 35 yX1_copyFrom, Cond.instanceMethod yX1_copyFrom, Cond.selects RX1 yX1_copyFrom yX1_copyFrom]
def wsX5_peg_r3 : List Cond := [Cond.initialized RX1, Cond.code yX1_copyFrom cX1_copyFrom 2 none, Cond.fieldLink RX1 9 "PegClerks$Drum" "rows" "[I", Cond.methodLink RX1 18 arraycopyName, Cond.fieldLink RX1 15 "PegClerks$Drum" "stampings" "[I", Cond.fieldLink RX1 24 "PegClerks$Drum" "at" "I", Cond.fieldLink RX1 28 "PegClerks$Drum" "fallenOut" "I", Cond.methodLink RX0 39 yX4_copyFrom, Cond.instanceMethod yX4_copyFrom, Cond.selects RX4 yX4_copyFrom yX4_copyFrom, Cond.initialized RX4, Cond.code yX4_copyFrom cX4_copyFrom 2 none, Cond.fieldLink RX4 9 "PegClerks$Stamps" "inks" "[I", Cond.methodLink RX4 24 arraycopyName, Cond.fieldLink RX4 15 "PegClerks$Stamps" "marks" "[I", Cond.fieldLink RX4 18 "PegClerks$Stamps" "dryFalls" "[I", Cond.fieldLink RX4 21 "PegClerks$Stamps" "spoilings" "[I", Cond.methodLink RX5 71 yX1_giveRow, Cond.instanceMethod yX1_giveRow, Cond.selects RX1 yX1_giveRow yX1_giveRow, Cond.code yX1_giveRow cX1_giveRow 4 none, Cond.methodLink RX1 40 yX1_hasPeg, Cond.instanceMethod yX1_hasPeg, Cond.selects RX1 yX1_hasPeg yX1_hasPeg]
def wsX5_peg_r4 : List Cond := [Cond.code yX1_hasPeg cX1_hasPeg 3 (some .boolean), Cond.methodLink RX5 75 yX1_pegsInRow, Cond.instanceMethod yX1_pegsInRow, Cond.selects RX1 yX1_pegsInRow yX1_pegsInRow, Cond.code yX1_pegsInRow cX1_pegsInRow 2 (some .int), Cond.methodLink RX1 35 yJ6_bitCount_0f7a4, Cond.static yJ6_bitCount_0f7a4, Cond.initialized RJ6, Cond.code yJ6_bitCount_0f7a4 cJ6_bitCount_0f7a4 1 (some .int), Cond.constant RJ6 265 (1431655765), Cond.constant RJ6 266 (858993459), Cond.constant RJ6 267 (252645135)]
def wsX5_peg : List Cond := .code yX5_peg cX5_peg 3 (some .int) :: ((wsX5_peg_r1 ++ (wsX5_peg_r2 ++ (wsX5_peg_r3 ++ wsX5_peg_r4))) ++ wsX50 ++ wsX00 ++ wsX10 ++ wsX20 ++ wsX40)
def wsX5_order_r1 : List Cond := [Cond.fieldLink RX5 22 "PegClerks" "history" "LPegClerks$History;", Cond.fieldLink RX5 10 "PegClerks" "clerk" "LPegClerks$Clerk;", Cond.fieldLink RX5 79 "PegClerks$Clerk" "order" "I", Cond.methodLink RX5 48 yX2_keep, Cond.instanceMethod yX2_keep, Cond.selects RX2 yX2_keep yX2_keep, Cond.initialized RX2, Cond.code yX2_keep cX2_keep 2 none, Cond.fieldLink RX2 10 "PegClerks$History" "states" "[LPegClerks$Clerk;", Cond.fieldLink RX2 16 "PegClerks$History" "next" "I", Cond.fieldLink RX2 24 "PegClerks$History" "kept" "I", Cond.methodLink RX2 27 Lib.Math.min.name, Cond.static Lib.Math.min.name, Cond.initialized "java/lang/Math", Cond.code Lib.Math.min.name Lib.Math.min.code 2 (some .int), Cond.methodLink RX2 20 yX0_copyFrom, Cond.instanceMethod yX0_copyFrom, Cond.selects RX0 yX0_copyFrom yX0_copyFrom, Cond.initialized RX0, Cond.code yX0_copyFrom cX0_copyFrom 2 none, Cond.fieldLink RX0 9 "PegClerks$Clerk" "settings" "[I", Cond.methodLink RX0 29 arraycopyName, Cond.native arraycopyName, Cond.static arraycopyName]
def wsX5_order_r2 : List Cond := [Cond.initialized "java/lang/System", Cond.fieldLink RX0 18 "PegClerks$Clerk" "drum" "LPegClerks$Drum;", Cond.fieldLink RX0 25 "PegClerks$Clerk" "stamps" "LPegClerks$Stamps;", Cond.fieldLink RX0 42 "PegClerks$Clerk" "jammed" "Z", Cond.fieldLink RX0 46 "PegClerks$Clerk" "order" "I", Cond.fieldLink RX0 50 "PegClerks$Clerk" "formStamps" "I", Cond.fieldLink RX0 53 "PegClerks$Clerk" "formSpoiled" "Z", Cond.fieldLink RX0 56 "PegClerks$Clerk" "formSteps" "I", Cond.fieldLink RX0 59 "PegClerks$Clerk" "steps" "I", Cond.fieldLink RX0 62 "PegClerks$Clerk" "rightForms" "I", Cond.fieldLink RX0 65 "PegClerks$Clerk" "wrongForms" "I", Cond.fieldLink RX0 68 "PegClerks$Clerk" "spoiledForms" "I", Cond.fieldLink RX0 71 "PegClerks$Clerk" "jams" "I", Cond.methodLink RX0 35 yX1_copyFrom, Cond.instanceMethod yX1_copyFrom, Cond.selects RX1 yX1_copyFrom yX1_copyFrom, Cond.initialized RX1, Cond.code yX1_copyFrom cX1_copyFrom 2 none, Cond.fieldLink RX1 9 "PegClerks$Drum" "rows" "[I", Cond.methodLink RX1 18 arraycopyName, Cond.fieldLink RX1 15 "PegClerks$Drum" "stampings" "[I", Cond.fieldLink RX1 24 "PegClerks$Drum" "at" "I", Cond.fieldLink RX1 28 "PegClerks$Drum" "fallenOut" "I", Cond.methodLink RX0 39 yX4_copyFrom]
def wsX5_order_r3 : List Cond := [Cond.instanceMethod yX4_copyFrom, Cond.selects RX4 yX4_copyFrom yX4_copyFrom, Cond.initialized RX4, Cond.code yX4_copyFrom cX4_copyFrom 2 none, Cond.fieldLink RX4 9 "PegClerks$Stamps" "inks" "[I", Cond.methodLink RX4 24 arraycopyName, Cond.fieldLink RX4 15 "PegClerks$Stamps" "marks" "[I", Cond.fieldLink RX4 18 "PegClerks$Stamps" "dryFalls" "[I", Cond.fieldLink RX4 21 "PegClerks$Stamps" "spoilings" "[I"]
def wsX5_order : List Cond := .code yX5_order cX5_order 3 (some .int) :: ((wsX5_order_r1 ++ (wsX5_order_r2 ++ wsX5_order_r3)) ++ wsX50 ++ wsX00 ++ wsX20 ++ wsX10 ++ wsX40)
def wsX5_ink_r1 : List Cond := [Cond.fieldLink RX5 22 "PegClerks" "history" "LPegClerks$History;", Cond.fieldLink RX5 10 "PegClerks" "clerk" "LPegClerks$Clerk;", Cond.fieldLink RX5 83 "PegClerks$Clerk" "stamps" "LPegClerks$Stamps;", Cond.fieldLink RX5 87 "PegClerks$Stamps" "inks" "[I", Cond.methodLink RX5 59 yX5_isPlace, Cond.static yX5_isPlace, Cond.initialized RX5, Cond.code yX5_isPlace cX5_isPlace 1 (some .boolean), Cond.methodLink RX5 48 yX2_keep, Cond.instanceMethod yX2_keep, Cond.selects RX2 yX2_keep yX2_keep, Cond.initialized RX2, Cond.code yX2_keep cX2_keep 2 none, Cond.fieldLink RX2 10 "PegClerks$History" "states" "[LPegClerks$Clerk;", Cond.fieldLink RX2 16 "PegClerks$History" "next" "I", Cond.fieldLink RX2 24 "PegClerks$History" "kept" "I", Cond.methodLink RX2 27 Lib.Math.min.name, Cond.static Lib.Math.min.name, Cond.initialized "java/lang/Math", Cond.code Lib.Math.min.name Lib.Math.min.code 2 (some .int), Cond.methodLink RX2 20 yX0_copyFrom, Cond.instanceMethod yX0_copyFrom, Cond.selects RX0 yX0_copyFrom yX0_copyFrom, Cond.initialized RX0]
def wsX5_ink_r2 : List Cond := [Cond.code yX0_copyFrom cX0_copyFrom 2 none, Cond.fieldLink RX0 9 "PegClerks$Clerk" "settings" "[I", Cond.methodLink RX0 29 arraycopyName, Cond.native arraycopyName, Cond.static arraycopyName, Cond.initialized "java/lang/System", Cond.fieldLink RX0 18 "PegClerks$Clerk" "drum" "LPegClerks$Drum;", Cond.fieldLink RX0 25 "PegClerks$Clerk" "stamps" "LPegClerks$Stamps;", Cond.fieldLink RX0 42 "PegClerks$Clerk" "jammed" "Z", Cond.fieldLink RX0 46 "PegClerks$Clerk" "order" "I", Cond.fieldLink RX0 50 "PegClerks$Clerk" "formStamps" "I", Cond.fieldLink RX0 53 "PegClerks$Clerk" "formSpoiled" "Z", Cond.fieldLink RX0 56 "PegClerks$Clerk" "formSteps" "I", Cond.fieldLink RX0 59 "PegClerks$Clerk" "steps" "I", Cond.fieldLink RX0 62 "PegClerks$Clerk" "rightForms" "I", Cond.fieldLink RX0 65 "PegClerks$Clerk" "wrongForms" "I", Cond.fieldLink RX0 68 "PegClerks$Clerk" "spoiledForms" "I", Cond.fieldLink RX0 71 "PegClerks$Clerk" "jams" "I", Cond.methodLink RX0 35 yX1_copyFrom, Cond.instanceMethod yX1_copyFrom, Cond.selects RX1 yX1_copyFrom yX1_copyFrom, Cond.initialized RX1, Cond.code yX1_copyFrom cX1_copyFrom 2 none, Cond.fieldLink RX1 9 "PegClerks$Drum" "rows" "[I"]
def wsX5_ink_r3 : List Cond := [Cond.methodLink RX1 18 arraycopyName, Cond.fieldLink RX1 15 "PegClerks$Drum" "stampings" "[I", Cond.fieldLink RX1 24 "PegClerks$Drum" "at" "I", Cond.fieldLink RX1 28 "PegClerks$Drum" "fallenOut" "I", Cond.methodLink RX0 39 yX4_copyFrom, Cond.instanceMethod yX4_copyFrom, Cond.selects RX4 yX4_copyFrom yX4_copyFrom, Cond.initialized RX4, Cond.code yX4_copyFrom cX4_copyFrom 2 none, Cond.fieldLink RX4 9 "PegClerks$Stamps" "inks" "[I", Cond.methodLink RX4 24 arraycopyName, Cond.fieldLink RX4 15 "PegClerks$Stamps" "marks" "[I", Cond.fieldLink RX4 18 "PegClerks$Stamps" "dryFalls" "[I", Cond.fieldLink RX4 21 "PegClerks$Stamps" "spoilings" "[I"]
def wsX5_ink : List Cond := .code yX5_ink cX5_ink 3 (some .int) :: ((wsX5_ink_r1 ++ (wsX5_ink_r2 ++ wsX5_ink_r3)) ++ wsX50 ++ wsX00 ++ wsX40 ++ wsX20 ++ wsX10)
def wsX5_step_r1 : List Cond := [Cond.fieldLink RX5 10 "PegClerks" "clerk" "LPegClerks$Clerk;", Cond.fieldLink RX5 92 "PegClerks$Clerk" "jammed" "Z", Cond.fieldLink RX5 96 "PegClerks$Clerk" "steps" "I", Cond.constant RX5 99 (99999), Cond.fieldLink RX5 22 "PegClerks" "history" "LPegClerks$History;", Cond.methodLink RX5 48 yX2_keep, Cond.instanceMethod yX2_keep, Cond.selects RX2 yX2_keep yX2_keep, Cond.initialized RX2, Cond.code yX2_keep cX2_keep 2 none, Cond.fieldLink RX2 10 "PegClerks$History" "states" "[LPegClerks$Clerk;", Cond.fieldLink RX2 16 "PegClerks$History" "next" "I", Cond.fieldLink RX2 24 "PegClerks$History" "kept" "I", Cond.methodLink RX2 27 Lib.Math.min.name, Cond.static Lib.Math.min.name, Cond.initialized "java/lang/Math", Cond.code Lib.Math.min.name Lib.Math.min.code 2 (some .int), Cond.methodLink RX2 20 yX0_copyFrom, Cond.instanceMethod yX0_copyFrom, Cond.selects RX0 yX0_copyFrom yX0_copyFrom, Cond.initialized RX0, Cond.code yX0_copyFrom cX0_copyFrom 2 none, Cond.fieldLink RX0 9 "PegClerks$Clerk" "settings" "[I", Cond.methodLink RX0 29 arraycopyName]
def wsX5_step_r2 : List Cond := [Cond.native arraycopyName, Cond.static arraycopyName, Cond.initialized "java/lang/System", Cond.fieldLink RX0 18 "PegClerks$Clerk" "drum" "LPegClerks$Drum;", Cond.fieldLink RX0 25 "PegClerks$Clerk" "stamps" "LPegClerks$Stamps;", Cond.fieldLink RX0 42 "PegClerks$Clerk" "jammed" "Z", Cond.fieldLink RX0 46 "PegClerks$Clerk" "order" "I", Cond.fieldLink RX0 50 "PegClerks$Clerk" "formStamps" "I", Cond.fieldLink RX0 53 "PegClerks$Clerk" "formSpoiled" "Z", Cond.fieldLink RX0 56 "PegClerks$Clerk" "formSteps" "I", Cond.fieldLink RX0 59 "PegClerks$Clerk" "steps" "I", Cond.fieldLink RX0 62 "PegClerks$Clerk" "rightForms" "I", Cond.fieldLink RX0 65 "PegClerks$Clerk" "wrongForms" "I", Cond.fieldLink RX0 68 "PegClerks$Clerk" "spoiledForms" "I", Cond.fieldLink RX0 71 "PegClerks$Clerk" "jams" "I", Cond.methodLink RX0 35 yX1_copyFrom, Cond.instanceMethod yX1_copyFrom, Cond.selects RX1 yX1_copyFrom yX1_copyFrom, Cond.initialized RX1, Cond.code yX1_copyFrom cX1_copyFrom 2 none, Cond.fieldLink RX1 9 "PegClerks$Drum" "rows" "[I", Cond.methodLink RX1 18 arraycopyName, Cond.fieldLink RX1 15 "PegClerks$Drum" "stampings" "[I", Cond.fieldLink RX1 24 "PegClerks$Drum" "at" "I"]
def wsX5_step_r3 : List Cond := [Cond.fieldLink RX1 28 "PegClerks$Drum" "fallenOut" "I", Cond.methodLink RX0 39 yX4_copyFrom, Cond.instanceMethod yX4_copyFrom, Cond.selects RX4 yX4_copyFrom yX4_copyFrom, Cond.initialized RX4, Cond.code yX4_copyFrom cX4_copyFrom 2 none, Cond.fieldLink RX4 9 "PegClerks$Stamps" "inks" "[I", Cond.methodLink RX4 24 arraycopyName, Cond.fieldLink RX4 15 "PegClerks$Stamps" "marks" "[I", Cond.fieldLink RX4 18 "PegClerks$Stamps" "dryFalls" "[I", Cond.fieldLink RX4 21 "PegClerks$Stamps" "spoilings" "[I", Cond.methodLink RX5 100 yX0_makeSteps, Cond.instanceMethod yX0_makeSteps, Cond.selects RX0 yX0_makeSteps yX0_makeSteps, Cond.code yX0_makeSteps cX0_makeSteps 3 (some .int), Cond.methodLink RX0 78 yX0_makeOneStep, Cond.instanceMethod yX0_makeOneStep, Cond.selects RX0 yX0_makeOneStep yX0_makeOneStep, Cond.code yX0_makeOneStep cX0_makeOneStep 1 (some .boolean), Cond.fieldLink RX0 82 "PegClerks$Drum" "at" "I", Cond.fieldLink RX0 89 "PegClerks$Drum" "rows" "[I", Cond.methodLink RX0 85 yX0_wouldJamAt, Cond.instanceMethod yX0_wouldJamAt, Cond.selects RX0 yX0_wouldJamAt yX0_wouldJamAt]
def wsX5_step_r4 : List Cond := [Cond.code yX0_wouldJamAt cX0_wouldJamAt 2 (some .boolean), Cond.methodLink RX0 74 yX1_pegsInRow, Cond.instanceMethod yX1_pegsInRow, Cond.selects RX1 yX1_pegsInRow yX1_pegsInRow, Cond.code yX1_pegsInRow cX1_pegsInRow 2 (some .int), Cond.methodLink RX1 35 yJ6_bitCount_0f7a4, Cond.static yJ6_bitCount_0f7a4, Cond.initialized RJ6, Cond.code yJ6_bitCount_0f7a4 cJ6_bitCount_0f7a4 1 (some .int), Cond.constant RJ6 265 (1431655765), Cond.constant RJ6 266 (858993459), Cond.constant RJ6 267 (252645135), Cond.methodLink RX0 92 yX0_letStampsFall, Cond.instanceMethod yX0_letStampsFall, Cond.selects RX0 yX0_letStampsFall yX0_letStampsFall, Cond.code yX0_letStampsFall cX0_letStampsFall 3 none, Cond.methodLink RX0 102 yX0_letStampFall, Cond.instanceMethod yX0_letStampFall, Cond.selects RX0 yX0_letStampFall yX0_letStampFall, Cond.code yX0_letStampFall cX0_letStampFall 2 none, Cond.fieldLink RX0 109 "PegClerks$Stamps" "spoilings" "[I", Cond.methodLink RX0 112 yX4_leavesMark, Cond.instanceMethod yX4_leavesMark, Cond.selects RX4 yX4_leavesMark yX4_leavesMark]
def wsX5_step_r5 : List Cond := [Cond.code yX4_leavesMark cX4_leavesMark 3 (some .boolean), Cond.methodLink RX0 105 yX1_wearPeg, Cond.instanceMethod yX1_wearPeg, Cond.selects RX1 yX1_wearPeg yX1_wearPeg, Cond.code yX1_wearPeg cX1_wearPeg 5 none, Cond.methodLink RX0 96 yX1_goOn, Cond.instanceMethod yX1_goOn, Cond.selects RX1 yX1_goOn yX1_goOn, Cond.code yX1_goOn cX1_goOn 1 none, Cond.methodLink RX1 31 yX1_rowBehind, Cond.static yX1_rowBehind, Cond.code yX1_rowBehind cX1_rowBehind 1 (some .int), Cond.methodLink RX0 99 yX0_finishForm, Cond.instanceMethod yX0_finishForm, Cond.selects RX0 yX0_finishForm yX0_finishForm, Cond.code yX0_finishForm cX0_finishForm 1 none, Cond.methodLink RX0 116 yX0_layForm, Cond.instanceMethod yX0_layForm, Cond.selects RX0 yX0_layForm yX0_layForm, Cond.code yX0_layForm cX0_layForm 1 none]
def wsX5_step : List Cond := .code yX5_step cX5_step 2 (some .int) :: ((wsX5_step_r1 ++ (wsX5_step_r2 ++ (wsX5_step_r3 ++ (wsX5_step_r4 ++ wsX5_step_r5)))) ++ wsX50 ++ wsX00 ++ wsX20 ++ wsX10 ++ wsX40)
def wsX5_free_r1 : List Cond := [Cond.fieldLink RX5 10 "PegClerks" "clerk" "LPegClerks$Clerk;", Cond.fieldLink RX5 92 "PegClerks$Clerk" "jammed" "Z", Cond.fieldLink RX5 22 "PegClerks" "history" "LPegClerks$History;", Cond.fieldLink RX5 62 "PegClerks$Clerk" "drum" "LPegClerks$Drum;", Cond.fieldLink RX5 103 "PegClerks$Drum" "at" "I", Cond.methodLink RX5 48 yX2_keep, Cond.instanceMethod yX2_keep, Cond.selects RX2 yX2_keep yX2_keep, Cond.initialized RX2, Cond.code yX2_keep cX2_keep 2 none, Cond.fieldLink RX2 10 "PegClerks$History" "states" "[LPegClerks$Clerk;", Cond.fieldLink RX2 16 "PegClerks$History" "next" "I", Cond.fieldLink RX2 24 "PegClerks$History" "kept" "I", Cond.methodLink RX2 27 Lib.Math.min.name, Cond.static Lib.Math.min.name, Cond.initialized "java/lang/Math", Cond.code Lib.Math.min.name Lib.Math.min.code 2 (some .int), Cond.methodLink RX2 20 yX0_copyFrom, Cond.instanceMethod yX0_copyFrom, Cond.selects RX0 yX0_copyFrom yX0_copyFrom, Cond.initialized RX0, Cond.code yX0_copyFrom cX0_copyFrom 2 none, Cond.fieldLink RX0 9 "PegClerks$Clerk" "settings" "[I", Cond.methodLink RX0 29 arraycopyName]
def wsX5_free_r2 : List Cond := [Cond.native arraycopyName, Cond.static arraycopyName, Cond.initialized "java/lang/System", Cond.fieldLink RX0 18 "PegClerks$Clerk" "drum" "LPegClerks$Drum;", Cond.fieldLink RX0 25 "PegClerks$Clerk" "stamps" "LPegClerks$Stamps;", Cond.fieldLink RX0 42 "PegClerks$Clerk" "jammed" "Z", Cond.fieldLink RX0 46 "PegClerks$Clerk" "order" "I", Cond.fieldLink RX0 50 "PegClerks$Clerk" "formStamps" "I", Cond.fieldLink RX0 53 "PegClerks$Clerk" "formSpoiled" "Z", Cond.fieldLink RX0 56 "PegClerks$Clerk" "formSteps" "I", Cond.fieldLink RX0 59 "PegClerks$Clerk" "steps" "I", Cond.fieldLink RX0 62 "PegClerks$Clerk" "rightForms" "I", Cond.fieldLink RX0 65 "PegClerks$Clerk" "wrongForms" "I", Cond.fieldLink RX0 68 "PegClerks$Clerk" "spoiledForms" "I", Cond.fieldLink RX0 71 "PegClerks$Clerk" "jams" "I", Cond.methodLink RX0 35 yX1_copyFrom, Cond.instanceMethod yX1_copyFrom, Cond.selects RX1 yX1_copyFrom yX1_copyFrom, Cond.initialized RX1, Cond.code yX1_copyFrom cX1_copyFrom 2 none, Cond.fieldLink RX1 9 "PegClerks$Drum" "rows" "[I", Cond.methodLink RX1 18 arraycopyName, Cond.fieldLink RX1 15 "PegClerks$Drum" "stampings" "[I", Cond.fieldLink RX1 24 "PegClerks$Drum" "at" "I"]
def wsX5_free_r3 : List Cond := [Cond.fieldLink RX1 28 "PegClerks$Drum" "fallenOut" "I", Cond.methodLink RX0 39 yX4_copyFrom, Cond.instanceMethod yX4_copyFrom, Cond.selects RX4 yX4_copyFrom yX4_copyFrom, Cond.initialized RX4, Cond.code yX4_copyFrom cX4_copyFrom 2 none, Cond.fieldLink RX4 9 "PegClerks$Stamps" "inks" "[I", Cond.methodLink RX4 24 arraycopyName, Cond.fieldLink RX4 15 "PegClerks$Stamps" "marks" "[I", Cond.fieldLink RX4 18 "PegClerks$Stamps" "dryFalls" "[I", Cond.fieldLink RX4 21 "PegClerks$Stamps" "spoilings" "[I", Cond.methodLink RX5 106 yX1_goOn, Cond.instanceMethod yX1_goOn, Cond.selects RX1 yX1_goOn yX1_goOn, Cond.code yX1_goOn cX1_goOn 1 none, Cond.methodLink RX1 31 yX1_rowBehind, Cond.static yX1_rowBehind, Cond.code yX1_rowBehind cX1_rowBehind 1 (some .int)]
def wsX5_free : List Cond := .code yX5_free cX5_free 2 (some .int) :: ((wsX5_free_r1 ++ (wsX5_free_r2 ++ wsX5_free_r3)) ++ wsX50 ++ wsX00 ++ wsX10 ++ wsX20 ++ wsX40)
def wsX5_newForm_r1 : List Cond := [Cond.fieldLink RX5 22 "PegClerks" "history" "LPegClerks$History;", Cond.fieldLink RX5 10 "PegClerks" "clerk" "LPegClerks$Clerk;", Cond.fieldLink RX5 109 "PegClerks$Clerk" "formStamps" "I", Cond.methodLink RX5 48 yX2_keep, Cond.instanceMethod yX2_keep, Cond.selects RX2 yX2_keep yX2_keep, Cond.initialized RX2, Cond.code yX2_keep cX2_keep 2 none, Cond.fieldLink RX2 10 "PegClerks$History" "states" "[LPegClerks$Clerk;", Cond.fieldLink RX2 16 "PegClerks$History" "next" "I", Cond.fieldLink RX2 24 "PegClerks$History" "kept" "I", Cond.methodLink RX2 27 Lib.Math.min.name, Cond.static Lib.Math.min.name, Cond.initialized "java/lang/Math", Cond.code Lib.Math.min.name Lib.Math.min.code 2 (some .int), Cond.methodLink RX2 20 yX0_copyFrom, Cond.instanceMethod yX0_copyFrom, Cond.selects RX0 yX0_copyFrom yX0_copyFrom, Cond.initialized RX0, Cond.code yX0_copyFrom cX0_copyFrom 2 none, Cond.fieldLink RX0 9 "PegClerks$Clerk" "settings" "[I", Cond.methodLink RX0 29 arraycopyName, Cond.native arraycopyName, Cond.static arraycopyName]
def wsX5_newForm_r2 : List Cond := [Cond.initialized "java/lang/System", Cond.fieldLink RX0 18 "PegClerks$Clerk" "drum" "LPegClerks$Drum;", Cond.fieldLink RX0 25 "PegClerks$Clerk" "stamps" "LPegClerks$Stamps;", Cond.fieldLink RX0 42 "PegClerks$Clerk" "jammed" "Z", Cond.fieldLink RX0 46 "PegClerks$Clerk" "order" "I", Cond.fieldLink RX0 50 "PegClerks$Clerk" "formStamps" "I", Cond.fieldLink RX0 53 "PegClerks$Clerk" "formSpoiled" "Z", Cond.fieldLink RX0 56 "PegClerks$Clerk" "formSteps" "I", Cond.fieldLink RX0 59 "PegClerks$Clerk" "steps" "I", Cond.fieldLink RX0 62 "PegClerks$Clerk" "rightForms" "I", Cond.fieldLink RX0 65 "PegClerks$Clerk" "wrongForms" "I", Cond.fieldLink RX0 68 "PegClerks$Clerk" "spoiledForms" "I", Cond.fieldLink RX0 71 "PegClerks$Clerk" "jams" "I", Cond.methodLink RX0 35 yX1_copyFrom, Cond.instanceMethod yX1_copyFrom, Cond.selects RX1 yX1_copyFrom yX1_copyFrom, Cond.initialized RX1, Cond.code yX1_copyFrom cX1_copyFrom 2 none, Cond.fieldLink RX1 9 "PegClerks$Drum" "rows" "[I", Cond.methodLink RX1 18 arraycopyName, Cond.fieldLink RX1 15 "PegClerks$Drum" "stampings" "[I", Cond.fieldLink RX1 24 "PegClerks$Drum" "at" "I", Cond.fieldLink RX1 28 "PegClerks$Drum" "fallenOut" "I", Cond.methodLink RX0 39 yX4_copyFrom]
def wsX5_newForm_r3 : List Cond := [Cond.instanceMethod yX4_copyFrom, Cond.selects RX4 yX4_copyFrom yX4_copyFrom, Cond.initialized RX4, Cond.code yX4_copyFrom cX4_copyFrom 2 none, Cond.fieldLink RX4 9 "PegClerks$Stamps" "inks" "[I", Cond.methodLink RX4 24 arraycopyName, Cond.fieldLink RX4 15 "PegClerks$Stamps" "marks" "[I", Cond.fieldLink RX4 18 "PegClerks$Stamps" "dryFalls" "[I", Cond.fieldLink RX4 21 "PegClerks$Stamps" "spoilings" "[I", Cond.methodLink RX5 112 yX0_layForm, Cond.instanceMethod yX0_layForm, Cond.selects RX0 yX0_layForm yX0_layForm, Cond.code yX0_layForm cX0_layForm 1 none]
def wsX5_newForm : List Cond := .code yX5_newForm cX5_newForm 2 (some .int) :: ((wsX5_newForm_r1 ++ (wsX5_newForm_r2 ++ wsX5_newForm_r3)) ++ wsX50 ++ wsX00 ++ wsX20 ++ wsX10 ++ wsX40)
def wsX5_read_r1 : List Cond := [Cond.fieldLink RX5 29 "PegClerks" "pad" "LPegClerks$Pad;", Cond.fieldLink RX5 22 "PegClerks" "history" "LPegClerks$History;", Cond.fieldLink RX5 10 "PegClerks" "clerk" "LPegClerks$Clerk;", Cond.fieldLink RX5 62 "PegClerks$Clerk" "drum" "LPegClerks$Drum;", Cond.methodLink RX5 115 yX3_firstFault, Cond.instanceMethod yX3_firstFault, Cond.selects RX3 yX3_firstFault yX3_firstFault, Cond.initialized RX3, Cond.code yX3_firstFault cX3_firstFault 3 (some .int), Cond.fieldLink RX3 17 "PegClerks$Pad" "length" "I", Cond.fieldLink RX3 11 "PegClerks$Pad" "signs" "[C", Cond.methodLink RX3 21 yX3_dueBehind, Cond.static yX3_dueBehind, Cond.code yX3_dueBehind cX3_dueBehind 2 (some .int), Cond.methodLink RX3 25 yX3_dueBehindPlaces, Cond.static yX3_dueBehindPlaces, Cond.code yX3_dueBehindPlaces cX3_dueBehindPlaces 3 (some .int), Cond.static yX5_isPlace, Cond.initialized RX5, Cond.code yX5_isPlace cX5_isPlace 1 (some .boolean), Cond.methodLink RX5 48 yX2_keep, Cond.instanceMethod yX2_keep, Cond.selects RX2 yX2_keep yX2_keep, Cond.initialized RX2]
def wsX5_read_r2 : List Cond := [Cond.code yX2_keep cX2_keep 2 none, Cond.fieldLink RX2 10 "PegClerks$History" "states" "[LPegClerks$Clerk;", Cond.fieldLink RX2 16 "PegClerks$History" "next" "I", Cond.fieldLink RX2 24 "PegClerks$History" "kept" "I", Cond.methodLink RX2 27 Lib.Math.min.name, Cond.static Lib.Math.min.name, Cond.initialized "java/lang/Math", Cond.code Lib.Math.min.name Lib.Math.min.code 2 (some .int), Cond.methodLink RX2 20 yX0_copyFrom, Cond.instanceMethod yX0_copyFrom, Cond.selects RX0 yX0_copyFrom yX0_copyFrom, Cond.initialized RX0, Cond.code yX0_copyFrom cX0_copyFrom 2 none, Cond.fieldLink RX0 9 "PegClerks$Clerk" "settings" "[I", Cond.methodLink RX0 29 arraycopyName, Cond.native arraycopyName, Cond.static arraycopyName, Cond.initialized "java/lang/System", Cond.fieldLink RX0 18 "PegClerks$Clerk" "drum" "LPegClerks$Drum;", Cond.fieldLink RX0 25 "PegClerks$Clerk" "stamps" "LPegClerks$Stamps;", Cond.fieldLink RX0 42 "PegClerks$Clerk" "jammed" "Z", Cond.fieldLink RX0 46 "PegClerks$Clerk" "order" "I", Cond.fieldLink RX0 50 "PegClerks$Clerk" "formStamps" "I", Cond.fieldLink RX0 53 "PegClerks$Clerk" "formSpoiled" "Z"]
def wsX5_read_r3 : List Cond := [Cond.fieldLink RX0 56 "PegClerks$Clerk" "formSteps" "I", Cond.fieldLink RX0 59 "PegClerks$Clerk" "steps" "I", Cond.fieldLink RX0 62 "PegClerks$Clerk" "rightForms" "I", Cond.fieldLink RX0 65 "PegClerks$Clerk" "wrongForms" "I", Cond.fieldLink RX0 68 "PegClerks$Clerk" "spoiledForms" "I", Cond.fieldLink RX0 71 "PegClerks$Clerk" "jams" "I", Cond.methodLink RX0 35 yX1_copyFrom, Cond.instanceMethod yX1_copyFrom, Cond.selects RX1 yX1_copyFrom yX1_copyFrom, Cond.initialized RX1, Cond.code yX1_copyFrom cX1_copyFrom 2 none, Cond.fieldLink RX1 9 "PegClerks$Drum" "rows" "[I", Cond.methodLink RX1 18 arraycopyName, Cond.fieldLink RX1 15 "PegClerks$Drum" "stampings" "[I", Cond.fieldLink RX1 24 "PegClerks$Drum" "at" "I", Cond.fieldLink RX1 28 "PegClerks$Drum" "fallenOut" "I", Cond.methodLink RX0 39 yX4_copyFrom, Cond.instanceMethod yX4_copyFrom, Cond.selects RX4 yX4_copyFrom yX4_copyFrom, Cond.initialized RX4, Cond.code yX4_copyFrom cX4_copyFrom 2 none, Cond.fieldLink RX4 9 "PegClerks$Stamps" "inks" "[I", Cond.methodLink RX4 24 arraycopyName, Cond.fieldLink RX4 15 "PegClerks$Stamps" "marks" "[I"]
def wsX5_read_r4 : List Cond := [Cond.fieldLink RX4 18 "PegClerks$Stamps" "dryFalls" "[I", Cond.fieldLink RX4 21 "PegClerks$Stamps" "spoilings" "[I", Cond.methodLink RX5 119 yX3_changeRows, Cond.instanceMethod yX3_changeRows, Cond.selects RX3 yX3_changeRows yX3_changeRows, Cond.code yX3_changeRows cX3_changeRows 6 none, Cond.static yX5_isRow, Cond.code yX5_isRow cX5_isRow 1 (some .boolean), Cond.methodLink RX3 35 yX1_giveRow, Cond.instanceMethod yX1_giveRow, Cond.selects RX1 yX1_giveRow yX1_giveRow, Cond.code yX1_giveRow cX1_giveRow 4 none, Cond.methodLink RX1 40 yX1_hasPeg, Cond.instanceMethod yX1_hasPeg, Cond.selects RX1 yX1_hasPeg yX1_hasPeg, Cond.code yX1_hasPeg cX1_hasPeg 3 (some .boolean), Cond.methodLink RX5 123 yX3_empty, Cond.instanceMethod yX3_empty, Cond.selects RX3 yX3_empty yX3_empty, Cond.code yX3_empty cX3_empty 1 none, Cond.methodLink RX5 126 yX1_allPegs, Cond.instanceMethod yX1_allPegs, Cond.selects RX1 yX1_allPegs yX1_allPegs, Cond.code yX1_allPegs cX1_allPegs 3 (some .int)]
def wsX5_read_r5 : List Cond := [Cond.methodLink RX1 44 yX1_pegsInRow, Cond.instanceMethod yX1_pegsInRow, Cond.selects RX1 yX1_pegsInRow yX1_pegsInRow, Cond.code yX1_pegsInRow cX1_pegsInRow 2 (some .int), Cond.methodLink RX1 35 yJ6_bitCount_0f7a4, Cond.static yJ6_bitCount_0f7a4, Cond.initialized RJ6, Cond.code yJ6_bitCount_0f7a4 cJ6_bitCount_0f7a4 1 (some .int), Cond.constant RJ6 265 (1431655765), Cond.constant RJ6 266 (858993459), Cond.constant RJ6 267 (252645135)]
def wsX5_read : List Cond := .code yX5_read cX5_read 1 (some .int) :: ((wsX5_read_r1 ++ (wsX5_read_r2 ++ (wsX5_read_r3 ++ (wsX5_read_r4 ++ wsX5_read_r5)))) ++ wsX50 ++ wsX00 ++ wsX30 ++ wsX20 ++ wsX10 ++ wsX40)
def wsX5_asNumber : List Cond := .code yX5_asNumber cX5_asNumber 1 (some .int) :: ([])
def wsJ9_floorMod_7cf53 : List Cond := .code yJ9_floorMod_7cf53 cJ9_floorMod_7cf53 3 (some .int) :: ([])
def wsX5_row_r1 : List Cond := [Cond.fieldLink RX5 10 "PegClerks" "clerk" "LPegClerks$Clerk;", Cond.fieldLink RX5 62 "PegClerks$Clerk" "drum" "LPegClerks$Drum;", Cond.fieldLink RX5 66 "PegClerks$Drum" "rows" "[I", Cond.fieldLink RX5 103 "PegClerks$Drum" "at" "I", Cond.methodLink RX5 55 yX5_isRow, Cond.static yX5_isRow, Cond.initialized RX5, Cond.code yX5_isRow cX5_isRow 1 (some .boolean), Cond.methodLink RX5 75 yX1_pegsInRow, Cond.instanceMethod yX1_pegsInRow, Cond.selects RX1 yX1_pegsInRow yX1_pegsInRow, Cond.initialized RX1, Cond.code yX1_pegsInRow cX1_pegsInRow 2 (some .int), Cond.fieldLink RX1 9 "PegClerks$Drum" "rows" "[I", Cond.methodLink RX1 35 yJ6_bitCount_0f7a4, Cond.static yJ6_bitCount_0f7a4, Cond.initialized RJ6, Cond.code yJ6_bitCount_0f7a4 cJ6_bitCount_0f7a4 1 (some .int), Cond.constant RJ6 265 (1431655765), Cond.constant RJ6 266 (858993459), Cond.constant RJ6 267 (252645135), Cond.methodLink RX5 129 yX0_wouldJamAt, Cond.instanceMethod yX0_wouldJamAt, Cond.selects RX0 yX0_wouldJamAt yX0_wouldJamAt]
def wsX5_row_r2 : List Cond := [Cond.initialized RX0, Cond.code yX0_wouldJamAt cX0_wouldJamAt 2 (some .boolean), Cond.fieldLink RX0 18 "PegClerks$Clerk" "drum" "LPegClerks$Drum;", Cond.fieldLink RX0 9 "PegClerks$Clerk" "settings" "[I", Cond.methodLink RX0 74 yX1_pegsInRow, Cond.methodLink RX5 132 yX5_asNumber, Cond.static yX5_asNumber, Cond.code yX5_asNumber cX5_asNumber 1 (some .int), Cond.methodLink RX5 136 yJ9_floorMod_7cf53, Cond.static yJ9_floorMod_7cf53, Cond.initialized RJ9, Cond.code yJ9_floorMod_7cf53 cJ9_floorMod_7cf53 3 (some .int)]
def wsX5_row : List Cond := .code yX5_row cX5_row 3 (some .int) :: ((wsX5_row_r1 ++ wsX5_row_r2) ++ wsX50 ++ wsX00 ++ wsX10)
def wsX5_stamped : List Cond := .code yX5_stamped cX5_stamped 3 (some .int) :: ([.fieldLink RX5 10 "PegClerks" "clerk" "LPegClerks$Clerk;", .fieldLink RX5 62 "PegClerks$Clerk" "drum" "LPegClerks$Drum;", .fieldLink RX5 146 "PegClerks$Drum" "stampings" "[I", .methodLink RX5 55 yX5_isRow, .static yX5_isRow, .initialized RX5, .code yX5_isRow cX5_isRow 1 (some .boolean), .methodLink RX5 59 yX5_isPlace, .static yX5_isPlace, .code yX5_isPlace cX5_isPlace 1 (some .boolean), .methodLink RX5 142 yX1_hasPeg, .instanceMethod yX1_hasPeg, .selects RX1 yX1_hasPeg yX1_hasPeg, .initialized RX1, .code yX1_hasPeg cX1_hasPeg 3 (some .boolean), .fieldLink RX1 9 "PegClerks$Drum" "rows" "[I"] ++ wsX50 ++ wsX00 ++ wsX10)
def wsX5_stamp : List Cond := .code yX5_stamp cX5_stamp 3 (some .int) :: ([.fieldLink RX5 10 "PegClerks" "clerk" "LPegClerks$Clerk;", .fieldLink RX5 83 "PegClerks$Clerk" "stamps" "LPegClerks$Stamps;", .fieldLink RX5 87 "PegClerks$Stamps" "inks" "[I", .fieldLink RX5 149 "PegClerks$Stamps" "marks" "[I", .fieldLink RX5 152 "PegClerks$Stamps" "dryFalls" "[I", .fieldLink RX5 62 "PegClerks$Clerk" "drum" "LPegClerks$Drum;", .fieldLink RX5 158 "PegClerks$Stamps" "spoilings" "[I", .methodLink RX5 59 yX5_isPlace, .static yX5_isPlace, .initialized RX5, .code yX5_isPlace cX5_isPlace 1 (some .boolean), .methodLink RX5 155 yX1_pegsAtPlace, .instanceMethod yX1_pegsAtPlace, .selects RX1 yX1_pegsAtPlace yX1_pegsAtPlace, .initialized RX1, .code yX1_pegsAtPlace cX1_pegsAtPlace 4 (some .int), .methodLink RX1 40 yX1_hasPeg, .instanceMethod yX1_hasPeg, .selects RX1 yX1_hasPeg yX1_hasPeg, .code yX1_hasPeg cX1_hasPeg 3 (some .boolean), .fieldLink RX1 9 "PegClerks$Drum" "rows" "[I"] ++ wsX50 ++ wsX00 ++ wsX40 ++ wsX10)
def wsX5_count_r1 : List Cond := [Cond.fieldLink RX5 10 "PegClerks" "clerk" "LPegClerks$Clerk;", Cond.fieldLink RX5 52 "PegClerks$Clerk" "settings" "[I", Cond.fieldLink RX5 62 "PegClerks$Clerk" "drum" "LPegClerks$Drum;", Cond.fieldLink RX5 103 "PegClerks$Drum" "at" "I", Cond.fieldLink RX5 92 "PegClerks$Clerk" "jammed" "Z", Cond.fieldLink RX5 79 "PegClerks$Clerk" "order" "I", Cond.fieldLink RX5 109 "PegClerks$Clerk" "formStamps" "I", Cond.fieldLink RX5 161 "PegClerks$Clerk" "formSpoiled" "Z", Cond.fieldLink RX5 164 "PegClerks$Clerk" "formSteps" "I", Cond.fieldLink RX5 96 "PegClerks$Clerk" "steps" "I", Cond.fieldLink RX5 167 "PegClerks$Clerk" "rightForms" "I", Cond.fieldLink RX5 170 "PegClerks$Clerk" "wrongForms" "I", Cond.fieldLink RX5 173 "PegClerks$Clerk" "spoiledForms" "I", Cond.fieldLink RX5 176 "PegClerks$Clerk" "jams" "I", Cond.fieldLink RX5 179 "PegClerks$Drum" "fallenOut" "I", Cond.fieldLink RX5 83 "PegClerks$Clerk" "stamps" "LPegClerks$Stamps;", Cond.fieldLink RX5 29 "PegClerks" "pad" "LPegClerks$Pad;", Cond.fieldLink RX5 185 "PegClerks$Pad" "length" "I", Cond.fieldLink RX5 22 "PegClerks" "history" "LPegClerks$History;", Cond.fieldLink RX5 188 "PegClerks$History" "kept" "I", Cond.methodLink RX5 132 yX5_asNumber, Cond.static yX5_asNumber, Cond.initialized RX5, Cond.code yX5_asNumber cX5_asNumber 1 (some .int)]
def wsX5_count_r2 : List Cond := [Cond.methodLink RX5 126 yX1_allPegs, Cond.instanceMethod yX1_allPegs, Cond.selects RX1 yX1_allPegs yX1_allPegs, Cond.initialized RX1, Cond.code yX1_allPegs cX1_allPegs 3 (some .int), Cond.methodLink RX1 44 yX1_pegsInRow, Cond.instanceMethod yX1_pegsInRow, Cond.selects RX1 yX1_pegsInRow yX1_pegsInRow, Cond.code yX1_pegsInRow cX1_pegsInRow 2 (some .int), Cond.fieldLink RX1 9 "PegClerks$Drum" "rows" "[I", Cond.methodLink RX1 35 yJ6_bitCount_0f7a4, Cond.static yJ6_bitCount_0f7a4, Cond.initialized RJ6, Cond.code yJ6_bitCount_0f7a4 cJ6_bitCount_0f7a4 1 (some .int), Cond.constant RJ6 265 (1431655765), Cond.constant RJ6 266 (858993459), Cond.constant RJ6 267 (252645135), Cond.methodLink RX5 182 yX4_allMarks, Cond.instanceMethod yX4_allMarks, Cond.selects RX4 yX4_allMarks yX4_allMarks, Cond.initialized RX4, Cond.code yX4_allMarks cX4_allMarks 3 (some .int), Cond.fieldLink RX4 15 "PegClerks$Stamps" "marks" "[I"]
def wsX5_count : List Cond := .code yX5_count cX5_count 2 (some .int) :: ((wsX5_count_r1 ++ wsX5_count_r2) ++ wsX50 ++ wsX00 ++ wsX10 ++ wsX30 ++ wsX20 ++ wsX40)
def wsX5_untilJam_r1 : List Cond := [Cond.fieldLink RX5 16 "PegClerks" "trial" "LPegClerks$Clerk;", Cond.fieldLink RX5 10 "PegClerks" "clerk" "LPegClerks$Clerk;", Cond.fieldLink RX5 92 "PegClerks$Clerk" "jammed" "Z", Cond.methodLink RX5 191 yX0_copyFrom, Cond.instanceMethod yX0_copyFrom, Cond.selects RX0 yX0_copyFrom yX0_copyFrom, Cond.initialized RX0, Cond.code yX0_copyFrom cX0_copyFrom 2 none, Cond.fieldLink RX0 9 "PegClerks$Clerk" "settings" "[I", Cond.methodLink RX0 29 arraycopyName, Cond.native arraycopyName, Cond.static arraycopyName, Cond.initialized "java/lang/System", Cond.fieldLink RX0 18 "PegClerks$Clerk" "drum" "LPegClerks$Drum;", Cond.fieldLink RX0 25 "PegClerks$Clerk" "stamps" "LPegClerks$Stamps;", Cond.fieldLink RX0 42 "PegClerks$Clerk" "jammed" "Z", Cond.fieldLink RX0 46 "PegClerks$Clerk" "order" "I", Cond.fieldLink RX0 50 "PegClerks$Clerk" "formStamps" "I", Cond.fieldLink RX0 53 "PegClerks$Clerk" "formSpoiled" "Z", Cond.fieldLink RX0 56 "PegClerks$Clerk" "formSteps" "I", Cond.fieldLink RX0 59 "PegClerks$Clerk" "steps" "I", Cond.fieldLink RX0 62 "PegClerks$Clerk" "rightForms" "I", Cond.fieldLink RX0 65 "PegClerks$Clerk" "wrongForms" "I", Cond.fieldLink RX0 68 "PegClerks$Clerk" "spoiledForms" "I"]
def wsX5_untilJam_r2 : List Cond := [Cond.fieldLink RX0 71 "PegClerks$Clerk" "jams" "I", Cond.methodLink RX0 35 yX1_copyFrom, Cond.instanceMethod yX1_copyFrom, Cond.selects RX1 yX1_copyFrom yX1_copyFrom, Cond.initialized RX1, Cond.code yX1_copyFrom cX1_copyFrom 2 none, Cond.fieldLink RX1 9 "PegClerks$Drum" "rows" "[I", Cond.methodLink RX1 18 arraycopyName, Cond.fieldLink RX1 15 "PegClerks$Drum" "stampings" "[I", Cond.fieldLink RX1 24 "PegClerks$Drum" "at" "I", Cond.fieldLink RX1 28 "PegClerks$Drum" "fallenOut" "I", Cond.methodLink RX0 39 yX4_copyFrom, Cond.instanceMethod yX4_copyFrom, Cond.selects RX4 yX4_copyFrom yX4_copyFrom, Cond.initialized RX4, Cond.code yX4_copyFrom cX4_copyFrom 2 none, Cond.fieldLink RX4 9 "PegClerks$Stamps" "inks" "[I", Cond.methodLink RX4 24 arraycopyName, Cond.fieldLink RX4 15 "PegClerks$Stamps" "marks" "[I", Cond.fieldLink RX4 18 "PegClerks$Stamps" "dryFalls" "[I", Cond.fieldLink RX4 21 "PegClerks$Stamps" "spoilings" "[I", Cond.methodLink RX5 100 yX0_makeSteps, Cond.instanceMethod yX0_makeSteps, Cond.selects RX0 yX0_makeSteps yX0_makeSteps]
def wsX5_untilJam_r3 : List Cond := [Cond.code yX0_makeSteps cX0_makeSteps 3 (some .int), Cond.methodLink RX0 78 yX0_makeOneStep, Cond.instanceMethod yX0_makeOneStep, Cond.selects RX0 yX0_makeOneStep yX0_makeOneStep, Cond.code yX0_makeOneStep cX0_makeOneStep 1 (some .boolean), Cond.fieldLink RX0 82 "PegClerks$Drum" "at" "I", Cond.fieldLink RX0 89 "PegClerks$Drum" "rows" "[I", Cond.methodLink RX0 85 yX0_wouldJamAt, Cond.instanceMethod yX0_wouldJamAt, Cond.selects RX0 yX0_wouldJamAt yX0_wouldJamAt, Cond.code yX0_wouldJamAt cX0_wouldJamAt 2 (some .boolean), Cond.methodLink RX0 74 yX1_pegsInRow, Cond.instanceMethod yX1_pegsInRow, Cond.selects RX1 yX1_pegsInRow yX1_pegsInRow, Cond.code yX1_pegsInRow cX1_pegsInRow 2 (some .int), Cond.methodLink RX1 35 yJ6_bitCount_0f7a4, Cond.static yJ6_bitCount_0f7a4, Cond.initialized RJ6, Cond.code yJ6_bitCount_0f7a4 cJ6_bitCount_0f7a4 1 (some .int), Cond.constant RJ6 265 (1431655765), Cond.constant RJ6 266 (858993459), Cond.constant RJ6 267 (252645135), Cond.methodLink RX0 92 yX0_letStampsFall, Cond.instanceMethod yX0_letStampsFall]
def wsX5_untilJam_r4 : List Cond := [Cond.selects RX0 yX0_letStampsFall yX0_letStampsFall, Cond.code yX0_letStampsFall cX0_letStampsFall 3 none, Cond.methodLink RX0 102 yX0_letStampFall, Cond.instanceMethod yX0_letStampFall, Cond.selects RX0 yX0_letStampFall yX0_letStampFall, Cond.code yX0_letStampFall cX0_letStampFall 2 none, Cond.fieldLink RX0 109 "PegClerks$Stamps" "spoilings" "[I", Cond.methodLink RX0 112 yX4_leavesMark, Cond.instanceMethod yX4_leavesMark, Cond.selects RX4 yX4_leavesMark yX4_leavesMark, Cond.code yX4_leavesMark cX4_leavesMark 3 (some .boolean), Cond.methodLink RX0 105 yX1_wearPeg, Cond.instanceMethod yX1_wearPeg, Cond.selects RX1 yX1_wearPeg yX1_wearPeg, Cond.code yX1_wearPeg cX1_wearPeg 5 none, Cond.methodLink RX0 96 yX1_goOn, Cond.instanceMethod yX1_goOn, Cond.selects RX1 yX1_goOn yX1_goOn, Cond.code yX1_goOn cX1_goOn 1 none, Cond.methodLink RX1 31 yX1_rowBehind, Cond.static yX1_rowBehind, Cond.code yX1_rowBehind cX1_rowBehind 1 (some .int), Cond.methodLink RX0 99 yX0_finishForm, Cond.instanceMethod yX0_finishForm]
def wsX5_untilJam_r5 : List Cond := [Cond.selects RX0 yX0_finishForm yX0_finishForm, Cond.code yX0_finishForm cX0_finishForm 1 none, Cond.methodLink RX0 116 yX0_layForm, Cond.instanceMethod yX0_layForm, Cond.selects RX0 yX0_layForm yX0_layForm, Cond.code yX0_layForm cX0_layForm 1 none]
def wsX5_untilJam : List Cond := .code yX5_untilJam cX5_untilJam 2 (some .int) :: ((wsX5_untilJam_r1 ++ (wsX5_untilJam_r2 ++ (wsX5_untilJam_r3 ++ (wsX5_untilJam_r4 ++ wsX5_untilJam_r5)))) ++ wsX50 ++ wsX00 ++ wsX10 ++ wsX40)
def wsX5_ifStepped_r1 : List Cond := [Cond.fieldLink RX5 16 "PegClerks" "trial" "LPegClerks$Clerk;", Cond.fieldLink RX5 10 "PegClerks" "clerk" "LPegClerks$Clerk;", Cond.fieldLink RX5 167 "PegClerks$Clerk" "rightForms" "I", Cond.fieldLink RX5 170 "PegClerks$Clerk" "wrongForms" "I", Cond.fieldLink RX5 173 "PegClerks$Clerk" "spoiledForms" "I", Cond.fieldLink RX5 83 "PegClerks$Clerk" "stamps" "LPegClerks$Stamps;", Cond.methodLink RX5 191 yX0_copyFrom, Cond.instanceMethod yX0_copyFrom, Cond.selects RX0 yX0_copyFrom yX0_copyFrom, Cond.initialized RX0, Cond.code yX0_copyFrom cX0_copyFrom 2 none, Cond.fieldLink RX0 9 "PegClerks$Clerk" "settings" "[I", Cond.methodLink RX0 29 arraycopyName, Cond.native arraycopyName, Cond.static arraycopyName, Cond.initialized "java/lang/System", Cond.fieldLink RX0 18 "PegClerks$Clerk" "drum" "LPegClerks$Drum;", Cond.fieldLink RX0 25 "PegClerks$Clerk" "stamps" "LPegClerks$Stamps;", Cond.fieldLink RX0 42 "PegClerks$Clerk" "jammed" "Z", Cond.fieldLink RX0 46 "PegClerks$Clerk" "order" "I", Cond.fieldLink RX0 50 "PegClerks$Clerk" "formStamps" "I", Cond.fieldLink RX0 53 "PegClerks$Clerk" "formSpoiled" "Z", Cond.fieldLink RX0 56 "PegClerks$Clerk" "formSteps" "I", Cond.fieldLink RX0 59 "PegClerks$Clerk" "steps" "I"]
def wsX5_ifStepped_r2 : List Cond := [Cond.fieldLink RX0 62 "PegClerks$Clerk" "rightForms" "I", Cond.fieldLink RX0 65 "PegClerks$Clerk" "wrongForms" "I", Cond.fieldLink RX0 68 "PegClerks$Clerk" "spoiledForms" "I", Cond.fieldLink RX0 71 "PegClerks$Clerk" "jams" "I", Cond.methodLink RX0 35 yX1_copyFrom, Cond.instanceMethod yX1_copyFrom, Cond.selects RX1 yX1_copyFrom yX1_copyFrom, Cond.initialized RX1, Cond.code yX1_copyFrom cX1_copyFrom 2 none, Cond.fieldLink RX1 9 "PegClerks$Drum" "rows" "[I", Cond.methodLink RX1 18 arraycopyName, Cond.fieldLink RX1 15 "PegClerks$Drum" "stampings" "[I", Cond.fieldLink RX1 24 "PegClerks$Drum" "at" "I", Cond.fieldLink RX1 28 "PegClerks$Drum" "fallenOut" "I", Cond.methodLink RX0 39 yX4_copyFrom, Cond.instanceMethod yX4_copyFrom, Cond.selects RX4 yX4_copyFrom yX4_copyFrom, Cond.initialized RX4, Cond.code yX4_copyFrom cX4_copyFrom 2 none, Cond.fieldLink RX4 9 "PegClerks$Stamps" "inks" "[I", Cond.methodLink RX4 24 arraycopyName, Cond.fieldLink RX4 15 "PegClerks$Stamps" "marks" "[I", Cond.fieldLink RX4 18 "PegClerks$Stamps" "dryFalls" "[I", Cond.fieldLink RX4 21 "PegClerks$Stamps" "spoilings" "[I"]
def wsX5_ifStepped_r3 : List Cond := [Cond.methodLink RX5 100 yX0_makeSteps, Cond.instanceMethod yX0_makeSteps, Cond.selects RX0 yX0_makeSteps yX0_makeSteps, Cond.code yX0_makeSteps cX0_makeSteps 3 (some .int), Cond.methodLink RX0 78 yX0_makeOneStep, Cond.instanceMethod yX0_makeOneStep, Cond.selects RX0 yX0_makeOneStep yX0_makeOneStep, Cond.code yX0_makeOneStep cX0_makeOneStep 1 (some .boolean), Cond.fieldLink RX0 82 "PegClerks$Drum" "at" "I", Cond.fieldLink RX0 89 "PegClerks$Drum" "rows" "[I", Cond.methodLink RX0 85 yX0_wouldJamAt, Cond.instanceMethod yX0_wouldJamAt, Cond.selects RX0 yX0_wouldJamAt yX0_wouldJamAt, Cond.code yX0_wouldJamAt cX0_wouldJamAt 2 (some .boolean), Cond.methodLink RX0 74 yX1_pegsInRow, Cond.instanceMethod yX1_pegsInRow, Cond.selects RX1 yX1_pegsInRow yX1_pegsInRow, Cond.code yX1_pegsInRow cX1_pegsInRow 2 (some .int), Cond.methodLink RX1 35 yJ6_bitCount_0f7a4, Cond.static yJ6_bitCount_0f7a4, Cond.initialized RJ6, Cond.code yJ6_bitCount_0f7a4 cJ6_bitCount_0f7a4 1 (some .int), Cond.constant RJ6 265 (1431655765), Cond.constant RJ6 266 (858993459)]
def wsX5_ifStepped_r4 : List Cond := [Cond.constant RJ6 267 (252645135), Cond.methodLink RX0 92 yX0_letStampsFall, Cond.instanceMethod yX0_letStampsFall, Cond.selects RX0 yX0_letStampsFall yX0_letStampsFall, Cond.code yX0_letStampsFall cX0_letStampsFall 3 none, Cond.methodLink RX0 102 yX0_letStampFall, Cond.instanceMethod yX0_letStampFall, Cond.selects RX0 yX0_letStampFall yX0_letStampFall, Cond.code yX0_letStampFall cX0_letStampFall 2 none, Cond.fieldLink RX0 109 "PegClerks$Stamps" "spoilings" "[I", Cond.methodLink RX0 112 yX4_leavesMark, Cond.instanceMethod yX4_leavesMark, Cond.selects RX4 yX4_leavesMark yX4_leavesMark, Cond.code yX4_leavesMark cX4_leavesMark 3 (some .boolean), Cond.methodLink RX0 105 yX1_wearPeg, Cond.instanceMethod yX1_wearPeg, Cond.selects RX1 yX1_wearPeg yX1_wearPeg, Cond.code yX1_wearPeg cX1_wearPeg 5 none, Cond.methodLink RX0 96 yX1_goOn, Cond.instanceMethod yX1_goOn, Cond.selects RX1 yX1_goOn yX1_goOn, Cond.code yX1_goOn cX1_goOn 1 none, Cond.methodLink RX1 31 yX1_rowBehind, Cond.static yX1_rowBehind]
def wsX5_ifStepped_r5 : List Cond := [Cond.code yX1_rowBehind cX1_rowBehind 1 (some .int), Cond.methodLink RX0 99 yX0_finishForm, Cond.instanceMethod yX0_finishForm, Cond.selects RX0 yX0_finishForm yX0_finishForm, Cond.code yX0_finishForm cX0_finishForm 1 none, Cond.methodLink RX0 116 yX0_layForm, Cond.instanceMethod yX0_layForm, Cond.selects RX0 yX0_layForm yX0_layForm, Cond.code yX0_layForm cX0_layForm 1 none, Cond.methodLink RX5 182 yX4_allMarks, Cond.instanceMethod yX4_allMarks, Cond.selects RX4 yX4_allMarks yX4_allMarks, Cond.code yX4_allMarks cX4_allMarks 3 (some .int)]
def wsX5_ifStepped : List Cond := .code yX5_ifStepped cX5_ifStepped 4 (some .int) :: ((wsX5_ifStepped_r1 ++ (wsX5_ifStepped_r2 ++ (wsX5_ifStepped_r3 ++ (wsX5_ifStepped_r4 ++ wsX5_ifStepped_r5)))) ++ wsX50 ++ wsX00 ++ wsX10 ++ wsX40)
def wsX5_rightWithRow_r1 : List Cond := [Cond.fieldLink RX5 16 "PegClerks" "trial" "LPegClerks$Clerk;", Cond.fieldLink RX5 10 "PegClerks" "clerk" "LPegClerks$Clerk;", Cond.fieldLink RX5 62 "PegClerks$Clerk" "drum" "LPegClerks$Drum;", Cond.fieldLink RX5 167 "PegClerks$Clerk" "rightForms" "I", Cond.methodLink RX5 191 yX0_copyFrom, Cond.instanceMethod yX0_copyFrom, Cond.selects RX0 yX0_copyFrom yX0_copyFrom, Cond.initialized RX0, Cond.code yX0_copyFrom cX0_copyFrom 2 none, Cond.fieldLink RX0 9 "PegClerks$Clerk" "settings" "[I", Cond.methodLink RX0 29 arraycopyName, Cond.native arraycopyName, Cond.static arraycopyName, Cond.initialized "java/lang/System", Cond.fieldLink RX0 18 "PegClerks$Clerk" "drum" "LPegClerks$Drum;", Cond.fieldLink RX0 25 "PegClerks$Clerk" "stamps" "LPegClerks$Stamps;", Cond.fieldLink RX0 42 "PegClerks$Clerk" "jammed" "Z", Cond.fieldLink RX0 46 "PegClerks$Clerk" "order" "I", Cond.fieldLink RX0 50 "PegClerks$Clerk" "formStamps" "I", Cond.fieldLink RX0 53 "PegClerks$Clerk" "formSpoiled" "Z", Cond.fieldLink RX0 56 "PegClerks$Clerk" "formSteps" "I", Cond.fieldLink RX0 59 "PegClerks$Clerk" "steps" "I", Cond.fieldLink RX0 62 "PegClerks$Clerk" "rightForms" "I", Cond.fieldLink RX0 65 "PegClerks$Clerk" "wrongForms" "I"]
def wsX5_rightWithRow_r2 : List Cond := [Cond.fieldLink RX0 68 "PegClerks$Clerk" "spoiledForms" "I", Cond.fieldLink RX0 71 "PegClerks$Clerk" "jams" "I", Cond.methodLink RX0 35 yX1_copyFrom, Cond.instanceMethod yX1_copyFrom, Cond.selects RX1 yX1_copyFrom yX1_copyFrom, Cond.initialized RX1, Cond.code yX1_copyFrom cX1_copyFrom 2 none, Cond.fieldLink RX1 9 "PegClerks$Drum" "rows" "[I", Cond.methodLink RX1 18 arraycopyName, Cond.fieldLink RX1 15 "PegClerks$Drum" "stampings" "[I", Cond.fieldLink RX1 24 "PegClerks$Drum" "at" "I", Cond.fieldLink RX1 28 "PegClerks$Drum" "fallenOut" "I", Cond.methodLink RX0 39 yX4_copyFrom, Cond.instanceMethod yX4_copyFrom, Cond.selects RX4 yX4_copyFrom yX4_copyFrom, Cond.initialized RX4, Cond.code yX4_copyFrom cX4_copyFrom 2 none, Cond.fieldLink RX4 9 "PegClerks$Stamps" "inks" "[I", Cond.methodLink RX4 24 arraycopyName, Cond.fieldLink RX4 15 "PegClerks$Stamps" "marks" "[I", Cond.fieldLink RX4 18 "PegClerks$Stamps" "dryFalls" "[I", Cond.fieldLink RX4 21 "PegClerks$Stamps" "spoilings" "[I", Cond.methodLink RX5 71 yX1_giveRow, Cond.instanceMethod yX1_giveRow]
def wsX5_rightWithRow_r3 : List Cond := [Cond.selects RX1 yX1_giveRow yX1_giveRow, Cond.code yX1_giveRow cX1_giveRow 4 none, Cond.methodLink RX1 40 yX1_hasPeg, Cond.instanceMethod yX1_hasPeg, Cond.selects RX1 yX1_hasPeg yX1_hasPeg, Cond.code yX1_hasPeg cX1_hasPeg 3 (some .boolean), Cond.methodLink RX5 100 yX0_makeSteps, Cond.instanceMethod yX0_makeSteps, Cond.selects RX0 yX0_makeSteps yX0_makeSteps, Cond.code yX0_makeSteps cX0_makeSteps 3 (some .int), Cond.methodLink RX0 78 yX0_makeOneStep, Cond.instanceMethod yX0_makeOneStep, Cond.selects RX0 yX0_makeOneStep yX0_makeOneStep, Cond.code yX0_makeOneStep cX0_makeOneStep 1 (some .boolean), Cond.fieldLink RX0 82 "PegClerks$Drum" "at" "I", Cond.fieldLink RX0 89 "PegClerks$Drum" "rows" "[I", Cond.methodLink RX0 85 yX0_wouldJamAt, Cond.instanceMethod yX0_wouldJamAt, Cond.selects RX0 yX0_wouldJamAt yX0_wouldJamAt, Cond.code yX0_wouldJamAt cX0_wouldJamAt 2 (some .boolean), Cond.methodLink RX0 74 yX1_pegsInRow, Cond.instanceMethod yX1_pegsInRow, Cond.selects RX1 yX1_pegsInRow yX1_pegsInRow, Cond.code yX1_pegsInRow cX1_pegsInRow 2 (some .int)]
def wsX5_rightWithRow_r4 : List Cond := [Cond.methodLink RX1 35 yJ6_bitCount_0f7a4, Cond.static yJ6_bitCount_0f7a4, Cond.initialized RJ6, Cond.code yJ6_bitCount_0f7a4 cJ6_bitCount_0f7a4 1 (some .int), Cond.constant RJ6 265 (1431655765), Cond.constant RJ6 266 (858993459), Cond.constant RJ6 267 (252645135), Cond.methodLink RX0 92 yX0_letStampsFall, Cond.instanceMethod yX0_letStampsFall, Cond.selects RX0 yX0_letStampsFall yX0_letStampsFall, Cond.code yX0_letStampsFall cX0_letStampsFall 3 none, Cond.methodLink RX0 102 yX0_letStampFall, Cond.instanceMethod yX0_letStampFall, Cond.selects RX0 yX0_letStampFall yX0_letStampFall, Cond.code yX0_letStampFall cX0_letStampFall 2 none, Cond.fieldLink RX0 109 "PegClerks$Stamps" "spoilings" "[I", Cond.methodLink RX0 112 yX4_leavesMark, Cond.instanceMethod yX4_leavesMark, Cond.selects RX4 yX4_leavesMark yX4_leavesMark, Cond.code yX4_leavesMark cX4_leavesMark 3 (some .boolean), Cond.methodLink RX0 105 yX1_wearPeg, Cond.instanceMethod yX1_wearPeg, Cond.selects RX1 yX1_wearPeg yX1_wearPeg, Cond.code yX1_wearPeg cX1_wearPeg 5 none]
def wsX5_rightWithRow_r5 : List Cond := [Cond.methodLink RX0 96 yX1_goOn, Cond.instanceMethod yX1_goOn, Cond.selects RX1 yX1_goOn yX1_goOn, Cond.code yX1_goOn cX1_goOn 1 none, Cond.methodLink RX1 31 yX1_rowBehind, Cond.static yX1_rowBehind, Cond.code yX1_rowBehind cX1_rowBehind 1 (some .int), Cond.methodLink RX0 99 yX0_finishForm, Cond.instanceMethod yX0_finishForm, Cond.selects RX0 yX0_finishForm yX0_finishForm, Cond.code yX0_finishForm cX0_finishForm 1 none, Cond.methodLink RX0 116 yX0_layForm, Cond.instanceMethod yX0_layForm, Cond.selects RX0 yX0_layForm yX0_layForm, Cond.code yX0_layForm cX0_layForm 1 none]
def wsX5_rightWithRow : List Cond := .code yX5_rightWithRow cX5_rightWithRow 3 (some .int) :: ((wsX5_rightWithRow_r1 ++ (wsX5_rightWithRow_r2 ++ (wsX5_rightWithRow_r3 ++ (wsX5_rightWithRow_r4 ++ wsX5_rightWithRow_r5)))) ++ wsX50 ++ wsX00 ++ wsX10 ++ wsX40)
def wsX5_bestOut_r1 : List Cond := [Cond.fieldLink RX5 10 "PegClerks" "clerk" "LPegClerks$Clerk;", Cond.fieldLink RX5 62 "PegClerks$Clerk" "drum" "LPegClerks$Drum;", Cond.fieldLink RX5 66 "PegClerks$Drum" "rows" "[I", Cond.methodLink RX5 194 yX5_ifStepped, Cond.instanceMethod yX5_ifStepped, Cond.selects RX5 yX5_ifStepped yX5_ifStepped, Cond.initialized RX5, Cond.code yX5_ifStepped cX5_ifStepped 4 (some .int), Cond.fieldLink RX5 16 "PegClerks" "trial" "LPegClerks$Clerk;", Cond.fieldLink RX5 167 "PegClerks$Clerk" "rightForms" "I", Cond.fieldLink RX5 170 "PegClerks$Clerk" "wrongForms" "I", Cond.fieldLink RX5 173 "PegClerks$Clerk" "spoiledForms" "I", Cond.fieldLink RX5 83 "PegClerks$Clerk" "stamps" "LPegClerks$Stamps;", Cond.methodLink RX5 191 yX0_copyFrom, Cond.instanceMethod yX0_copyFrom, Cond.selects RX0 yX0_copyFrom yX0_copyFrom, Cond.initialized RX0, Cond.code yX0_copyFrom cX0_copyFrom 2 none, Cond.fieldLink RX0 9 "PegClerks$Clerk" "settings" "[I", Cond.methodLink RX0 29 arraycopyName, Cond.native arraycopyName, Cond.static arraycopyName, Cond.initialized "java/lang/System", Cond.fieldLink RX0 18 "PegClerks$Clerk" "drum" "LPegClerks$Drum;"]
def wsX5_bestOut_r2 : List Cond := [Cond.fieldLink RX0 25 "PegClerks$Clerk" "stamps" "LPegClerks$Stamps;", Cond.fieldLink RX0 42 "PegClerks$Clerk" "jammed" "Z", Cond.fieldLink RX0 46 "PegClerks$Clerk" "order" "I", Cond.fieldLink RX0 50 "PegClerks$Clerk" "formStamps" "I", Cond.fieldLink RX0 53 "PegClerks$Clerk" "formSpoiled" "Z", Cond.fieldLink RX0 56 "PegClerks$Clerk" "formSteps" "I", Cond.fieldLink RX0 59 "PegClerks$Clerk" "steps" "I", Cond.fieldLink RX0 62 "PegClerks$Clerk" "rightForms" "I", Cond.fieldLink RX0 65 "PegClerks$Clerk" "wrongForms" "I", Cond.fieldLink RX0 68 "PegClerks$Clerk" "spoiledForms" "I", Cond.fieldLink RX0 71 "PegClerks$Clerk" "jams" "I", Cond.methodLink RX0 35 yX1_copyFrom, Cond.instanceMethod yX1_copyFrom, Cond.selects RX1 yX1_copyFrom yX1_copyFrom, Cond.initialized RX1, Cond.code yX1_copyFrom cX1_copyFrom 2 none, Cond.fieldLink RX1 9 "PegClerks$Drum" "rows" "[I", Cond.methodLink RX1 18 arraycopyName, Cond.fieldLink RX1 15 "PegClerks$Drum" "stampings" "[I", Cond.fieldLink RX1 24 "PegClerks$Drum" "at" "I", Cond.fieldLink RX1 28 "PegClerks$Drum" "fallenOut" "I", Cond.methodLink RX0 39 yX4_copyFrom, Cond.instanceMethod yX4_copyFrom, Cond.selects RX4 yX4_copyFrom yX4_copyFrom]
def wsX5_bestOut_r3 : List Cond := [Cond.initialized RX4, Cond.code yX4_copyFrom cX4_copyFrom 2 none, Cond.fieldLink RX4 9 "PegClerks$Stamps" "inks" "[I", Cond.methodLink RX4 24 arraycopyName, Cond.fieldLink RX4 15 "PegClerks$Stamps" "marks" "[I", Cond.fieldLink RX4 18 "PegClerks$Stamps" "dryFalls" "[I", Cond.fieldLink RX4 21 "PegClerks$Stamps" "spoilings" "[I", Cond.methodLink RX5 100 yX0_makeSteps, Cond.instanceMethod yX0_makeSteps, Cond.selects RX0 yX0_makeSteps yX0_makeSteps, Cond.code yX0_makeSteps cX0_makeSteps 3 (some .int), Cond.methodLink RX0 78 yX0_makeOneStep, Cond.instanceMethod yX0_makeOneStep, Cond.selects RX0 yX0_makeOneStep yX0_makeOneStep, Cond.code yX0_makeOneStep cX0_makeOneStep 1 (some .boolean), Cond.fieldLink RX0 82 "PegClerks$Drum" "at" "I", Cond.fieldLink RX0 89 "PegClerks$Drum" "rows" "[I", Cond.methodLink RX0 85 yX0_wouldJamAt, Cond.instanceMethod yX0_wouldJamAt, Cond.selects RX0 yX0_wouldJamAt yX0_wouldJamAt, Cond.code yX0_wouldJamAt cX0_wouldJamAt 2 (some .boolean), Cond.methodLink RX0 74 yX1_pegsInRow, Cond.instanceMethod yX1_pegsInRow, Cond.selects RX1 yX1_pegsInRow yX1_pegsInRow]
def wsX5_bestOut_r4 : List Cond := [Cond.code yX1_pegsInRow cX1_pegsInRow 2 (some .int), Cond.methodLink RX1 35 yJ6_bitCount_0f7a4, Cond.static yJ6_bitCount_0f7a4, Cond.initialized RJ6, Cond.code yJ6_bitCount_0f7a4 cJ6_bitCount_0f7a4 1 (some .int), Cond.constant RJ6 265 (1431655765), Cond.constant RJ6 266 (858993459), Cond.constant RJ6 267 (252645135), Cond.methodLink RX0 92 yX0_letStampsFall, Cond.instanceMethod yX0_letStampsFall, Cond.selects RX0 yX0_letStampsFall yX0_letStampsFall, Cond.code yX0_letStampsFall cX0_letStampsFall 3 none, Cond.methodLink RX0 102 yX0_letStampFall, Cond.instanceMethod yX0_letStampFall, Cond.selects RX0 yX0_letStampFall yX0_letStampFall, Cond.code yX0_letStampFall cX0_letStampFall 2 none, Cond.fieldLink RX0 109 "PegClerks$Stamps" "spoilings" "[I", Cond.methodLink RX0 112 yX4_leavesMark, Cond.instanceMethod yX4_leavesMark, Cond.selects RX4 yX4_leavesMark yX4_leavesMark, Cond.code yX4_leavesMark cX4_leavesMark 3 (some .boolean), Cond.methodLink RX0 105 yX1_wearPeg, Cond.instanceMethod yX1_wearPeg, Cond.selects RX1 yX1_wearPeg yX1_wearPeg]
def wsX5_bestOut_r5 : List Cond := [Cond.code yX1_wearPeg cX1_wearPeg 5 none, Cond.methodLink RX0 96 yX1_goOn, Cond.instanceMethod yX1_goOn, Cond.selects RX1 yX1_goOn yX1_goOn, Cond.code yX1_goOn cX1_goOn 1 none, Cond.methodLink RX1 31 yX1_rowBehind, Cond.static yX1_rowBehind, Cond.code yX1_rowBehind cX1_rowBehind 1 (some .int), Cond.methodLink RX0 99 yX0_finishForm, Cond.instanceMethod yX0_finishForm, Cond.selects RX0 yX0_finishForm yX0_finishForm, Cond.code yX0_finishForm cX0_finishForm 1 none, Cond.methodLink RX0 116 yX0_layForm, Cond.instanceMethod yX0_layForm, Cond.selects RX0 yX0_layForm yX0_layForm, Cond.code yX0_layForm cX0_layForm 1 none, Cond.methodLink RX5 182 yX4_allMarks, Cond.instanceMethod yX4_allMarks, Cond.selects RX4 yX4_allMarks yX4_allMarks, Cond.code yX4_allMarks cX4_allMarks 3 (some .int), Cond.methodLink RX5 142 yX1_hasPeg, Cond.instanceMethod yX1_hasPeg, Cond.selects RX1 yX1_hasPeg yX1_hasPeg, Cond.code yX1_hasPeg cX1_hasPeg 3 (some .boolean)]
def wsX5_bestOut_r6 : List Cond := [Cond.methodLink RX5 197 yX5_rightWithRow, Cond.instanceMethod yX5_rightWithRow, Cond.selects RX5 yX5_rightWithRow yX5_rightWithRow, Cond.code yX5_rightWithRow cX5_rightWithRow 3 (some .int), Cond.methodLink RX5 71 yX1_giveRow, Cond.instanceMethod yX1_giveRow, Cond.selects RX1 yX1_giveRow yX1_giveRow, Cond.code yX1_giveRow cX1_giveRow 4 none, Cond.methodLink RX1 40 yX1_hasPeg]
def wsX5_bestOut : List Cond := .code yX5_bestOut cX5_bestOut 6 (some .int) :: ((wsX5_bestOut_r1 ++ (wsX5_bestOut_r2 ++ (wsX5_bestOut_r3 ++ (wsX5_bestOut_r4 ++ (wsX5_bestOut_r5 ++ wsX5_bestOut_r6))))) ++ wsX50 ++ wsX00 ++ wsX10 ++ wsX40)
def wsX5_nextStampsByStep : List Cond := .code yX5_nextStampsByStep cX5_nextStampsByStep 5 (some .int) :: ([.fieldLink RX5 10 "PegClerks" "clerk" "LPegClerks$Clerk;", .fieldLink RX5 62 "PegClerks$Clerk" "drum" "LPegClerks$Drum;", .fieldLink RX5 103 "PegClerks$Drum" "at" "I", .fieldLink RX5 52 "PegClerks$Clerk" "settings" "[I", .methodLink RX5 142 yX1_hasPeg, .instanceMethod yX1_hasPeg, .selects RX1 yX1_hasPeg yX1_hasPeg, .initialized RX1, .code yX1_hasPeg cX1_hasPeg 3 (some .boolean), .fieldLink RX1 9 "PegClerks$Drum" "rows" "[I", .methodLink RX5 217 yX1_rowBehind, .static yX1_rowBehind, .code yX1_rowBehind cX1_rowBehind 1 (some .int)] ++ wsX50 ++ wsX00 ++ wsX10)
def wsX5_nextStampsByPegs : List Cond := .code yX5_nextStampsByPegs cX5_nextStampsByPegs 3 (some .int) :: ([.fieldLink RX5 10 "PegClerks" "clerk" "LPegClerks$Clerk;", .fieldLink RX5 52 "PegClerks$Clerk" "settings" "[I", .fieldLink RX5 62 "PegClerks$Clerk" "drum" "LPegClerks$Drum;", .fieldLink RX5 66 "PegClerks$Drum" "rows" "[I", .fieldLink RX5 103 "PegClerks$Drum" "at" "I", .methodLink RX5 136 yJ9_floorMod_7cf53, .static yJ9_floorMod_7cf53, .initialized RJ9, .code yJ9_floorMod_7cf53 cJ9_floorMod_7cf53 3 (some .int)] ++ wsX50 ++ wsX00 ++ wsX10)
def wsX5_nextStamps_r1 : List Cond := [Cond.methodLink RX5 200 yX5_nextStampsByStep, Cond.instanceMethod yX5_nextStampsByStep, Cond.selects RX5 yX5_nextStampsByStep yX5_nextStampsByStep, Cond.initialized RX5, Cond.code yX5_nextStampsByStep cX5_nextStampsByStep 5 (some .int), Cond.fieldLink RX5 10 "PegClerks" "clerk" "LPegClerks$Clerk;", Cond.fieldLink RX5 62 "PegClerks$Clerk" "drum" "LPegClerks$Drum;", Cond.fieldLink RX5 103 "PegClerks$Drum" "at" "I", Cond.fieldLink RX5 52 "PegClerks$Clerk" "settings" "[I", Cond.methodLink RX5 142 yX1_hasPeg, Cond.instanceMethod yX1_hasPeg, Cond.selects RX1 yX1_hasPeg yX1_hasPeg, Cond.initialized RX1, Cond.code yX1_hasPeg cX1_hasPeg 3 (some .boolean), Cond.fieldLink RX1 9 "PegClerks$Drum" "rows" "[I", Cond.methodLink RX5 217 yX1_rowBehind, Cond.static yX1_rowBehind, Cond.code yX1_rowBehind cX1_rowBehind 1 (some .int), Cond.methodLink RX5 203 yX5_nextStampsByPegs, Cond.instanceMethod yX5_nextStampsByPegs, Cond.selects RX5 yX5_nextStampsByPegs yX5_nextStampsByPegs, Cond.code yX5_nextStampsByPegs cX5_nextStampsByPegs 3 (some .int), Cond.fieldLink RX5 66 "PegClerks$Drum" "rows" "[I", Cond.methodLink RX5 136 yJ9_floorMod_7cf53]
def wsX5_nextStamps_r2 : List Cond := [Cond.static yJ9_floorMod_7cf53, Cond.initialized RJ9, Cond.code yJ9_floorMod_7cf53 cJ9_floorMod_7cf53 3 (some .int)]
def wsX5_nextStamps : List Cond := .code yX5_nextStamps cX5_nextStamps 2 (some .int) :: ((wsX5_nextStamps_r1 ++ wsX5_nextStamps_r2) ++ wsX50 ++ wsX00 ++ wsX10)
def wsX5_put : List Cond := .code yX5_put cX5_put 4 (some .int) :: ([.fieldLink RX5 29 "PegClerks" "pad" "LPegClerks$Pad;", .fieldLink RX5 185 "PegClerks$Pad" "length" "I", .methodLink RX5 206 yX3_charactersIn, .static yX3_charactersIn, .initialized RX3, .code yX3_charactersIn cX3_charactersIn 6 (some .int), .constantLong RX3 15 (255), .methodLink RX5 210 yX3_append, .instanceMethod yX3_append, .selects RX3 yX3_append yX3_append, .code yX3_append cX3_append 5 none, .fieldLink RX3 11 "PegClerks$Pad" "signs" "[C", .fieldLink RX3 17 "PegClerks$Pad" "length" "I"] ++ wsX50 ++ wsX30)
def wsX5_wipe : List Cond := .code yX5_wipe cX5_wipe 2 (some .int) :: ([.fieldLink RX5 29 "PegClerks" "pad" "LPegClerks$Pad;", .fieldLink RX5 185 "PegClerks$Pad" "length" "I", .methodLink RX5 123 yX3_empty, .instanceMethod yX3_empty, .selects RX3 yX3_empty yX3_empty, .initialized RX3, .code yX3_empty cX3_empty 1 none, .fieldLink RX3 17 "PegClerks$Pad" "length" "I"] ++ wsX50 ++ wsX30)
def wsX5_save_r1 : List Cond := [Cond.fieldLink RX5 33 "PegClerks" "slots" "[LPegClerks$Clerk;", Cond.fieldLink RX5 10 "PegClerks" "clerk" "LPegClerks$Clerk;", Cond.fieldLink RX5 37 "PegClerks" "saved" "[Z", Cond.fieldLink RX5 62 "PegClerks$Clerk" "drum" "LPegClerks$Drum;", Cond.methodLink RX5 191 yX0_copyFrom, Cond.instanceMethod yX0_copyFrom, Cond.selects RX0 yX0_copyFrom yX0_copyFrom, Cond.initialized RX0, Cond.code yX0_copyFrom cX0_copyFrom 2 none, Cond.fieldLink RX0 9 "PegClerks$Clerk" "settings" "[I", Cond.methodLink RX0 29 arraycopyName, Cond.native arraycopyName, Cond.static arraycopyName, Cond.initialized "java/lang/System", Cond.fieldLink RX0 18 "PegClerks$Clerk" "drum" "LPegClerks$Drum;", Cond.fieldLink RX0 25 "PegClerks$Clerk" "stamps" "LPegClerks$Stamps;", Cond.fieldLink RX0 42 "PegClerks$Clerk" "jammed" "Z", Cond.fieldLink RX0 46 "PegClerks$Clerk" "order" "I", Cond.fieldLink RX0 50 "PegClerks$Clerk" "formStamps" "I", Cond.fieldLink RX0 53 "PegClerks$Clerk" "formSpoiled" "Z", Cond.fieldLink RX0 56 "PegClerks$Clerk" "formSteps" "I", Cond.fieldLink RX0 59 "PegClerks$Clerk" "steps" "I", Cond.fieldLink RX0 62 "PegClerks$Clerk" "rightForms" "I", Cond.fieldLink RX0 65 "PegClerks$Clerk" "wrongForms" "I"]
def wsX5_save_r2 : List Cond := [Cond.fieldLink RX0 68 "PegClerks$Clerk" "spoiledForms" "I", Cond.fieldLink RX0 71 "PegClerks$Clerk" "jams" "I", Cond.methodLink RX0 35 yX1_copyFrom, Cond.instanceMethod yX1_copyFrom, Cond.selects RX1 yX1_copyFrom yX1_copyFrom, Cond.initialized RX1, Cond.code yX1_copyFrom cX1_copyFrom 2 none, Cond.fieldLink RX1 9 "PegClerks$Drum" "rows" "[I", Cond.methodLink RX1 18 arraycopyName, Cond.fieldLink RX1 15 "PegClerks$Drum" "stampings" "[I", Cond.fieldLink RX1 24 "PegClerks$Drum" "at" "I", Cond.fieldLink RX1 28 "PegClerks$Drum" "fallenOut" "I", Cond.methodLink RX0 39 yX4_copyFrom, Cond.instanceMethod yX4_copyFrom, Cond.selects RX4 yX4_copyFrom yX4_copyFrom, Cond.initialized RX4, Cond.code yX4_copyFrom cX4_copyFrom 2 none, Cond.fieldLink RX4 9 "PegClerks$Stamps" "inks" "[I", Cond.methodLink RX4 24 arraycopyName, Cond.fieldLink RX4 15 "PegClerks$Stamps" "marks" "[I", Cond.fieldLink RX4 18 "PegClerks$Stamps" "dryFalls" "[I", Cond.fieldLink RX4 21 "PegClerks$Stamps" "spoilings" "[I", Cond.methodLink RX5 126 yX1_allPegs, Cond.instanceMethod yX1_allPegs]
def wsX5_save_r3 : List Cond := [Cond.selects RX1 yX1_allPegs yX1_allPegs, Cond.code yX1_allPegs cX1_allPegs 3 (some .int), Cond.methodLink RX1 44 yX1_pegsInRow, Cond.instanceMethod yX1_pegsInRow, Cond.selects RX1 yX1_pegsInRow yX1_pegsInRow, Cond.code yX1_pegsInRow cX1_pegsInRow 2 (some .int), Cond.methodLink RX1 35 yJ6_bitCount_0f7a4, Cond.static yJ6_bitCount_0f7a4, Cond.initialized RJ6, Cond.code yJ6_bitCount_0f7a4 cJ6_bitCount_0f7a4 1 (some .int), Cond.constant RJ6 265 (1431655765), Cond.constant RJ6 266 (858993459), Cond.constant RJ6 267 (252645135)]
def wsX5_save : List Cond := .code yX5_save cX5_save 2 (some .int) :: ((wsX5_save_r1 ++ (wsX5_save_r2 ++ wsX5_save_r3)) ++ wsX50 ++ wsX00 ++ wsX10 ++ wsX40)
def wsX5_restore_r1 : List Cond := [Cond.fieldLink RX5 37 "PegClerks" "saved" "[Z", Cond.fieldLink RX5 22 "PegClerks" "history" "LPegClerks$History;", Cond.fieldLink RX5 10 "PegClerks" "clerk" "LPegClerks$Clerk;", Cond.fieldLink RX5 33 "PegClerks" "slots" "[LPegClerks$Clerk;", Cond.fieldLink RX5 62 "PegClerks$Clerk" "drum" "LPegClerks$Drum;", Cond.methodLink RX5 48 yX2_keep, Cond.instanceMethod yX2_keep, Cond.selects RX2 yX2_keep yX2_keep, Cond.initialized RX2, Cond.code yX2_keep cX2_keep 2 none, Cond.fieldLink RX2 10 "PegClerks$History" "states" "[LPegClerks$Clerk;", Cond.fieldLink RX2 16 "PegClerks$History" "next" "I", Cond.fieldLink RX2 24 "PegClerks$History" "kept" "I", Cond.methodLink RX2 27 Lib.Math.min.name, Cond.static Lib.Math.min.name, Cond.initialized "java/lang/Math", Cond.code Lib.Math.min.name Lib.Math.min.code 2 (some .int), Cond.methodLink RX2 20 yX0_copyFrom, Cond.instanceMethod yX0_copyFrom, Cond.selects RX0 yX0_copyFrom yX0_copyFrom, Cond.initialized RX0, Cond.code yX0_copyFrom cX0_copyFrom 2 none, Cond.fieldLink RX0 9 "PegClerks$Clerk" "settings" "[I", Cond.methodLink RX0 29 arraycopyName]
def wsX5_restore_r2 : List Cond := [Cond.native arraycopyName, Cond.static arraycopyName, Cond.initialized "java/lang/System", Cond.fieldLink RX0 18 "PegClerks$Clerk" "drum" "LPegClerks$Drum;", Cond.fieldLink RX0 25 "PegClerks$Clerk" "stamps" "LPegClerks$Stamps;", Cond.fieldLink RX0 42 "PegClerks$Clerk" "jammed" "Z", Cond.fieldLink RX0 46 "PegClerks$Clerk" "order" "I", Cond.fieldLink RX0 50 "PegClerks$Clerk" "formStamps" "I", Cond.fieldLink RX0 53 "PegClerks$Clerk" "formSpoiled" "Z", Cond.fieldLink RX0 56 "PegClerks$Clerk" "formSteps" "I", Cond.fieldLink RX0 59 "PegClerks$Clerk" "steps" "I", Cond.fieldLink RX0 62 "PegClerks$Clerk" "rightForms" "I", Cond.fieldLink RX0 65 "PegClerks$Clerk" "wrongForms" "I", Cond.fieldLink RX0 68 "PegClerks$Clerk" "spoiledForms" "I", Cond.fieldLink RX0 71 "PegClerks$Clerk" "jams" "I", Cond.methodLink RX0 35 yX1_copyFrom, Cond.instanceMethod yX1_copyFrom, Cond.selects RX1 yX1_copyFrom yX1_copyFrom, Cond.initialized RX1, Cond.code yX1_copyFrom cX1_copyFrom 2 none, Cond.fieldLink RX1 9 "PegClerks$Drum" "rows" "[I", Cond.methodLink RX1 18 arraycopyName, Cond.fieldLink RX1 15 "PegClerks$Drum" "stampings" "[I", Cond.fieldLink RX1 24 "PegClerks$Drum" "at" "I"]
def wsX5_restore_r3 : List Cond := [Cond.fieldLink RX1 28 "PegClerks$Drum" "fallenOut" "I", Cond.methodLink RX0 39 yX4_copyFrom, Cond.instanceMethod yX4_copyFrom, Cond.selects RX4 yX4_copyFrom yX4_copyFrom, Cond.initialized RX4, Cond.code yX4_copyFrom cX4_copyFrom 2 none, Cond.fieldLink RX4 9 "PegClerks$Stamps" "inks" "[I", Cond.methodLink RX4 24 arraycopyName, Cond.fieldLink RX4 15 "PegClerks$Stamps" "marks" "[I", Cond.fieldLink RX4 18 "PegClerks$Stamps" "dryFalls" "[I", Cond.fieldLink RX4 21 "PegClerks$Stamps" "spoilings" "[I", Cond.methodLink RX5 191 yX0_copyFrom, Cond.methodLink RX5 126 yX1_allPegs, Cond.instanceMethod yX1_allPegs, Cond.selects RX1 yX1_allPegs yX1_allPegs, Cond.code yX1_allPegs cX1_allPegs 3 (some .int), Cond.methodLink RX1 44 yX1_pegsInRow, Cond.instanceMethod yX1_pegsInRow, Cond.selects RX1 yX1_pegsInRow yX1_pegsInRow, Cond.code yX1_pegsInRow cX1_pegsInRow 2 (some .int), Cond.methodLink RX1 35 yJ6_bitCount_0f7a4, Cond.static yJ6_bitCount_0f7a4, Cond.initialized RJ6, Cond.code yJ6_bitCount_0f7a4 cJ6_bitCount_0f7a4 1 (some .int)]
def wsX5_restore_r4 : List Cond := [Cond.constant RJ6 265 (1431655765), Cond.constant RJ6 266 (858993459), Cond.constant RJ6 267 (252645135)]
def wsX5_restore : List Cond := .code yX5_restore cX5_restore 2 (some .int) :: ((wsX5_restore_r1 ++ (wsX5_restore_r2 ++ (wsX5_restore_r3 ++ wsX5_restore_r4))) ++ wsX50 ++ wsX00 ++ wsX20 ++ wsX10 ++ wsX40)
def wsJ9_min_7cf53 : List Cond := .code yJ9_min_7cf53 cJ9_min_7cf53 2 (some .int) :: ([])
def wsL_cell : List Cond := .code yL_cell cL_cell 2 (some .int) :: ([.constant RL 7 (2144462291)])
def wsL_up : List Cond := .code yL_up cL_up 2 (some .int) :: ([.constant RL 8 (2147483647)])
def wsL_turned : List Cond := .code yL_turned cL_turned 3 (some .int) :: ([])
def wsL_isRead_r1 : List Cond := [Cond.constantLong RL 21 (59), Cond.constantLong RL 27 (49), Cond.constantLong RL 29 (58), Cond.methodLink RL 9 yX5_wipe, Cond.instanceMethod yX5_wipe, Cond.selects RX5 yX5_wipe yX5_wipe, Cond.initialized RX5, Cond.code yX5_wipe cX5_wipe 2 (some .int), Cond.fieldLink RX5 29 "PegClerks" "pad" "LPegClerks$Pad;", Cond.fieldLink RX5 185 "PegClerks$Pad" "length" "I", Cond.methodLink RX5 123 yX3_empty, Cond.instanceMethod yX3_empty, Cond.selects RX3 yX3_empty yX3_empty, Cond.initialized RX3, Cond.code yX3_empty cX3_empty 1 none, Cond.fieldLink RX3 17 "PegClerks$Pad" "length" "I", Cond.methodLink RL 15 yL_up, Cond.static yL_up, Cond.initialized RL, Cond.code yL_up cL_up 2 (some .int), Cond.constant RL 8 (2147483647), Cond.methodLink RL 23 yX5_put, Cond.instanceMethod yX5_put, Cond.selects RX5 yX5_put yX5_put]
def wsL_isRead_r2 : List Cond := [Cond.code yX5_put cX5_put 4 (some .int), Cond.methodLink RX5 206 yX3_charactersIn, Cond.static yX3_charactersIn, Cond.code yX3_charactersIn cX3_charactersIn 6 (some .int), Cond.constantLong RX3 15 (255), Cond.methodLink RX5 210 yX3_append, Cond.instanceMethod yX3_append, Cond.selects RX3 yX3_append yX3_append, Cond.code yX3_append cX3_append 5 none, Cond.fieldLink RX3 11 "PegClerks$Pad" "signs" "[C", Cond.methodLink RL 31 yL_turned, Cond.static yL_turned, Cond.code yL_turned cL_turned 3 (some .int), Cond.methodLink RL 35 yX5_read, Cond.instanceMethod yX5_read, Cond.selects RX5 yX5_read yX5_read, Cond.code yX5_read cX5_read 1 (some .int), Cond.fieldLink RX5 22 "PegClerks" "history" "LPegClerks$History;", Cond.fieldLink RX5 10 "PegClerks" "clerk" "LPegClerks$Clerk;", Cond.fieldLink RX5 62 "PegClerks$Clerk" "drum" "LPegClerks$Drum;", Cond.methodLink RX5 115 yX3_firstFault, Cond.instanceMethod yX3_firstFault, Cond.selects RX3 yX3_firstFault yX3_firstFault, Cond.code yX3_firstFault cX3_firstFault 3 (some .int)]
def wsL_isRead_r3 : List Cond := [Cond.methodLink RX3 21 yX3_dueBehind, Cond.static yX3_dueBehind, Cond.code yX3_dueBehind cX3_dueBehind 2 (some .int), Cond.methodLink RX3 25 yX3_dueBehindPlaces, Cond.static yX3_dueBehindPlaces, Cond.code yX3_dueBehindPlaces cX3_dueBehindPlaces 3 (some .int), Cond.static yX5_isPlace, Cond.code yX5_isPlace cX5_isPlace 1 (some .boolean), Cond.methodLink RX5 48 yX2_keep, Cond.instanceMethod yX2_keep, Cond.selects RX2 yX2_keep yX2_keep, Cond.initialized RX2, Cond.code yX2_keep cX2_keep 2 none, Cond.fieldLink RX2 10 "PegClerks$History" "states" "[LPegClerks$Clerk;", Cond.fieldLink RX2 16 "PegClerks$History" "next" "I", Cond.fieldLink RX2 24 "PegClerks$History" "kept" "I", Cond.methodLink RX2 27 Lib.Math.min.name, Cond.static Lib.Math.min.name, Cond.initialized "java/lang/Math", Cond.code Lib.Math.min.name Lib.Math.min.code 2 (some .int), Cond.methodLink RX2 20 yX0_copyFrom, Cond.instanceMethod yX0_copyFrom, Cond.selects RX0 yX0_copyFrom yX0_copyFrom, Cond.initialized RX0]
def wsL_isRead_r4 : List Cond := [Cond.code yX0_copyFrom cX0_copyFrom 2 none, Cond.fieldLink RX0 9 "PegClerks$Clerk" "settings" "[I", Cond.methodLink RX0 29 arraycopyName, Cond.native arraycopyName, Cond.static arraycopyName, Cond.initialized "java/lang/System", Cond.fieldLink RX0 18 "PegClerks$Clerk" "drum" "LPegClerks$Drum;", Cond.fieldLink RX0 25 "PegClerks$Clerk" "stamps" "LPegClerks$Stamps;", Cond.fieldLink RX0 42 "PegClerks$Clerk" "jammed" "Z", Cond.fieldLink RX0 46 "PegClerks$Clerk" "order" "I", Cond.fieldLink RX0 50 "PegClerks$Clerk" "formStamps" "I", Cond.fieldLink RX0 53 "PegClerks$Clerk" "formSpoiled" "Z", Cond.fieldLink RX0 56 "PegClerks$Clerk" "formSteps" "I", Cond.fieldLink RX0 59 "PegClerks$Clerk" "steps" "I", Cond.fieldLink RX0 62 "PegClerks$Clerk" "rightForms" "I", Cond.fieldLink RX0 65 "PegClerks$Clerk" "wrongForms" "I", Cond.fieldLink RX0 68 "PegClerks$Clerk" "spoiledForms" "I", Cond.fieldLink RX0 71 "PegClerks$Clerk" "jams" "I", Cond.methodLink RX0 35 yX1_copyFrom, Cond.instanceMethod yX1_copyFrom, Cond.selects RX1 yX1_copyFrom yX1_copyFrom, Cond.initialized RX1, Cond.code yX1_copyFrom cX1_copyFrom 2 none, Cond.fieldLink RX1 9 "PegClerks$Drum" "rows" "[I"]
def wsL_isRead_r5 : List Cond := [Cond.methodLink RX1 18 arraycopyName, Cond.fieldLink RX1 15 "PegClerks$Drum" "stampings" "[I", Cond.fieldLink RX1 24 "PegClerks$Drum" "at" "I", Cond.fieldLink RX1 28 "PegClerks$Drum" "fallenOut" "I", Cond.methodLink RX0 39 yX4_copyFrom, Cond.instanceMethod yX4_copyFrom, Cond.selects RX4 yX4_copyFrom yX4_copyFrom, Cond.initialized RX4, Cond.code yX4_copyFrom cX4_copyFrom 2 none, Cond.fieldLink RX4 9 "PegClerks$Stamps" "inks" "[I", Cond.methodLink RX4 24 arraycopyName, Cond.fieldLink RX4 15 "PegClerks$Stamps" "marks" "[I", Cond.fieldLink RX4 18 "PegClerks$Stamps" "dryFalls" "[I", Cond.fieldLink RX4 21 "PegClerks$Stamps" "spoilings" "[I", Cond.methodLink RX5 119 yX3_changeRows, Cond.instanceMethod yX3_changeRows, Cond.selects RX3 yX3_changeRows yX3_changeRows, Cond.code yX3_changeRows cX3_changeRows 6 none, Cond.static yX5_isRow, Cond.code yX5_isRow cX5_isRow 1 (some .boolean), Cond.methodLink RX3 35 yX1_giveRow, Cond.instanceMethod yX1_giveRow, Cond.selects RX1 yX1_giveRow yX1_giveRow, Cond.code yX1_giveRow cX1_giveRow 4 none]
def wsL_isRead_r6 : List Cond := [Cond.methodLink RX1 40 yX1_hasPeg, Cond.instanceMethod yX1_hasPeg, Cond.selects RX1 yX1_hasPeg yX1_hasPeg, Cond.code yX1_hasPeg cX1_hasPeg 3 (some .boolean), Cond.methodLink RX5 126 yX1_allPegs, Cond.instanceMethod yX1_allPegs, Cond.selects RX1 yX1_allPegs yX1_allPegs, Cond.code yX1_allPegs cX1_allPegs 3 (some .int), Cond.methodLink RX1 44 yX1_pegsInRow, Cond.instanceMethod yX1_pegsInRow, Cond.selects RX1 yX1_pegsInRow yX1_pegsInRow, Cond.code yX1_pegsInRow cX1_pegsInRow 2 (some .int), Cond.methodLink RX1 35 yJ6_bitCount_0f7a4, Cond.static yJ6_bitCount_0f7a4, Cond.initialized RJ6, Cond.code yJ6_bitCount_0f7a4 cJ6_bitCount_0f7a4 1 (some .int), Cond.constant RJ6 265 (1431655765), Cond.constant RJ6 266 (858993459), Cond.constant RJ6 267 (252645135), Cond.methodLink RL 38 yX5_count, Cond.instanceMethod yX5_count, Cond.selects RX5 yX5_count yX5_count, Cond.code yX5_count cX5_count 2 (some .int), Cond.fieldLink RX5 52 "PegClerks$Clerk" "settings" "[I"]
def wsL_isRead_r7 : List Cond := [Cond.fieldLink RX5 103 "PegClerks$Drum" "at" "I", Cond.fieldLink RX5 92 "PegClerks$Clerk" "jammed" "Z", Cond.fieldLink RX5 79 "PegClerks$Clerk" "order" "I", Cond.fieldLink RX5 109 "PegClerks$Clerk" "formStamps" "I", Cond.fieldLink RX5 161 "PegClerks$Clerk" "formSpoiled" "Z", Cond.fieldLink RX5 164 "PegClerks$Clerk" "formSteps" "I", Cond.fieldLink RX5 96 "PegClerks$Clerk" "steps" "I", Cond.fieldLink RX5 167 "PegClerks$Clerk" "rightForms" "I", Cond.fieldLink RX5 170 "PegClerks$Clerk" "wrongForms" "I", Cond.fieldLink RX5 173 "PegClerks$Clerk" "spoiledForms" "I", Cond.fieldLink RX5 176 "PegClerks$Clerk" "jams" "I", Cond.fieldLink RX5 179 "PegClerks$Drum" "fallenOut" "I", Cond.fieldLink RX5 83 "PegClerks$Clerk" "stamps" "LPegClerks$Stamps;", Cond.fieldLink RX5 188 "PegClerks$History" "kept" "I", Cond.methodLink RX5 132 yX5_asNumber, Cond.static yX5_asNumber, Cond.code yX5_asNumber cX5_asNumber 1 (some .int), Cond.methodLink RX5 182 yX4_allMarks, Cond.instanceMethod yX4_allMarks, Cond.selects RX4 yX4_allMarks yX4_allMarks, Cond.code yX4_allMarks cX4_allMarks 3 (some .int)]
def wsL_isRead : List Cond := .code yL_isRead cL_isRead 11 (some .boolean) :: ((wsL_isRead_r1 ++ (wsL_isRead_r2 ++ (wsL_isRead_r3 ++ (wsL_isRead_r4 ++ (wsL_isRead_r5 ++ (wsL_isRead_r6 ++ wsL_isRead_r7)))))) ++ wsX50 ++ wsX30 ++ wsX00 ++ wsX20 ++ wsX10 ++ wsX40)
def wsL_isStep_r1 : List Cond := [Cond.methodLink RL 15 yL_up, Cond.static yL_up, Cond.initialized RL, Cond.code yL_up cL_up 2 (some .int), Cond.constant RL 8 (2147483647), Cond.methodLink RL 38 yX5_count, Cond.instanceMethod yX5_count, Cond.selects RX5 yX5_count yX5_count, Cond.initialized RX5, Cond.code yX5_count cX5_count 2 (some .int), Cond.fieldLink RX5 10 "PegClerks" "clerk" "LPegClerks$Clerk;", Cond.fieldLink RX5 52 "PegClerks$Clerk" "settings" "[I", Cond.fieldLink RX5 62 "PegClerks$Clerk" "drum" "LPegClerks$Drum;", Cond.fieldLink RX5 103 "PegClerks$Drum" "at" "I", Cond.fieldLink RX5 92 "PegClerks$Clerk" "jammed" "Z", Cond.fieldLink RX5 79 "PegClerks$Clerk" "order" "I", Cond.fieldLink RX5 109 "PegClerks$Clerk" "formStamps" "I", Cond.fieldLink RX5 161 "PegClerks$Clerk" "formSpoiled" "Z", Cond.fieldLink RX5 164 "PegClerks$Clerk" "formSteps" "I", Cond.fieldLink RX5 96 "PegClerks$Clerk" "steps" "I", Cond.fieldLink RX5 167 "PegClerks$Clerk" "rightForms" "I", Cond.fieldLink RX5 170 "PegClerks$Clerk" "wrongForms" "I", Cond.fieldLink RX5 173 "PegClerks$Clerk" "spoiledForms" "I", Cond.fieldLink RX5 176 "PegClerks$Clerk" "jams" "I"]
def wsL_isStep_r2 : List Cond := [Cond.fieldLink RX5 179 "PegClerks$Drum" "fallenOut" "I", Cond.fieldLink RX5 83 "PegClerks$Clerk" "stamps" "LPegClerks$Stamps;", Cond.fieldLink RX5 29 "PegClerks" "pad" "LPegClerks$Pad;", Cond.fieldLink RX5 185 "PegClerks$Pad" "length" "I", Cond.fieldLink RX5 22 "PegClerks" "history" "LPegClerks$History;", Cond.fieldLink RX5 188 "PegClerks$History" "kept" "I", Cond.methodLink RX5 132 yX5_asNumber, Cond.static yX5_asNumber, Cond.code yX5_asNumber cX5_asNumber 1 (some .int), Cond.methodLink RX5 126 yX1_allPegs, Cond.instanceMethod yX1_allPegs, Cond.selects RX1 yX1_allPegs yX1_allPegs, Cond.initialized RX1, Cond.code yX1_allPegs cX1_allPegs 3 (some .int), Cond.methodLink RX1 44 yX1_pegsInRow, Cond.instanceMethod yX1_pegsInRow, Cond.selects RX1 yX1_pegsInRow yX1_pegsInRow, Cond.code yX1_pegsInRow cX1_pegsInRow 2 (some .int), Cond.fieldLink RX1 9 "PegClerks$Drum" "rows" "[I", Cond.methodLink RX1 35 yJ6_bitCount_0f7a4, Cond.static yJ6_bitCount_0f7a4, Cond.initialized RJ6, Cond.code yJ6_bitCount_0f7a4 cJ6_bitCount_0f7a4 1 (some .int), Cond.constant RJ6 265 (1431655765)]
def wsL_isStep_r3 : List Cond := [Cond.constant RJ6 266 (858993459), Cond.constant RJ6 267 (252645135), Cond.methodLink RX5 182 yX4_allMarks, Cond.instanceMethod yX4_allMarks, Cond.selects RX4 yX4_allMarks yX4_allMarks, Cond.initialized RX4, Cond.code yX4_allMarks cX4_allMarks 3 (some .int), Cond.fieldLink RX4 15 "PegClerks$Stamps" "marks" "[I", Cond.methodLink RL 41 yX5_set, Cond.instanceMethod yX5_set, Cond.selects RX5 yX5_set yX5_set, Cond.code yX5_set cX5_set 4 (some .int), Cond.fieldLink RX5 41 "PegClerks" "LEAST" "[I", Cond.fieldLink RX5 45 "PegClerks" "MOST" "[I", Cond.methodLink RX5 48 yX2_keep, Cond.instanceMethod yX2_keep, Cond.selects RX2 yX2_keep yX2_keep, Cond.initialized RX2, Cond.code yX2_keep cX2_keep 2 none, Cond.fieldLink RX2 10 "PegClerks$History" "states" "[LPegClerks$Clerk;", Cond.fieldLink RX2 16 "PegClerks$History" "next" "I", Cond.fieldLink RX2 24 "PegClerks$History" "kept" "I", Cond.methodLink RX2 27 Lib.Math.min.name, Cond.static Lib.Math.min.name]
def wsL_isStep_r4 : List Cond := [Cond.initialized "java/lang/Math", Cond.code Lib.Math.min.name Lib.Math.min.code 2 (some .int), Cond.methodLink RX2 20 yX0_copyFrom, Cond.instanceMethod yX0_copyFrom, Cond.selects RX0 yX0_copyFrom yX0_copyFrom, Cond.initialized RX0, Cond.code yX0_copyFrom cX0_copyFrom 2 none, Cond.fieldLink RX0 9 "PegClerks$Clerk" "settings" "[I", Cond.methodLink RX0 29 arraycopyName, Cond.native arraycopyName, Cond.static arraycopyName, Cond.initialized "java/lang/System", Cond.fieldLink RX0 18 "PegClerks$Clerk" "drum" "LPegClerks$Drum;", Cond.fieldLink RX0 25 "PegClerks$Clerk" "stamps" "LPegClerks$Stamps;", Cond.fieldLink RX0 42 "PegClerks$Clerk" "jammed" "Z", Cond.fieldLink RX0 46 "PegClerks$Clerk" "order" "I", Cond.fieldLink RX0 50 "PegClerks$Clerk" "formStamps" "I", Cond.fieldLink RX0 53 "PegClerks$Clerk" "formSpoiled" "Z", Cond.fieldLink RX0 56 "PegClerks$Clerk" "formSteps" "I", Cond.fieldLink RX0 59 "PegClerks$Clerk" "steps" "I", Cond.fieldLink RX0 62 "PegClerks$Clerk" "rightForms" "I", Cond.fieldLink RX0 65 "PegClerks$Clerk" "wrongForms" "I", Cond.fieldLink RX0 68 "PegClerks$Clerk" "spoiledForms" "I", Cond.fieldLink RX0 71 "PegClerks$Clerk" "jams" "I"]
def wsL_isStep_r5 : List Cond := [Cond.methodLink RX0 35 yX1_copyFrom, Cond.instanceMethod yX1_copyFrom, Cond.selects RX1 yX1_copyFrom yX1_copyFrom, Cond.code yX1_copyFrom cX1_copyFrom 2 none, Cond.methodLink RX1 18 arraycopyName, Cond.fieldLink RX1 15 "PegClerks$Drum" "stampings" "[I", Cond.fieldLink RX1 24 "PegClerks$Drum" "at" "I", Cond.fieldLink RX1 28 "PegClerks$Drum" "fallenOut" "I", Cond.methodLink RX0 39 yX4_copyFrom, Cond.instanceMethod yX4_copyFrom, Cond.selects RX4 yX4_copyFrom yX4_copyFrom, Cond.code yX4_copyFrom cX4_copyFrom 2 none, Cond.fieldLink RX4 9 "PegClerks$Stamps" "inks" "[I", Cond.methodLink RX4 24 arraycopyName, Cond.fieldLink RX4 18 "PegClerks$Stamps" "dryFalls" "[I", Cond.fieldLink RX4 21 "PegClerks$Stamps" "spoilings" "[I", Cond.methodLink RL 44 yX5_order, Cond.instanceMethod yX5_order, Cond.selects RX5 yX5_order yX5_order, Cond.code yX5_order cX5_order 3 (some .int), Cond.methodLink RL 31 yL_turned, Cond.static yL_turned, Cond.code yL_turned cL_turned 3 (some .int), Cond.methodLink RL 47 yX5_stamp]
def wsL_isStep_r6 : List Cond := [Cond.instanceMethod yX5_stamp, Cond.selects RX5 yX5_stamp yX5_stamp, Cond.code yX5_stamp cX5_stamp 3 (some .int), Cond.fieldLink RX5 87 "PegClerks$Stamps" "inks" "[I", Cond.fieldLink RX5 149 "PegClerks$Stamps" "marks" "[I", Cond.fieldLink RX5 152 "PegClerks$Stamps" "dryFalls" "[I", Cond.fieldLink RX5 158 "PegClerks$Stamps" "spoilings" "[I", Cond.methodLink RX5 59 yX5_isPlace, Cond.static yX5_isPlace, Cond.code yX5_isPlace cX5_isPlace 1 (some .boolean), Cond.methodLink RX5 155 yX1_pegsAtPlace, Cond.instanceMethod yX1_pegsAtPlace, Cond.selects RX1 yX1_pegsAtPlace yX1_pegsAtPlace, Cond.code yX1_pegsAtPlace cX1_pegsAtPlace 4 (some .int), Cond.methodLink RX1 40 yX1_hasPeg, Cond.instanceMethod yX1_hasPeg, Cond.selects RX1 yX1_hasPeg yX1_hasPeg, Cond.code yX1_hasPeg cX1_hasPeg 3 (some .boolean), Cond.methodLink RL 50 yX5_ink, Cond.instanceMethod yX5_ink, Cond.selects RX5 yX5_ink yX5_ink, Cond.code yX5_ink cX5_ink 3 (some .int), Cond.methodLink RL 53 yX5_free, Cond.instanceMethod yX5_free]
def wsL_isStep_r7 : List Cond := [Cond.selects RX5 yX5_free yX5_free, Cond.code yX5_free cX5_free 2 (some .int), Cond.methodLink RX5 106 yX1_goOn, Cond.instanceMethod yX1_goOn, Cond.selects RX1 yX1_goOn yX1_goOn, Cond.code yX1_goOn cX1_goOn 1 none, Cond.methodLink RX1 31 yX1_rowBehind, Cond.static yX1_rowBehind, Cond.code yX1_rowBehind cX1_rowBehind 1 (some .int), Cond.methodLink RL 56 yX5_newForm, Cond.instanceMethod yX5_newForm, Cond.selects RX5 yX5_newForm yX5_newForm, Cond.code yX5_newForm cX5_newForm 2 (some .int), Cond.methodLink RX5 112 yX0_layForm, Cond.instanceMethod yX0_layForm, Cond.selects RX0 yX0_layForm yX0_layForm, Cond.code yX0_layForm cX0_layForm 1 none, Cond.methodLink RL 59 yX5_save, Cond.instanceMethod yX5_save, Cond.selects RX5 yX5_save yX5_save, Cond.code yX5_save cX5_save 2 (some .int), Cond.fieldLink RX5 33 "PegClerks" "slots" "[LPegClerks$Clerk;", Cond.fieldLink RX5 37 "PegClerks" "saved" "[Z", Cond.methodLink RX5 191 yX0_copyFrom]
def wsL_isStep_r8 : List Cond := [Cond.methodLink RL 62 yX5_restore, Cond.instanceMethod yX5_restore, Cond.selects RX5 yX5_restore yX5_restore, Cond.code yX5_restore cX5_restore 2 (some .int), Cond.methodLink RL 65 yL_isRead, Cond.static yL_isRead, Cond.code yL_isRead cL_isRead 11 (some .boolean), Cond.constantLong RL 21 (59), Cond.constantLong RL 27 (49), Cond.constantLong RL 29 (58), Cond.methodLink RL 9 yX5_wipe, Cond.instanceMethod yX5_wipe, Cond.selects RX5 yX5_wipe yX5_wipe, Cond.code yX5_wipe cX5_wipe 2 (some .int), Cond.methodLink RX5 123 yX3_empty, Cond.instanceMethod yX3_empty, Cond.selects RX3 yX3_empty yX3_empty, Cond.initialized RX3, Cond.code yX3_empty cX3_empty 1 none, Cond.fieldLink RX3 17 "PegClerks$Pad" "length" "I", Cond.methodLink RL 23 yX5_put, Cond.instanceMethod yX5_put, Cond.selects RX5 yX5_put yX5_put, Cond.code yX5_put cX5_put 4 (some .int)]
def wsL_isStep_r9 : List Cond := [Cond.methodLink RX5 206 yX3_charactersIn, Cond.static yX3_charactersIn, Cond.code yX3_charactersIn cX3_charactersIn 6 (some .int), Cond.constantLong RX3 15 (255), Cond.methodLink RX5 210 yX3_append, Cond.instanceMethod yX3_append, Cond.selects RX3 yX3_append yX3_append, Cond.code yX3_append cX3_append 5 none, Cond.fieldLink RX3 11 "PegClerks$Pad" "signs" "[C", Cond.methodLink RL 35 yX5_read, Cond.instanceMethod yX5_read, Cond.selects RX5 yX5_read yX5_read, Cond.code yX5_read cX5_read 1 (some .int), Cond.methodLink RX5 115 yX3_firstFault, Cond.instanceMethod yX3_firstFault, Cond.selects RX3 yX3_firstFault yX3_firstFault, Cond.code yX3_firstFault cX3_firstFault 3 (some .int), Cond.methodLink RX3 21 yX3_dueBehind, Cond.static yX3_dueBehind, Cond.code yX3_dueBehind cX3_dueBehind 2 (some .int), Cond.methodLink RX3 25 yX3_dueBehindPlaces, Cond.static yX3_dueBehindPlaces, Cond.code yX3_dueBehindPlaces cX3_dueBehindPlaces 3 (some .int), Cond.methodLink RX5 119 yX3_changeRows]
def wsL_isStep_r10 : List Cond := [Cond.instanceMethod yX3_changeRows, Cond.selects RX3 yX3_changeRows yX3_changeRows, Cond.code yX3_changeRows cX3_changeRows 6 none, Cond.static yX5_isRow, Cond.code yX5_isRow cX5_isRow 1 (some .boolean), Cond.methodLink RX3 35 yX1_giveRow, Cond.instanceMethod yX1_giveRow, Cond.selects RX1 yX1_giveRow yX1_giveRow, Cond.code yX1_giveRow cX1_giveRow 4 none, Cond.methodLink RL 69 yX5_step, Cond.instanceMethod yX5_step, Cond.selects RX5 yX5_step yX5_step, Cond.code yX5_step cX5_step 2 (some .int), Cond.constant RX5 99 (99999), Cond.methodLink RX5 100 yX0_makeSteps, Cond.instanceMethod yX0_makeSteps, Cond.selects RX0 yX0_makeSteps yX0_makeSteps, Cond.code yX0_makeSteps cX0_makeSteps 3 (some .int), Cond.methodLink RX0 78 yX0_makeOneStep, Cond.instanceMethod yX0_makeOneStep, Cond.selects RX0 yX0_makeOneStep yX0_makeOneStep, Cond.code yX0_makeOneStep cX0_makeOneStep 1 (some .boolean), Cond.fieldLink RX0 82 "PegClerks$Drum" "at" "I", Cond.fieldLink RX0 89 "PegClerks$Drum" "rows" "[I"]
def wsL_isStep_r11 : List Cond := [Cond.methodLink RX0 85 yX0_wouldJamAt, Cond.instanceMethod yX0_wouldJamAt, Cond.selects RX0 yX0_wouldJamAt yX0_wouldJamAt, Cond.code yX0_wouldJamAt cX0_wouldJamAt 2 (some .boolean), Cond.methodLink RX0 74 yX1_pegsInRow, Cond.methodLink RX0 92 yX0_letStampsFall, Cond.instanceMethod yX0_letStampsFall, Cond.selects RX0 yX0_letStampsFall yX0_letStampsFall, Cond.code yX0_letStampsFall cX0_letStampsFall 3 none, Cond.methodLink RX0 102 yX0_letStampFall, Cond.instanceMethod yX0_letStampFall, Cond.selects RX0 yX0_letStampFall yX0_letStampFall, Cond.code yX0_letStampFall cX0_letStampFall 2 none, Cond.fieldLink RX0 109 "PegClerks$Stamps" "spoilings" "[I", Cond.methodLink RX0 112 yX4_leavesMark, Cond.instanceMethod yX4_leavesMark, Cond.selects RX4 yX4_leavesMark yX4_leavesMark, Cond.code yX4_leavesMark cX4_leavesMark 3 (some .boolean), Cond.methodLink RX0 105 yX1_wearPeg, Cond.instanceMethod yX1_wearPeg, Cond.selects RX1 yX1_wearPeg yX1_wearPeg, Cond.code yX1_wearPeg cX1_wearPeg 5 none, Cond.methodLink RX0 96 yX1_goOn, Cond.methodLink RX0 99 yX0_finishForm]
def wsL_isStep_r12 : List Cond := [Cond.instanceMethod yX0_finishForm, Cond.selects RX0 yX0_finishForm yX0_finishForm, Cond.code yX0_finishForm cX0_finishForm 1 none, Cond.methodLink RX0 116 yX0_layForm, Cond.methodLink RL 72 yX5_stamped, Cond.instanceMethod yX5_stamped, Cond.selects RX5 yX5_stamped yX5_stamped, Cond.code yX5_stamped cX5_stamped 3 (some .int), Cond.fieldLink RX5 146 "PegClerks$Drum" "stampings" "[I", Cond.methodLink RX5 55 yX5_isRow, Cond.methodLink RX5 142 yX1_hasPeg, Cond.methodLink RL 75 yX5_row, Cond.instanceMethod yX5_row, Cond.selects RX5 yX5_row yX5_row, Cond.code yX5_row cX5_row 3 (some .int), Cond.fieldLink RX5 66 "PegClerks$Drum" "rows" "[I", Cond.methodLink RX5 75 yX1_pegsInRow, Cond.methodLink RX5 129 yX0_wouldJamAt, Cond.methodLink RX5 136 yJ9_floorMod_7cf53, Cond.static yJ9_floorMod_7cf53, Cond.initialized RJ9, Cond.code yJ9_floorMod_7cf53 cJ9_floorMod_7cf53 3 (some .int), Cond.methodLink RL 78 yX5_peg, Cond.instanceMethod yX5_peg]
def wsL_isStep_r13 : List Cond := [Cond.selects RX5 yX5_peg yX5_peg, Cond.code yX5_peg cX5_peg 3 (some .int), Cond.methodLink RX5 71 yX1_giveRow]
def wsL_isStep : List Cond := .code yL_isStep cL_isStep 12 (some .boolean) :: ((wsL_isStep_r1 ++ (wsL_isStep_r2 ++ (wsL_isStep_r3 ++ (wsL_isStep_r4 ++ (wsL_isStep_r5 ++ (wsL_isStep_r6 ++ (wsL_isStep_r7 ++ (wsL_isStep_r8 ++ (wsL_isStep_r9 ++ (wsL_isStep_r10 ++ (wsL_isStep_r11 ++ (wsL_isStep_r12 ++ wsL_isStep_r13)))))))))))) ++ wsX50 ++ wsX00 ++ wsX10 ++ wsX30 ++ wsX20 ++ wsX40)
def wsL_areAlike_r1 : List Cond := [Cond.methodLink RL 15 yL_up, Cond.static yL_up, Cond.initialized RL, Cond.code yL_up cL_up 2 (some .int), Cond.constant RL 8 (2147483647), Cond.methodLink RL 81 yX5_untilJam, Cond.instanceMethod yX5_untilJam, Cond.selects RX5 yX5_untilJam yX5_untilJam, Cond.initialized RX5, Cond.code yX5_untilJam cX5_untilJam 2 (some .int), Cond.fieldLink RX5 16 "PegClerks" "trial" "LPegClerks$Clerk;", Cond.fieldLink RX5 10 "PegClerks" "clerk" "LPegClerks$Clerk;", Cond.fieldLink RX5 92 "PegClerks$Clerk" "jammed" "Z", Cond.methodLink RX5 191 yX0_copyFrom, Cond.instanceMethod yX0_copyFrom, Cond.selects RX0 yX0_copyFrom yX0_copyFrom, Cond.initialized RX0, Cond.code yX0_copyFrom cX0_copyFrom 2 none, Cond.fieldLink RX0 9 "PegClerks$Clerk" "settings" "[I", Cond.methodLink RX0 29 arraycopyName, Cond.native arraycopyName, Cond.static arraycopyName, Cond.initialized "java/lang/System", Cond.fieldLink RX0 18 "PegClerks$Clerk" "drum" "LPegClerks$Drum;"]
def wsL_areAlike_r2 : List Cond := [Cond.fieldLink RX0 25 "PegClerks$Clerk" "stamps" "LPegClerks$Stamps;", Cond.fieldLink RX0 42 "PegClerks$Clerk" "jammed" "Z", Cond.fieldLink RX0 46 "PegClerks$Clerk" "order" "I", Cond.fieldLink RX0 50 "PegClerks$Clerk" "formStamps" "I", Cond.fieldLink RX0 53 "PegClerks$Clerk" "formSpoiled" "Z", Cond.fieldLink RX0 56 "PegClerks$Clerk" "formSteps" "I", Cond.fieldLink RX0 59 "PegClerks$Clerk" "steps" "I", Cond.fieldLink RX0 62 "PegClerks$Clerk" "rightForms" "I", Cond.fieldLink RX0 65 "PegClerks$Clerk" "wrongForms" "I", Cond.fieldLink RX0 68 "PegClerks$Clerk" "spoiledForms" "I", Cond.fieldLink RX0 71 "PegClerks$Clerk" "jams" "I", Cond.methodLink RX0 35 yX1_copyFrom, Cond.instanceMethod yX1_copyFrom, Cond.selects RX1 yX1_copyFrom yX1_copyFrom, Cond.initialized RX1, Cond.code yX1_copyFrom cX1_copyFrom 2 none, Cond.fieldLink RX1 9 "PegClerks$Drum" "rows" "[I", Cond.methodLink RX1 18 arraycopyName, Cond.fieldLink RX1 15 "PegClerks$Drum" "stampings" "[I", Cond.fieldLink RX1 24 "PegClerks$Drum" "at" "I", Cond.fieldLink RX1 28 "PegClerks$Drum" "fallenOut" "I", Cond.methodLink RX0 39 yX4_copyFrom, Cond.instanceMethod yX4_copyFrom, Cond.selects RX4 yX4_copyFrom yX4_copyFrom]
def wsL_areAlike_r3 : List Cond := [Cond.initialized RX4, Cond.code yX4_copyFrom cX4_copyFrom 2 none, Cond.fieldLink RX4 9 "PegClerks$Stamps" "inks" "[I", Cond.methodLink RX4 24 arraycopyName, Cond.fieldLink RX4 15 "PegClerks$Stamps" "marks" "[I", Cond.fieldLink RX4 18 "PegClerks$Stamps" "dryFalls" "[I", Cond.fieldLink RX4 21 "PegClerks$Stamps" "spoilings" "[I", Cond.methodLink RX5 100 yX0_makeSteps, Cond.instanceMethod yX0_makeSteps, Cond.selects RX0 yX0_makeSteps yX0_makeSteps, Cond.code yX0_makeSteps cX0_makeSteps 3 (some .int), Cond.methodLink RX0 78 yX0_makeOneStep, Cond.instanceMethod yX0_makeOneStep, Cond.selects RX0 yX0_makeOneStep yX0_makeOneStep, Cond.code yX0_makeOneStep cX0_makeOneStep 1 (some .boolean), Cond.fieldLink RX0 82 "PegClerks$Drum" "at" "I", Cond.fieldLink RX0 89 "PegClerks$Drum" "rows" "[I", Cond.methodLink RX0 85 yX0_wouldJamAt, Cond.instanceMethod yX0_wouldJamAt, Cond.selects RX0 yX0_wouldJamAt yX0_wouldJamAt, Cond.code yX0_wouldJamAt cX0_wouldJamAt 2 (some .boolean), Cond.methodLink RX0 74 yX1_pegsInRow, Cond.instanceMethod yX1_pegsInRow, Cond.selects RX1 yX1_pegsInRow yX1_pegsInRow]
def wsL_areAlike_r4 : List Cond := [Cond.code yX1_pegsInRow cX1_pegsInRow 2 (some .int), Cond.methodLink RX1 35 yJ6_bitCount_0f7a4, Cond.static yJ6_bitCount_0f7a4, Cond.initialized RJ6, Cond.code yJ6_bitCount_0f7a4 cJ6_bitCount_0f7a4 1 (some .int), Cond.constant RJ6 265 (1431655765), Cond.constant RJ6 266 (858993459), Cond.constant RJ6 267 (252645135), Cond.methodLink RX0 92 yX0_letStampsFall, Cond.instanceMethod yX0_letStampsFall, Cond.selects RX0 yX0_letStampsFall yX0_letStampsFall, Cond.code yX0_letStampsFall cX0_letStampsFall 3 none, Cond.methodLink RX0 102 yX0_letStampFall, Cond.instanceMethod yX0_letStampFall, Cond.selects RX0 yX0_letStampFall yX0_letStampFall, Cond.code yX0_letStampFall cX0_letStampFall 2 none, Cond.fieldLink RX0 109 "PegClerks$Stamps" "spoilings" "[I", Cond.methodLink RX0 112 yX4_leavesMark, Cond.instanceMethod yX4_leavesMark, Cond.selects RX4 yX4_leavesMark yX4_leavesMark, Cond.code yX4_leavesMark cX4_leavesMark 3 (some .boolean), Cond.methodLink RX0 105 yX1_wearPeg, Cond.instanceMethod yX1_wearPeg, Cond.selects RX1 yX1_wearPeg yX1_wearPeg]
def wsL_areAlike_r5 : List Cond := [Cond.code yX1_wearPeg cX1_wearPeg 5 none, Cond.methodLink RX0 96 yX1_goOn, Cond.instanceMethod yX1_goOn, Cond.selects RX1 yX1_goOn yX1_goOn, Cond.code yX1_goOn cX1_goOn 1 none, Cond.methodLink RX1 31 yX1_rowBehind, Cond.static yX1_rowBehind, Cond.code yX1_rowBehind cX1_rowBehind 1 (some .int), Cond.methodLink RX0 99 yX0_finishForm, Cond.instanceMethod yX0_finishForm, Cond.selects RX0 yX0_finishForm yX0_finishForm, Cond.code yX0_finishForm cX0_finishForm 1 none, Cond.methodLink RX0 116 yX0_layForm, Cond.instanceMethod yX0_layForm, Cond.selects RX0 yX0_layForm yX0_layForm, Cond.code yX0_layForm cX0_layForm 1 none, Cond.methodLink RL 84 yX5_nextStamps, Cond.instanceMethod yX5_nextStamps, Cond.selects RX5 yX5_nextStamps yX5_nextStamps, Cond.code yX5_nextStamps cX5_nextStamps 2 (some .int), Cond.methodLink RX5 200 yX5_nextStampsByStep, Cond.instanceMethod yX5_nextStampsByStep, Cond.selects RX5 yX5_nextStampsByStep yX5_nextStampsByStep, Cond.code yX5_nextStampsByStep cX5_nextStampsByStep 5 (some .int)]
def wsL_areAlike_r6 : List Cond := [Cond.fieldLink RX5 62 "PegClerks$Clerk" "drum" "LPegClerks$Drum;", Cond.fieldLink RX5 103 "PegClerks$Drum" "at" "I", Cond.fieldLink RX5 52 "PegClerks$Clerk" "settings" "[I", Cond.methodLink RX5 142 yX1_hasPeg, Cond.instanceMethod yX1_hasPeg, Cond.selects RX1 yX1_hasPeg yX1_hasPeg, Cond.code yX1_hasPeg cX1_hasPeg 3 (some .boolean), Cond.methodLink RX5 217 yX1_rowBehind, Cond.methodLink RX5 203 yX5_nextStampsByPegs, Cond.instanceMethod yX5_nextStampsByPegs, Cond.selects RX5 yX5_nextStampsByPegs yX5_nextStampsByPegs, Cond.code yX5_nextStampsByPegs cX5_nextStampsByPegs 3 (some .int), Cond.fieldLink RX5 66 "PegClerks$Drum" "rows" "[I", Cond.methodLink RX5 136 yJ9_floorMod_7cf53, Cond.static yJ9_floorMod_7cf53, Cond.initialized RJ9, Cond.code yJ9_floorMod_7cf53 cJ9_floorMod_7cf53 3 (some .int), Cond.methodLink RL 31 yL_turned, Cond.static yL_turned, Cond.code yL_turned cL_turned 3 (some .int), Cond.methodLink RL 87 yX5_ifStepped, Cond.instanceMethod yX5_ifStepped, Cond.selects RX5 yX5_ifStepped yX5_ifStepped, Cond.code yX5_ifStepped cX5_ifStepped 4 (some .int)]
def wsL_areAlike_r7 : List Cond := [Cond.fieldLink RX5 167 "PegClerks$Clerk" "rightForms" "I", Cond.fieldLink RX5 170 "PegClerks$Clerk" "wrongForms" "I", Cond.fieldLink RX5 173 "PegClerks$Clerk" "spoiledForms" "I", Cond.fieldLink RX5 83 "PegClerks$Clerk" "stamps" "LPegClerks$Stamps;", Cond.methodLink RX5 182 yX4_allMarks, Cond.instanceMethod yX4_allMarks, Cond.selects RX4 yX4_allMarks yX4_allMarks, Cond.code yX4_allMarks cX4_allMarks 3 (some .int), Cond.methodLink RL 38 yX5_count, Cond.instanceMethod yX5_count, Cond.selects RX5 yX5_count yX5_count, Cond.code yX5_count cX5_count 2 (some .int), Cond.fieldLink RX5 79 "PegClerks$Clerk" "order" "I", Cond.fieldLink RX5 109 "PegClerks$Clerk" "formStamps" "I", Cond.fieldLink RX5 161 "PegClerks$Clerk" "formSpoiled" "Z", Cond.fieldLink RX5 164 "PegClerks$Clerk" "formSteps" "I", Cond.fieldLink RX5 96 "PegClerks$Clerk" "steps" "I", Cond.fieldLink RX5 176 "PegClerks$Clerk" "jams" "I", Cond.fieldLink RX5 179 "PegClerks$Drum" "fallenOut" "I", Cond.fieldLink RX5 29 "PegClerks" "pad" "LPegClerks$Pad;", Cond.fieldLink RX5 185 "PegClerks$Pad" "length" "I", Cond.fieldLink RX5 22 "PegClerks" "history" "LPegClerks$History;", Cond.fieldLink RX5 188 "PegClerks$History" "kept" "I", Cond.methodLink RX5 132 yX5_asNumber]
def wsL_areAlike_r8 : List Cond := [Cond.static yX5_asNumber, Cond.code yX5_asNumber cX5_asNumber 1 (some .int), Cond.methodLink RX5 126 yX1_allPegs, Cond.instanceMethod yX1_allPegs, Cond.selects RX1 yX1_allPegs yX1_allPegs, Cond.code yX1_allPegs cX1_allPegs 3 (some .int), Cond.methodLink RX1 44 yX1_pegsInRow, Cond.methodLink RL 75 yX5_row, Cond.instanceMethod yX5_row, Cond.selects RX5 yX5_row yX5_row, Cond.code yX5_row cX5_row 3 (some .int), Cond.methodLink RX5 55 yX5_isRow, Cond.static yX5_isRow, Cond.code yX5_isRow cX5_isRow 1 (some .boolean), Cond.methodLink RX5 75 yX1_pegsInRow, Cond.methodLink RX5 129 yX0_wouldJamAt, Cond.methodLink RL 72 yX5_stamped, Cond.instanceMethod yX5_stamped, Cond.selects RX5 yX5_stamped yX5_stamped, Cond.code yX5_stamped cX5_stamped 3 (some .int), Cond.fieldLink RX5 146 "PegClerks$Drum" "stampings" "[I", Cond.methodLink RX5 59 yX5_isPlace, Cond.static yX5_isPlace, Cond.code yX5_isPlace cX5_isPlace 1 (some .boolean)]
def wsL_areAlike_r9 : List Cond := [Cond.methodLink RL 47 yX5_stamp, Cond.instanceMethod yX5_stamp, Cond.selects RX5 yX5_stamp yX5_stamp, Cond.code yX5_stamp cX5_stamp 3 (some .int), Cond.fieldLink RX5 87 "PegClerks$Stamps" "inks" "[I", Cond.fieldLink RX5 149 "PegClerks$Stamps" "marks" "[I", Cond.fieldLink RX5 152 "PegClerks$Stamps" "dryFalls" "[I", Cond.fieldLink RX5 158 "PegClerks$Stamps" "spoilings" "[I", Cond.methodLink RX5 155 yX1_pegsAtPlace, Cond.instanceMethod yX1_pegsAtPlace, Cond.selects RX1 yX1_pegsAtPlace yX1_pegsAtPlace, Cond.code yX1_pegsAtPlace cX1_pegsAtPlace 4 (some .int), Cond.methodLink RX1 40 yX1_hasPeg, Cond.methodLink RL 90 yX5_bestOut, Cond.instanceMethod yX5_bestOut, Cond.selects RX5 yX5_bestOut yX5_bestOut, Cond.code yX5_bestOut cX5_bestOut 6 (some .int), Cond.methodLink RX5 194 yX5_ifStepped, Cond.methodLink RX5 197 yX5_rightWithRow, Cond.instanceMethod yX5_rightWithRow, Cond.selects RX5 yX5_rightWithRow yX5_rightWithRow, Cond.code yX5_rightWithRow cX5_rightWithRow 3 (some .int), Cond.methodLink RX5 71 yX1_giveRow, Cond.instanceMethod yX1_giveRow]
def wsL_areAlike_r10 : List Cond := [Cond.selects RX1 yX1_giveRow yX1_giveRow, Cond.code yX1_giveRow cX1_giveRow 4 none]
def wsL_areAlike : List Cond := .code yL_areAlike cL_areAlike 7 (some .boolean) :: ((wsL_areAlike_r1 ++ (wsL_areAlike_r2 ++ (wsL_areAlike_r3 ++ (wsL_areAlike_r4 ++ (wsL_areAlike_r5 ++ (wsL_areAlike_r6 ++ (wsL_areAlike_r7 ++ (wsL_areAlike_r8 ++ (wsL_areAlike_r9 ++ wsL_areAlike_r10))))))))) ++ wsX50 ++ wsX00 ++ wsX10 ++ wsX40 ++ wsX30 ++ wsX20)
def wsL_isWell_r1 : List Cond := [Cond.methodLink RL 38 yX5_count, Cond.instanceMethod yX5_count, Cond.selects RX5 yX5_count yX5_count, Cond.initialized RX5, Cond.code yX5_count cX5_count 2 (some .int), Cond.fieldLink RX5 10 "PegClerks" "clerk" "LPegClerks$Clerk;", Cond.fieldLink RX5 52 "PegClerks$Clerk" "settings" "[I", Cond.fieldLink RX5 62 "PegClerks$Clerk" "drum" "LPegClerks$Drum;", Cond.fieldLink RX5 103 "PegClerks$Drum" "at" "I", Cond.fieldLink RX5 92 "PegClerks$Clerk" "jammed" "Z", Cond.fieldLink RX5 79 "PegClerks$Clerk" "order" "I", Cond.fieldLink RX5 109 "PegClerks$Clerk" "formStamps" "I", Cond.fieldLink RX5 161 "PegClerks$Clerk" "formSpoiled" "Z", Cond.fieldLink RX5 164 "PegClerks$Clerk" "formSteps" "I", Cond.fieldLink RX5 96 "PegClerks$Clerk" "steps" "I", Cond.fieldLink RX5 167 "PegClerks$Clerk" "rightForms" "I", Cond.fieldLink RX5 170 "PegClerks$Clerk" "wrongForms" "I", Cond.fieldLink RX5 173 "PegClerks$Clerk" "spoiledForms" "I", Cond.fieldLink RX5 176 "PegClerks$Clerk" "jams" "I", Cond.fieldLink RX5 179 "PegClerks$Drum" "fallenOut" "I", Cond.fieldLink RX5 83 "PegClerks$Clerk" "stamps" "LPegClerks$Stamps;", Cond.fieldLink RX5 29 "PegClerks" "pad" "LPegClerks$Pad;", Cond.fieldLink RX5 185 "PegClerks$Pad" "length" "I", Cond.fieldLink RX5 22 "PegClerks" "history" "LPegClerks$History;"]
def wsL_isWell_r2 : List Cond := [Cond.fieldLink RX5 188 "PegClerks$History" "kept" "I", Cond.methodLink RX5 132 yX5_asNumber, Cond.static yX5_asNumber, Cond.code yX5_asNumber cX5_asNumber 1 (some .int), Cond.methodLink RX5 126 yX1_allPegs, Cond.instanceMethod yX1_allPegs, Cond.selects RX1 yX1_allPegs yX1_allPegs, Cond.initialized RX1, Cond.code yX1_allPegs cX1_allPegs 3 (some .int), Cond.methodLink RX1 44 yX1_pegsInRow, Cond.instanceMethod yX1_pegsInRow, Cond.selects RX1 yX1_pegsInRow yX1_pegsInRow, Cond.code yX1_pegsInRow cX1_pegsInRow 2 (some .int), Cond.fieldLink RX1 9 "PegClerks$Drum" "rows" "[I", Cond.methodLink RX1 35 yJ6_bitCount_0f7a4, Cond.static yJ6_bitCount_0f7a4, Cond.initialized RJ6, Cond.code yJ6_bitCount_0f7a4 cJ6_bitCount_0f7a4 1 (some .int), Cond.constant RJ6 265 (1431655765), Cond.constant RJ6 266 (858993459), Cond.constant RJ6 267 (252645135), Cond.methodLink RX5 182 yX4_allMarks, Cond.instanceMethod yX4_allMarks, Cond.selects RX4 yX4_allMarks yX4_allMarks]
def wsL_isWell_r3 : List Cond := [Cond.initialized RX4, Cond.code yX4_allMarks cX4_allMarks 3 (some .int), Cond.fieldLink RX4 15 "PegClerks$Stamps" "marks" "[I", Cond.methodLink RL 84 yX5_nextStamps, Cond.instanceMethod yX5_nextStamps, Cond.selects RX5 yX5_nextStamps yX5_nextStamps, Cond.code yX5_nextStamps cX5_nextStamps 2 (some .int), Cond.methodLink RX5 200 yX5_nextStampsByStep, Cond.instanceMethod yX5_nextStampsByStep, Cond.selects RX5 yX5_nextStampsByStep yX5_nextStampsByStep, Cond.code yX5_nextStampsByStep cX5_nextStampsByStep 5 (some .int), Cond.methodLink RX5 142 yX1_hasPeg, Cond.instanceMethod yX1_hasPeg, Cond.selects RX1 yX1_hasPeg yX1_hasPeg, Cond.code yX1_hasPeg cX1_hasPeg 3 (some .boolean), Cond.methodLink RX5 217 yX1_rowBehind, Cond.static yX1_rowBehind, Cond.code yX1_rowBehind cX1_rowBehind 1 (some .int), Cond.methodLink RX5 203 yX5_nextStampsByPegs, Cond.instanceMethod yX5_nextStampsByPegs, Cond.selects RX5 yX5_nextStampsByPegs yX5_nextStampsByPegs, Cond.code yX5_nextStampsByPegs cX5_nextStampsByPegs 3 (some .int), Cond.fieldLink RX5 66 "PegClerks$Drum" "rows" "[I", Cond.methodLink RX5 136 yJ9_floorMod_7cf53]
def wsL_isWell_r4 : List Cond := [Cond.static yJ9_floorMod_7cf53, Cond.initialized RJ9, Cond.code yJ9_floorMod_7cf53 cJ9_floorMod_7cf53 3 (some .int), Cond.methodLink RL 72 yX5_stamped, Cond.instanceMethod yX5_stamped, Cond.selects RX5 yX5_stamped yX5_stamped, Cond.code yX5_stamped cX5_stamped 3 (some .int), Cond.fieldLink RX5 146 "PegClerks$Drum" "stampings" "[I", Cond.methodLink RX5 55 yX5_isRow, Cond.static yX5_isRow, Cond.code yX5_isRow cX5_isRow 1 (some .boolean), Cond.methodLink RX5 59 yX5_isPlace, Cond.static yX5_isPlace, Cond.code yX5_isPlace cX5_isPlace 1 (some .boolean), Cond.methodLink RL 75 yX5_row, Cond.instanceMethod yX5_row, Cond.selects RX5 yX5_row yX5_row, Cond.code yX5_row cX5_row 3 (some .int), Cond.methodLink RX5 75 yX1_pegsInRow, Cond.methodLink RX5 129 yX0_wouldJamAt, Cond.instanceMethod yX0_wouldJamAt, Cond.selects RX0 yX0_wouldJamAt yX0_wouldJamAt, Cond.initialized RX0, Cond.code yX0_wouldJamAt cX0_wouldJamAt 2 (some .boolean)]
def wsL_isWell_r5 : List Cond := [Cond.fieldLink RX0 18 "PegClerks$Clerk" "drum" "LPegClerks$Drum;", Cond.fieldLink RX0 9 "PegClerks$Clerk" "settings" "[I", Cond.methodLink RX0 74 yX1_pegsInRow, Cond.methodLink RL 47 yX5_stamp, Cond.instanceMethod yX5_stamp, Cond.selects RX5 yX5_stamp yX5_stamp, Cond.code yX5_stamp cX5_stamp 3 (some .int), Cond.fieldLink RX5 87 "PegClerks$Stamps" "inks" "[I", Cond.fieldLink RX5 149 "PegClerks$Stamps" "marks" "[I", Cond.fieldLink RX5 152 "PegClerks$Stamps" "dryFalls" "[I", Cond.fieldLink RX5 158 "PegClerks$Stamps" "spoilings" "[I", Cond.methodLink RX5 155 yX1_pegsAtPlace, Cond.instanceMethod yX1_pegsAtPlace, Cond.selects RX1 yX1_pegsAtPlace yX1_pegsAtPlace, Cond.code yX1_pegsAtPlace cX1_pegsAtPlace 4 (some .int), Cond.methodLink RX1 40 yX1_hasPeg, Cond.methodLink RL 81 yX5_untilJam, Cond.instanceMethod yX5_untilJam, Cond.selects RX5 yX5_untilJam yX5_untilJam, Cond.code yX5_untilJam cX5_untilJam 2 (some .int), Cond.fieldLink RX5 16 "PegClerks" "trial" "LPegClerks$Clerk;", Cond.methodLink RX5 191 yX0_copyFrom, Cond.instanceMethod yX0_copyFrom, Cond.selects RX0 yX0_copyFrom yX0_copyFrom]
def wsL_isWell_r6 : List Cond := [Cond.code yX0_copyFrom cX0_copyFrom 2 none, Cond.methodLink RX0 29 arraycopyName, Cond.native arraycopyName, Cond.static arraycopyName, Cond.initialized "java/lang/System", Cond.fieldLink RX0 25 "PegClerks$Clerk" "stamps" "LPegClerks$Stamps;", Cond.fieldLink RX0 42 "PegClerks$Clerk" "jammed" "Z", Cond.fieldLink RX0 46 "PegClerks$Clerk" "order" "I", Cond.fieldLink RX0 50 "PegClerks$Clerk" "formStamps" "I", Cond.fieldLink RX0 53 "PegClerks$Clerk" "formSpoiled" "Z", Cond.fieldLink RX0 56 "PegClerks$Clerk" "formSteps" "I", Cond.fieldLink RX0 59 "PegClerks$Clerk" "steps" "I", Cond.fieldLink RX0 62 "PegClerks$Clerk" "rightForms" "I", Cond.fieldLink RX0 65 "PegClerks$Clerk" "wrongForms" "I", Cond.fieldLink RX0 68 "PegClerks$Clerk" "spoiledForms" "I", Cond.fieldLink RX0 71 "PegClerks$Clerk" "jams" "I", Cond.methodLink RX0 35 yX1_copyFrom, Cond.instanceMethod yX1_copyFrom, Cond.selects RX1 yX1_copyFrom yX1_copyFrom, Cond.code yX1_copyFrom cX1_copyFrom 2 none, Cond.methodLink RX1 18 arraycopyName, Cond.fieldLink RX1 15 "PegClerks$Drum" "stampings" "[I", Cond.fieldLink RX1 24 "PegClerks$Drum" "at" "I", Cond.fieldLink RX1 28 "PegClerks$Drum" "fallenOut" "I"]
def wsL_isWell_r7 : List Cond := [Cond.methodLink RX0 39 yX4_copyFrom, Cond.instanceMethod yX4_copyFrom, Cond.selects RX4 yX4_copyFrom yX4_copyFrom, Cond.code yX4_copyFrom cX4_copyFrom 2 none, Cond.fieldLink RX4 9 "PegClerks$Stamps" "inks" "[I", Cond.methodLink RX4 24 arraycopyName, Cond.fieldLink RX4 18 "PegClerks$Stamps" "dryFalls" "[I", Cond.fieldLink RX4 21 "PegClerks$Stamps" "spoilings" "[I", Cond.methodLink RX5 100 yX0_makeSteps, Cond.instanceMethod yX0_makeSteps, Cond.selects RX0 yX0_makeSteps yX0_makeSteps, Cond.code yX0_makeSteps cX0_makeSteps 3 (some .int), Cond.methodLink RX0 78 yX0_makeOneStep, Cond.instanceMethod yX0_makeOneStep, Cond.selects RX0 yX0_makeOneStep yX0_makeOneStep, Cond.code yX0_makeOneStep cX0_makeOneStep 1 (some .boolean), Cond.fieldLink RX0 82 "PegClerks$Drum" "at" "I", Cond.fieldLink RX0 89 "PegClerks$Drum" "rows" "[I", Cond.methodLink RX0 85 yX0_wouldJamAt, Cond.methodLink RX0 92 yX0_letStampsFall, Cond.instanceMethod yX0_letStampsFall, Cond.selects RX0 yX0_letStampsFall yX0_letStampsFall, Cond.code yX0_letStampsFall cX0_letStampsFall 3 none, Cond.methodLink RX0 102 yX0_letStampFall]
def wsL_isWell_r8 : List Cond := [Cond.instanceMethod yX0_letStampFall, Cond.selects RX0 yX0_letStampFall yX0_letStampFall, Cond.code yX0_letStampFall cX0_letStampFall 2 none, Cond.fieldLink RX0 109 "PegClerks$Stamps" "spoilings" "[I", Cond.methodLink RX0 112 yX4_leavesMark, Cond.instanceMethod yX4_leavesMark, Cond.selects RX4 yX4_leavesMark yX4_leavesMark, Cond.code yX4_leavesMark cX4_leavesMark 3 (some .boolean), Cond.methodLink RX0 105 yX1_wearPeg, Cond.instanceMethod yX1_wearPeg, Cond.selects RX1 yX1_wearPeg yX1_wearPeg, Cond.code yX1_wearPeg cX1_wearPeg 5 none, Cond.methodLink RX0 96 yX1_goOn, Cond.instanceMethod yX1_goOn, Cond.selects RX1 yX1_goOn yX1_goOn, Cond.code yX1_goOn cX1_goOn 1 none, Cond.methodLink RX1 31 yX1_rowBehind, Cond.methodLink RX0 99 yX0_finishForm, Cond.instanceMethod yX0_finishForm, Cond.selects RX0 yX0_finishForm yX0_finishForm, Cond.code yX0_finishForm cX0_finishForm 1 none, Cond.methodLink RX0 116 yX0_layForm, Cond.instanceMethod yX0_layForm, Cond.selects RX0 yX0_layForm yX0_layForm]
def wsL_isWell_r9 : List Cond := [Cond.code yX0_layForm cX0_layForm 1 none]
def wsL_isWell : List Cond := .code yL_isWell cL_isWell 9 (some .boolean) :: ((wsL_isWell_r1 ++ (wsL_isWell_r2 ++ (wsL_isWell_r3 ++ (wsL_isWell_r4 ++ (wsL_isWell_r5 ++ (wsL_isWell_r6 ++ (wsL_isWell_r7 ++ (wsL_isWell_r8 ++ wsL_isWell_r9)))))))) ++ wsX50 ++ wsX00 ++ wsX10 ++ wsX30 ++ wsX20 ++ wsX40)
def wsL_law_r1 : List Cond := [Cond.classLink RL 10 RX5, Cond.instantiable RX5 6, Cond.initialized RX5, Cond.methodLink RL 93 yX5_init, Cond.instanceMethod yX5_init, Cond.code yX5_init cX5_init 1 none, Cond.methodLink RX5 1 objectInit, Cond.instanceMethod objectInit, Cond.code objectInit ⟨#[0xb1]⟩ 1 none, Cond.classLink RX5 7 RX0, Cond.instantiable RX0 13, Cond.initialized RX0, Cond.fieldLink RX5 10 "PegClerks" "clerk" "LPegClerks$Clerk;", Cond.fieldLink RX5 16 "PegClerks" "trial" "LPegClerks$Clerk;", Cond.classLink RX5 19 RX2, Cond.instantiable RX2 3, Cond.initialized RX2, Cond.fieldLink RX5 22 "PegClerks" "history" "LPegClerks$History;", Cond.classLink RX5 26 RX3, Cond.instantiable RX3 2, Cond.initialized RX3, Cond.fieldLink RX5 29 "PegClerks" "pad" "LPegClerks$Pad;", Cond.fieldLink RX5 33 "PegClerks" "slots" "[LPegClerks$Clerk;", Cond.arrayClass .boolean]
def wsL_law_r2 : List Cond := [Cond.fieldLink RX5 37 "PegClerks" "saved" "[Z", Cond.instanceMethod yX0_init, Cond.code yX0_init cX0_init 1 none, Cond.methodLink RX0 3 objectInit, Cond.arrayClass .int, Cond.fieldLink RX0 9 "PegClerks$Clerk" "settings" "[I", Cond.classLink RX0 15 RX1, Cond.instantiable RX1 4, Cond.initialized RX1, Cond.fieldLink RX0 18 "PegClerks$Clerk" "drum" "LPegClerks$Drum;", Cond.classLink RX0 22 RX4, Cond.instantiable RX4 4, Cond.initialized RX4, Cond.fieldLink RX0 25 "PegClerks$Clerk" "stamps" "LPegClerks$Stamps;", Cond.instanceMethod yX1_init, Cond.code yX1_init cX1_init 1 none, Cond.methodLink RX1 3 objectInit, Cond.fieldLink RX1 9 "PegClerks$Drum" "rows" "[I", Cond.fieldLink RX1 15 "PegClerks$Drum" "stampings" "[I", Cond.instanceMethod yX4_init, Cond.code yX4_init cX4_init 1 none, Cond.methodLink RX4 3 objectInit, Cond.fieldLink RX4 9 "PegClerks$Stamps" "inks" "[I", Cond.fieldLink RX4 15 "PegClerks$Stamps" "marks" "[I"]
def wsL_law_r3 : List Cond := [Cond.fieldLink RX4 18 "PegClerks$Stamps" "dryFalls" "[I", Cond.fieldLink RX4 21 "PegClerks$Stamps" "spoilings" "[I", Cond.instanceMethod yX2_init, Cond.code yX2_init cX2_init 1 none, Cond.methodLink RX2 1 objectInit, Cond.classLink RX2 7 RX0, Cond.fieldLink RX2 10 "PegClerks$History" "states" "[LPegClerks$Clerk;", Cond.instanceMethod yX3_init, Cond.code yX3_init cX3_init 1 none, Cond.methodLink RX3 3 objectInit, Cond.arrayClass .char, Cond.fieldLink RX3 11 "PegClerks$Pad" "signs" "[C", Cond.methodLink RL 94 yL_cell, Cond.static yL_cell, Cond.initialized RL, Cond.code yL_cell cL_cell 2 (some .int), Cond.constant RL 7 (2144462291), Cond.methodLink RL 98 yL_isStep, Cond.static yL_isStep, Cond.code yL_isStep cL_isStep 12 (some .boolean), Cond.methodLink RL 15 yL_up, Cond.static yL_up, Cond.code yL_up cL_up 2 (some .int), Cond.constant RL 8 (2147483647)]
def wsL_law_r4 : List Cond := [Cond.methodLink RL 38 yX5_count, Cond.instanceMethod yX5_count, Cond.selects RX5 yX5_count yX5_count, Cond.code yX5_count cX5_count 2 (some .int), Cond.fieldLink RX5 52 "PegClerks$Clerk" "settings" "[I", Cond.fieldLink RX5 62 "PegClerks$Clerk" "drum" "LPegClerks$Drum;", Cond.fieldLink RX5 103 "PegClerks$Drum" "at" "I", Cond.fieldLink RX5 92 "PegClerks$Clerk" "jammed" "Z", Cond.fieldLink RX5 79 "PegClerks$Clerk" "order" "I", Cond.fieldLink RX5 109 "PegClerks$Clerk" "formStamps" "I", Cond.fieldLink RX5 161 "PegClerks$Clerk" "formSpoiled" "Z", Cond.fieldLink RX5 164 "PegClerks$Clerk" "formSteps" "I", Cond.fieldLink RX5 96 "PegClerks$Clerk" "steps" "I", Cond.fieldLink RX5 167 "PegClerks$Clerk" "rightForms" "I", Cond.fieldLink RX5 170 "PegClerks$Clerk" "wrongForms" "I", Cond.fieldLink RX5 173 "PegClerks$Clerk" "spoiledForms" "I", Cond.fieldLink RX5 176 "PegClerks$Clerk" "jams" "I", Cond.fieldLink RX5 179 "PegClerks$Drum" "fallenOut" "I", Cond.fieldLink RX5 83 "PegClerks$Clerk" "stamps" "LPegClerks$Stamps;", Cond.fieldLink RX5 185 "PegClerks$Pad" "length" "I", Cond.fieldLink RX5 188 "PegClerks$History" "kept" "I", Cond.methodLink RX5 132 yX5_asNumber, Cond.static yX5_asNumber, Cond.code yX5_asNumber cX5_asNumber 1 (some .int)]
def wsL_law_r5 : List Cond := [Cond.methodLink RX5 126 yX1_allPegs, Cond.instanceMethod yX1_allPegs, Cond.selects RX1 yX1_allPegs yX1_allPegs, Cond.code yX1_allPegs cX1_allPegs 3 (some .int), Cond.methodLink RX1 44 yX1_pegsInRow, Cond.instanceMethod yX1_pegsInRow, Cond.selects RX1 yX1_pegsInRow yX1_pegsInRow, Cond.code yX1_pegsInRow cX1_pegsInRow 2 (some .int), Cond.methodLink RX1 35 yJ6_bitCount_0f7a4, Cond.static yJ6_bitCount_0f7a4, Cond.initialized RJ6, Cond.code yJ6_bitCount_0f7a4 cJ6_bitCount_0f7a4 1 (some .int), Cond.constant RJ6 265 (1431655765), Cond.constant RJ6 266 (858993459), Cond.constant RJ6 267 (252645135), Cond.methodLink RX5 182 yX4_allMarks, Cond.instanceMethod yX4_allMarks, Cond.selects RX4 yX4_allMarks yX4_allMarks, Cond.code yX4_allMarks cX4_allMarks 3 (some .int), Cond.methodLink RL 41 yX5_set, Cond.instanceMethod yX5_set, Cond.selects RX5 yX5_set yX5_set, Cond.code yX5_set cX5_set 4 (some .int), Cond.fieldLink RX5 41 "PegClerks" "LEAST" "[I"]
def wsL_law_r6 : List Cond := [Cond.fieldLink RX5 45 "PegClerks" "MOST" "[I", Cond.methodLink RX5 48 yX2_keep, Cond.instanceMethod yX2_keep, Cond.selects RX2 yX2_keep yX2_keep, Cond.code yX2_keep cX2_keep 2 none, Cond.fieldLink RX2 16 "PegClerks$History" "next" "I", Cond.fieldLink RX2 24 "PegClerks$History" "kept" "I", Cond.methodLink RX2 27 Lib.Math.min.name, Cond.static Lib.Math.min.name, Cond.initialized "java/lang/Math", Cond.code Lib.Math.min.name Lib.Math.min.code 2 (some .int), Cond.methodLink RX2 20 yX0_copyFrom, Cond.instanceMethod yX0_copyFrom, Cond.selects RX0 yX0_copyFrom yX0_copyFrom, Cond.code yX0_copyFrom cX0_copyFrom 2 none, Cond.methodLink RX0 29 arraycopyName, Cond.native arraycopyName, Cond.static arraycopyName, Cond.initialized "java/lang/System", Cond.fieldLink RX0 42 "PegClerks$Clerk" "jammed" "Z", Cond.fieldLink RX0 46 "PegClerks$Clerk" "order" "I", Cond.fieldLink RX0 50 "PegClerks$Clerk" "formStamps" "I", Cond.fieldLink RX0 53 "PegClerks$Clerk" "formSpoiled" "Z", Cond.fieldLink RX0 56 "PegClerks$Clerk" "formSteps" "I"]
def wsL_law_r7 : List Cond := [Cond.fieldLink RX0 59 "PegClerks$Clerk" "steps" "I", Cond.fieldLink RX0 62 "PegClerks$Clerk" "rightForms" "I", Cond.fieldLink RX0 65 "PegClerks$Clerk" "wrongForms" "I", Cond.fieldLink RX0 68 "PegClerks$Clerk" "spoiledForms" "I", Cond.fieldLink RX0 71 "PegClerks$Clerk" "jams" "I", Cond.methodLink RX0 35 yX1_copyFrom, Cond.instanceMethod yX1_copyFrom, Cond.selects RX1 yX1_copyFrom yX1_copyFrom, Cond.code yX1_copyFrom cX1_copyFrom 2 none, Cond.methodLink RX1 18 arraycopyName, Cond.fieldLink RX1 24 "PegClerks$Drum" "at" "I", Cond.fieldLink RX1 28 "PegClerks$Drum" "fallenOut" "I", Cond.methodLink RX0 39 yX4_copyFrom, Cond.instanceMethod yX4_copyFrom, Cond.selects RX4 yX4_copyFrom yX4_copyFrom, Cond.code yX4_copyFrom cX4_copyFrom 2 none, Cond.methodLink RX4 24 arraycopyName, Cond.methodLink RL 44 yX5_order, Cond.instanceMethod yX5_order, Cond.selects RX5 yX5_order yX5_order, Cond.code yX5_order cX5_order 3 (some .int), Cond.methodLink RL 31 yL_turned, Cond.static yL_turned, Cond.code yL_turned cL_turned 3 (some .int)]
def wsL_law_r8 : List Cond := [Cond.methodLink RL 47 yX5_stamp, Cond.instanceMethod yX5_stamp, Cond.selects RX5 yX5_stamp yX5_stamp, Cond.code yX5_stamp cX5_stamp 3 (some .int), Cond.fieldLink RX5 87 "PegClerks$Stamps" "inks" "[I", Cond.fieldLink RX5 149 "PegClerks$Stamps" "marks" "[I", Cond.fieldLink RX5 152 "PegClerks$Stamps" "dryFalls" "[I", Cond.fieldLink RX5 158 "PegClerks$Stamps" "spoilings" "[I", Cond.methodLink RX5 59 yX5_isPlace, Cond.static yX5_isPlace, Cond.code yX5_isPlace cX5_isPlace 1 (some .boolean), Cond.methodLink RX5 155 yX1_pegsAtPlace, Cond.instanceMethod yX1_pegsAtPlace, Cond.selects RX1 yX1_pegsAtPlace yX1_pegsAtPlace, Cond.code yX1_pegsAtPlace cX1_pegsAtPlace 4 (some .int), Cond.methodLink RX1 40 yX1_hasPeg, Cond.instanceMethod yX1_hasPeg, Cond.selects RX1 yX1_hasPeg yX1_hasPeg, Cond.code yX1_hasPeg cX1_hasPeg 3 (some .boolean), Cond.methodLink RL 50 yX5_ink, Cond.instanceMethod yX5_ink, Cond.selects RX5 yX5_ink yX5_ink, Cond.code yX5_ink cX5_ink 3 (some .int), Cond.methodLink RL 53 yX5_free]
def wsL_law_r9 : List Cond := [Cond.instanceMethod yX5_free, Cond.selects RX5 yX5_free yX5_free, Cond.code yX5_free cX5_free 2 (some .int), Cond.methodLink RX5 106 yX1_goOn, Cond.instanceMethod yX1_goOn, Cond.selects RX1 yX1_goOn yX1_goOn, Cond.code yX1_goOn cX1_goOn 1 none, Cond.methodLink RX1 31 yX1_rowBehind, Cond.static yX1_rowBehind, Cond.code yX1_rowBehind cX1_rowBehind 1 (some .int), Cond.methodLink RL 56 yX5_newForm, Cond.instanceMethod yX5_newForm, Cond.selects RX5 yX5_newForm yX5_newForm, Cond.code yX5_newForm cX5_newForm 2 (some .int), Cond.methodLink RX5 112 yX0_layForm, Cond.instanceMethod yX0_layForm, Cond.selects RX0 yX0_layForm yX0_layForm, Cond.code yX0_layForm cX0_layForm 1 none, Cond.methodLink RL 59 yX5_save, Cond.instanceMethod yX5_save, Cond.selects RX5 yX5_save yX5_save, Cond.code yX5_save cX5_save 2 (some .int), Cond.methodLink RX5 191 yX0_copyFrom, Cond.methodLink RL 62 yX5_restore]
def wsL_law_r10 : List Cond := [Cond.instanceMethod yX5_restore, Cond.selects RX5 yX5_restore yX5_restore, Cond.code yX5_restore cX5_restore 2 (some .int), Cond.methodLink RL 65 yL_isRead, Cond.static yL_isRead, Cond.code yL_isRead cL_isRead 11 (some .boolean), Cond.constantLong RL 21 (59), Cond.constantLong RL 27 (49), Cond.constantLong RL 29 (58), Cond.methodLink RL 9 yX5_wipe, Cond.instanceMethod yX5_wipe, Cond.selects RX5 yX5_wipe yX5_wipe, Cond.code yX5_wipe cX5_wipe 2 (some .int), Cond.methodLink RX5 123 yX3_empty, Cond.instanceMethod yX3_empty, Cond.selects RX3 yX3_empty yX3_empty, Cond.code yX3_empty cX3_empty 1 none, Cond.fieldLink RX3 17 "PegClerks$Pad" "length" "I", Cond.methodLink RL 23 yX5_put, Cond.instanceMethod yX5_put, Cond.selects RX5 yX5_put yX5_put, Cond.code yX5_put cX5_put 4 (some .int), Cond.methodLink RX5 206 yX3_charactersIn, Cond.static yX3_charactersIn]
def wsL_law_r11 : List Cond := [Cond.code yX3_charactersIn cX3_charactersIn 6 (some .int), Cond.constantLong RX3 15 (255), Cond.methodLink RX5 210 yX3_append, Cond.instanceMethod yX3_append, Cond.selects RX3 yX3_append yX3_append, Cond.code yX3_append cX3_append 5 none, Cond.methodLink RL 35 yX5_read, Cond.instanceMethod yX5_read, Cond.selects RX5 yX5_read yX5_read, Cond.code yX5_read cX5_read 1 (some .int), Cond.methodLink RX5 115 yX3_firstFault, Cond.instanceMethod yX3_firstFault, Cond.selects RX3 yX3_firstFault yX3_firstFault, Cond.code yX3_firstFault cX3_firstFault 3 (some .int), Cond.methodLink RX3 21 yX3_dueBehind, Cond.static yX3_dueBehind, Cond.code yX3_dueBehind cX3_dueBehind 2 (some .int), Cond.methodLink RX3 25 yX3_dueBehindPlaces, Cond.static yX3_dueBehindPlaces, Cond.code yX3_dueBehindPlaces cX3_dueBehindPlaces 3 (some .int), Cond.methodLink RX5 119 yX3_changeRows, Cond.instanceMethod yX3_changeRows, Cond.selects RX3 yX3_changeRows yX3_changeRows, Cond.code yX3_changeRows cX3_changeRows 6 none]
def wsL_law_r12 : List Cond := [Cond.static yX5_isRow, Cond.code yX5_isRow cX5_isRow 1 (some .boolean), Cond.methodLink RX3 35 yX1_giveRow, Cond.instanceMethod yX1_giveRow, Cond.selects RX1 yX1_giveRow yX1_giveRow, Cond.code yX1_giveRow cX1_giveRow 4 none, Cond.methodLink RL 69 yX5_step, Cond.instanceMethod yX5_step, Cond.selects RX5 yX5_step yX5_step, Cond.code yX5_step cX5_step 2 (some .int), Cond.constant RX5 99 (99999), Cond.methodLink RX5 100 yX0_makeSteps, Cond.instanceMethod yX0_makeSteps, Cond.selects RX0 yX0_makeSteps yX0_makeSteps, Cond.code yX0_makeSteps cX0_makeSteps 3 (some .int), Cond.methodLink RX0 78 yX0_makeOneStep, Cond.instanceMethod yX0_makeOneStep, Cond.selects RX0 yX0_makeOneStep yX0_makeOneStep, Cond.code yX0_makeOneStep cX0_makeOneStep 1 (some .boolean), Cond.fieldLink RX0 82 "PegClerks$Drum" "at" "I", Cond.fieldLink RX0 89 "PegClerks$Drum" "rows" "[I", Cond.methodLink RX0 85 yX0_wouldJamAt, Cond.instanceMethod yX0_wouldJamAt, Cond.selects RX0 yX0_wouldJamAt yX0_wouldJamAt]
def wsL_law_r13 : List Cond := [Cond.code yX0_wouldJamAt cX0_wouldJamAt 2 (some .boolean), Cond.methodLink RX0 74 yX1_pegsInRow, Cond.methodLink RX0 92 yX0_letStampsFall, Cond.instanceMethod yX0_letStampsFall, Cond.selects RX0 yX0_letStampsFall yX0_letStampsFall, Cond.code yX0_letStampsFall cX0_letStampsFall 3 none, Cond.methodLink RX0 102 yX0_letStampFall, Cond.instanceMethod yX0_letStampFall, Cond.selects RX0 yX0_letStampFall yX0_letStampFall, Cond.code yX0_letStampFall cX0_letStampFall 2 none, Cond.fieldLink RX0 109 "PegClerks$Stamps" "spoilings" "[I", Cond.methodLink RX0 112 yX4_leavesMark, Cond.instanceMethod yX4_leavesMark, Cond.selects RX4 yX4_leavesMark yX4_leavesMark, Cond.code yX4_leavesMark cX4_leavesMark 3 (some .boolean), Cond.methodLink RX0 105 yX1_wearPeg, Cond.instanceMethod yX1_wearPeg, Cond.selects RX1 yX1_wearPeg yX1_wearPeg, Cond.code yX1_wearPeg cX1_wearPeg 5 none, Cond.methodLink RX0 96 yX1_goOn, Cond.methodLink RX0 99 yX0_finishForm, Cond.instanceMethod yX0_finishForm, Cond.selects RX0 yX0_finishForm yX0_finishForm, Cond.code yX0_finishForm cX0_finishForm 1 none]
def wsL_law_r14 : List Cond := [Cond.methodLink RX0 116 yX0_layForm, Cond.methodLink RL 72 yX5_stamped, Cond.instanceMethod yX5_stamped, Cond.selects RX5 yX5_stamped yX5_stamped, Cond.code yX5_stamped cX5_stamped 3 (some .int), Cond.fieldLink RX5 146 "PegClerks$Drum" "stampings" "[I", Cond.methodLink RX5 55 yX5_isRow, Cond.methodLink RX5 142 yX1_hasPeg, Cond.methodLink RL 75 yX5_row, Cond.instanceMethod yX5_row, Cond.selects RX5 yX5_row yX5_row, Cond.code yX5_row cX5_row 3 (some .int), Cond.fieldLink RX5 66 "PegClerks$Drum" "rows" "[I", Cond.methodLink RX5 75 yX1_pegsInRow, Cond.methodLink RX5 129 yX0_wouldJamAt, Cond.methodLink RX5 136 yJ9_floorMod_7cf53, Cond.static yJ9_floorMod_7cf53, Cond.initialized RJ9, Cond.code yJ9_floorMod_7cf53 cJ9_floorMod_7cf53 3 (some .int), Cond.methodLink RL 78 yX5_peg, Cond.instanceMethod yX5_peg, Cond.selects RX5 yX5_peg yX5_peg, Cond.code yX5_peg cX5_peg 3 (some .int), Cond.methodLink RX5 71 yX1_giveRow]
def wsL_law_r15 : List Cond := [Cond.methodLink RL 101 yL_isWell, Cond.static yL_isWell, Cond.code yL_isWell cL_isWell 9 (some .boolean), Cond.methodLink RL 84 yX5_nextStamps, Cond.instanceMethod yX5_nextStamps, Cond.selects RX5 yX5_nextStamps yX5_nextStamps, Cond.code yX5_nextStamps cX5_nextStamps 2 (some .int), Cond.methodLink RX5 200 yX5_nextStampsByStep, Cond.instanceMethod yX5_nextStampsByStep, Cond.selects RX5 yX5_nextStampsByStep yX5_nextStampsByStep, Cond.code yX5_nextStampsByStep cX5_nextStampsByStep 5 (some .int), Cond.methodLink RX5 217 yX1_rowBehind, Cond.methodLink RX5 203 yX5_nextStampsByPegs, Cond.instanceMethod yX5_nextStampsByPegs, Cond.selects RX5 yX5_nextStampsByPegs yX5_nextStampsByPegs, Cond.code yX5_nextStampsByPegs cX5_nextStampsByPegs 3 (some .int), Cond.methodLink RL 81 yX5_untilJam, Cond.instanceMethod yX5_untilJam, Cond.selects RX5 yX5_untilJam yX5_untilJam, Cond.code yX5_untilJam cX5_untilJam 2 (some .int), Cond.methodLink RL 105 yL_areAlike, Cond.static yL_areAlike, Cond.code yL_areAlike cL_areAlike 7 (some .boolean), Cond.methodLink RL 87 yX5_ifStepped]
def wsL_law_r16 : List Cond := [Cond.instanceMethod yX5_ifStepped, Cond.selects RX5 yX5_ifStepped yX5_ifStepped, Cond.code yX5_ifStepped cX5_ifStepped 4 (some .int), Cond.methodLink RL 90 yX5_bestOut, Cond.instanceMethod yX5_bestOut, Cond.selects RX5 yX5_bestOut yX5_bestOut, Cond.code yX5_bestOut cX5_bestOut 6 (some .int), Cond.methodLink RX5 194 yX5_ifStepped, Cond.methodLink RX5 197 yX5_rightWithRow, Cond.instanceMethod yX5_rightWithRow, Cond.selects RX5 yX5_rightWithRow yX5_rightWithRow, Cond.code yX5_rightWithRow cX5_rightWithRow 3 (some .int)]
def wsL_law : List Cond := (wsL_law_r1 ++ (wsL_law_r2 ++ (wsL_law_r3 ++ (wsL_law_r4 ++ (wsL_law_r5 ++ (wsL_law_r6 ++ (wsL_law_r7 ++ (wsL_law_r8 ++ (wsL_law_r9 ++ (wsL_law_r10 ++ (wsL_law_r11 ++ (wsL_law_r12 ++ (wsL_law_r13 ++ (wsL_law_r14 ++ (wsL_law_r15 ++ wsL_law_r16))))))))))))))) ++ wsX50 ++ wsX00 ++ wsX20 ++ wsX30 ++ wsX10 ++ wsX40 ++ ([] : List Cond)
end
section
theorem zin_r {big : List Cond} (ws : List Cond) (ps : List Nat) (hp : ws = ps.filterMap (fun i => big[i]?)) : ∀ w ∈ ws, w ∈ big := by
  intro w hw
  rw [hp] at hw
  obtain ⟨i, -, hi⟩ := List.mem_filterMap.mp hw
  first | exact List.mem_of_getElem? hi | exact List.getElem?_mem hi
theorem zin_a {big a b : List Cond} (ha : ∀ w ∈ a, w ∈ big) (hb : ∀ w ∈ b, w ∈ big) : ∀ w ∈ a ++ b, w ∈ big := fun w h => (List.mem_append.mp h).elim (ha w) (hb w)
theorem zin_n {big : List Cond} : ∀ w ∈ ([] : List Cond), w ∈ big := fun w h => absurd h List.not_mem_nil
set_option maxRecDepth 20000 in
theorem zi_wsL_law_r1 : ∀ w ∈ wsL_law_r1, w ∈ lw_tbl := zin_r _ [13, 14, 4, 15, 16, 17, 18, 19, 20, 21, 22, 5, 165, 166, 130, 131, 8, 167, 150, 151, 9, 168, 169, 184] (by decide +kernel)
set_option maxRecDepth 20000 in
theorem zi_wsL_law_r2 : ∀ w ∈ wsL_law_r2, w ∈ lw_tbl := zin_r _ [170, 24, 25, 26, 52, 77, 27, 28, 6, 79, 53, 54, 7, 81, 30, 31, 32, 33, 36, 56, 57, 58, 59, 61] (by decide +kernel)
set_option maxRecDepth 20000 in
theorem zi_wsL_law_r3 : ∀ w ∈ wsL_law_r3, w ∈ lw_tbl := zin_r _ [63, 65, 133, 134, 135, 136, 139, 153, 154, 155, 164, 156, 185, 186, 3, 187, 188, 189, 190, 191, 192, 193, 194, 195] rfl
set_option maxRecDepth 20000 in
theorem zi_wsL_law_r4 : ∀ w ∈ wsL_law_r4, w ∈ lw_tbl := zin_r _ [196, 197, 198, 199, 78, 80, 40, 84, 86, 88, 90, 92, 94, 96, 98, 100, 102, 42, 82, 158, 142, 200, 201, 202] (by decide +kernel)
set_option maxRecDepth 20000 in
theorem zi_wsL_law_r5 : ∀ w ∈ wsL_law_r5, w ∈ lw_tbl := zin_r _ [203, 204, 205, 206, 207, 208, 209, 210, 211, 212, 10, 213, 214, 215, 216, 217, 218, 219, 220, 221, 222, 223, 224, 225] (by decide +kernel)
set_option maxRecDepth 20000 in
theorem zi_wsL_law_r6 : ∀ w ∈ wsL_law_r6, w ∈ lw_tbl := zin_r _ [227, 229, 230, 231, 232, 140, 141, 250, 251, 12, 252, 233, 234, 235, 236, 237, 239, 238, 11, 83, 85, 87, 89, 91] (by decide +kernel)
set_option maxRecDepth 20000 in
theorem zi_wsL_law_r7 : ∀ w ∈ wsL_law_r7, w ∈ lw_tbl := zin_r _ [93, 95, 97, 99, 101, 240, 241, 242, 243, 244, 38, 41, 245, 246, 247, 248, 249, 253, 254, 255, 256, 257, 258, 259] (by decide +kernel)
set_option maxRecDepth 20000 in
theorem zi_wsL_law_r8 : ∀ w ∈ wsL_law_r8, w ∈ lw_tbl := zin_r _ [260, 261, 262, 263, 60, 62, 64, 67, 264, 265, 266, 267, 268, 269, 270, 271, 272, 273, 274, 275, 276, 277, 278, 279] (by decide +kernel)
set_option maxRecDepth 20000 in
theorem zi_wsL_law_r9 : ∀ w ∈ wsL_law_r9, w ∈ lw_tbl := zin_r _ [280, 281, 282, 283, 284, 285, 286, 287, 288, 289, 290, 291, 292, 293, 294, 295, 296, 297, 298, 299, 300, 301, 302, 303] (by decide +kernel)
set_option maxRecDepth 20000 in
theorem zi_wsL_law_r10 : ∀ w ∈ wsL_law_r10, w ∈ lw_tbl := zin_r _ [304, 305, 306, 307, 308, 309, 318, 331, 332, 310, 311, 312, 313, 314, 315, 316, 317, 157, 319, 320, 321, 322, 323, 324] (by decide +kernel)
set_option maxRecDepth 20000 in
theorem zi_wsL_law_r11 : ∀ w ∈ wsL_law_r11, w ∈ lw_tbl := zin_r _ [325, 326, 327, 328, 329, 330, 333, 334, 335, 336, 337, 338, 339, 340, 341, 342, 343, 344, 345, 346, 348, 349, 350, 351] (by decide +kernel)
set_option maxRecDepth 20000 in
theorem zi_wsL_law_r12 : ∀ w ∈ wsL_law_r12, w ∈ lw_tbl := zin_r _ [353, 354, 355, 356, 357, 358, 359, 360, 361, 362, 363, 364, 365, 366, 367, 368, 369, 370, 371, 39, 35, 372, 373, 374] (by decide +kernel)
set_option maxRecDepth 20000 in
theorem zi_wsL_law_r13 : ∀ w ∈ wsL_law_r13, w ∈ lw_tbl := zin_r _ [375, 376, 377, 378, 379, 380, 381, 382, 383, 384, 66, 385, 386, 387, 388, 389, 390, 391, 392, 393, 394, 395, 396, 397] (by decide +kernel)
set_option maxRecDepth 20000 in
theorem zi_wsL_law_r14 : ∀ w ∈ wsL_law_r14, w ∈ lw_tbl := zin_r _ [398, 399, 400, 401, 402, 37, 403, 404, 405, 406, 407, 408, 34, 409, 410, 411, 412, 12, 413, 414, 415, 416, 417, 418] (by decide +kernel)
set_option maxRecDepth 20000 in
theorem zi_wsL_law_r15 : ∀ w ∈ wsL_law_r15, w ∈ lw_tbl := zin_r _ [452, 453, 454, 426, 427, 428, 429, 430, 432, 0, 433, 434, 435, 437, 1, 438, 422, 423, 424, 425, 419, 420, 421, 439] rfl
set_option maxRecDepth 20000 in
theorem zi_wsL_law_r16 : ∀ w ∈ wsL_law_r16, w ∈ lw_tbl := zin_r _ [440, 441, 442, 443, 444, 445, 446, 447, 448, 450, 2, 451] (by decide +kernel)
set_option maxRecDepth 20000 in
theorem zi_wsX00 : ∀ w ∈ wsX00, w ∈ lw_tbl := zin_r _ [103, 105, 107, 109, 111, 113, 115, 117, 119, 121, 123, 125, 127] (by decide +kernel)
set_option maxRecDepth 20000 in
theorem zi_wsX10 : ∀ w ∈ wsX10, w ∈ lw_tbl := zin_r _ [43, 45, 47, 49] (by decide +kernel)
set_option maxRecDepth 20000 in
theorem zi_wsX20 : ∀ w ∈ wsX20, w ∈ lw_tbl := zin_r _ [143, 145, 147] (by decide +kernel)
set_option maxRecDepth 20000 in
theorem zi_wsX30 : ∀ w ∈ wsX30, w ∈ lw_tbl := zin_r _ [159, 161] (by decide +kernel)
set_option maxRecDepth 20000 in
theorem zi_wsX40 : ∀ w ∈ wsX40, w ∈ lw_tbl := zin_r _ [68, 70, 72, 74] (by decide +kernel)
set_option maxRecDepth 20000 in
theorem zi_wsX50 : ∀ w ∈ wsX50, w ∈ lw_tbl := zin_r _ [171, 173, 175, 177, 179, 181] (by decide +kernel)
set_option maxRecDepth 20000 in
theorem zi_wsX60 : ∀ w ∈ wsX60, w ∈ lw_tbl := zin_r _ [] (by decide +kernel)
theorem wsL_law_in : ∀ w ∈ wsL_law, w ∈ lw_tbl := (zin_a (zin_a (zin_a (zin_a (zin_a (zin_a (zin_a (zin_a zi_wsL_law_r1 (zin_a zi_wsL_law_r2 (zin_a zi_wsL_law_r3 (zin_a zi_wsL_law_r4 (zin_a zi_wsL_law_r5 (zin_a zi_wsL_law_r6 (zin_a zi_wsL_law_r7 (zin_a zi_wsL_law_r8 (zin_a zi_wsL_law_r9 (zin_a zi_wsL_law_r10 (zin_a zi_wsL_law_r11 (zin_a zi_wsL_law_r12 (zin_a zi_wsL_law_r13 (zin_a zi_wsL_law_r14 (zin_a zi_wsL_law_r15 zi_wsL_law_r16))))))))))))))) zi_wsX50) zi_wsX00) zi_wsX20) zi_wsX30) zi_wsX10) zi_wsX40) zin_n)
theorem inlX0 : ∀ w ∈ wsX00, w ∈ wsL_law := fun _ h => List.mem_append_left _ (List.mem_append_left _ (List.mem_append_left _ (List.mem_append_left _ (List.mem_append_left _ (List.mem_append_right _ h)))))
theorem inX0 : ∀ w ∈ wsX00, w ∈ lw_tbl := fun w h => wsL_law_in w (inlX0 w h)
theorem inlX1 : ∀ w ∈ wsX10, w ∈ wsL_law := fun _ h => List.mem_append_left _ (List.mem_append_left _ (List.mem_append_right _ h))
theorem inX1 : ∀ w ∈ wsX10, w ∈ lw_tbl := fun w h => wsL_law_in w (inlX1 w h)
theorem inlX2 : ∀ w ∈ wsX20, w ∈ wsL_law := fun _ h => List.mem_append_left _ (List.mem_append_left _ (List.mem_append_left _ (List.mem_append_left _ (List.mem_append_right _ h))))
theorem inX2 : ∀ w ∈ wsX20, w ∈ lw_tbl := fun w h => wsL_law_in w (inlX2 w h)
theorem inlX3 : ∀ w ∈ wsX30, w ∈ wsL_law := fun _ h => List.mem_append_left _ (List.mem_append_left _ (List.mem_append_left _ (List.mem_append_right _ h)))
theorem inX3 : ∀ w ∈ wsX30, w ∈ lw_tbl := fun w h => wsL_law_in w (inlX3 w h)
theorem inlX4 : ∀ w ∈ wsX40, w ∈ wsL_law := fun _ h => List.mem_append_left _ (List.mem_append_right _ h)
theorem inX4 : ∀ w ∈ wsX40, w ∈ lw_tbl := fun w h => wsL_law_in w (inlX4 w h)
theorem inlX5 : ∀ w ∈ wsX50, w ∈ wsL_law := fun _ h => List.mem_append_left _ (List.mem_append_left _ (List.mem_append_left _ (List.mem_append_left _ (List.mem_append_left _ (List.mem_append_left _ (List.mem_append_right _ h))))))
theorem inX5 : ∀ w ∈ wsX50, w ∈ lw_tbl := fun w h => wsL_law_in w (inlX5 w h)
theorem inX6 : ∀ w ∈ wsX60, w ∈ lw_tbl := by decide +kernel
theorem inJ6 : ∀ w ∈ wsJ60, w ∈ lw_tbl := by decide +kernel
theorem inJ9 : ∀ w ∈ wsJ90, w ∈ lw_tbl := by decide +kernel
theorem inJ10 : ∀ w ∈ wsJ100, w ∈ lw_tbl := by decide +kernel
end
section
set_option maxRecDepth 20000 in
theorem ggX0_init_X1_init : GoodIn wsX0_init wsX1_init := goodIn_r _ [15, 16, 2, 3, 4, 17, 18, 39, 40, 41, 42] (by decide +kernel) (by decide +kernel)
set_option maxRecDepth 20000 in
theorem gX0_init_X1_init_n17 : GoodIn wsX0_init (wsX1_init) := ggX0_init_X1_init
set_option maxRecDepth 20000 in
theorem ggX0_init_X4_init : GoodIn wsX0_init wsX4_init := goodIn_r _ [20, 21, 2, 3, 4, 22, 23, 24, 25, 43, 44, 45, 46] (by decide +kernel) (by decide +kernel)
set_option maxRecDepth 20000 in
theorem gX0_init_X4_init_n24 : GoodIn wsX0_init (wsX4_init) := ggX0_init_X4_init
theorem dX0_init_0 : decode cX0_init 0 = .ok (.aload_n 0, 1) := by decide +kernel
theorem dX0_init_1 : decode cX0_init 1 = .ok (.invokespecial 3, 3) := by decide +kernel
theorem dX0_init_4 : decode cX0_init 4 = .ok (.aload_n 0, 1) := by decide +kernel
theorem dX0_init_5 : decode cX0_init 5 = .ok (.iconst 4, 1) := by decide +kernel
theorem dX0_init_6 : decode cX0_init 6 = .ok (.newarray .int, 2) := by decide +kernel
theorem dX0_init_8 : decode cX0_init 8 = .ok (.dup, 1) := by decide +kernel
theorem dX0_init_9 : decode cX0_init 9 = .ok (.iconst 0, 1) := by decide +kernel
theorem dX0_init_10 : decode cX0_init 10 = .ok (.iconst 4, 1) := by decide +kernel
theorem dX0_init_11 : decode cX0_init 11 = .ok (.iastore, 1) := by decide +kernel
theorem dX0_init_12 : decode cX0_init 12 = .ok (.dup, 1) := by decide +kernel
theorem dX0_init_13 : decode cX0_init 13 = .ok (.iconst 1, 1) := by decide +kernel
theorem dX0_init_14 : decode cX0_init 14 = .ok (.iconst 1, 1) := by decide +kernel
theorem dX0_init_15 : decode cX0_init 15 = .ok (.iastore, 1) := by decide +kernel
theorem dX0_init_16 : decode cX0_init 16 = .ok (.dup, 1) := by decide +kernel
theorem dX0_init_17 : decode cX0_init 17 = .ok (.iconst 2, 1) := by decide +kernel
theorem dX0_init_18 : decode cX0_init 18 = .ok (.iconst 0, 1) := by decide +kernel
theorem dX0_init_19 : decode cX0_init 19 = .ok (.iastore, 1) := by decide +kernel
theorem dX0_init_20 : decode cX0_init 20 = .ok (.dup, 1) := by decide +kernel
theorem dX0_init_21 : decode cX0_init 21 = .ok (.iconst 3, 1) := by decide +kernel
theorem dX0_init_22 : decode cX0_init 22 = .ok (.iconst 1, 1) := by decide +kernel
theorem dX0_init_23 : decode cX0_init 23 = .ok (.iastore, 1) := by decide +kernel
theorem dX0_init_24 : decode cX0_init 24 = .ok (.putfield 9, 3) := by decide +kernel
theorem dX0_init_27 : decode cX0_init 27 = .ok (.aload_n 0, 1) := by decide +kernel
theorem dX0_init_28 : decode cX0_init 28 = .ok (.new 15, 3) := by decide +kernel
theorem dX0_init_31 : decode cX0_init 31 = .ok (.dup, 1) := by decide +kernel
theorem dX0_init_32 : decode cX0_init 32 = .ok (.invokespecial 17, 3) := by decide +kernel
theorem dX0_init_35 : decode cX0_init 35 = .ok (.putfield 18, 3) := by decide +kernel
theorem dX0_init_38 : decode cX0_init 38 = .ok (.aload_n 0, 1) := by decide +kernel
theorem dX0_init_39 : decode cX0_init 39 = .ok (.new 22, 3) := by decide +kernel
theorem dX0_init_42 : decode cX0_init 42 = .ok (.dup, 1) := by decide +kernel
theorem dX0_init_43 : decode cX0_init 43 = .ok (.invokespecial 24, 3) := by decide +kernel
theorem dX0_init_46 : decode cX0_init 46 = .ok (.putfield 25, 3) := by decide +kernel
theorem dX0_init_49 : decode cX0_init 49 = .ok (.return_, 1) := by decide +kernel
set_option maxRecDepth 20000 in
theorem ggX0_copyFrom_X1_copyFrom : GoodIn wsX0_copyFrom wsX1_copyFrom := goodIn_r _ [22, 23, 24, 3, 4, 5, 25, 26, 27, 51, 52, 53, 54] (by decide +kernel) (by decide +kernel)
set_option maxRecDepth 20000 in
theorem gX0_copyFrom_X1_copyFrom : GoodIn wsX0_copyFrom (wsV RX0 35 RX1 yX1_copyFrom wsX1_copyFrom) := goodIn_app (goodIn_of _ (by decide +kernel)) ggX0_copyFrom_X1_copyFrom
set_option maxRecDepth 20000 in
theorem ggX0_copyFrom_X4_copyFrom : GoodIn wsX0_copyFrom wsX4_copyFrom := goodIn_r _ [32, 33, 34, 3, 4, 5, 35, 36, 37, 55, 56, 57, 58] (by decide +kernel) (by decide +kernel)
set_option maxRecDepth 20000 in
theorem gX0_copyFrom_X4_copyFrom : GoodIn wsX0_copyFrom (wsV RX0 39 RX4 yX4_copyFrom wsX4_copyFrom) := goodIn_app (goodIn_of _ (by decide +kernel)) ggX0_copyFrom_X4_copyFrom
theorem dX0_copyFrom_0 : decode cX0_copyFrom 0 = .ok (.aload_n 1, 1) := by decide +kernel
theorem dX0_copyFrom_1 : decode cX0_copyFrom 1 = .ok (.getfield 9, 3) := by decide +kernel
theorem dX0_copyFrom_4 : decode cX0_copyFrom 4 = .ok (.iconst 0, 1) := by decide +kernel
theorem dX0_copyFrom_5 : decode cX0_copyFrom 5 = .ok (.aload_n 0, 1) := by decide +kernel
theorem dX0_copyFrom_6 : decode cX0_copyFrom 6 = .ok (.getfield 9, 3) := by decide +kernel
theorem dX0_copyFrom_9 : decode cX0_copyFrom 9 = .ok (.iconst 0, 1) := by decide +kernel
theorem dX0_copyFrom_10 : decode cX0_copyFrom 10 = .ok (.iconst 4, 1) := by decide +kernel
theorem dX0_copyFrom_11 : decode cX0_copyFrom 11 = .ok (.invokestatic 29, 3) := by decide +kernel
theorem dX0_copyFrom_14 : decode cX0_copyFrom 14 = .ok (.aload_n 0, 1) := by decide +kernel
theorem dX0_copyFrom_15 : decode cX0_copyFrom 15 = .ok (.getfield 18, 3) := by decide +kernel
theorem dX0_copyFrom_18 : decode cX0_copyFrom 18 = .ok (.aload_n 1, 1) := by decide +kernel
theorem dX0_copyFrom_19 : decode cX0_copyFrom 19 = .ok (.getfield 18, 3) := by decide +kernel
theorem dX0_copyFrom_22 : decode cX0_copyFrom 22 = .ok (.invokevirtual 35, 3) := by decide +kernel
theorem dX0_copyFrom_25 : decode cX0_copyFrom 25 = .ok (.aload_n 0, 1) := by decide +kernel
theorem dX0_copyFrom_26 : decode cX0_copyFrom 26 = .ok (.getfield 25, 3) := by decide +kernel
theorem dX0_copyFrom_29 : decode cX0_copyFrom 29 = .ok (.aload_n 1, 1) := by decide +kernel
theorem dX0_copyFrom_30 : decode cX0_copyFrom 30 = .ok (.getfield 25, 3) := by decide +kernel
theorem dX0_copyFrom_33 : decode cX0_copyFrom 33 = .ok (.invokevirtual 39, 3) := by decide +kernel
theorem dX0_copyFrom_36 : decode cX0_copyFrom 36 = .ok (.aload_n 0, 1) := by decide +kernel
theorem dX0_copyFrom_37 : decode cX0_copyFrom 37 = .ok (.aload_n 1, 1) := by decide +kernel
theorem dX0_copyFrom_38 : decode cX0_copyFrom 38 = .ok (.getfield 42, 3) := by decide +kernel
theorem dX0_copyFrom_41 : decode cX0_copyFrom 41 = .ok (.putfield 42, 3) := by decide +kernel
theorem dX0_copyFrom_44 : decode cX0_copyFrom 44 = .ok (.aload_n 0, 1) := by decide +kernel
theorem dX0_copyFrom_45 : decode cX0_copyFrom 45 = .ok (.aload_n 1, 1) := by decide +kernel
theorem dX0_copyFrom_46 : decode cX0_copyFrom 46 = .ok (.getfield 46, 3) := by decide +kernel
theorem dX0_copyFrom_49 : decode cX0_copyFrom 49 = .ok (.putfield 46, 3) := by decide +kernel
theorem dX0_copyFrom_52 : decode cX0_copyFrom 52 = .ok (.aload_n 0, 1) := by decide +kernel
theorem dX0_copyFrom_53 : decode cX0_copyFrom 53 = .ok (.aload_n 1, 1) := by decide +kernel
theorem dX0_copyFrom_54 : decode cX0_copyFrom 54 = .ok (.getfield 50, 3) := by decide +kernel
theorem dX0_copyFrom_57 : decode cX0_copyFrom 57 = .ok (.putfield 50, 3) := by decide +kernel
theorem dX0_copyFrom_60 : decode cX0_copyFrom 60 = .ok (.aload_n 0, 1) := by decide +kernel
theorem dX0_copyFrom_61 : decode cX0_copyFrom 61 = .ok (.aload_n 1, 1) := by decide +kernel
theorem dX0_copyFrom_62 : decode cX0_copyFrom 62 = .ok (.getfield 53, 3) := by decide +kernel
theorem dX0_copyFrom_65 : decode cX0_copyFrom 65 = .ok (.putfield 53, 3) := by decide +kernel
theorem dX0_copyFrom_68 : decode cX0_copyFrom 68 = .ok (.aload_n 0, 1) := by decide +kernel
theorem dX0_copyFrom_69 : decode cX0_copyFrom 69 = .ok (.aload_n 1, 1) := by decide +kernel
theorem dX0_copyFrom_70 : decode cX0_copyFrom 70 = .ok (.getfield 56, 3) := by decide +kernel
theorem dX0_copyFrom_73 : decode cX0_copyFrom 73 = .ok (.putfield 56, 3) := by decide +kernel
theorem dX0_copyFrom_76 : decode cX0_copyFrom 76 = .ok (.aload_n 0, 1) := by decide +kernel
theorem dX0_copyFrom_77 : decode cX0_copyFrom 77 = .ok (.aload_n 1, 1) := by decide +kernel
theorem dX0_copyFrom_78 : decode cX0_copyFrom 78 = .ok (.getfield 59, 3) := by decide +kernel
theorem dX0_copyFrom_81 : decode cX0_copyFrom 81 = .ok (.putfield 59, 3) := by decide +kernel
theorem dX0_copyFrom_84 : decode cX0_copyFrom 84 = .ok (.aload_n 0, 1) := by decide +kernel
theorem dX0_copyFrom_85 : decode cX0_copyFrom 85 = .ok (.aload_n 1, 1) := by decide +kernel
theorem dX0_copyFrom_86 : decode cX0_copyFrom 86 = .ok (.getfield 62, 3) := by decide +kernel
theorem dX0_copyFrom_89 : decode cX0_copyFrom 89 = .ok (.putfield 62, 3) := by decide +kernel
theorem dX0_copyFrom_92 : decode cX0_copyFrom 92 = .ok (.aload_n 0, 1) := by decide +kernel
theorem dX0_copyFrom_93 : decode cX0_copyFrom 93 = .ok (.aload_n 1, 1) := by decide +kernel
theorem dX0_copyFrom_94 : decode cX0_copyFrom 94 = .ok (.getfield 65, 3) := by decide +kernel
theorem dX0_copyFrom_97 : decode cX0_copyFrom 97 = .ok (.putfield 65, 3) := by decide +kernel
theorem dX0_copyFrom_100 : decode cX0_copyFrom 100 = .ok (.aload_n 0, 1) := by decide +kernel
theorem dX0_copyFrom_101 : decode cX0_copyFrom 101 = .ok (.aload_n 1, 1) := by decide +kernel
theorem dX0_copyFrom_102 : decode cX0_copyFrom 102 = .ok (.getfield 68, 3) := by decide +kernel
theorem dX0_copyFrom_105 : decode cX0_copyFrom 105 = .ok (.putfield 68, 3) := by decide +kernel
theorem dX0_copyFrom_108 : decode cX0_copyFrom 108 = .ok (.aload_n 0, 1) := by decide +kernel
theorem dX0_copyFrom_109 : decode cX0_copyFrom 109 = .ok (.aload_n 1, 1) := by decide +kernel
theorem dX0_copyFrom_110 : decode cX0_copyFrom 110 = .ok (.getfield 71, 3) := by decide +kernel
theorem dX0_copyFrom_113 : decode cX0_copyFrom 113 = .ok (.putfield 71, 3) := by decide +kernel
theorem dX0_copyFrom_116 : decode cX0_copyFrom 116 = .ok (.return_, 1) := by decide +kernel
set_option maxRecDepth 20000 in
theorem ggX0_wouldJamAt_X1_pegsInRow : GoodIn wsX0_wouldJamAt wsX1_pegsInRow := goodIn_r _ [7, 8, 9, 10, 11, 12, 13, 14, 15, 29, 30, 31, 32] (by decide +kernel) (by decide +kernel)
set_option maxRecDepth 20000 in
theorem gX0_wouldJamAt_X1_pegsInRow : GoodIn wsX0_wouldJamAt (wsV RX0 74 RX1 yX1_pegsInRow wsX1_pegsInRow) := goodIn_app (goodIn_of _ (by decide +kernel)) ggX0_wouldJamAt_X1_pegsInRow
theorem dX0_wouldJamAt_0 : decode cX0_wouldJamAt 0 = .ok (.aload_n 0, 1) := by decide +kernel
theorem dX0_wouldJamAt_1 : decode cX0_wouldJamAt 1 = .ok (.getfield 18, 3) := by decide +kernel
theorem dX0_wouldJamAt_4 : decode cX0_wouldJamAt 4 = .ok (.iload_n 1, 1) := by decide +kernel
theorem dX0_wouldJamAt_5 : decode cX0_wouldJamAt 5 = .ok (.invokevirtual 74, 3) := by decide +kernel
theorem dX0_wouldJamAt_8 : decode cX0_wouldJamAt 8 = .ok (.aload_n 0, 1) := by decide +kernel
theorem dX0_wouldJamAt_9 : decode cX0_wouldJamAt 9 = .ok (.getfield 9, 3) := by decide +kernel
theorem dX0_wouldJamAt_12 : decode cX0_wouldJamAt 12 = .ok (.iconst 3, 1) := by decide +kernel
theorem dX0_wouldJamAt_13 : decode cX0_wouldJamAt 13 = .ok (.iaload, 1) := by decide +kernel
theorem dX0_wouldJamAt_14 : decode cX0_wouldJamAt 14 = .ok (.if_icmp .le 7, 3) := by decide +kernel
theorem dX0_wouldJamAt_17 : decode cX0_wouldJamAt 17 = .ok (.iconst 1, 1) := by decide +kernel
theorem dX0_wouldJamAt_18 : decode cX0_wouldJamAt 18 = .ok (.goto 4, 3) := by decide +kernel
theorem dX0_wouldJamAt_21 : decode cX0_wouldJamAt 21 = .ok (.iconst 0, 1) := by decide +kernel
theorem dX0_wouldJamAt_22 : decode cX0_wouldJamAt 22 = .ok (.ireturn, 1) := by decide +kernel
set_option maxRecDepth 20000 in
theorem ggX0_makeSteps_X0_makeOneStep : GoodIn wsX0_makeSteps wsX0_makeOneStep := goodIn_r _ [5, 6, 7, 8, 9, 10, 11, 12, 13, 14, 15, 16, 4, 17, 18, 19, 20, 21, 22, 23, 24, 25, 26, 27, 28, 29, 30, 31, 32, 33, 34, 35, 36, 37, 38, 39, 40, 41, 42, 43, 44, 45, 46, 47, 48, 49, 50, 51, 52, 53, 54, 55, 56, 57, 58, 59, 60, 61, 62, 63, 64, 65, 66, 67, 68, 69, 70, 71, 72, 73, 74, 75, 76, 77, 78, 79, 80, 81, 82, 83, 84, 85, 86, 87, 88, 89, 90, 91, 92, 93, 94, 95, 96, 97] (by decide +kernel) (by decide +kernel)
set_option maxRecDepth 20000 in
theorem gX0_makeSteps_X0_makeOneStep : GoodIn wsX0_makeSteps (wsV RX0 78 RX0 yX0_makeOneStep wsX0_makeOneStep) := goodIn_app (goodIn_of _ (by decide +kernel)) ggX0_makeSteps_X0_makeOneStep
theorem dX0_makeSteps_0 : decode cX0_makeSteps 0 = .ok (.iconst 0, 1) := by decide +kernel
theorem dX0_makeSteps_1 : decode cX0_makeSteps 1 = .ok (.istore_n 2, 1) := by decide +kernel
theorem dX0_makeSteps_2 : decode cX0_makeSteps 2 = .ok (.iload_n 2, 1) := by decide +kernel
theorem dX0_makeSteps_3 : decode cX0_makeSteps 3 = .ok (.iload_n 1, 1) := by decide +kernel
theorem dX0_makeSteps_4 : decode cX0_makeSteps 4 = .ok (.if_icmp .ge 16, 3) := by decide +kernel
theorem dX0_makeSteps_7 : decode cX0_makeSteps 7 = .ok (.aload_n 0, 1) := by decide +kernel
theorem dX0_makeSteps_8 : decode cX0_makeSteps 8 = .ok (.invokevirtual 78, 3) := by decide +kernel
theorem dX0_makeSteps_11 : decode cX0_makeSteps 11 = .ok (.ifCond .eq 9, 3) := by decide +kernel
theorem dX0_makeSteps_14 : decode cX0_makeSteps 14 = .ok (.iinc 2 1, 3) := by decide +kernel
theorem dX0_makeSteps_17 : decode cX0_makeSteps 17 = .ok (.goto (-15), 3) := by decide +kernel
theorem dX0_makeSteps_20 : decode cX0_makeSteps 20 = .ok (.iload_n 2, 1) := by decide +kernel
theorem dX0_makeSteps_21 : decode cX0_makeSteps 21 = .ok (.ireturn, 1) := by decide +kernel
set_option maxRecDepth 20000 in
theorem ggX0_makeOneStep_X0_wouldJamAt : GoodIn wsX0_makeOneStep wsX0_wouldJamAt := goodIn_r _ [13, 2, 8, 14, 15, 16, 17, 18, 19, 20, 21, 22, 23, 24, 25, 26, 73, 74, 75, 76, 77, 78, 79, 80, 81, 82, 83, 84, 85, 86, 87, 88, 89] (by decide +kernel) (by decide +kernel)
set_option maxRecDepth 20000 in
theorem gX0_makeOneStep_X0_wouldJamAt : GoodIn wsX0_makeOneStep (wsV RX0 85 RX0 yX0_wouldJamAt wsX0_wouldJamAt) := goodIn_app (goodIn_of _ (by decide +kernel)) ggX0_makeOneStep_X0_wouldJamAt
set_option maxRecDepth 20000 in
theorem ggX0_makeOneStep_X0_letStampsFall : GoodIn wsX0_makeOneStep wsX0_letStampsFall := goodIn_r _ [30, 2, 3, 8, 31, 32, 33, 12, 34, 35, 36, 37, 38, 39, 40, 41, 42, 43, 44, 45, 46, 47, 48, 49, 17, 50, 51, 19, 52, 73, 74, 75, 76, 77, 78, 79, 80, 81, 82, 83, 84, 85, 86, 87, 88, 89, 90, 91, 92, 93] (by decide +kernel) (by decide +kernel)
set_option maxRecDepth 20000 in
theorem gX0_makeOneStep_X0_letStampsFall : GoodIn wsX0_makeOneStep (wsV RX0 92 RX0 yX0_letStampsFall wsX0_letStampsFall) := goodIn_app (goodIn_of _ (by decide +kernel)) ggX0_makeOneStep_X0_letStampsFall
set_option maxRecDepth 20000 in
theorem ggX0_makeOneStep_X1_goOn : GoodIn wsX0_makeOneStep wsX1_goOn := goodIn_r _ [56, 57, 58, 59, 17, 60, 86, 87, 88, 89] (by decide +kernel) (by decide +kernel)
set_option maxRecDepth 20000 in
theorem gX0_makeOneStep_X1_goOn : GoodIn wsX0_makeOneStep (wsV RX0 96 RX1 yX1_goOn wsX1_goOn) := goodIn_app (goodIn_of _ (by decide +kernel)) ggX0_makeOneStep_X1_goOn
set_option maxRecDepth 20000 in
theorem ggX0_makeOneStep_X0_finishForm : GoodIn wsX0_makeOneStep wsX0_finishForm := goodIn_r _ [64, 36, 65, 35, 66, 67, 68, 69, 70, 71, 12, 72, 7, 73, 74, 75, 76, 77, 78, 79, 80, 81, 82, 83, 84, 85] (by decide +kernel) (by decide +kernel)
set_option maxRecDepth 20000 in
theorem gX0_makeOneStep_X0_finishForm : GoodIn wsX0_makeOneStep (wsV RX0 99 RX0 yX0_finishForm wsX0_finishForm) := goodIn_app (goodIn_of _ (by decide +kernel)) ggX0_makeOneStep_X0_finishForm
theorem dX0_makeOneStep_0 : decode cX0_makeOneStep 0 = .ok (.aload_n 0, 1) := by decide +kernel
theorem dX0_makeOneStep_1 : decode cX0_makeOneStep 1 = .ok (.getfield 42, 3) := by decide +kernel
theorem dX0_makeOneStep_4 : decode cX0_makeOneStep 4 = .ok (.ifCond .eq 5, 3) := by decide +kernel
theorem dX0_makeOneStep_7 : decode cX0_makeOneStep 7 = .ok (.iconst 0, 1) := by decide +kernel
theorem dX0_makeOneStep_8 : decode cX0_makeOneStep 8 = .ok (.ireturn, 1) := by decide +kernel
theorem dX0_makeOneStep_9 : decode cX0_makeOneStep 9 = .ok (.aload_n 0, 1) := by decide +kernel
theorem dX0_makeOneStep_10 : decode cX0_makeOneStep 10 = .ok (.aload_n 0, 1) := by decide +kernel
theorem dX0_makeOneStep_11 : decode cX0_makeOneStep 11 = .ok (.getfield 18, 3) := by decide +kernel
theorem dX0_makeOneStep_14 : decode cX0_makeOneStep 14 = .ok (.getfield 82, 3) := by decide +kernel
theorem dX0_makeOneStep_17 : decode cX0_makeOneStep 17 = .ok (.invokevirtual 85, 3) := by decide +kernel
theorem dX0_makeOneStep_20 : decode cX0_makeOneStep 20 = .ok (.ifCond .eq 20, 3) := by decide +kernel
theorem dX0_makeOneStep_23 : decode cX0_makeOneStep 23 = .ok (.aload_n 0, 1) := by decide +kernel
theorem dX0_makeOneStep_24 : decode cX0_makeOneStep 24 = .ok (.iconst 1, 1) := by decide +kernel
theorem dX0_makeOneStep_25 : decode cX0_makeOneStep 25 = .ok (.putfield 42, 3) := by decide +kernel
theorem dX0_makeOneStep_28 : decode cX0_makeOneStep 28 = .ok (.aload_n 0, 1) := by decide +kernel
theorem dX0_makeOneStep_29 : decode cX0_makeOneStep 29 = .ok (.dup, 1) := by decide +kernel
theorem dX0_makeOneStep_30 : decode cX0_makeOneStep 30 = .ok (.getfield 71, 3) := by decide +kernel
theorem dX0_makeOneStep_33 : decode cX0_makeOneStep 33 = .ok (.iconst 1, 1) := by decide +kernel
theorem dX0_makeOneStep_34 : decode cX0_makeOneStep 34 = .ok (.iadd, 1) := by decide +kernel
theorem dX0_makeOneStep_35 : decode cX0_makeOneStep 35 = .ok (.putfield 71, 3) := by decide +kernel
theorem dX0_makeOneStep_38 : decode cX0_makeOneStep 38 = .ok (.iconst 0, 1) := by decide +kernel
theorem dX0_makeOneStep_39 : decode cX0_makeOneStep 39 = .ok (.ireturn, 1) := by decide +kernel
theorem dX0_makeOneStep_40 : decode cX0_makeOneStep 40 = .ok (.aload_n 0, 1) := by decide +kernel
theorem dX0_makeOneStep_41 : decode cX0_makeOneStep 41 = .ok (.aload_n 0, 1) := by decide +kernel
theorem dX0_makeOneStep_42 : decode cX0_makeOneStep 42 = .ok (.getfield 18, 3) := by decide +kernel
theorem dX0_makeOneStep_45 : decode cX0_makeOneStep 45 = .ok (.getfield 89, 3) := by decide +kernel
theorem dX0_makeOneStep_48 : decode cX0_makeOneStep 48 = .ok (.aload_n 0, 1) := by decide +kernel
theorem dX0_makeOneStep_49 : decode cX0_makeOneStep 49 = .ok (.getfield 18, 3) := by decide +kernel
theorem dX0_makeOneStep_52 : decode cX0_makeOneStep 52 = .ok (.getfield 82, 3) := by decide +kernel
theorem dX0_makeOneStep_55 : decode cX0_makeOneStep 55 = .ok (.iaload, 1) := by decide +kernel
theorem dX0_makeOneStep_56 : decode cX0_makeOneStep 56 = .ok (.invokevirtual 92, 3) := by decide +kernel
theorem dX0_makeOneStep_59 : decode cX0_makeOneStep 59 = .ok (.aload_n 0, 1) := by decide +kernel
theorem dX0_makeOneStep_60 : decode cX0_makeOneStep 60 = .ok (.getfield 18, 3) := by decide +kernel
theorem dX0_makeOneStep_63 : decode cX0_makeOneStep 63 = .ok (.invokevirtual 96, 3) := by decide +kernel
theorem dX0_makeOneStep_66 : decode cX0_makeOneStep 66 = .ok (.aload_n 0, 1) := by decide +kernel
theorem dX0_makeOneStep_67 : decode cX0_makeOneStep 67 = .ok (.dup, 1) := by decide +kernel
theorem dX0_makeOneStep_68 : decode cX0_makeOneStep 68 = .ok (.getfield 59, 3) := by decide +kernel
theorem dX0_makeOneStep_71 : decode cX0_makeOneStep 71 = .ok (.iconst 1, 1) := by decide +kernel
theorem dX0_makeOneStep_72 : decode cX0_makeOneStep 72 = .ok (.iadd, 1) := by decide +kernel
theorem dX0_makeOneStep_73 : decode cX0_makeOneStep 73 = .ok (.putfield 59, 3) := by decide +kernel
theorem dX0_makeOneStep_76 : decode cX0_makeOneStep 76 = .ok (.aload_n 0, 1) := by decide +kernel
theorem dX0_makeOneStep_77 : decode cX0_makeOneStep 77 = .ok (.dup, 1) := by decide +kernel
theorem dX0_makeOneStep_78 : decode cX0_makeOneStep 78 = .ok (.getfield 56, 3) := by decide +kernel
theorem dX0_makeOneStep_81 : decode cX0_makeOneStep 81 = .ok (.iconst 1, 1) := by decide +kernel
theorem dX0_makeOneStep_82 : decode cX0_makeOneStep 82 = .ok (.iadd, 1) := by decide +kernel
theorem dX0_makeOneStep_83 : decode cX0_makeOneStep 83 = .ok (.putfield 56, 3) := by decide +kernel
theorem dX0_makeOneStep_86 : decode cX0_makeOneStep 86 = .ok (.aload_n 0, 1) := by decide +kernel
theorem dX0_makeOneStep_87 : decode cX0_makeOneStep 87 = .ok (.getfield 56, 3) := by decide +kernel
theorem dX0_makeOneStep_90 : decode cX0_makeOneStep 90 = .ok (.aload_n 0, 1) := by decide +kernel
theorem dX0_makeOneStep_91 : decode cX0_makeOneStep 91 = .ok (.getfield 9, 3) := by decide +kernel
theorem dX0_makeOneStep_94 : decode cX0_makeOneStep 94 = .ok (.iconst 0, 1) := by decide +kernel
theorem dX0_makeOneStep_95 : decode cX0_makeOneStep 95 = .ok (.iaload, 1) := by decide +kernel
theorem dX0_makeOneStep_96 : decode cX0_makeOneStep 96 = .ok (.if_icmp .lt 7, 3) := by decide +kernel
theorem dX0_makeOneStep_99 : decode cX0_makeOneStep 99 = .ok (.aload_n 0, 1) := by decide +kernel
theorem dX0_makeOneStep_100 : decode cX0_makeOneStep 100 = .ok (.invokevirtual 99, 3) := by decide +kernel
theorem dX0_makeOneStep_103 : decode cX0_makeOneStep 103 = .ok (.iconst 1, 1) := by decide +kernel
theorem dX0_makeOneStep_104 : decode cX0_makeOneStep 104 = .ok (.ireturn, 1) := by decide +kernel
set_option maxRecDepth 20000 in
theorem ggX0_letStampsFall_X0_letStampFall : GoodIn wsX0_letStampsFall wsX0_letStampFall := goodIn_r _ [8, 9, 10, 11, 12, 3, 13, 14, 15, 16, 17, 18, 19, 20, 29, 30, 31, 32, 33, 34, 35, 36, 37, 38, 39, 40, 41, 46, 47, 48, 49] (by decide +kernel) (by decide +kernel)
set_option maxRecDepth 20000 in
theorem gX0_letStampsFall_X0_letStampFall : GoodIn wsX0_letStampsFall (wsV RX0 102 RX0 yX0_letStampFall wsX0_letStampFall) := goodIn_app (goodIn_of _ (by decide +kernel)) ggX0_letStampsFall_X0_letStampFall
set_option maxRecDepth 20000 in
theorem ggX0_letStampsFall_X1_wearPeg : GoodIn wsX0_letStampsFall wsX1_wearPeg := goodIn_r _ [25, 26, 27, 28, 42, 43, 44, 45] (by decide +kernel) (by decide +kernel)
set_option maxRecDepth 20000 in
theorem gX0_letStampsFall_X1_wearPeg : GoodIn wsX0_letStampsFall (wsV RX0 105 RX1 yX1_wearPeg wsX1_wearPeg) := goodIn_app (goodIn_of _ (by decide +kernel)) ggX0_letStampsFall_X1_wearPeg
theorem dX0_letStampsFall_0 : decode cX0_letStampsFall 0 = .ok (.iconst 0, 1) := by decide +kernel
theorem dX0_letStampsFall_1 : decode cX0_letStampsFall 1 = .ok (.istore_n 2, 1) := by decide +kernel
theorem dX0_letStampsFall_2 : decode cX0_letStampsFall 2 = .ok (.iload_n 2, 1) := by decide +kernel
theorem dX0_letStampsFall_3 : decode cX0_letStampsFall 3 = .ok (.bipush 6, 2) := by decide +kernel
theorem dX0_letStampsFall_5 : decode cX0_letStampsFall 5 = .ok (.if_icmp .ge 43, 3) := by decide +kernel
theorem dX0_letStampsFall_8 : decode cX0_letStampsFall 8 = .ok (.iload_n 1, 1) := by decide +kernel
theorem dX0_letStampsFall_9 : decode cX0_letStampsFall 9 = .ok (.iload_n 2, 1) := by decide +kernel
theorem dX0_letStampsFall_10 : decode cX0_letStampsFall 10 = .ok (.ishr, 1) := by decide +kernel
theorem dX0_letStampsFall_11 : decode cX0_letStampsFall 11 = .ok (.iconst 1, 1) := by decide +kernel
theorem dX0_letStampsFall_12 : decode cX0_letStampsFall 12 = .ok (.iand, 1) := by decide +kernel
theorem dX0_letStampsFall_13 : decode cX0_letStampsFall 13 = .ok (.ifCond .eq 29, 3) := by decide +kernel
theorem dX0_letStampsFall_16 : decode cX0_letStampsFall 16 = .ok (.aload_n 0, 1) := by decide +kernel
theorem dX0_letStampsFall_17 : decode cX0_letStampsFall 17 = .ok (.iload_n 2, 1) := by decide +kernel
theorem dX0_letStampsFall_18 : decode cX0_letStampsFall 18 = .ok (.invokevirtual 102, 3) := by decide +kernel
theorem dX0_letStampsFall_21 : decode cX0_letStampsFall 21 = .ok (.aload_n 0, 1) := by decide +kernel
theorem dX0_letStampsFall_22 : decode cX0_letStampsFall 22 = .ok (.getfield 18, 3) := by decide +kernel
theorem dX0_letStampsFall_25 : decode cX0_letStampsFall 25 = .ok (.aload_n 0, 1) := by decide +kernel
theorem dX0_letStampsFall_26 : decode cX0_letStampsFall 26 = .ok (.getfield 18, 3) := by decide +kernel
theorem dX0_letStampsFall_29 : decode cX0_letStampsFall 29 = .ok (.getfield 82, 3) := by decide +kernel
theorem dX0_letStampsFall_32 : decode cX0_letStampsFall 32 = .ok (.iload_n 2, 1) := by decide +kernel
theorem dX0_letStampsFall_33 : decode cX0_letStampsFall 33 = .ok (.aload_n 0, 1) := by decide +kernel
theorem dX0_letStampsFall_34 : decode cX0_letStampsFall 34 = .ok (.getfield 9, 3) := by decide +kernel
theorem dX0_letStampsFall_37 : decode cX0_letStampsFall 37 = .ok (.iconst 2, 1) := by decide +kernel
theorem dX0_letStampsFall_38 : decode cX0_letStampsFall 38 = .ok (.iaload, 1) := by decide +kernel
theorem dX0_letStampsFall_39 : decode cX0_letStampsFall 39 = .ok (.invokevirtual 105, 3) := by decide +kernel
theorem dX0_letStampsFall_42 : decode cX0_letStampsFall 42 = .ok (.iinc 2 1, 3) := by decide +kernel
theorem dX0_letStampsFall_45 : decode cX0_letStampsFall 45 = .ok (.goto (-43), 3) := by decide +kernel
theorem dX0_letStampsFall_48 : decode cX0_letStampsFall 48 = .ok (.return_, 1) := by decide +kernel
set_option maxRecDepth 20000 in
theorem ggX0_letStampFall_X4_leavesMark : GoodIn wsX0_letStampFall wsX4_leavesMark := goodIn_r _ [10, 11, 12, 13, 27, 28, 29, 30] (by decide +kernel) (by decide +kernel)
set_option maxRecDepth 20000 in
theorem gX0_letStampFall_X4_leavesMark : GoodIn wsX0_letStampFall (wsV RX0 112 RX4 yX4_leavesMark wsX4_leavesMark) := goodIn_app (goodIn_of _ (by decide +kernel)) ggX0_letStampFall_X4_leavesMark
theorem dX0_letStampFall_0 : decode cX0_letStampFall 0 = .ok (.aload_n 0, 1) := by decide +kernel
theorem dX0_letStampFall_1 : decode cX0_letStampFall 1 = .ok (.getfield 50, 3) := by decide +kernel
theorem dX0_letStampFall_4 : decode cX0_letStampFall 4 = .ok (.iload_n 1, 1) := by decide +kernel
theorem dX0_letStampFall_5 : decode cX0_letStampFall 5 = .ok (.ishr, 1) := by decide +kernel
theorem dX0_letStampFall_6 : decode cX0_letStampFall 6 = .ok (.iconst 1, 1) := by decide +kernel
theorem dX0_letStampFall_7 : decode cX0_letStampFall 7 = .ok (.iand, 1) := by decide +kernel
theorem dX0_letStampFall_8 : decode cX0_letStampFall 8 = .ok (.ifCond .eq 21, 3) := by decide +kernel
theorem dX0_letStampFall_11 : decode cX0_letStampFall 11 = .ok (.aload_n 0, 1) := by decide +kernel
theorem dX0_letStampFall_12 : decode cX0_letStampFall 12 = .ok (.iconst 1, 1) := by decide +kernel
theorem dX0_letStampFall_13 : decode cX0_letStampFall 13 = .ok (.putfield 53, 3) := by decide +kernel
theorem dX0_letStampFall_16 : decode cX0_letStampFall 16 = .ok (.aload_n 0, 1) := by decide +kernel
theorem dX0_letStampFall_17 : decode cX0_letStampFall 17 = .ok (.getfield 25, 3) := by decide +kernel
theorem dX0_letStampFall_20 : decode cX0_letStampFall 20 = .ok (.getfield 109, 3) := by decide +kernel
theorem dX0_letStampFall_23 : decode cX0_letStampFall 23 = .ok (.iload_n 1, 1) := by decide +kernel
theorem dX0_letStampFall_24 : decode cX0_letStampFall 24 = .ok (.dup2, 1) := by decide +kernel
theorem dX0_letStampFall_25 : decode cX0_letStampFall 25 = .ok (.iaload, 1) := by decide +kernel
theorem dX0_letStampFall_26 : decode cX0_letStampFall 26 = .ok (.iconst 1, 1) := by decide +kernel
theorem dX0_letStampFall_27 : decode cX0_letStampFall 27 = .ok (.iadd, 1) := by decide +kernel
theorem dX0_letStampFall_28 : decode cX0_letStampFall 28 = .ok (.iastore, 1) := by decide +kernel
theorem dX0_letStampFall_29 : decode cX0_letStampFall 29 = .ok (.aload_n 0, 1) := by decide +kernel
theorem dX0_letStampFall_30 : decode cX0_letStampFall 30 = .ok (.getfield 25, 3) := by decide +kernel
theorem dX0_letStampFall_33 : decode cX0_letStampFall 33 = .ok (.iload_n 1, 1) := by decide +kernel
theorem dX0_letStampFall_34 : decode cX0_letStampFall 34 = .ok (.aload_n 0, 1) := by decide +kernel
theorem dX0_letStampFall_35 : decode cX0_letStampFall 35 = .ok (.getfield 9, 3) := by decide +kernel
theorem dX0_letStampFall_38 : decode cX0_letStampFall 38 = .ok (.iconst 1, 1) := by decide +kernel
theorem dX0_letStampFall_39 : decode cX0_letStampFall 39 = .ok (.iaload, 1) := by decide +kernel
theorem dX0_letStampFall_40 : decode cX0_letStampFall 40 = .ok (.invokevirtual 112, 3) := by decide +kernel
theorem dX0_letStampFall_43 : decode cX0_letStampFall 43 = .ok (.ifCond .eq 15, 3) := by decide +kernel
theorem dX0_letStampFall_46 : decode cX0_letStampFall 46 = .ok (.aload_n 0, 1) := by decide +kernel
theorem dX0_letStampFall_47 : decode cX0_letStampFall 47 = .ok (.dup, 1) := by decide +kernel
theorem dX0_letStampFall_48 : decode cX0_letStampFall 48 = .ok (.getfield 50, 3) := by decide +kernel
theorem dX0_letStampFall_51 : decode cX0_letStampFall 51 = .ok (.iconst 1, 1) := by decide +kernel
theorem dX0_letStampFall_52 : decode cX0_letStampFall 52 = .ok (.iload_n 1, 1) := by decide +kernel
theorem dX0_letStampFall_53 : decode cX0_letStampFall 53 = .ok (.ishl, 1) := by decide +kernel
theorem dX0_letStampFall_54 : decode cX0_letStampFall 54 = .ok (.ior, 1) := by decide +kernel
theorem dX0_letStampFall_55 : decode cX0_letStampFall 55 = .ok (.putfield 50, 3) := by decide +kernel
theorem dX0_letStampFall_58 : decode cX0_letStampFall 58 = .ok (.return_, 1) := by decide +kernel
set_option maxRecDepth 20000 in
theorem ggX0_finishForm_X0_layForm : GoodIn wsX0_finishForm wsX0_layForm := goodIn_r _ [11, 3, 1, 12, 13, 14, 15, 16, 17, 18, 19, 20, 21, 22, 23, 24, 25] (by decide +kernel) (by decide +kernel)
set_option maxRecDepth 20000 in
theorem gX0_finishForm_X0_layForm : GoodIn wsX0_finishForm (wsV RX0 116 RX0 yX0_layForm wsX0_layForm) := goodIn_app (goodIn_of _ (by decide +kernel)) ggX0_finishForm_X0_layForm
theorem dX0_finishForm_0 : decode cX0_finishForm 0 = .ok (.aload_n 0, 1) := by decide +kernel
theorem dX0_finishForm_1 : decode cX0_finishForm 1 = .ok (.getfield 53, 3) := by decide +kernel
theorem dX0_finishForm_4 : decode cX0_finishForm 4 = .ok (.ifCond .eq 16, 3) := by decide +kernel
theorem dX0_finishForm_7 : decode cX0_finishForm 7 = .ok (.aload_n 0, 1) := by decide +kernel
theorem dX0_finishForm_8 : decode cX0_finishForm 8 = .ok (.dup, 1) := by decide +kernel
theorem dX0_finishForm_9 : decode cX0_finishForm 9 = .ok (.getfield 68, 3) := by decide +kernel
theorem dX0_finishForm_12 : decode cX0_finishForm 12 = .ok (.iconst 1, 1) := by decide +kernel
theorem dX0_finishForm_13 : decode cX0_finishForm 13 = .ok (.iadd, 1) := by decide +kernel
theorem dX0_finishForm_14 : decode cX0_finishForm 14 = .ok (.putfield 68, 3) := by decide +kernel
theorem dX0_finishForm_17 : decode cX0_finishForm 17 = .ok (.goto 37, 3) := by decide +kernel
theorem dX0_finishForm_20 : decode cX0_finishForm 20 = .ok (.aload_n 0, 1) := by decide +kernel
theorem dX0_finishForm_21 : decode cX0_finishForm 21 = .ok (.getfield 50, 3) := by decide +kernel
theorem dX0_finishForm_24 : decode cX0_finishForm 24 = .ok (.aload_n 0, 1) := by decide +kernel
theorem dX0_finishForm_25 : decode cX0_finishForm 25 = .ok (.getfield 46, 3) := by decide +kernel
theorem dX0_finishForm_28 : decode cX0_finishForm 28 = .ok (.if_icmp .ne 16, 3) := by decide +kernel
theorem dX0_finishForm_31 : decode cX0_finishForm 31 = .ok (.aload_n 0, 1) := by decide +kernel
theorem dX0_finishForm_32 : decode cX0_finishForm 32 = .ok (.dup, 1) := by decide +kernel
theorem dX0_finishForm_33 : decode cX0_finishForm 33 = .ok (.getfield 62, 3) := by decide +kernel
theorem dX0_finishForm_36 : decode cX0_finishForm 36 = .ok (.iconst 1, 1) := by decide +kernel
theorem dX0_finishForm_37 : decode cX0_finishForm 37 = .ok (.iadd, 1) := by decide +kernel
theorem dX0_finishForm_38 : decode cX0_finishForm 38 = .ok (.putfield 62, 3) := by decide +kernel
theorem dX0_finishForm_41 : decode cX0_finishForm 41 = .ok (.goto 13, 3) := by decide +kernel
theorem dX0_finishForm_44 : decode cX0_finishForm 44 = .ok (.aload_n 0, 1) := by decide +kernel
theorem dX0_finishForm_45 : decode cX0_finishForm 45 = .ok (.dup, 1) := by decide +kernel
theorem dX0_finishForm_46 : decode cX0_finishForm 46 = .ok (.getfield 65, 3) := by decide +kernel
theorem dX0_finishForm_49 : decode cX0_finishForm 49 = .ok (.iconst 1, 1) := by decide +kernel
theorem dX0_finishForm_50 : decode cX0_finishForm 50 = .ok (.iadd, 1) := by decide +kernel
theorem dX0_finishForm_51 : decode cX0_finishForm 51 = .ok (.putfield 65, 3) := by decide +kernel
theorem dX0_finishForm_54 : decode cX0_finishForm 54 = .ok (.aload_n 0, 1) := by decide +kernel
theorem dX0_finishForm_55 : decode cX0_finishForm 55 = .ok (.invokevirtual 116, 3) := by decide +kernel
theorem dX0_finishForm_58 : decode cX0_finishForm 58 = .ok (.return_, 1) := by decide +kernel
theorem dX0_layForm_0 : decode cX0_layForm 0 = .ok (.aload_n 0, 1) := by decide +kernel
theorem dX0_layForm_1 : decode cX0_layForm 1 = .ok (.iconst 0, 1) := by decide +kernel
theorem dX0_layForm_2 : decode cX0_layForm 2 = .ok (.putfield 50, 3) := by decide +kernel
theorem dX0_layForm_5 : decode cX0_layForm 5 = .ok (.aload_n 0, 1) := by decide +kernel
theorem dX0_layForm_6 : decode cX0_layForm 6 = .ok (.iconst 0, 1) := by decide +kernel
theorem dX0_layForm_7 : decode cX0_layForm 7 = .ok (.putfield 53, 3) := by decide +kernel
theorem dX0_layForm_10 : decode cX0_layForm 10 = .ok (.aload_n 0, 1) := by decide +kernel
theorem dX0_layForm_11 : decode cX0_layForm 11 = .ok (.iconst 0, 1) := by decide +kernel
theorem dX0_layForm_12 : decode cX0_layForm 12 = .ok (.putfield 56, 3) := by decide +kernel
theorem dX0_layForm_15 : decode cX0_layForm 15 = .ok (.return_, 1) := by decide +kernel
theorem dX1_init_0 : decode cX1_init 0 = .ok (.aload_n 0, 1) := by decide +kernel
theorem dX1_init_1 : decode cX1_init 1 = .ok (.invokespecial 3, 3) := by decide +kernel
theorem dX1_init_4 : decode cX1_init 4 = .ok (.aload_n 0, 1) := by decide +kernel
theorem dX1_init_5 : decode cX1_init 5 = .ok (.bipush 16, 2) := by decide +kernel
theorem dX1_init_7 : decode cX1_init 7 = .ok (.newarray .int, 2) := by decide +kernel
theorem dX1_init_9 : decode cX1_init 9 = .ok (.putfield 9, 3) := by decide +kernel
theorem dX1_init_12 : decode cX1_init 12 = .ok (.aload_n 0, 1) := by decide +kernel
theorem dX1_init_13 : decode cX1_init 13 = .ok (.bipush 96, 2) := by decide +kernel
theorem dX1_init_15 : decode cX1_init 15 = .ok (.newarray .int, 2) := by decide +kernel
theorem dX1_init_17 : decode cX1_init 17 = .ok (.putfield 15, 3) := by decide +kernel
theorem dX1_init_20 : decode cX1_init 20 = .ok (.return_, 1) := by decide +kernel
theorem dX1_copyFrom_0 : decode cX1_copyFrom 0 = .ok (.aload_n 1, 1) := by decide +kernel
theorem dX1_copyFrom_1 : decode cX1_copyFrom 1 = .ok (.getfield 9, 3) := by decide +kernel
theorem dX1_copyFrom_4 : decode cX1_copyFrom 4 = .ok (.iconst 0, 1) := by decide +kernel
theorem dX1_copyFrom_5 : decode cX1_copyFrom 5 = .ok (.aload_n 0, 1) := by decide +kernel
theorem dX1_copyFrom_6 : decode cX1_copyFrom 6 = .ok (.getfield 9, 3) := by decide +kernel
theorem dX1_copyFrom_9 : decode cX1_copyFrom 9 = .ok (.iconst 0, 1) := by decide +kernel
theorem dX1_copyFrom_10 : decode cX1_copyFrom 10 = .ok (.bipush 16, 2) := by decide +kernel
theorem dX1_copyFrom_12 : decode cX1_copyFrom 12 = .ok (.invokestatic 18, 3) := by decide +kernel
theorem dX1_copyFrom_15 : decode cX1_copyFrom 15 = .ok (.aload_n 1, 1) := by decide +kernel
theorem dX1_copyFrom_16 : decode cX1_copyFrom 16 = .ok (.getfield 15, 3) := by decide +kernel
theorem dX1_copyFrom_19 : decode cX1_copyFrom 19 = .ok (.iconst 0, 1) := by decide +kernel
theorem dX1_copyFrom_20 : decode cX1_copyFrom 20 = .ok (.aload_n 0, 1) := by decide +kernel
theorem dX1_copyFrom_21 : decode cX1_copyFrom 21 = .ok (.getfield 15, 3) := by decide +kernel
theorem dX1_copyFrom_24 : decode cX1_copyFrom 24 = .ok (.iconst 0, 1) := by decide +kernel
theorem dX1_copyFrom_25 : decode cX1_copyFrom 25 = .ok (.bipush 96, 2) := by decide +kernel
theorem dX1_copyFrom_27 : decode cX1_copyFrom 27 = .ok (.invokestatic 18, 3) := by decide +kernel
theorem dX1_copyFrom_30 : decode cX1_copyFrom 30 = .ok (.aload_n 0, 1) := by decide +kernel
theorem dX1_copyFrom_31 : decode cX1_copyFrom 31 = .ok (.aload_n 1, 1) := by decide +kernel
theorem dX1_copyFrom_32 : decode cX1_copyFrom 32 = .ok (.getfield 24, 3) := by decide +kernel
theorem dX1_copyFrom_35 : decode cX1_copyFrom 35 = .ok (.putfield 24, 3) := by decide +kernel
theorem dX1_copyFrom_38 : decode cX1_copyFrom 38 = .ok (.aload_n 0, 1) := by decide +kernel
theorem dX1_copyFrom_39 : decode cX1_copyFrom 39 = .ok (.aload_n 1, 1) := by decide +kernel
theorem dX1_copyFrom_40 : decode cX1_copyFrom 40 = .ok (.getfield 28, 3) := by decide +kernel
theorem dX1_copyFrom_43 : decode cX1_copyFrom 43 = .ok (.putfield 28, 3) := by decide +kernel
theorem dX1_copyFrom_46 : decode cX1_copyFrom 46 = .ok (.return_, 1) := by decide +kernel
theorem dX1_rowBehind_0 : decode cX1_rowBehind 0 = .ok (.iload_n 0, 1) := by decide +kernel
theorem dX1_rowBehind_1 : decode cX1_rowBehind 1 = .ok (.bipush 15, 2) := by decide +kernel
theorem dX1_rowBehind_3 : decode cX1_rowBehind 3 = .ok (.if_icmp .lt 7, 3) := by decide +kernel
theorem dX1_rowBehind_6 : decode cX1_rowBehind 6 = .ok (.iconst 0, 1) := by decide +kernel
theorem dX1_rowBehind_7 : decode cX1_rowBehind 7 = .ok (.goto 6, 3) := by decide +kernel
theorem dX1_rowBehind_10 : decode cX1_rowBehind 10 = .ok (.iload_n 0, 1) := by decide +kernel
theorem dX1_rowBehind_11 : decode cX1_rowBehind 11 = .ok (.iconst 1, 1) := by decide +kernel
theorem dX1_rowBehind_12 : decode cX1_rowBehind 12 = .ok (.iadd, 1) := by decide +kernel
theorem dX1_rowBehind_13 : decode cX1_rowBehind 13 = .ok (.ireturn, 1) := by decide +kernel
set_option maxRecDepth 20000 in
theorem ggX1_goOn_X1_rowBehind : GoodIn wsX1_goOn wsX1_rowBehind := goodIn_r _ [5] (by decide +kernel) (by decide +kernel)
set_option maxRecDepth 20000 in
theorem gX1_goOn_X1_rowBehind : GoodIn wsX1_goOn (va_wsS RX1 31 yX1_rowBehind wsX1_rowBehind) := goodIn_app (goodIn_of _ (by decide +kernel)) ggX1_goOn_X1_rowBehind
theorem dX1_goOn_0 : decode cX1_goOn 0 = .ok (.aload_n 0, 1) := by decide +kernel
theorem dX1_goOn_1 : decode cX1_goOn 1 = .ok (.aload_n 0, 1) := by decide +kernel
theorem dX1_goOn_2 : decode cX1_goOn 2 = .ok (.getfield 24, 3) := by decide +kernel
theorem dX1_goOn_5 : decode cX1_goOn 5 = .ok (.invokestatic 31, 3) := by decide +kernel
theorem dX1_goOn_8 : decode cX1_goOn 8 = .ok (.putfield 24, 3) := by decide +kernel
theorem dX1_goOn_11 : decode cX1_goOn 11 = .ok (.return_, 1) := by decide +kernel
theorem dX1_hasPeg_0 : decode cX1_hasPeg 0 = .ok (.aload_n 0, 1) := by decide +kernel
theorem dX1_hasPeg_1 : decode cX1_hasPeg 1 = .ok (.getfield 9, 3) := by decide +kernel
theorem dX1_hasPeg_4 : decode cX1_hasPeg 4 = .ok (.iload_n 1, 1) := by decide +kernel
theorem dX1_hasPeg_5 : decode cX1_hasPeg 5 = .ok (.iaload, 1) := by decide +kernel
theorem dX1_hasPeg_6 : decode cX1_hasPeg 6 = .ok (.iload_n 2, 1) := by decide +kernel
theorem dX1_hasPeg_7 : decode cX1_hasPeg 7 = .ok (.ishr, 1) := by decide +kernel
theorem dX1_hasPeg_8 : decode cX1_hasPeg 8 = .ok (.iconst 1, 1) := by decide +kernel
theorem dX1_hasPeg_9 : decode cX1_hasPeg 9 = .ok (.iand, 1) := by decide +kernel
theorem dX1_hasPeg_10 : decode cX1_hasPeg 10 = .ok (.ifCond .eq 7, 3) := by decide +kernel
theorem dX1_hasPeg_13 : decode cX1_hasPeg 13 = .ok (.iconst 1, 1) := by decide +kernel
theorem dX1_hasPeg_14 : decode cX1_hasPeg 14 = .ok (.goto 4, 3) := by decide +kernel
theorem dX1_hasPeg_17 : decode cX1_hasPeg 17 = .ok (.iconst 0, 1) := by decide +kernel
theorem dX1_hasPeg_18 : decode cX1_hasPeg 18 = .ok (.ireturn, 1) := by decide +kernel
set_option maxRecDepth 20000 in
theorem ggX1_pegsInRow_J6_bitCount_0f7a4 : GoodIn wsX1_pegsInRow wsJ6_bitCount_0f7a4 := goodIn_r _ [5, 6, 7, 8] (by decide +kernel) (by decide +kernel)
set_option maxRecDepth 20000 in
theorem gX1_pegsInRow_J6_bitCount_0f7a4 : GoodIn wsX1_pegsInRow (va_wsS RX1 35 yJ6_bitCount_0f7a4 wsJ6_bitCount_0f7a4) := goodIn_app (goodIn_of _ (by decide +kernel)) ggX1_pegsInRow_J6_bitCount_0f7a4
theorem dX1_pegsInRow_0 : decode cX1_pegsInRow 0 = .ok (.aload_n 0, 1) := by decide +kernel
theorem dX1_pegsInRow_1 : decode cX1_pegsInRow 1 = .ok (.getfield 9, 3) := by decide +kernel
theorem dX1_pegsInRow_4 : decode cX1_pegsInRow 4 = .ok (.iload_n 1, 1) := by decide +kernel
theorem dX1_pegsInRow_5 : decode cX1_pegsInRow 5 = .ok (.iaload, 1) := by decide +kernel
theorem dX1_pegsInRow_6 : decode cX1_pegsInRow 6 = .ok (.invokestatic 35, 3) := by decide +kernel
theorem dX1_pegsInRow_9 : decode cX1_pegsInRow 9 = .ok (.ireturn, 1) := by decide +kernel
set_option maxRecDepth 20000 in
theorem ggX1_pegsAtPlace_X1_hasPeg : GoodIn wsX1_pegsAtPlace wsX1_hasPeg := goodIn_r _ [5, 6, 7, 8, 9, 10] (by decide +kernel) (by decide +kernel)
set_option maxRecDepth 20000 in
theorem gX1_pegsAtPlace_X1_hasPeg : GoodIn wsX1_pegsAtPlace (wsV RX1 40 RX1 yX1_hasPeg wsX1_hasPeg) := goodIn_app (goodIn_of _ (by decide +kernel)) ggX1_pegsAtPlace_X1_hasPeg
theorem dX1_pegsAtPlace_0 : decode cX1_pegsAtPlace 0 = .ok (.iconst 0, 1) := by decide +kernel
theorem dX1_pegsAtPlace_1 : decode cX1_pegsAtPlace 1 = .ok (.istore_n 2, 1) := by decide +kernel
theorem dX1_pegsAtPlace_2 : decode cX1_pegsAtPlace 2 = .ok (.iconst 0, 1) := by decide +kernel
theorem dX1_pegsAtPlace_3 : decode cX1_pegsAtPlace 3 = .ok (.istore_n 3, 1) := by decide +kernel
theorem dX1_pegsAtPlace_4 : decode cX1_pegsAtPlace 4 = .ok (.iload_n 3, 1) := by decide +kernel
theorem dX1_pegsAtPlace_5 : decode cX1_pegsAtPlace 5 = .ok (.bipush 16, 2) := by decide +kernel
theorem dX1_pegsAtPlace_7 : decode cX1_pegsAtPlace 7 = .ok (.if_icmp .ge 21, 3) := by decide +kernel
theorem dX1_pegsAtPlace_10 : decode cX1_pegsAtPlace 10 = .ok (.aload_n 0, 1) := by decide +kernel
theorem dX1_pegsAtPlace_11 : decode cX1_pegsAtPlace 11 = .ok (.iload_n 3, 1) := by decide +kernel
theorem dX1_pegsAtPlace_12 : decode cX1_pegsAtPlace 12 = .ok (.iload_n 1, 1) := by decide +kernel
theorem dX1_pegsAtPlace_13 : decode cX1_pegsAtPlace 13 = .ok (.invokevirtual 40, 3) := by decide +kernel
theorem dX1_pegsAtPlace_16 : decode cX1_pegsAtPlace 16 = .ok (.ifCond .eq 6, 3) := by decide +kernel
theorem dX1_pegsAtPlace_19 : decode cX1_pegsAtPlace 19 = .ok (.iinc 2 1, 3) := by decide +kernel
theorem dX1_pegsAtPlace_22 : decode cX1_pegsAtPlace 22 = .ok (.iinc 3 1, 3) := by decide +kernel
theorem dX1_pegsAtPlace_25 : decode cX1_pegsAtPlace 25 = .ok (.goto (-21), 3) := by decide +kernel
theorem dX1_pegsAtPlace_28 : decode cX1_pegsAtPlace 28 = .ok (.iload_n 2, 1) := by decide +kernel
theorem dX1_pegsAtPlace_29 : decode cX1_pegsAtPlace 29 = .ok (.ireturn, 1) := by decide +kernel
set_option maxRecDepth 20000 in
theorem ggX1_allPegs_X1_pegsInRow : GoodIn wsX1_allPegs wsX1_pegsInRow := goodIn_r _ [5, 6, 7, 8, 9, 10, 11, 12, 13, 14, 15, 16, 17] (by decide +kernel) (by decide +kernel)
set_option maxRecDepth 20000 in
theorem gX1_allPegs_X1_pegsInRow : GoodIn wsX1_allPegs (wsV RX1 44 RX1 yX1_pegsInRow wsX1_pegsInRow) := goodIn_app (goodIn_of _ (by decide +kernel)) ggX1_allPegs_X1_pegsInRow
theorem dX1_allPegs_0 : decode cX1_allPegs 0 = .ok (.iconst 0, 1) := by decide +kernel
theorem dX1_allPegs_1 : decode cX1_allPegs 1 = .ok (.istore_n 1, 1) := by decide +kernel
theorem dX1_allPegs_2 : decode cX1_allPegs 2 = .ok (.iconst 0, 1) := by decide +kernel
theorem dX1_allPegs_3 : decode cX1_allPegs 3 = .ok (.istore_n 2, 1) := by decide +kernel
theorem dX1_allPegs_4 : decode cX1_allPegs 4 = .ok (.iload_n 2, 1) := by decide +kernel
theorem dX1_allPegs_5 : decode cX1_allPegs 5 = .ok (.bipush 16, 2) := by decide +kernel
theorem dX1_allPegs_7 : decode cX1_allPegs 7 = .ok (.if_icmp .ge 17, 3) := by decide +kernel
theorem dX1_allPegs_10 : decode cX1_allPegs 10 = .ok (.iload_n 1, 1) := by decide +kernel
theorem dX1_allPegs_11 : decode cX1_allPegs 11 = .ok (.aload_n 0, 1) := by decide +kernel
theorem dX1_allPegs_12 : decode cX1_allPegs 12 = .ok (.iload_n 2, 1) := by decide +kernel
theorem dX1_allPegs_13 : decode cX1_allPegs 13 = .ok (.invokevirtual 44, 3) := by decide +kernel
theorem dX1_allPegs_16 : decode cX1_allPegs 16 = .ok (.iadd, 1) := by decide +kernel
theorem dX1_allPegs_17 : decode cX1_allPegs 17 = .ok (.istore_n 1, 1) := by decide +kernel
theorem dX1_allPegs_18 : decode cX1_allPegs 18 = .ok (.iinc 2 1, 3) := by decide +kernel
theorem dX1_allPegs_21 : decode cX1_allPegs 21 = .ok (.goto (-17), 3) := by decide +kernel
theorem dX1_allPegs_24 : decode cX1_allPegs 24 = .ok (.iload_n 1, 1) := by decide +kernel
theorem dX1_allPegs_25 : decode cX1_allPegs 25 = .ok (.ireturn, 1) := by decide +kernel
set_option maxRecDepth 20000 in
theorem ggX1_giveRow_X1_hasPeg : GoodIn wsX1_giveRow wsX1_hasPeg := goodIn_r _ [7, 2, 8, 9, 10, 11] (by decide +kernel) (by decide +kernel)
set_option maxRecDepth 20000 in
theorem gX1_giveRow_X1_hasPeg : GoodIn wsX1_giveRow (wsV RX1 40 RX1 yX1_hasPeg wsX1_hasPeg) := goodIn_app (goodIn_of _ (by decide +kernel)) ggX1_giveRow_X1_hasPeg
theorem dX1_giveRow_0 : decode cX1_giveRow 0 = .ok (.iconst 0, 1) := by decide +kernel
theorem dX1_giveRow_1 : decode cX1_giveRow 1 = .ok (.istore_n 3, 1) := by decide +kernel
theorem dX1_giveRow_2 : decode cX1_giveRow 2 = .ok (.iload_n 3, 1) := by decide +kernel
theorem dX1_giveRow_3 : decode cX1_giveRow 3 = .ok (.bipush 6, 2) := by decide +kernel
theorem dX1_giveRow_5 : decode cX1_giveRow 5 = .ok (.if_icmp .ge 30, 3) := by decide +kernel
theorem dX1_giveRow_8 : decode cX1_giveRow 8 = .ok (.aload_n 0, 1) := by decide +kernel
theorem dX1_giveRow_9 : decode cX1_giveRow 9 = .ok (.iload_n 1, 1) := by decide +kernel
theorem dX1_giveRow_10 : decode cX1_giveRow 10 = .ok (.iload_n 3, 1) := by decide +kernel
theorem dX1_giveRow_11 : decode cX1_giveRow 11 = .ok (.invokevirtual 40, 3) := by decide +kernel
theorem dX1_giveRow_14 : decode cX1_giveRow 14 = .ok (.ifCond .ne 15, 3) := by decide +kernel
theorem dX1_giveRow_17 : decode cX1_giveRow 17 = .ok (.aload_n 0, 1) := by decide +kernel
theorem dX1_giveRow_18 : decode cX1_giveRow 18 = .ok (.getfield 15, 3) := by decide +kernel
theorem dX1_giveRow_21 : decode cX1_giveRow 21 = .ok (.iload_n 1, 1) := by decide +kernel
theorem dX1_giveRow_22 : decode cX1_giveRow 22 = .ok (.bipush 6, 2) := by decide +kernel
theorem dX1_giveRow_24 : decode cX1_giveRow 24 = .ok (.imul, 1) := by decide +kernel
theorem dX1_giveRow_25 : decode cX1_giveRow 25 = .ok (.iload_n 3, 1) := by decide +kernel
theorem dX1_giveRow_26 : decode cX1_giveRow 26 = .ok (.iadd, 1) := by decide +kernel
theorem dX1_giveRow_27 : decode cX1_giveRow 27 = .ok (.iconst 0, 1) := by decide +kernel
theorem dX1_giveRow_28 : decode cX1_giveRow 28 = .ok (.iastore, 1) := by decide +kernel
theorem dX1_giveRow_29 : decode cX1_giveRow 29 = .ok (.iinc 3 1, 3) := by decide +kernel
theorem dX1_giveRow_32 : decode cX1_giveRow 32 = .ok (.goto (-30), 3) := by decide +kernel
theorem dX1_giveRow_35 : decode cX1_giveRow 35 = .ok (.aload_n 0, 1) := by decide +kernel
theorem dX1_giveRow_36 : decode cX1_giveRow 36 = .ok (.getfield 9, 3) := by decide +kernel
theorem dX1_giveRow_39 : decode cX1_giveRow 39 = .ok (.iload_n 1, 1) := by decide +kernel
theorem dX1_giveRow_40 : decode cX1_giveRow 40 = .ok (.iload_n 2, 1) := by decide +kernel
theorem dX1_giveRow_41 : decode cX1_giveRow 41 = .ok (.iastore, 1) := by decide +kernel
theorem dX1_giveRow_42 : decode cX1_giveRow 42 = .ok (.return_, 1) := by decide +kernel
theorem dX1_wearPeg_0 : decode cX1_wearPeg 0 = .ok (.iload_n 1, 1) := by decide +kernel
theorem dX1_wearPeg_1 : decode cX1_wearPeg 1 = .ok (.bipush 6, 2) := by decide +kernel
theorem dX1_wearPeg_3 : decode cX1_wearPeg 3 = .ok (.imul, 1) := by decide +kernel
theorem dX1_wearPeg_4 : decode cX1_wearPeg 4 = .ok (.iload_n 2, 1) := by decide +kernel
theorem dX1_wearPeg_5 : decode cX1_wearPeg 5 = .ok (.iadd, 1) := by decide +kernel
theorem dX1_wearPeg_6 : decode cX1_wearPeg 6 = .ok (.istore 4, 2) := by decide +kernel
theorem dX1_wearPeg_8 : decode cX1_wearPeg 8 = .ok (.aload_n 0, 1) := by decide +kernel
theorem dX1_wearPeg_9 : decode cX1_wearPeg 9 = .ok (.getfield 15, 3) := by decide +kernel
theorem dX1_wearPeg_12 : decode cX1_wearPeg 12 = .ok (.iload 4, 2) := by decide +kernel
theorem dX1_wearPeg_14 : decode cX1_wearPeg 14 = .ok (.dup2, 1) := by decide +kernel
theorem dX1_wearPeg_15 : decode cX1_wearPeg 15 = .ok (.iaload, 1) := by decide +kernel
theorem dX1_wearPeg_16 : decode cX1_wearPeg 16 = .ok (.iconst 1, 1) := by decide +kernel
theorem dX1_wearPeg_17 : decode cX1_wearPeg 17 = .ok (.iadd, 1) := by decide +kernel
theorem dX1_wearPeg_18 : decode cX1_wearPeg 18 = .ok (.iastore, 1) := by decide +kernel
theorem dX1_wearPeg_19 : decode cX1_wearPeg 19 = .ok (.iload_n 3, 1) := by decide +kernel
theorem dX1_wearPeg_20 : decode cX1_wearPeg 20 = .ok (.ifCond .eq 38, 3) := by decide +kernel
theorem dX1_wearPeg_23 : decode cX1_wearPeg 23 = .ok (.aload_n 0, 1) := by decide +kernel
theorem dX1_wearPeg_24 : decode cX1_wearPeg 24 = .ok (.getfield 15, 3) := by decide +kernel
theorem dX1_wearPeg_27 : decode cX1_wearPeg 27 = .ok (.iload 4, 2) := by decide +kernel
theorem dX1_wearPeg_29 : decode cX1_wearPeg 29 = .ok (.iaload, 1) := by decide +kernel
theorem dX1_wearPeg_30 : decode cX1_wearPeg 30 = .ok (.iload_n 3, 1) := by decide +kernel
theorem dX1_wearPeg_31 : decode cX1_wearPeg 31 = .ok (.if_icmp .lt 27, 3) := by decide +kernel
theorem dX1_wearPeg_34 : decode cX1_wearPeg 34 = .ok (.aload_n 0, 1) := by decide +kernel
theorem dX1_wearPeg_35 : decode cX1_wearPeg 35 = .ok (.getfield 9, 3) := by decide +kernel
theorem dX1_wearPeg_38 : decode cX1_wearPeg 38 = .ok (.iload_n 1, 1) := by decide +kernel
theorem dX1_wearPeg_39 : decode cX1_wearPeg 39 = .ok (.dup2, 1) := by decide +kernel
theorem dX1_wearPeg_40 : decode cX1_wearPeg 40 = .ok (.iaload, 1) := by decide +kernel
theorem dX1_wearPeg_41 : decode cX1_wearPeg 41 = .ok (.iconst 1, 1) := by decide +kernel
theorem dX1_wearPeg_42 : decode cX1_wearPeg 42 = .ok (.iload_n 2, 1) := by decide +kernel
theorem dX1_wearPeg_43 : decode cX1_wearPeg 43 = .ok (.ishl, 1) := by decide +kernel
theorem dX1_wearPeg_44 : decode cX1_wearPeg 44 = .ok (.iconst (-1), 1) := by decide +kernel
theorem dX1_wearPeg_45 : decode cX1_wearPeg 45 = .ok (.ixor, 1) := by decide +kernel
theorem dX1_wearPeg_46 : decode cX1_wearPeg 46 = .ok (.iand, 1) := by decide +kernel
theorem dX1_wearPeg_47 : decode cX1_wearPeg 47 = .ok (.iastore, 1) := by decide +kernel
theorem dX1_wearPeg_48 : decode cX1_wearPeg 48 = .ok (.aload_n 0, 1) := by decide +kernel
theorem dX1_wearPeg_49 : decode cX1_wearPeg 49 = .ok (.dup, 1) := by decide +kernel
theorem dX1_wearPeg_50 : decode cX1_wearPeg 50 = .ok (.getfield 28, 3) := by decide +kernel
theorem dX1_wearPeg_53 : decode cX1_wearPeg 53 = .ok (.iconst 1, 1) := by decide +kernel
theorem dX1_wearPeg_54 : decode cX1_wearPeg 54 = .ok (.iadd, 1) := by decide +kernel
theorem dX1_wearPeg_55 : decode cX1_wearPeg 55 = .ok (.putfield 28, 3) := by decide +kernel
theorem dX1_wearPeg_58 : decode cX1_wearPeg 58 = .ok (.return_, 1) := by decide +kernel
set_option maxRecDepth 20000 in
theorem ggX2_init_X0_init : GoodIn wsX2_init wsX0_init := goodIn_r _ [9, 10, 2, 3, 11, 12, 13, 14, 15, 16, 17, 18, 19, 20, 21, 22, 23, 24, 25, 26, 27, 28, 29, 30, 31, 32, 33, 34, 35, 36, 37, 38, 39, 40, 41, 42, 43, 44, 45, 49, 50, 51, 52, 53, 54, 55, 56] (by decide +kernel) (by decide +kernel)
set_option maxRecDepth 20000 in
theorem gX2_init_X0_init_n9 : GoodIn wsX2_init (wsX0_init) := ggX2_init_X0_init
theorem dX2_init_0 : decode cX2_init 0 = .ok (.aload_n 0, 1) := by decide +kernel
theorem dX2_init_1 : decode cX2_init 1 = .ok (.invokespecial 1, 3) := by decide +kernel
theorem dX2_init_4 : decode cX2_init 4 = .ok (.aload_n 0, 1) := by decide +kernel
theorem dX2_init_5 : decode cX2_init 5 = .ok (.bipush 6, 2) := by decide +kernel
theorem dX2_init_7 : decode cX2_init 7 = .ok (.anewarray 7, 3) := by decide +kernel
theorem dX2_init_10 : decode cX2_init 10 = .ok (.dup, 1) := by decide +kernel
theorem dX2_init_11 : decode cX2_init 11 = .ok (.iconst 0, 1) := by decide +kernel
theorem dX2_init_12 : decode cX2_init 12 = .ok (.new 7, 3) := by decide +kernel
theorem dX2_init_15 : decode cX2_init 15 = .ok (.dup, 1) := by decide +kernel
theorem dX2_init_16 : decode cX2_init 16 = .ok (.invokespecial 9, 3) := by decide +kernel
theorem dX2_init_19 : decode cX2_init 19 = .ok (.aastore, 1) := by decide +kernel
theorem dX2_init_20 : decode cX2_init 20 = .ok (.dup, 1) := by decide +kernel
theorem dX2_init_21 : decode cX2_init 21 = .ok (.iconst 1, 1) := by decide +kernel
theorem dX2_init_22 : decode cX2_init 22 = .ok (.new 7, 3) := by decide +kernel
theorem dX2_init_25 : decode cX2_init 25 = .ok (.dup, 1) := by decide +kernel
theorem dX2_init_26 : decode cX2_init 26 = .ok (.invokespecial 9, 3) := by decide +kernel
theorem dX2_init_29 : decode cX2_init 29 = .ok (.aastore, 1) := by decide +kernel
theorem dX2_init_30 : decode cX2_init 30 = .ok (.dup, 1) := by decide +kernel
theorem dX2_init_31 : decode cX2_init 31 = .ok (.iconst 2, 1) := by decide +kernel
theorem dX2_init_32 : decode cX2_init 32 = .ok (.new 7, 3) := by decide +kernel
theorem dX2_init_35 : decode cX2_init 35 = .ok (.dup, 1) := by decide +kernel
theorem dX2_init_36 : decode cX2_init 36 = .ok (.invokespecial 9, 3) := by decide +kernel
theorem dX2_init_39 : decode cX2_init 39 = .ok (.aastore, 1) := by decide +kernel
theorem dX2_init_40 : decode cX2_init 40 = .ok (.dup, 1) := by decide +kernel
theorem dX2_init_41 : decode cX2_init 41 = .ok (.iconst 3, 1) := by decide +kernel
theorem dX2_init_42 : decode cX2_init 42 = .ok (.new 7, 3) := by decide +kernel
theorem dX2_init_45 : decode cX2_init 45 = .ok (.dup, 1) := by decide +kernel
theorem dX2_init_46 : decode cX2_init 46 = .ok (.invokespecial 9, 3) := by decide +kernel
theorem dX2_init_49 : decode cX2_init 49 = .ok (.aastore, 1) := by decide +kernel
theorem dX2_init_50 : decode cX2_init 50 = .ok (.dup, 1) := by decide +kernel
theorem dX2_init_51 : decode cX2_init 51 = .ok (.iconst 4, 1) := by decide +kernel
theorem dX2_init_52 : decode cX2_init 52 = .ok (.new 7, 3) := by decide +kernel
theorem dX2_init_55 : decode cX2_init 55 = .ok (.dup, 1) := by decide +kernel
theorem dX2_init_56 : decode cX2_init 56 = .ok (.invokespecial 9, 3) := by decide +kernel
theorem dX2_init_59 : decode cX2_init 59 = .ok (.aastore, 1) := by decide +kernel
theorem dX2_init_60 : decode cX2_init 60 = .ok (.dup, 1) := by decide +kernel
theorem dX2_init_61 : decode cX2_init 61 = .ok (.iconst 5, 1) := by decide +kernel
theorem dX2_init_62 : decode cX2_init 62 = .ok (.new 7, 3) := by decide +kernel
theorem dX2_init_65 : decode cX2_init 65 = .ok (.dup, 1) := by decide +kernel
theorem dX2_init_66 : decode cX2_init 66 = .ok (.invokespecial 9, 3) := by decide +kernel
theorem dX2_init_69 : decode cX2_init 69 = .ok (.aastore, 1) := by decide +kernel
theorem dX2_init_70 : decode cX2_init 70 = .ok (.putfield 10, 3) := by decide +kernel
theorem dX2_init_73 : decode cX2_init 73 = .ok (.return_, 1) := by decide +kernel
set_option maxRecDepth 20000 in
theorem ggX2_keep_X0_copyFrom : GoodIn wsX2_keep wsX0_copyFrom := goodIn_r _ [12, 13, 14, 15, 16, 17, 18, 19, 20, 21, 22, 23, 24, 25, 26, 27, 28, 29, 30, 31, 32, 33, 34, 35, 36, 37, 38, 39, 40, 41, 42, 43, 44, 45, 46, 47, 48, 49, 53, 54, 55, 56, 57, 58, 59, 60, 61, 62, 63, 64, 65, 66, 67, 68, 69, 70, 71, 72, 73] (by decide +kernel) (by decide +kernel)
set_option maxRecDepth 20000 in
theorem gX2_keep_X0_copyFrom : GoodIn wsX2_keep (wsV RX2 20 RX0 yX0_copyFrom wsX0_copyFrom) := goodIn_app (goodIn_of _ (by decide +kernel)) ggX2_keep_X0_copyFrom
theorem dX2_keep_0 : decode cX2_keep 0 = .ok (.aload_n 0, 1) := by decide +kernel
theorem dX2_keep_1 : decode cX2_keep 1 = .ok (.getfield 10, 3) := by decide +kernel
theorem dX2_keep_4 : decode cX2_keep 4 = .ok (.aload_n 0, 1) := by decide +kernel
theorem dX2_keep_5 : decode cX2_keep 5 = .ok (.getfield 16, 3) := by decide +kernel
theorem dX2_keep_8 : decode cX2_keep 8 = .ok (.aaload, 1) := by decide +kernel
theorem dX2_keep_9 : decode cX2_keep 9 = .ok (.aload_n 1, 1) := by decide +kernel
theorem dX2_keep_10 : decode cX2_keep 10 = .ok (.invokevirtual 20, 3) := by decide +kernel
theorem dX2_keep_13 : decode cX2_keep 13 = .ok (.aload_n 0, 1) := by decide +kernel
theorem dX2_keep_14 : decode cX2_keep 14 = .ok (.aload_n 0, 1) := by decide +kernel
theorem dX2_keep_15 : decode cX2_keep 15 = .ok (.getfield 16, 3) := by decide +kernel
theorem dX2_keep_18 : decode cX2_keep 18 = .ok (.iconst 5, 1) := by decide +kernel
theorem dX2_keep_19 : decode cX2_keep 19 = .ok (.if_icmp .lt 7, 3) := by decide +kernel
theorem dX2_keep_22 : decode cX2_keep 22 = .ok (.iconst 0, 1) := by decide +kernel
theorem dX2_keep_23 : decode cX2_keep 23 = .ok (.goto 9, 3) := by decide +kernel
theorem dX2_keep_26 : decode cX2_keep 26 = .ok (.aload_n 0, 1) := by decide +kernel
theorem dX2_keep_27 : decode cX2_keep 27 = .ok (.getfield 16, 3) := by decide +kernel
theorem dX2_keep_30 : decode cX2_keep 30 = .ok (.iconst 1, 1) := by decide +kernel
theorem dX2_keep_31 : decode cX2_keep 31 = .ok (.iadd, 1) := by decide +kernel
theorem dX2_keep_32 : decode cX2_keep 32 = .ok (.putfield 16, 3) := by decide +kernel
theorem dX2_keep_35 : decode cX2_keep 35 = .ok (.aload_n 0, 1) := by decide +kernel
theorem dX2_keep_36 : decode cX2_keep 36 = .ok (.aload_n 0, 1) := by decide +kernel
theorem dX2_keep_37 : decode cX2_keep 37 = .ok (.getfield 24, 3) := by decide +kernel
theorem dX2_keep_40 : decode cX2_keep 40 = .ok (.iconst 1, 1) := by decide +kernel
theorem dX2_keep_41 : decode cX2_keep 41 = .ok (.iadd, 1) := by decide +kernel
theorem dX2_keep_42 : decode cX2_keep 42 = .ok (.bipush 6, 2) := by decide +kernel
theorem dX2_keep_44 : decode cX2_keep 44 = .ok (.invokestatic 27, 3) := by decide +kernel
theorem dX2_keep_47 : decode cX2_keep 47 = .ok (.putfield 24, 3) := by decide +kernel
theorem dX2_keep_50 : decode cX2_keep 50 = .ok (.return_, 1) := by decide +kernel
theorem dX3_init_0 : decode cX3_init 0 = .ok (.aload_n 0, 1) := by decide +kernel
theorem dX3_init_1 : decode cX3_init 1 = .ok (.invokespecial 3, 3) := by decide +kernel
theorem dX3_init_4 : decode cX3_init 4 = .ok (.aload_n 0, 1) := by decide +kernel
theorem dX3_init_5 : decode cX3_init 5 = .ok (.bipush 60, 2) := by decide +kernel
theorem dX3_init_7 : decode cX3_init 7 = .ok (.newarray .char, 2) := by decide +kernel
theorem dX3_init_9 : decode cX3_init 9 = .ok (.putfield 11, 3) := by decide +kernel
theorem dX3_init_12 : decode cX3_init 12 = .ok (.return_, 1) := by decide +kernel
theorem dX3_charactersIn_0 : decode cX3_charactersIn 0 = .ok (.lload_n 0, 1) := by decide +kernel
theorem dX3_charactersIn_1 : decode cX3_charactersIn 1 = .ok (.lstore_n 2, 1) := by decide +kernel
theorem dX3_charactersIn_2 : decode cX3_charactersIn 2 = .ok (.iconst 0, 1) := by decide +kernel
theorem dX3_charactersIn_3 : decode cX3_charactersIn 3 = .ok (.istore 4, 2) := by decide +kernel
theorem dX3_charactersIn_5 : decode cX3_charactersIn 5 = .ok (.iload 4, 2) := by decide +kernel
theorem dX3_charactersIn_7 : decode cX3_charactersIn 7 = .ok (.bipush 8, 2) := by decide +kernel
theorem dX3_charactersIn_9 : decode cX3_charactersIn 9 = .ok (.if_icmp .ge 48, 3) := by decide +kernel
theorem dX3_charactersIn_12 : decode cX3_charactersIn 12 = .ok (.lload_n 2, 1) := by decide +kernel
theorem dX3_charactersIn_13 : decode cX3_charactersIn 13 = .ok (.ldc2_w 15, 3) := by decide +kernel
theorem dX3_charactersIn_16 : decode cX3_charactersIn 16 = .ok (.land, 1) := by decide +kernel
theorem dX3_charactersIn_17 : decode cX3_charactersIn 17 = .ok (.lconst 0, 1) := by decide +kernel
theorem dX3_charactersIn_18 : decode cX3_charactersIn 18 = .ok (.lcmp, 1) := by decide +kernel
theorem dX3_charactersIn_19 : decode cX3_charactersIn 19 = .ok (.ifCond .eq 38, 3) := by decide +kernel
theorem dX3_charactersIn_22 : decode cX3_charactersIn 22 = .ok (.lload_n 2, 1) := by decide +kernel
theorem dX3_charactersIn_23 : decode cX3_charactersIn 23 = .ok (.ldc2_w 15, 3) := by decide +kernel
theorem dX3_charactersIn_26 : decode cX3_charactersIn 26 = .ok (.land, 1) := by decide +kernel
theorem dX3_charactersIn_27 : decode cX3_charactersIn 27 = .ok (.l2i, 1) := by decide +kernel
theorem dX3_charactersIn_28 : decode cX3_charactersIn 28 = .ok (.istore 5, 2) := by decide +kernel
theorem dX3_charactersIn_30 : decode cX3_charactersIn 30 = .ok (.iload 5, 2) := by decide +kernel
theorem dX3_charactersIn_32 : decode cX3_charactersIn 32 = .ok (.bipush 33, 2) := by decide +kernel
theorem dX3_charactersIn_34 : decode cX3_charactersIn 34 = .ok (.if_icmp .lt 10, 3) := by decide +kernel
theorem dX3_charactersIn_37 : decode cX3_charactersIn 37 = .ok (.iload 5, 2) := by decide +kernel
theorem dX3_charactersIn_39 : decode cX3_charactersIn 39 = .ok (.bipush 126, 2) := by decide +kernel
theorem dX3_charactersIn_41 : decode cX3_charactersIn 41 = .ok (.if_icmp .le 5, 3) := by decide +kernel
theorem dX3_charactersIn_44 : decode cX3_charactersIn 44 = .ok (.iconst 0, 1) := by decide +kernel
theorem dX3_charactersIn_45 : decode cX3_charactersIn 45 = .ok (.ireturn, 1) := by decide +kernel
theorem dX3_charactersIn_46 : decode cX3_charactersIn 46 = .ok (.lload_n 2, 1) := by decide +kernel
theorem dX3_charactersIn_47 : decode cX3_charactersIn 47 = .ok (.bipush 8, 2) := by decide +kernel
theorem dX3_charactersIn_49 : decode cX3_charactersIn 49 = .ok (.lushr, 1) := by decide +kernel
theorem dX3_charactersIn_50 : decode cX3_charactersIn 50 = .ok (.lstore_n 2, 1) := by decide +kernel
theorem dX3_charactersIn_51 : decode cX3_charactersIn 51 = .ok (.iinc 4 1, 3) := by decide +kernel
theorem dX3_charactersIn_54 : decode cX3_charactersIn 54 = .ok (.goto (-49), 3) := by decide +kernel
theorem dX3_charactersIn_57 : decode cX3_charactersIn 57 = .ok (.lload_n 2, 1) := by decide +kernel
theorem dX3_charactersIn_58 : decode cX3_charactersIn 58 = .ok (.lconst 0, 1) := by decide +kernel
theorem dX3_charactersIn_59 : decode cX3_charactersIn 59 = .ok (.lcmp, 1) := by decide +kernel
theorem dX3_charactersIn_60 : decode cX3_charactersIn 60 = .ok (.ifCond .ne 8, 3) := by decide +kernel
theorem dX3_charactersIn_63 : decode cX3_charactersIn 63 = .ok (.iload 4, 2) := by decide +kernel
theorem dX3_charactersIn_65 : decode cX3_charactersIn 65 = .ok (.goto 4, 3) := by decide +kernel
theorem dX3_charactersIn_68 : decode cX3_charactersIn 68 = .ok (.iconst 0, 1) := by decide +kernel
theorem dX3_charactersIn_69 : decode cX3_charactersIn 69 = .ok (.ireturn, 1) := by decide +kernel
theorem dX3_append_0 : decode cX3_append 0 = .ok (.iconst 0, 1) := by decide +kernel
theorem dX3_append_1 : decode cX3_append 1 = .ok (.istore 4, 2) := by decide +kernel
theorem dX3_append_3 : decode cX3_append 3 = .ok (.iload 4, 2) := by decide +kernel
theorem dX3_append_5 : decode cX3_append 5 = .ok (.iload_n 3, 1) := by decide +kernel
theorem dX3_append_6 : decode cX3_append 6 = .ok (.if_icmp .ge 38, 3) := by decide +kernel
theorem dX3_append_9 : decode cX3_append 9 = .ok (.aload_n 0, 1) := by decide +kernel
theorem dX3_append_10 : decode cX3_append 10 = .ok (.getfield 11, 3) := by decide +kernel
theorem dX3_append_13 : decode cX3_append 13 = .ok (.aload_n 0, 1) := by decide +kernel
theorem dX3_append_14 : decode cX3_append 14 = .ok (.getfield 17, 3) := by decide +kernel
theorem dX3_append_17 : decode cX3_append 17 = .ok (.iload_n 3, 1) := by decide +kernel
theorem dX3_append_18 : decode cX3_append 18 = .ok (.iadd, 1) := by decide +kernel
theorem dX3_append_19 : decode cX3_append 19 = .ok (.iconst 1, 1) := by decide +kernel
theorem dX3_append_20 : decode cX3_append 20 = .ok (.isub, 1) := by decide +kernel
theorem dX3_append_21 : decode cX3_append 21 = .ok (.iload 4, 2) := by decide +kernel
theorem dX3_append_23 : decode cX3_append 23 = .ok (.isub, 1) := by decide +kernel
theorem dX3_append_24 : decode cX3_append 24 = .ok (.lload_n 1, 1) := by decide +kernel
theorem dX3_append_25 : decode cX3_append 25 = .ok (.bipush 8, 2) := by decide +kernel
theorem dX3_append_27 : decode cX3_append 27 = .ok (.iload 4, 2) := by decide +kernel
theorem dX3_append_29 : decode cX3_append 29 = .ok (.imul, 1) := by decide +kernel
theorem dX3_append_30 : decode cX3_append 30 = .ok (.lushr, 1) := by decide +kernel
theorem dX3_append_31 : decode cX3_append 31 = .ok (.ldc2_w 15, 3) := by decide +kernel
theorem dX3_append_34 : decode cX3_append 34 = .ok (.land, 1) := by decide +kernel
theorem dX3_append_35 : decode cX3_append 35 = .ok (.l2i, 1) := by decide +kernel
theorem dX3_append_36 : decode cX3_append 36 = .ok (.i2c, 1) := by decide +kernel
theorem dX3_append_37 : decode cX3_append 37 = .ok (.castore, 1) := by decide +kernel
theorem dX3_append_38 : decode cX3_append 38 = .ok (.iinc 4 1, 3) := by decide +kernel
theorem dX3_append_41 : decode cX3_append 41 = .ok (.goto (-38), 3) := by decide +kernel
theorem dX3_append_44 : decode cX3_append 44 = .ok (.aload_n 0, 1) := by decide +kernel
theorem dX3_append_45 : decode cX3_append 45 = .ok (.dup, 1) := by decide +kernel
theorem dX3_append_46 : decode cX3_append 46 = .ok (.getfield 17, 3) := by decide +kernel
theorem dX3_append_49 : decode cX3_append 49 = .ok (.iload_n 3, 1) := by decide +kernel
theorem dX3_append_50 : decode cX3_append 50 = .ok (.iadd, 1) := by decide +kernel
theorem dX3_append_51 : decode cX3_append 51 = .ok (.putfield 17, 3) := by decide +kernel
theorem dX3_append_54 : decode cX3_append 54 = .ok (.return_, 1) := by decide +kernel
theorem dX3_empty_0 : decode cX3_empty 0 = .ok (.aload_n 0, 1) := by decide +kernel
theorem dX3_empty_1 : decode cX3_empty 1 = .ok (.iconst 0, 1) := by decide +kernel
theorem dX3_empty_2 : decode cX3_empty 2 = .ok (.putfield 17, 3) := by decide +kernel
theorem dX3_empty_5 : decode cX3_empty 5 = .ok (.return_, 1) := by decide +kernel
set_option maxRecDepth 20000 in
theorem ggX3_firstFault_X3_dueBehind : GoodIn wsX3_firstFault wsX3_dueBehind := goodIn_r _ [6, 7, 8, 5, 9, 10, 11, 12] (by decide +kernel) (by decide +kernel)
set_option maxRecDepth 20000 in
theorem gX3_firstFault_X3_dueBehind : GoodIn wsX3_firstFault (va_wsS RX3 21 yX3_dueBehind wsX3_dueBehind) := goodIn_app (goodIn_of _ (by decide +kernel)) ggX3_firstFault_X3_dueBehind
theorem dX3_firstFault_0 : decode cX3_firstFault 0 = .ok (.iconst 0, 1) := by decide +kernel
theorem dX3_firstFault_1 : decode cX3_firstFault 1 = .ok (.istore_n 1, 1) := by decide +kernel
theorem dX3_firstFault_2 : decode cX3_firstFault 2 = .ok (.iconst 0, 1) := by decide +kernel
theorem dX3_firstFault_3 : decode cX3_firstFault 3 = .ok (.istore_n 2, 1) := by decide +kernel
theorem dX3_firstFault_4 : decode cX3_firstFault 4 = .ok (.iload_n 2, 1) := by decide +kernel
theorem dX3_firstFault_5 : decode cX3_firstFault 5 = .ok (.aload_n 0, 1) := by decide +kernel
theorem dX3_firstFault_6 : decode cX3_firstFault 6 = .ok (.getfield 17, 3) := by decide +kernel
theorem dX3_firstFault_9 : decode cX3_firstFault 9 = .ok (.if_icmp .ge 27, 3) := by decide +kernel
theorem dX3_firstFault_12 : decode cX3_firstFault 12 = .ok (.iload_n 1, 1) := by decide +kernel
theorem dX3_firstFault_13 : decode cX3_firstFault 13 = .ok (.aload_n 0, 1) := by decide +kernel
theorem dX3_firstFault_14 : decode cX3_firstFault 14 = .ok (.getfield 11, 3) := by decide +kernel
theorem dX3_firstFault_17 : decode cX3_firstFault 17 = .ok (.iload_n 2, 1) := by decide +kernel
theorem dX3_firstFault_18 : decode cX3_firstFault 18 = .ok (.caload, 1) := by decide +kernel
theorem dX3_firstFault_19 : decode cX3_firstFault 19 = .ok (.invokestatic 21, 3) := by decide +kernel
theorem dX3_firstFault_22 : decode cX3_firstFault 22 = .ok (.istore_n 1, 1) := by decide +kernel
theorem dX3_firstFault_23 : decode cX3_firstFault 23 = .ok (.iload_n 1, 1) := by decide +kernel
theorem dX3_firstFault_24 : decode cX3_firstFault 24 = .ok (.iconst (-1), 1) := by decide +kernel
theorem dX3_firstFault_25 : decode cX3_firstFault 25 = .ok (.if_icmp .ne 5, 3) := by decide +kernel
theorem dX3_firstFault_28 : decode cX3_firstFault 28 = .ok (.iload_n 2, 1) := by decide +kernel
theorem dX3_firstFault_29 : decode cX3_firstFault 29 = .ok (.ireturn, 1) := by decide +kernel
theorem dX3_firstFault_30 : decode cX3_firstFault 30 = .ok (.iinc 2 1, 3) := by decide +kernel
theorem dX3_firstFault_33 : decode cX3_firstFault 33 = .ok (.goto (-29), 3) := by decide +kernel
theorem dX3_firstFault_36 : decode cX3_firstFault 36 = .ok (.iload_n 1, 1) := by decide +kernel
theorem dX3_firstFault_37 : decode cX3_firstFault 37 = .ok (.iconst 3, 1) := by decide +kernel
theorem dX3_firstFault_38 : decode cX3_firstFault 38 = .ok (.if_icmp .lt 8, 3) := by decide +kernel
theorem dX3_firstFault_41 : decode cX3_firstFault 41 = .ok (.bipush (-6), 2) := by decide +kernel
theorem dX3_firstFault_43 : decode cX3_firstFault 43 = .ok (.goto 7, 3) := by decide +kernel
theorem dX3_firstFault_46 : decode cX3_firstFault 46 = .ok (.aload_n 0, 1) := by decide +kernel
theorem dX3_firstFault_47 : decode cX3_firstFault 47 = .ok (.getfield 17, 3) := by decide +kernel
theorem dX3_firstFault_50 : decode cX3_firstFault 50 = .ok (.ireturn, 1) := by decide +kernel
set_option maxRecDepth 20000 in
theorem ggX3_dueBehind_X3_dueBehindPlaces : GoodIn wsX3_dueBehind wsX3_dueBehindPlaces := goodIn_r _ [4, 5, 6, 7] (by decide +kernel) (by decide +kernel)
set_option maxRecDepth 20000 in
theorem gX3_dueBehind_X3_dueBehindPlaces : GoodIn wsX3_dueBehind (va_wsS RX3 25 yX3_dueBehindPlaces wsX3_dueBehindPlaces) := goodIn_app (goodIn_of _ (by decide +kernel)) ggX3_dueBehind_X3_dueBehindPlaces
theorem dX3_dueBehind_0 : decode cX3_dueBehind 0 = .ok (.iload_n 0, 1) := by decide +kernel
theorem dX3_dueBehind_1 : decode cX3_dueBehind 1 = .ok (.tableswitch 91 0 2 #[27, 53, 79], 27) := by decide +kernel
theorem dX3_dueBehind_28 : decode cX3_dueBehind 28 = .ok (.iload_n 1, 1) := by decide +kernel
theorem dX3_dueBehind_29 : decode cX3_dueBehind 29 = .ok (.bipush 49, 2) := by decide +kernel
theorem dX3_dueBehind_31 : decode cX3_dueBehind 31 = .ok (.if_icmp .ne 5, 3) := by decide +kernel
theorem dX3_dueBehind_34 : decode cX3_dueBehind 34 = .ok (.iconst 1, 1) := by decide +kernel
theorem dX3_dueBehind_35 : decode cX3_dueBehind 35 = .ok (.ireturn, 1) := by decide +kernel
theorem dX3_dueBehind_36 : decode cX3_dueBehind 36 = .ok (.iload_n 1, 1) := by decide +kernel
theorem dX3_dueBehind_37 : decode cX3_dueBehind 37 = .ok (.bipush 48, 2) := by decide +kernel
theorem dX3_dueBehind_39 : decode cX3_dueBehind 39 = .ok (.if_icmp .lt 13, 3) := by decide +kernel
theorem dX3_dueBehind_42 : decode cX3_dueBehind 42 = .ok (.iload_n 1, 1) := by decide +kernel
theorem dX3_dueBehind_43 : decode cX3_dueBehind 43 = .ok (.bipush 57, 2) := by decide +kernel
theorem dX3_dueBehind_45 : decode cX3_dueBehind 45 = .ok (.if_icmp .gt 7, 3) := by decide +kernel
theorem dX3_dueBehind_48 : decode cX3_dueBehind 48 = .ok (.iconst 2, 1) := by decide +kernel
theorem dX3_dueBehind_49 : decode cX3_dueBehind 49 = .ok (.goto 4, 3) := by decide +kernel
theorem dX3_dueBehind_52 : decode cX3_dueBehind 52 = .ok (.iconst (-1), 1) := by decide +kernel
theorem dX3_dueBehind_53 : decode cX3_dueBehind 53 = .ok (.ireturn, 1) := by decide +kernel
theorem dX3_dueBehind_54 : decode cX3_dueBehind 54 = .ok (.iload_n 1, 1) := by decide +kernel
theorem dX3_dueBehind_55 : decode cX3_dueBehind 55 = .ok (.bipush 48, 2) := by decide +kernel
theorem dX3_dueBehind_57 : decode cX3_dueBehind 57 = .ok (.if_icmp .lt 11, 3) := by decide +kernel
theorem dX3_dueBehind_60 : decode cX3_dueBehind 60 = .ok (.iload_n 1, 1) := by decide +kernel
theorem dX3_dueBehind_61 : decode cX3_dueBehind 61 = .ok (.bipush 53, 2) := by decide +kernel
theorem dX3_dueBehind_63 : decode cX3_dueBehind 63 = .ok (.if_icmp .gt 5, 3) := by decide +kernel
theorem dX3_dueBehind_66 : decode cX3_dueBehind 66 = .ok (.iconst 2, 1) := by decide +kernel
theorem dX3_dueBehind_67 : decode cX3_dueBehind 67 = .ok (.ireturn, 1) := by decide +kernel
theorem dX3_dueBehind_68 : decode cX3_dueBehind 68 = .ok (.iload_n 1, 1) := by decide +kernel
theorem dX3_dueBehind_69 : decode cX3_dueBehind 69 = .ok (.bipush 58, 2) := by decide +kernel
theorem dX3_dueBehind_71 : decode cX3_dueBehind 71 = .ok (.if_icmp .ne 7, 3) := by decide +kernel
theorem dX3_dueBehind_74 : decode cX3_dueBehind 74 = .ok (.iconst 3, 1) := by decide +kernel
theorem dX3_dueBehind_75 : decode cX3_dueBehind 75 = .ok (.goto 4, 3) := by decide +kernel
theorem dX3_dueBehind_78 : decode cX3_dueBehind 78 = .ok (.iconst (-1), 1) := by decide +kernel
theorem dX3_dueBehind_79 : decode cX3_dueBehind 79 = .ok (.ireturn, 1) := by decide +kernel
theorem dX3_dueBehind_80 : decode cX3_dueBehind 80 = .ok (.iload_n 1, 1) := by decide +kernel
theorem dX3_dueBehind_81 : decode cX3_dueBehind 81 = .ok (.bipush 58, 2) := by decide +kernel
theorem dX3_dueBehind_83 : decode cX3_dueBehind 83 = .ok (.if_icmp .ne 7, 3) := by decide +kernel
theorem dX3_dueBehind_86 : decode cX3_dueBehind 86 = .ok (.iconst 3, 1) := by decide +kernel
theorem dX3_dueBehind_87 : decode cX3_dueBehind 87 = .ok (.goto 4, 3) := by decide +kernel
theorem dX3_dueBehind_90 : decode cX3_dueBehind 90 = .ok (.iconst (-1), 1) := by decide +kernel
theorem dX3_dueBehind_91 : decode cX3_dueBehind 91 = .ok (.ireturn, 1) := by decide +kernel
theorem dX3_dueBehind_92 : decode cX3_dueBehind 92 = .ok (.iload_n 0, 1) := by decide +kernel
theorem dX3_dueBehind_93 : decode cX3_dueBehind 93 = .ok (.iconst 3, 1) := by decide +kernel
theorem dX3_dueBehind_94 : decode cX3_dueBehind 94 = .ok (.isub, 1) := by decide +kernel
theorem dX3_dueBehind_95 : decode cX3_dueBehind 95 = .ok (.iload_n 1, 1) := by decide +kernel
theorem dX3_dueBehind_96 : decode cX3_dueBehind 96 = .ok (.invokestatic 25, 3) := by decide +kernel
theorem dX3_dueBehind_99 : decode cX3_dueBehind 99 = .ok (.ireturn, 1) := by decide +kernel
set_option maxRecDepth 20000 in
theorem ggX3_dueBehindPlaces_X5_isPlace : GoodIn wsX3_dueBehindPlaces wsX5_isPlace := goodIn_r _ [3] (by decide +kernel) (by decide +kernel)
set_option maxRecDepth 20000 in
theorem gX3_dueBehindPlaces_X5_isPlace_n28 : GoodIn wsX3_dueBehindPlaces (wsX5_isPlace) := ggX3_dueBehindPlaces_X5_isPlace
theorem dX3_dueBehindPlaces_0 : decode cX3_dueBehindPlaces 0 = .ok (.iload_n 1, 1) := by decide +kernel
theorem dX3_dueBehindPlaces_1 : decode cX3_dueBehindPlaces 1 = .ok (.bipush 59, 2) := by decide +kernel
theorem dX3_dueBehindPlaces_3 : decode cX3_dueBehindPlaces 3 = .ok (.if_icmp .ne 5, 3) := by decide +kernel
theorem dX3_dueBehindPlaces_6 : decode cX3_dueBehindPlaces 6 = .ok (.iconst 0, 1) := by decide +kernel
theorem dX3_dueBehindPlaces_7 : decode cX3_dueBehindPlaces 7 = .ok (.ireturn, 1) := by decide +kernel
theorem dX3_dueBehindPlaces_8 : decode cX3_dueBehindPlaces 8 = .ok (.iload_n 1, 1) := by decide +kernel
theorem dX3_dueBehindPlaces_9 : decode cX3_dueBehindPlaces 9 = .ok (.bipush 48, 2) := by decide +kernel
theorem dX3_dueBehindPlaces_11 : decode cX3_dueBehindPlaces 11 = .ok (.isub, 1) := by decide +kernel
theorem dX3_dueBehindPlaces_12 : decode cX3_dueBehindPlaces 12 = .ok (.istore_n 2, 1) := by decide +kernel
theorem dX3_dueBehindPlaces_13 : decode cX3_dueBehindPlaces 13 = .ok (.iload_n 2, 1) := by decide +kernel
theorem dX3_dueBehindPlaces_14 : decode cX3_dueBehindPlaces 14 = .ok (.invokestatic 28, 3) := by decide +kernel
theorem dX3_dueBehindPlaces_17 : decode cX3_dueBehindPlaces 17 = .ok (.ifCond .eq 16, 3) := by decide +kernel
theorem dX3_dueBehindPlaces_20 : decode cX3_dueBehindPlaces 20 = .ok (.iload_n 2, 1) := by decide +kernel
theorem dX3_dueBehindPlaces_21 : decode cX3_dueBehindPlaces 21 = .ok (.iload_n 0, 1) := by decide +kernel
theorem dX3_dueBehindPlaces_22 : decode cX3_dueBehindPlaces 22 = .ok (.if_icmp .lt 11, 3) := by decide +kernel
theorem dX3_dueBehindPlaces_25 : decode cX3_dueBehindPlaces 25 = .ok (.iconst 3, 1) := by decide +kernel
theorem dX3_dueBehindPlaces_26 : decode cX3_dueBehindPlaces 26 = .ok (.iload_n 2, 1) := by decide +kernel
theorem dX3_dueBehindPlaces_27 : decode cX3_dueBehindPlaces 27 = .ok (.iadd, 1) := by decide +kernel
theorem dX3_dueBehindPlaces_28 : decode cX3_dueBehindPlaces 28 = .ok (.iconst 1, 1) := by decide +kernel
theorem dX3_dueBehindPlaces_29 : decode cX3_dueBehindPlaces 29 = .ok (.iadd, 1) := by decide +kernel
theorem dX3_dueBehindPlaces_30 : decode cX3_dueBehindPlaces 30 = .ok (.goto 4, 3) := by decide +kernel
theorem dX3_dueBehindPlaces_33 : decode cX3_dueBehindPlaces 33 = .ok (.iconst (-1), 1) := by decide +kernel
theorem dX3_dueBehindPlaces_34 : decode cX3_dueBehindPlaces 34 = .ok (.ireturn, 1) := by decide +kernel
set_option maxRecDepth 20000 in
theorem ggX3_changeRows_X5_isRow : GoodIn wsX3_changeRows wsX5_isRow := goodIn_r _ [5] (by decide +kernel) (by decide +kernel)
set_option maxRecDepth 20000 in
theorem gX3_changeRows_X5_isRow_n32 : GoodIn wsX3_changeRows (wsX5_isRow) := ggX3_changeRows_X5_isRow
set_option maxRecDepth 20000 in
theorem ggX3_changeRows_X1_giveRow : GoodIn wsX3_changeRows wsX1_giveRow := goodIn_r _ [10, 11, 12, 13, 14, 15, 9, 16, 19, 20, 21, 22] (by decide +kernel) (by decide +kernel)
set_option maxRecDepth 20000 in
theorem gX3_changeRows_X1_giveRow : GoodIn wsX3_changeRows (wsV RX3 35 RX1 yX1_giveRow wsX1_giveRow) := goodIn_app (goodIn_of _ (by decide +kernel)) ggX3_changeRows_X1_giveRow
theorem dX3_changeRows_0 : decode cX3_changeRows 0 = .ok (.iconst 0, 1) := by decide +kernel
theorem dX3_changeRows_1 : decode cX3_changeRows 1 = .ok (.istore_n 2, 1) := by decide +kernel
theorem dX3_changeRows_2 : decode cX3_changeRows 2 = .ok (.iconst 0, 1) := by decide +kernel
theorem dX3_changeRows_3 : decode cX3_changeRows 3 = .ok (.istore_n 3, 1) := by decide +kernel
theorem dX3_changeRows_4 : decode cX3_changeRows 4 = .ok (.iconst 0, 1) := by decide +kernel
theorem dX3_changeRows_5 : decode cX3_changeRows 5 = .ok (.istore 4, 2) := by decide +kernel
theorem dX3_changeRows_7 : decode cX3_changeRows 7 = .ok (.iconst 0, 1) := by decide +kernel
theorem dX3_changeRows_8 : decode cX3_changeRows 8 = .ok (.istore 5, 2) := by decide +kernel
theorem dX3_changeRows_10 : decode cX3_changeRows 10 = .ok (.iload 5, 2) := by decide +kernel
theorem dX3_changeRows_12 : decode cX3_changeRows 12 = .ok (.aload_n 0, 1) := by decide +kernel
theorem dX3_changeRows_13 : decode cX3_changeRows 13 = .ok (.getfield 17, 3) := by decide +kernel
theorem dX3_changeRows_16 : decode cX3_changeRows 16 = .ok (.if_icmp .gt 110, 3) := by decide +kernel
theorem dX3_changeRows_19 : decode cX3_changeRows 19 = .ok (.iload 5, 2) := by decide +kernel
theorem dX3_changeRows_21 : decode cX3_changeRows 21 = .ok (.aload_n 0, 1) := by decide +kernel
theorem dX3_changeRows_22 : decode cX3_changeRows 22 = .ok (.getfield 17, 3) := by decide +kernel
theorem dX3_changeRows_25 : decode cX3_changeRows 25 = .ok (.if_icmp .eq 15, 3) := by decide +kernel
theorem dX3_changeRows_28 : decode cX3_changeRows 28 = .ok (.aload_n 0, 1) := by decide +kernel
theorem dX3_changeRows_29 : decode cX3_changeRows 29 = .ok (.getfield 11, 3) := by decide +kernel
theorem dX3_changeRows_32 : decode cX3_changeRows 32 = .ok (.iload 5, 2) := by decide +kernel
theorem dX3_changeRows_34 : decode cX3_changeRows 34 = .ok (.caload, 1) := by decide +kernel
theorem dX3_changeRows_35 : decode cX3_changeRows 35 = .ok (.bipush 59, 2) := by decide +kernel
theorem dX3_changeRows_37 : decode cX3_changeRows 37 = .ok (.if_icmp .ne 26, 3) := by decide +kernel
theorem dX3_changeRows_40 : decode cX3_changeRows 40 = .ok (.iload_n 2, 1) := by decide +kernel
theorem dX3_changeRows_41 : decode cX3_changeRows 41 = .ok (.invokestatic 32, 3) := by decide +kernel
theorem dX3_changeRows_44 : decode cX3_changeRows 44 = .ok (.ifCond .eq 9, 3) := by decide +kernel
theorem dX3_changeRows_47 : decode cX3_changeRows 47 = .ok (.aload_n 1, 1) := by decide +kernel
theorem dX3_changeRows_48 : decode cX3_changeRows 48 = .ok (.iload_n 2, 1) := by decide +kernel
theorem dX3_changeRows_49 : decode cX3_changeRows 49 = .ok (.iload_n 3, 1) := by decide +kernel
theorem dX3_changeRows_50 : decode cX3_changeRows 50 = .ok (.invokevirtual 35, 3) := by decide +kernel
theorem dX3_changeRows_53 : decode cX3_changeRows 53 = .ok (.iconst 0, 1) := by decide +kernel
theorem dX3_changeRows_54 : decode cX3_changeRows 54 = .ok (.istore_n 2, 1) := by decide +kernel
theorem dX3_changeRows_55 : decode cX3_changeRows 55 = .ok (.iconst 0, 1) := by decide +kernel
theorem dX3_changeRows_56 : decode cX3_changeRows 56 = .ok (.istore_n 3, 1) := by decide +kernel
theorem dX3_changeRows_57 : decode cX3_changeRows 57 = .ok (.iconst 0, 1) := by decide +kernel
theorem dX3_changeRows_58 : decode cX3_changeRows 58 = .ok (.istore 4, 2) := by decide +kernel
theorem dX3_changeRows_60 : decode cX3_changeRows 60 = .ok (.goto 60, 3) := by decide +kernel
theorem dX3_changeRows_63 : decode cX3_changeRows 63 = .ok (.aload_n 0, 1) := by decide +kernel
theorem dX3_changeRows_64 : decode cX3_changeRows 64 = .ok (.getfield 11, 3) := by decide +kernel
theorem dX3_changeRows_67 : decode cX3_changeRows 67 = .ok (.iload 5, 2) := by decide +kernel
theorem dX3_changeRows_69 : decode cX3_changeRows 69 = .ok (.caload, 1) := by decide +kernel
theorem dX3_changeRows_70 : decode cX3_changeRows 70 = .ok (.bipush 58, 2) := by decide +kernel
theorem dX3_changeRows_72 : decode cX3_changeRows 72 = .ok (.if_icmp .ne 9, 3) := by decide +kernel
theorem dX3_changeRows_75 : decode cX3_changeRows 75 = .ok (.iconst 1, 1) := by decide +kernel
theorem dX3_changeRows_76 : decode cX3_changeRows 76 = .ok (.istore 4, 2) := by decide +kernel
theorem dX3_changeRows_78 : decode cX3_changeRows 78 = .ok (.goto 42, 3) := by decide +kernel
theorem dX3_changeRows_81 : decode cX3_changeRows 81 = .ok (.iload 4, 2) := by decide +kernel
theorem dX3_changeRows_83 : decode cX3_changeRows 83 = .ok (.ifCond .eq 21, 3) := by decide +kernel
theorem dX3_changeRows_86 : decode cX3_changeRows 86 = .ok (.iload_n 3, 1) := by decide +kernel
theorem dX3_changeRows_87 : decode cX3_changeRows 87 = .ok (.iconst 1, 1) := by decide +kernel
theorem dX3_changeRows_88 : decode cX3_changeRows 88 = .ok (.aload_n 0, 1) := by decide +kernel
theorem dX3_changeRows_89 : decode cX3_changeRows 89 = .ok (.getfield 11, 3) := by decide +kernel
theorem dX3_changeRows_92 : decode cX3_changeRows 92 = .ok (.iload 5, 2) := by decide +kernel
theorem dX3_changeRows_94 : decode cX3_changeRows 94 = .ok (.caload, 1) := by decide +kernel
theorem dX3_changeRows_95 : decode cX3_changeRows 95 = .ok (.bipush 48, 2) := by decide +kernel
theorem dX3_changeRows_97 : decode cX3_changeRows 97 = .ok (.isub, 1) := by decide +kernel
theorem dX3_changeRows_98 : decode cX3_changeRows 98 = .ok (.ishl, 1) := by decide +kernel
theorem dX3_changeRows_99 : decode cX3_changeRows 99 = .ok (.ior, 1) := by decide +kernel
theorem dX3_changeRows_100 : decode cX3_changeRows 100 = .ok (.istore_n 3, 1) := by decide +kernel
theorem dX3_changeRows_101 : decode cX3_changeRows 101 = .ok (.goto 19, 3) := by decide +kernel
theorem dX3_changeRows_104 : decode cX3_changeRows 104 = .ok (.iload_n 2, 1) := by decide +kernel
theorem dX3_changeRows_105 : decode cX3_changeRows 105 = .ok (.bipush 10, 2) := by decide +kernel
theorem dX3_changeRows_107 : decode cX3_changeRows 107 = .ok (.imul, 1) := by decide +kernel
theorem dX3_changeRows_108 : decode cX3_changeRows 108 = .ok (.aload_n 0, 1) := by decide +kernel
theorem dX3_changeRows_109 : decode cX3_changeRows 109 = .ok (.getfield 11, 3) := by decide +kernel
theorem dX3_changeRows_112 : decode cX3_changeRows 112 = .ok (.iload 5, 2) := by decide +kernel
theorem dX3_changeRows_114 : decode cX3_changeRows 114 = .ok (.caload, 1) := by decide +kernel
theorem dX3_changeRows_115 : decode cX3_changeRows 115 = .ok (.iadd, 1) := by decide +kernel
theorem dX3_changeRows_116 : decode cX3_changeRows 116 = .ok (.bipush 48, 2) := by decide +kernel
theorem dX3_changeRows_118 : decode cX3_changeRows 118 = .ok (.isub, 1) := by decide +kernel
theorem dX3_changeRows_119 : decode cX3_changeRows 119 = .ok (.istore_n 2, 1) := by decide +kernel
theorem dX3_changeRows_120 : decode cX3_changeRows 120 = .ok (.iinc 5 1, 3) := by decide +kernel
theorem dX3_changeRows_123 : decode cX3_changeRows 123 = .ok (.goto (-113), 3) := by decide +kernel
theorem dX3_changeRows_126 : decode cX3_changeRows 126 = .ok (.return_, 1) := by decide +kernel
theorem dX4_init_0 : decode cX4_init 0 = .ok (.aload_n 0, 1) := by decide +kernel
theorem dX4_init_1 : decode cX4_init 1 = .ok (.invokespecial 3, 3) := by decide +kernel
theorem dX4_init_4 : decode cX4_init 4 = .ok (.aload_n 0, 1) := by decide +kernel
theorem dX4_init_5 : decode cX4_init 5 = .ok (.bipush 6, 2) := by decide +kernel
theorem dX4_init_7 : decode cX4_init 7 = .ok (.newarray .int, 2) := by decide +kernel
theorem dX4_init_9 : decode cX4_init 9 = .ok (.dup, 1) := by decide +kernel
theorem dX4_init_10 : decode cX4_init 10 = .ok (.iconst 0, 1) := by decide +kernel
theorem dX4_init_11 : decode cX4_init 11 = .ok (.bipush 50, 2) := by decide +kernel
theorem dX4_init_13 : decode cX4_init 13 = .ok (.iastore, 1) := by decide +kernel
theorem dX4_init_14 : decode cX4_init 14 = .ok (.dup, 1) := by decide +kernel
theorem dX4_init_15 : decode cX4_init 15 = .ok (.iconst 1, 1) := by decide +kernel
theorem dX4_init_16 : decode cX4_init 16 = .ok (.bipush 50, 2) := by decide +kernel
theorem dX4_init_18 : decode cX4_init 18 = .ok (.iastore, 1) := by decide +kernel
theorem dX4_init_19 : decode cX4_init 19 = .ok (.dup, 1) := by decide +kernel
theorem dX4_init_20 : decode cX4_init 20 = .ok (.iconst 2, 1) := by decide +kernel
theorem dX4_init_21 : decode cX4_init 21 = .ok (.bipush 50, 2) := by decide +kernel
theorem dX4_init_23 : decode cX4_init 23 = .ok (.iastore, 1) := by decide +kernel
theorem dX4_init_24 : decode cX4_init 24 = .ok (.dup, 1) := by decide +kernel
theorem dX4_init_25 : decode cX4_init 25 = .ok (.iconst 3, 1) := by decide +kernel
theorem dX4_init_26 : decode cX4_init 26 = .ok (.bipush 50, 2) := by decide +kernel
theorem dX4_init_28 : decode cX4_init 28 = .ok (.iastore, 1) := by decide +kernel
theorem dX4_init_29 : decode cX4_init 29 = .ok (.dup, 1) := by decide +kernel
theorem dX4_init_30 : decode cX4_init 30 = .ok (.iconst 4, 1) := by decide +kernel
theorem dX4_init_31 : decode cX4_init 31 = .ok (.bipush 50, 2) := by decide +kernel
theorem dX4_init_33 : decode cX4_init 33 = .ok (.iastore, 1) := by decide +kernel
theorem dX4_init_34 : decode cX4_init 34 = .ok (.dup, 1) := by decide +kernel
theorem dX4_init_35 : decode cX4_init 35 = .ok (.iconst 5, 1) := by decide +kernel
theorem dX4_init_36 : decode cX4_init 36 = .ok (.bipush 50, 2) := by decide +kernel
theorem dX4_init_38 : decode cX4_init 38 = .ok (.iastore, 1) := by decide +kernel
theorem dX4_init_39 : decode cX4_init 39 = .ok (.putfield 9, 3) := by decide +kernel
theorem dX4_init_42 : decode cX4_init 42 = .ok (.aload_n 0, 1) := by decide +kernel
theorem dX4_init_43 : decode cX4_init 43 = .ok (.bipush 6, 2) := by decide +kernel
theorem dX4_init_45 : decode cX4_init 45 = .ok (.newarray .int, 2) := by decide +kernel
theorem dX4_init_47 : decode cX4_init 47 = .ok (.putfield 15, 3) := by decide +kernel
theorem dX4_init_50 : decode cX4_init 50 = .ok (.aload_n 0, 1) := by decide +kernel
theorem dX4_init_51 : decode cX4_init 51 = .ok (.bipush 6, 2) := by decide +kernel
theorem dX4_init_53 : decode cX4_init 53 = .ok (.newarray .int, 2) := by decide +kernel
theorem dX4_init_55 : decode cX4_init 55 = .ok (.putfield 18, 3) := by decide +kernel
theorem dX4_init_58 : decode cX4_init 58 = .ok (.aload_n 0, 1) := by decide +kernel
theorem dX4_init_59 : decode cX4_init 59 = .ok (.bipush 6, 2) := by decide +kernel
theorem dX4_init_61 : decode cX4_init 61 = .ok (.newarray .int, 2) := by decide +kernel
theorem dX4_init_63 : decode cX4_init 63 = .ok (.putfield 21, 3) := by decide +kernel
theorem dX4_init_66 : decode cX4_init 66 = .ok (.return_, 1) := by decide +kernel
theorem dX4_copyFrom_0 : decode cX4_copyFrom 0 = .ok (.aload_n 1, 1) := by decide +kernel
theorem dX4_copyFrom_1 : decode cX4_copyFrom 1 = .ok (.getfield 9, 3) := by decide +kernel
theorem dX4_copyFrom_4 : decode cX4_copyFrom 4 = .ok (.iconst 0, 1) := by decide +kernel
theorem dX4_copyFrom_5 : decode cX4_copyFrom 5 = .ok (.aload_n 0, 1) := by decide +kernel
theorem dX4_copyFrom_6 : decode cX4_copyFrom 6 = .ok (.getfield 9, 3) := by decide +kernel
theorem dX4_copyFrom_9 : decode cX4_copyFrom 9 = .ok (.iconst 0, 1) := by decide +kernel
theorem dX4_copyFrom_10 : decode cX4_copyFrom 10 = .ok (.bipush 6, 2) := by decide +kernel
theorem dX4_copyFrom_12 : decode cX4_copyFrom 12 = .ok (.invokestatic 24, 3) := by decide +kernel
theorem dX4_copyFrom_15 : decode cX4_copyFrom 15 = .ok (.aload_n 1, 1) := by decide +kernel
theorem dX4_copyFrom_16 : decode cX4_copyFrom 16 = .ok (.getfield 15, 3) := by decide +kernel
theorem dX4_copyFrom_19 : decode cX4_copyFrom 19 = .ok (.iconst 0, 1) := by decide +kernel
theorem dX4_copyFrom_20 : decode cX4_copyFrom 20 = .ok (.aload_n 0, 1) := by decide +kernel
theorem dX4_copyFrom_21 : decode cX4_copyFrom 21 = .ok (.getfield 15, 3) := by decide +kernel
theorem dX4_copyFrom_24 : decode cX4_copyFrom 24 = .ok (.iconst 0, 1) := by decide +kernel
theorem dX4_copyFrom_25 : decode cX4_copyFrom 25 = .ok (.bipush 6, 2) := by decide +kernel
theorem dX4_copyFrom_27 : decode cX4_copyFrom 27 = .ok (.invokestatic 24, 3) := by decide +kernel
theorem dX4_copyFrom_30 : decode cX4_copyFrom 30 = .ok (.aload_n 1, 1) := by decide +kernel
theorem dX4_copyFrom_31 : decode cX4_copyFrom 31 = .ok (.getfield 18, 3) := by decide +kernel
theorem dX4_copyFrom_34 : decode cX4_copyFrom 34 = .ok (.iconst 0, 1) := by decide +kernel
theorem dX4_copyFrom_35 : decode cX4_copyFrom 35 = .ok (.aload_n 0, 1) := by decide +kernel
theorem dX4_copyFrom_36 : decode cX4_copyFrom 36 = .ok (.getfield 18, 3) := by decide +kernel
theorem dX4_copyFrom_39 : decode cX4_copyFrom 39 = .ok (.iconst 0, 1) := by decide +kernel
theorem dX4_copyFrom_40 : decode cX4_copyFrom 40 = .ok (.bipush 6, 2) := by decide +kernel
theorem dX4_copyFrom_42 : decode cX4_copyFrom 42 = .ok (.invokestatic 24, 3) := by decide +kernel
theorem dX4_copyFrom_45 : decode cX4_copyFrom 45 = .ok (.aload_n 1, 1) := by decide +kernel
theorem dX4_copyFrom_46 : decode cX4_copyFrom 46 = .ok (.getfield 21, 3) := by decide +kernel
theorem dX4_copyFrom_49 : decode cX4_copyFrom 49 = .ok (.iconst 0, 1) := by decide +kernel
theorem dX4_copyFrom_50 : decode cX4_copyFrom 50 = .ok (.aload_n 0, 1) := by decide +kernel
theorem dX4_copyFrom_51 : decode cX4_copyFrom 51 = .ok (.getfield 21, 3) := by decide +kernel
theorem dX4_copyFrom_54 : decode cX4_copyFrom 54 = .ok (.iconst 0, 1) := by decide +kernel
theorem dX4_copyFrom_55 : decode cX4_copyFrom 55 = .ok (.bipush 6, 2) := by decide +kernel
theorem dX4_copyFrom_57 : decode cX4_copyFrom 57 = .ok (.invokestatic 24, 3) := by decide +kernel
theorem dX4_copyFrom_60 : decode cX4_copyFrom 60 = .ok (.return_, 1) := by decide +kernel
theorem dX4_leavesMark_0 : decode cX4_leavesMark 0 = .ok (.aload_n 0, 1) := by decide +kernel
theorem dX4_leavesMark_1 : decode cX4_leavesMark 1 = .ok (.getfield 9, 3) := by decide +kernel
theorem dX4_leavesMark_4 : decode cX4_leavesMark 4 = .ok (.iload_n 1, 1) := by decide +kernel
theorem dX4_leavesMark_5 : decode cX4_leavesMark 5 = .ok (.iaload, 1) := by decide +kernel
theorem dX4_leavesMark_6 : decode cX4_leavesMark 6 = .ok (.iload_n 2, 1) := by decide +kernel
theorem dX4_leavesMark_7 : decode cX4_leavesMark 7 = .ok (.if_icmp .ge 15, 3) := by decide +kernel
theorem dX4_leavesMark_10 : decode cX4_leavesMark 10 = .ok (.aload_n 0, 1) := by decide +kernel
theorem dX4_leavesMark_11 : decode cX4_leavesMark 11 = .ok (.getfield 18, 3) := by decide +kernel
theorem dX4_leavesMark_14 : decode cX4_leavesMark 14 = .ok (.iload_n 1, 1) := by decide +kernel
theorem dX4_leavesMark_15 : decode cX4_leavesMark 15 = .ok (.dup2, 1) := by decide +kernel
theorem dX4_leavesMark_16 : decode cX4_leavesMark 16 = .ok (.iaload, 1) := by decide +kernel
theorem dX4_leavesMark_17 : decode cX4_leavesMark 17 = .ok (.iconst 1, 1) := by decide +kernel
theorem dX4_leavesMark_18 : decode cX4_leavesMark 18 = .ok (.iadd, 1) := by decide +kernel
theorem dX4_leavesMark_19 : decode cX4_leavesMark 19 = .ok (.iastore, 1) := by decide +kernel
theorem dX4_leavesMark_20 : decode cX4_leavesMark 20 = .ok (.iconst 0, 1) := by decide +kernel
theorem dX4_leavesMark_21 : decode cX4_leavesMark 21 = .ok (.ireturn, 1) := by decide +kernel
theorem dX4_leavesMark_22 : decode cX4_leavesMark 22 = .ok (.aload_n 0, 1) := by decide +kernel
theorem dX4_leavesMark_23 : decode cX4_leavesMark 23 = .ok (.getfield 9, 3) := by decide +kernel
theorem dX4_leavesMark_26 : decode cX4_leavesMark 26 = .ok (.iload_n 1, 1) := by decide +kernel
theorem dX4_leavesMark_27 : decode cX4_leavesMark 27 = .ok (.dup2, 1) := by decide +kernel
theorem dX4_leavesMark_28 : decode cX4_leavesMark 28 = .ok (.iaload, 1) := by decide +kernel
theorem dX4_leavesMark_29 : decode cX4_leavesMark 29 = .ok (.iload_n 2, 1) := by decide +kernel
theorem dX4_leavesMark_30 : decode cX4_leavesMark 30 = .ok (.isub, 1) := by decide +kernel
theorem dX4_leavesMark_31 : decode cX4_leavesMark 31 = .ok (.iastore, 1) := by decide +kernel
theorem dX4_leavesMark_32 : decode cX4_leavesMark 32 = .ok (.aload_n 0, 1) := by decide +kernel
theorem dX4_leavesMark_33 : decode cX4_leavesMark 33 = .ok (.getfield 15, 3) := by decide +kernel
theorem dX4_leavesMark_36 : decode cX4_leavesMark 36 = .ok (.iload_n 1, 1) := by decide +kernel
theorem dX4_leavesMark_37 : decode cX4_leavesMark 37 = .ok (.dup2, 1) := by decide +kernel
theorem dX4_leavesMark_38 : decode cX4_leavesMark 38 = .ok (.iaload, 1) := by decide +kernel
theorem dX4_leavesMark_39 : decode cX4_leavesMark 39 = .ok (.iconst 1, 1) := by decide +kernel
theorem dX4_leavesMark_40 : decode cX4_leavesMark 40 = .ok (.iadd, 1) := by decide +kernel
theorem dX4_leavesMark_41 : decode cX4_leavesMark 41 = .ok (.iastore, 1) := by decide +kernel
theorem dX4_leavesMark_42 : decode cX4_leavesMark 42 = .ok (.iconst 1, 1) := by decide +kernel
theorem dX4_leavesMark_43 : decode cX4_leavesMark 43 = .ok (.ireturn, 1) := by decide +kernel
theorem dX4_allMarks_0 : decode cX4_allMarks 0 = .ok (.iconst 0, 1) := by decide +kernel
theorem dX4_allMarks_1 : decode cX4_allMarks 1 = .ok (.istore_n 1, 1) := by decide +kernel
theorem dX4_allMarks_2 : decode cX4_allMarks 2 = .ok (.iconst 0, 1) := by decide +kernel
theorem dX4_allMarks_3 : decode cX4_allMarks 3 = .ok (.istore_n 2, 1) := by decide +kernel
theorem dX4_allMarks_4 : decode cX4_allMarks 4 = .ok (.iload_n 2, 1) := by decide +kernel
theorem dX4_allMarks_5 : decode cX4_allMarks 5 = .ok (.bipush 6, 2) := by decide +kernel
theorem dX4_allMarks_7 : decode cX4_allMarks 7 = .ok (.if_icmp .ge 18, 3) := by decide +kernel
theorem dX4_allMarks_10 : decode cX4_allMarks 10 = .ok (.iload_n 1, 1) := by decide +kernel
theorem dX4_allMarks_11 : decode cX4_allMarks 11 = .ok (.aload_n 0, 1) := by decide +kernel
theorem dX4_allMarks_12 : decode cX4_allMarks 12 = .ok (.getfield 15, 3) := by decide +kernel
theorem dX4_allMarks_15 : decode cX4_allMarks 15 = .ok (.iload_n 2, 1) := by decide +kernel
theorem dX4_allMarks_16 : decode cX4_allMarks 16 = .ok (.iaload, 1) := by decide +kernel
theorem dX4_allMarks_17 : decode cX4_allMarks 17 = .ok (.iadd, 1) := by decide +kernel
theorem dX4_allMarks_18 : decode cX4_allMarks 18 = .ok (.istore_n 1, 1) := by decide +kernel
theorem dX4_allMarks_19 : decode cX4_allMarks 19 = .ok (.iinc 2 1, 3) := by decide +kernel
theorem dX4_allMarks_22 : decode cX4_allMarks 22 = .ok (.goto (-18), 3) := by decide +kernel
theorem dX4_allMarks_25 : decode cX4_allMarks 25 = .ok (.iload_n 1, 1) := by decide +kernel
theorem dX4_allMarks_26 : decode cX4_allMarks 26 = .ok (.ireturn, 1) := by decide +kernel
end
section
set_option maxRecDepth 20000 in
theorem ggX5_init_X0_init : GoodIn wsX5_init wsX0_init := goodIn_r _ [21, 22, 2, 3, 23, 24, 25, 26, 27, 28, 29, 30, 31, 32, 33, 34, 35, 36, 37, 38, 39, 40, 41, 42, 43, 44, 55, 56, 57, 58, 59, 60, 61, 62, 63, 64, 65, 66, 67, 79, 80, 81, 82, 83, 84, 85, 86] (by decide +kernel) (by decide +kernel)
set_option maxRecDepth 20000 in
theorem gX5_init_X0_init_n9 : GoodIn wsX5_init (wsX0_init) := ggX5_init_X0_init
set_option maxRecDepth 20000 in
theorem ggX5_init_X2_init : GoodIn wsX5_init wsX2_init := goodIn_r _ [46, 47, 2, 3, 48, 5, 6, 49, 20, 21, 22, 23, 24, 25, 26, 27, 28, 29, 30, 31, 32, 33, 34, 35, 36, 37, 38, 39, 40, 41, 42, 43, 44, 55, 56, 57, 58, 59, 60, 61, 62, 63, 64, 65, 66, 67, 74, 75, 76, 79, 80, 81, 82, 83, 84, 85, 86] (by decide +kernel) (by decide +kernel)
set_option maxRecDepth 20000 in
theorem gX5_init_X2_init_n21 : GoodIn wsX5_init (wsX2_init) := ggX5_init_X2_init
set_option maxRecDepth 20000 in
theorem ggX5_init_X3_init : GoodIn wsX5_init wsX3_init := goodIn_r _ [51, 52, 2, 3, 53, 54, 77, 78] (by decide +kernel) (by decide +kernel)
set_option maxRecDepth 20000 in
theorem gX5_init_X3_init_n28 : GoodIn wsX5_init (wsX3_init) := ggX5_init_X3_init
theorem dX5_init_0 : decode cX5_init 0 = .ok (.aload_n 0, 1) := by decide +kernel
theorem dX5_init_1 : decode cX5_init 1 = .ok (.invokespecial 1, 3) := by decide +kernel
theorem dX5_init_4 : decode cX5_init 4 = .ok (.aload_n 0, 1) := by decide +kernel
theorem dX5_init_5 : decode cX5_init 5 = .ok (.new 7, 3) := by decide +kernel
theorem dX5_init_8 : decode cX5_init 8 = .ok (.dup, 1) := by decide +kernel
theorem dX5_init_9 : decode cX5_init 9 = .ok (.invokespecial 9, 3) := by decide +kernel
theorem dX5_init_12 : decode cX5_init 12 = .ok (.putfield 10, 3) := by decide +kernel
theorem dX5_init_15 : decode cX5_init 15 = .ok (.aload_n 0, 1) := by decide +kernel
theorem dX5_init_16 : decode cX5_init 16 = .ok (.new 7, 3) := by decide +kernel
theorem dX5_init_19 : decode cX5_init 19 = .ok (.dup, 1) := by decide +kernel
theorem dX5_init_20 : decode cX5_init 20 = .ok (.invokespecial 9, 3) := by decide +kernel
theorem dX5_init_23 : decode cX5_init 23 = .ok (.putfield 16, 3) := by decide +kernel
theorem dX5_init_26 : decode cX5_init 26 = .ok (.aload_n 0, 1) := by decide +kernel
theorem dX5_init_27 : decode cX5_init 27 = .ok (.new 19, 3) := by decide +kernel
theorem dX5_init_30 : decode cX5_init 30 = .ok (.dup, 1) := by decide +kernel
theorem dX5_init_31 : decode cX5_init 31 = .ok (.invokespecial 21, 3) := by decide +kernel
theorem dX5_init_34 : decode cX5_init 34 = .ok (.putfield 22, 3) := by decide +kernel
theorem dX5_init_37 : decode cX5_init 37 = .ok (.aload_n 0, 1) := by decide +kernel
theorem dX5_init_38 : decode cX5_init 38 = .ok (.new 26, 3) := by decide +kernel
theorem dX5_init_41 : decode cX5_init 41 = .ok (.dup, 1) := by decide +kernel
theorem dX5_init_42 : decode cX5_init 42 = .ok (.invokespecial 28, 3) := by decide +kernel
theorem dX5_init_45 : decode cX5_init 45 = .ok (.putfield 29, 3) := by decide +kernel
theorem dX5_init_48 : decode cX5_init 48 = .ok (.aload_n 0, 1) := by decide +kernel
theorem dX5_init_49 : decode cX5_init 49 = .ok (.iconst 2, 1) := by decide +kernel
theorem dX5_init_50 : decode cX5_init 50 = .ok (.anewarray 7, 3) := by decide +kernel
theorem dX5_init_53 : decode cX5_init 53 = .ok (.dup, 1) := by decide +kernel
theorem dX5_init_54 : decode cX5_init 54 = .ok (.iconst 0, 1) := by decide +kernel
theorem dX5_init_55 : decode cX5_init 55 = .ok (.new 7, 3) := by decide +kernel
theorem dX5_init_58 : decode cX5_init 58 = .ok (.dup, 1) := by decide +kernel
theorem dX5_init_59 : decode cX5_init 59 = .ok (.invokespecial 9, 3) := by decide +kernel
theorem dX5_init_62 : decode cX5_init 62 = .ok (.aastore, 1) := by decide +kernel
theorem dX5_init_63 : decode cX5_init 63 = .ok (.dup, 1) := by decide +kernel
theorem dX5_init_64 : decode cX5_init 64 = .ok (.iconst 1, 1) := by decide +kernel
theorem dX5_init_65 : decode cX5_init 65 = .ok (.new 7, 3) := by decide +kernel
theorem dX5_init_68 : decode cX5_init 68 = .ok (.dup, 1) := by decide +kernel
theorem dX5_init_69 : decode cX5_init 69 = .ok (.invokespecial 9, 3) := by decide +kernel
theorem dX5_init_72 : decode cX5_init 72 = .ok (.aastore, 1) := by decide +kernel
theorem dX5_init_73 : decode cX5_init 73 = .ok (.putfield 33, 3) := by decide +kernel
theorem dX5_init_76 : decode cX5_init 76 = .ok (.aload_n 0, 1) := by decide +kernel
theorem dX5_init_77 : decode cX5_init 77 = .ok (.iconst 2, 1) := by decide +kernel
theorem dX5_init_78 : decode cX5_init 78 = .ok (.newarray .boolean, 2) := by decide +kernel
theorem dX5_init_80 : decode cX5_init 80 = .ok (.putfield 37, 3) := by decide +kernel
theorem dX5_init_83 : decode cX5_init 83 = .ok (.return_, 1) := by decide +kernel
set_option maxRecDepth 20000 in
theorem ggX5_set_X2_keep : GoodIn wsX5_set wsX2_keep := goodIn_r _ [10, 11, 12, 13, 14, 15, 16, 17, 18, 19, 20, 21, 22, 23, 24, 25, 26, 27, 28, 29, 30, 31, 32, 33, 34, 35, 36, 37, 38, 39, 40, 41, 42, 43, 44, 45, 46, 47, 48, 49, 50, 51, 52, 53, 54, 55, 56, 57, 58, 59, 79, 80, 81, 66, 67, 68, 69, 70, 71, 72, 73, 74, 75, 76, 77, 78, 82, 83, 84, 85, 86, 87, 88, 89] (by decide +kernel) (by decide +kernel)
set_option maxRecDepth 20000 in
theorem gX5_set_X2_keep : GoodIn wsX5_set (wsV RX5 48 RX2 yX2_keep wsX2_keep) := goodIn_app (goodIn_of _ (by decide +kernel)) ggX5_set_X2_keep
theorem dX5_set_0 : decode cX5_set 0 = .ok (.iload_n 1, 1) := by decide +kernel
theorem dX5_set_1 : decode cX5_set 1 = .ok (.ifCond .lt 26, 3) := by decide +kernel
theorem dX5_set_4 : decode cX5_set 4 = .ok (.iload_n 1, 1) := by decide +kernel
theorem dX5_set_5 : decode cX5_set 5 = .ok (.iconst 4, 1) := by decide +kernel
theorem dX5_set_6 : decode cX5_set 6 = .ok (.if_icmp .ge 21, 3) := by decide +kernel
theorem dX5_set_9 : decode cX5_set 9 = .ok (.iload_n 2, 1) := by decide +kernel
theorem dX5_set_10 : decode cX5_set 10 = .ok (.getstatic 41, 3) := by decide +kernel
theorem dX5_set_13 : decode cX5_set 13 = .ok (.iload_n 1, 1) := by decide +kernel
theorem dX5_set_14 : decode cX5_set 14 = .ok (.iaload, 1) := by decide +kernel
theorem dX5_set_15 : decode cX5_set 15 = .ok (.if_icmp .lt 12, 3) := by decide +kernel
theorem dX5_set_18 : decode cX5_set 18 = .ok (.iload_n 2, 1) := by decide +kernel
theorem dX5_set_19 : decode cX5_set 19 = .ok (.getstatic 45, 3) := by decide +kernel
theorem dX5_set_22 : decode cX5_set 22 = .ok (.iload_n 1, 1) := by decide +kernel
theorem dX5_set_23 : decode cX5_set 23 = .ok (.iaload, 1) := by decide +kernel
theorem dX5_set_24 : decode cX5_set 24 = .ok (.if_icmp .le 6, 3) := by decide +kernel
theorem dX5_set_27 : decode cX5_set 27 = .ok (.bipush (-2), 2) := by decide +kernel
theorem dX5_set_29 : decode cX5_set 29 = .ok (.ireturn, 1) := by decide +kernel
theorem dX5_set_30 : decode cX5_set 30 = .ok (.aload_n 0, 1) := by decide +kernel
theorem dX5_set_31 : decode cX5_set 31 = .ok (.getfield 22, 3) := by decide +kernel
theorem dX5_set_34 : decode cX5_set 34 = .ok (.aload_n 0, 1) := by decide +kernel
theorem dX5_set_35 : decode cX5_set 35 = .ok (.getfield 10, 3) := by decide +kernel
theorem dX5_set_38 : decode cX5_set 38 = .ok (.invokevirtual 48, 3) := by decide +kernel
theorem dX5_set_41 : decode cX5_set 41 = .ok (.aload_n 0, 1) := by decide +kernel
theorem dX5_set_42 : decode cX5_set 42 = .ok (.getfield 10, 3) := by decide +kernel
theorem dX5_set_45 : decode cX5_set 45 = .ok (.getfield 52, 3) := by decide +kernel
theorem dX5_set_48 : decode cX5_set 48 = .ok (.iload_n 1, 1) := by decide +kernel
theorem dX5_set_49 : decode cX5_set 49 = .ok (.iaload, 1) := by decide +kernel
theorem dX5_set_50 : decode cX5_set 50 = .ok (.istore_n 3, 1) := by decide +kernel
theorem dX5_set_51 : decode cX5_set 51 = .ok (.aload_n 0, 1) := by decide +kernel
theorem dX5_set_52 : decode cX5_set 52 = .ok (.getfield 10, 3) := by decide +kernel
theorem dX5_set_55 : decode cX5_set 55 = .ok (.getfield 52, 3) := by decide +kernel
theorem dX5_set_58 : decode cX5_set 58 = .ok (.iload_n 1, 1) := by decide +kernel
theorem dX5_set_59 : decode cX5_set 59 = .ok (.iload_n 2, 1) := by decide +kernel
theorem dX5_set_60 : decode cX5_set 60 = .ok (.iastore, 1) := by decide +kernel
theorem dX5_set_61 : decode cX5_set 61 = .ok (.iload_n 3, 1) := by decide +kernel
theorem dX5_set_62 : decode cX5_set 62 = .ok (.ireturn, 1) := by decide +kernel
set_option maxRecDepth 20000 in
theorem ggX5_peg_X5_isRow : GoodIn wsX5_peg wsX5_isRow := goodIn_r _ [8] (by decide +kernel) (by decide +kernel)
set_option maxRecDepth 20000 in
theorem gX5_peg_X5_isRow : GoodIn wsX5_peg (va_wsS RX5 55 yX5_isRow wsX5_isRow) := goodIn_app (goodIn_of _ (by decide +kernel)) ggX5_peg_X5_isRow
set_option maxRecDepth 20000 in
theorem ggX5_peg_X5_isPlace : GoodIn wsX5_peg wsX5_isPlace := goodIn_r _ [11] (by decide +kernel) (by decide +kernel)
set_option maxRecDepth 20000 in
theorem gX5_peg_X5_isPlace : GoodIn wsX5_peg (va_wsS RX5 59 yX5_isPlace wsX5_isPlace) := goodIn_app (goodIn_of _ (by decide +kernel)) ggX5_peg_X5_isPlace
set_option maxRecDepth 20000 in
theorem ggX5_peg_X2_keep : GoodIn wsX5_peg wsX2_keep := goodIn_r _ [16, 17, 18, 19, 20, 21, 22, 23, 24, 25, 26, 27, 28, 29, 30, 31, 32, 33, 34, 35, 36, 37, 38, 39, 40, 41, 42, 43, 44, 45, 46, 47, 48, 49, 50, 51, 52, 53, 54, 55, 56, 57, 58, 59, 60, 61, 62, 63, 64, 65, 108, 109, 110, 91, 92, 93, 94, 95, 96, 97, 98, 99, 100, 101, 102, 103, 104, 105, 106, 107, 111, 112, 113, 114] (by decide +kernel) (by decide +kernel)
set_option maxRecDepth 20000 in
theorem gX5_peg_X2_keep : GoodIn wsX5_peg (wsV RX5 48 RX2 yX2_keep wsX2_keep) := goodIn_app (goodIn_of _ (by decide +kernel)) ggX5_peg_X2_keep
set_option maxRecDepth 20000 in
theorem ggX5_peg_X1_giveRow : GoodIn wsX5_peg wsX1_giveRow := goodIn_r _ [69, 53, 51, 70, 71, 72, 49, 73, 104, 105, 106, 107] (by decide +kernel) (by decide +kernel)
set_option maxRecDepth 20000 in
theorem gX5_peg_X1_giveRow : GoodIn wsX5_peg (wsV RX5 71 RX1 yX1_giveRow wsX1_giveRow) := goodIn_app (goodIn_of _ (by decide +kernel)) ggX5_peg_X1_giveRow
set_option maxRecDepth 20000 in
theorem ggX5_peg_X1_pegsInRow : GoodIn wsX5_peg wsX1_pegsInRow := goodIn_r _ [77, 51, 78, 79, 80, 81, 82, 83, 84, 104, 105, 106, 107] (by decide +kernel) (by decide +kernel)
set_option maxRecDepth 20000 in
theorem gX5_peg_X1_pegsInRow : GoodIn wsX5_peg (wsV RX5 75 RX1 yX1_pegsInRow wsX1_pegsInRow) := goodIn_app (goodIn_of _ (by decide +kernel)) ggX5_peg_X1_pegsInRow
theorem dX5_peg_0 : decode cX5_peg 0 = .ok (.iload_n 1, 1) := by decide +kernel
theorem dX5_peg_1 : decode cX5_peg 1 = .ok (.invokestatic 55, 3) := by decide +kernel
theorem dX5_peg_4 : decode cX5_peg 4 = .ok (.ifCond .eq 10, 3) := by decide +kernel
theorem dX5_peg_7 : decode cX5_peg 7 = .ok (.iload_n 2, 1) := by decide +kernel
theorem dX5_peg_8 : decode cX5_peg 8 = .ok (.invokestatic 59, 3) := by decide +kernel
theorem dX5_peg_11 : decode cX5_peg 11 = .ok (.ifCond .ne 5, 3) := by decide +kernel
theorem dX5_peg_14 : decode cX5_peg 14 = .ok (.iconst (-1), 1) := by decide +kernel
theorem dX5_peg_15 : decode cX5_peg 15 = .ok (.ireturn, 1) := by decide +kernel
theorem dX5_peg_16 : decode cX5_peg 16 = .ok (.aload_n 0, 1) := by decide +kernel
theorem dX5_peg_17 : decode cX5_peg 17 = .ok (.getfield 22, 3) := by decide +kernel
theorem dX5_peg_20 : decode cX5_peg 20 = .ok (.aload_n 0, 1) := by decide +kernel
theorem dX5_peg_21 : decode cX5_peg 21 = .ok (.getfield 10, 3) := by decide +kernel
theorem dX5_peg_24 : decode cX5_peg 24 = .ok (.invokevirtual 48, 3) := by decide +kernel
theorem dX5_peg_27 : decode cX5_peg 27 = .ok (.aload_n 0, 1) := by decide +kernel
theorem dX5_peg_28 : decode cX5_peg 28 = .ok (.getfield 10, 3) := by decide +kernel
theorem dX5_peg_31 : decode cX5_peg 31 = .ok (.getfield 62, 3) := by decide +kernel
theorem dX5_peg_34 : decode cX5_peg 34 = .ok (.iload_n 1, 1) := by decide +kernel
theorem dX5_peg_35 : decode cX5_peg 35 = .ok (.aload_n 0, 1) := by decide +kernel
theorem dX5_peg_36 : decode cX5_peg 36 = .ok (.getfield 10, 3) := by decide +kernel
theorem dX5_peg_39 : decode cX5_peg 39 = .ok (.getfield 62, 3) := by decide +kernel
theorem dX5_peg_42 : decode cX5_peg 42 = .ok (.getfield 66, 3) := by decide +kernel
theorem dX5_peg_45 : decode cX5_peg 45 = .ok (.iload_n 1, 1) := by decide +kernel
theorem dX5_peg_46 : decode cX5_peg 46 = .ok (.iaload, 1) := by decide +kernel
theorem dX5_peg_47 : decode cX5_peg 47 = .ok (.iconst 1, 1) := by decide +kernel
theorem dX5_peg_48 : decode cX5_peg 48 = .ok (.iload_n 2, 1) := by decide +kernel
theorem dX5_peg_49 : decode cX5_peg 49 = .ok (.ishl, 1) := by decide +kernel
theorem dX5_peg_50 : decode cX5_peg 50 = .ok (.ixor, 1) := by decide +kernel
theorem dX5_peg_51 : decode cX5_peg 51 = .ok (.invokevirtual 71, 3) := by decide +kernel
theorem dX5_peg_54 : decode cX5_peg 54 = .ok (.aload_n 0, 1) := by decide +kernel
theorem dX5_peg_55 : decode cX5_peg 55 = .ok (.getfield 10, 3) := by decide +kernel
theorem dX5_peg_58 : decode cX5_peg 58 = .ok (.getfield 62, 3) := by decide +kernel
theorem dX5_peg_61 : decode cX5_peg 61 = .ok (.iload_n 1, 1) := by decide +kernel
theorem dX5_peg_62 : decode cX5_peg 62 = .ok (.invokevirtual 75, 3) := by decide +kernel
theorem dX5_peg_65 : decode cX5_peg 65 = .ok (.ireturn, 1) := by decide +kernel
set_option maxRecDepth 20000 in
theorem ggX5_order_X2_keep : GoodIn wsX5_order wsX2_keep := goodIn_r _ [8, 9, 10, 11, 12, 13, 14, 15, 16, 17, 18, 19, 20, 21, 22, 23, 24, 25, 26, 27, 28, 29, 30, 31, 32, 33, 34, 35, 36, 37, 38, 39, 40, 41, 42, 43, 44, 45, 46, 47, 48, 49, 50, 51, 52, 53, 54, 55, 56, 57, 77, 78, 79, 64, 65, 66, 67, 68, 69, 70, 71, 72, 73, 74, 75, 76, 80, 81, 82, 83, 84, 85, 86, 87] (by decide +kernel) (by decide +kernel)
set_option maxRecDepth 20000 in
theorem gX5_order_X2_keep : GoodIn wsX5_order (wsV RX5 48 RX2 yX2_keep wsX2_keep) := goodIn_app (goodIn_of _ (by decide +kernel)) ggX5_order_X2_keep
theorem dX5_order_0 : decode cX5_order 0 = .ok (.iload_n 1, 1) := by decide +kernel
theorem dX5_order_1 : decode cX5_order 1 = .ok (.ifCond .lt 9, 3) := by decide +kernel
theorem dX5_order_4 : decode cX5_order 4 = .ok (.iload_n 1, 1) := by decide +kernel
theorem dX5_order_5 : decode cX5_order 5 = .ok (.bipush 64, 2) := by decide +kernel
theorem dX5_order_7 : decode cX5_order 7 = .ok (.if_icmp .lt 6, 3) := by decide +kernel
theorem dX5_order_10 : decode cX5_order 10 = .ok (.bipush (-2), 2) := by decide +kernel
theorem dX5_order_12 : decode cX5_order 12 = .ok (.ireturn, 1) := by decide +kernel
theorem dX5_order_13 : decode cX5_order 13 = .ok (.aload_n 0, 1) := by decide +kernel
theorem dX5_order_14 : decode cX5_order 14 = .ok (.getfield 22, 3) := by decide +kernel
theorem dX5_order_17 : decode cX5_order 17 = .ok (.aload_n 0, 1) := by decide +kernel
theorem dX5_order_18 : decode cX5_order 18 = .ok (.getfield 10, 3) := by decide +kernel
theorem dX5_order_21 : decode cX5_order 21 = .ok (.invokevirtual 48, 3) := by decide +kernel
theorem dX5_order_24 : decode cX5_order 24 = .ok (.aload_n 0, 1) := by decide +kernel
theorem dX5_order_25 : decode cX5_order 25 = .ok (.getfield 10, 3) := by decide +kernel
theorem dX5_order_28 : decode cX5_order 28 = .ok (.getfield 79, 3) := by decide +kernel
theorem dX5_order_31 : decode cX5_order 31 = .ok (.istore_n 2, 1) := by decide +kernel
theorem dX5_order_32 : decode cX5_order 32 = .ok (.aload_n 0, 1) := by decide +kernel
theorem dX5_order_33 : decode cX5_order 33 = .ok (.getfield 10, 3) := by decide +kernel
theorem dX5_order_36 : decode cX5_order 36 = .ok (.iload_n 1, 1) := by decide +kernel
theorem dX5_order_37 : decode cX5_order 37 = .ok (.putfield 79, 3) := by decide +kernel
theorem dX5_order_40 : decode cX5_order 40 = .ok (.iload_n 2, 1) := by decide +kernel
theorem dX5_order_41 : decode cX5_order 41 = .ok (.ireturn, 1) := by decide +kernel
set_option maxRecDepth 20000 in
theorem ggX5_ink_X5_isPlace : GoodIn wsX5_ink wsX5_isPlace := goodIn_r _ [8] (by decide +kernel) (by decide +kernel)
set_option maxRecDepth 20000 in
theorem gX5_ink_X5_isPlace : GoodIn wsX5_ink (va_wsS RX5 59 yX5_isPlace wsX5_isPlace) := goodIn_app (goodIn_of _ (by decide +kernel)) ggX5_ink_X5_isPlace
set_option maxRecDepth 20000 in
theorem ggX5_ink_X2_keep : GoodIn wsX5_ink wsX2_keep := goodIn_r _ [13, 14, 15, 16, 17, 18, 19, 20, 21, 22, 23, 24, 25, 26, 27, 28, 29, 30, 31, 32, 33, 34, 35, 36, 37, 38, 39, 40, 41, 42, 43, 44, 45, 46, 47, 48, 49, 50, 51, 52, 53, 54, 55, 56, 57, 58, 59, 60, 61, 62, 86, 87, 88, 69, 70, 71, 72, 73, 74, 75, 76, 77, 78, 79, 80, 81, 89, 90, 91, 92, 82, 83, 84, 85] (by decide +kernel) (by decide +kernel)
set_option maxRecDepth 20000 in
theorem gX5_ink_X2_keep : GoodIn wsX5_ink (wsV RX5 48 RX2 yX2_keep wsX2_keep) := goodIn_app (goodIn_of _ (by decide +kernel)) ggX5_ink_X2_keep
theorem dX5_ink_0 : decode cX5_ink 0 = .ok (.iload_n 1, 1) := by decide +kernel
theorem dX5_ink_1 : decode cX5_ink 1 = .ok (.invokestatic 59, 3) := by decide +kernel
theorem dX5_ink_4 : decode cX5_ink 4 = .ok (.ifCond .ne 5, 3) := by decide +kernel
theorem dX5_ink_7 : decode cX5_ink 7 = .ok (.iconst (-1), 1) := by decide +kernel
theorem dX5_ink_8 : decode cX5_ink 8 = .ok (.ireturn, 1) := by decide +kernel
theorem dX5_ink_9 : decode cX5_ink 9 = .ok (.aload_n 0, 1) := by decide +kernel
theorem dX5_ink_10 : decode cX5_ink 10 = .ok (.getfield 22, 3) := by decide +kernel
theorem dX5_ink_13 : decode cX5_ink 13 = .ok (.aload_n 0, 1) := by decide +kernel
theorem dX5_ink_14 : decode cX5_ink 14 = .ok (.getfield 10, 3) := by decide +kernel
theorem dX5_ink_17 : decode cX5_ink 17 = .ok (.invokevirtual 48, 3) := by decide +kernel
theorem dX5_ink_20 : decode cX5_ink 20 = .ok (.bipush 99, 2) := by decide +kernel
theorem dX5_ink_22 : decode cX5_ink 22 = .ok (.aload_n 0, 1) := by decide +kernel
theorem dX5_ink_23 : decode cX5_ink 23 = .ok (.getfield 10, 3) := by decide +kernel
theorem dX5_ink_26 : decode cX5_ink 26 = .ok (.getfield 83, 3) := by decide +kernel
theorem dX5_ink_29 : decode cX5_ink 29 = .ok (.getfield 87, 3) := by decide +kernel
theorem dX5_ink_32 : decode cX5_ink 32 = .ok (.iload_n 1, 1) := by decide +kernel
theorem dX5_ink_33 : decode cX5_ink 33 = .ok (.iaload, 1) := by decide +kernel
theorem dX5_ink_34 : decode cX5_ink 34 = .ok (.isub, 1) := by decide +kernel
theorem dX5_ink_35 : decode cX5_ink 35 = .ok (.istore_n 2, 1) := by decide +kernel
theorem dX5_ink_36 : decode cX5_ink 36 = .ok (.aload_n 0, 1) := by decide +kernel
theorem dX5_ink_37 : decode cX5_ink 37 = .ok (.getfield 10, 3) := by decide +kernel
theorem dX5_ink_40 : decode cX5_ink 40 = .ok (.getfield 83, 3) := by decide +kernel
theorem dX5_ink_43 : decode cX5_ink 43 = .ok (.getfield 87, 3) := by decide +kernel
theorem dX5_ink_46 : decode cX5_ink 46 = .ok (.iload_n 1, 1) := by decide +kernel
theorem dX5_ink_47 : decode cX5_ink 47 = .ok (.bipush 99, 2) := by decide +kernel
theorem dX5_ink_49 : decode cX5_ink 49 = .ok (.iastore, 1) := by decide +kernel
theorem dX5_ink_50 : decode cX5_ink 50 = .ok (.iload_n 2, 1) := by decide +kernel
theorem dX5_ink_51 : decode cX5_ink 51 = .ok (.ireturn, 1) := by decide +kernel
set_option maxRecDepth 20000 in
theorem ggX5_step_X2_keep : GoodIn wsX5_step wsX2_keep := goodIn_r _ [10, 11, 12, 13, 14, 15, 16, 17, 18, 19, 20, 21, 22, 23, 24, 25, 26, 27, 28, 29, 30, 31, 32, 33, 34, 35, 36, 37, 38, 39, 40, 41, 42, 43, 44, 45, 46, 47, 48, 49, 50, 51, 52, 53, 54, 55, 56, 57, 58, 59, 136, 137, 138, 123, 124, 125, 126, 127, 128, 129, 130, 131, 132, 133, 134, 135, 139, 140, 141, 142, 143, 144, 145, 146] (by decide +kernel) (by decide +kernel)
set_option maxRecDepth 20000 in
theorem gX5_step_X2_keep : GoodIn wsX5_step (wsV RX5 48 RX2 yX2_keep wsX2_keep) := goodIn_app (goodIn_of _ (by decide +kernel)) ggX5_step_X2_keep
set_option maxRecDepth 20000 in
theorem ggX5_step_X0_makeSteps : GoodIn wsX5_step wsX0_makeSteps := goodIn_r _ [63, 64, 65, 66, 21, 67, 30, 28, 68, 39, 69, 35, 34, 23, 70, 71, 72, 73, 74, 75, 76, 43, 77, 45, 78, 79, 80, 81, 82, 83, 84, 85, 86, 87, 88, 89, 90, 91, 92, 32, 33, 29, 93, 94, 95, 96, 53, 97, 55, 58, 57, 98, 99, 100, 101, 47, 49, 102, 103, 104, 105, 48, 106, 107, 108, 109, 110, 111, 112, 38, 31, 36, 37, 113, 114, 115, 116, 123, 124, 125, 126, 127, 128, 129, 130, 131, 132, 133, 134, 135, 139, 140, 141, 142, 143, 144, 145, 146] (by decide +kernel) (by decide +kernel)
set_option maxRecDepth 20000 in
theorem gX5_step_X0_makeSteps : GoodIn wsX5_step (wsV RX5 100 RX0 yX0_makeSteps wsX0_makeSteps) := goodIn_app (goodIn_of _ (by decide +kernel)) ggX5_step_X0_makeSteps
theorem dX5_step_0 : decode cX5_step 0 = .ok (.iload_n 1, 1) := by decide +kernel
theorem dX5_step_1 : decode cX5_step 1 = .ok (.iconst 1, 1) := by decide +kernel
theorem dX5_step_2 : decode cX5_step 2 = .ok (.if_icmp .lt 10, 3) := by decide +kernel
theorem dX5_step_5 : decode cX5_step 5 = .ok (.iload_n 1, 1) := by decide +kernel
theorem dX5_step_6 : decode cX5_step 6 = .ok (.sipush 200, 3) := by decide +kernel
theorem dX5_step_9 : decode cX5_step 9 = .ok (.if_icmp .le 6, 3) := by decide +kernel
theorem dX5_step_12 : decode cX5_step 12 = .ok (.bipush (-2), 2) := by decide +kernel
theorem dX5_step_14 : decode cX5_step 14 = .ok (.ireturn, 1) := by decide +kernel
theorem dX5_step_15 : decode cX5_step 15 = .ok (.aload_n 0, 1) := by decide +kernel
theorem dX5_step_16 : decode cX5_step 16 = .ok (.getfield 10, 3) := by decide +kernel
theorem dX5_step_19 : decode cX5_step 19 = .ok (.getfield 92, 3) := by decide +kernel
theorem dX5_step_22 : decode cX5_step 22 = .ok (.ifCond .eq 6, 3) := by decide +kernel
theorem dX5_step_25 : decode cX5_step 25 = .ok (.bipush (-5), 2) := by decide +kernel
theorem dX5_step_27 : decode cX5_step 27 = .ok (.ireturn, 1) := by decide +kernel
theorem dX5_step_28 : decode cX5_step 28 = .ok (.aload_n 0, 1) := by decide +kernel
theorem dX5_step_29 : decode cX5_step 29 = .ok (.getfield 10, 3) := by decide +kernel
theorem dX5_step_32 : decode cX5_step 32 = .ok (.getfield 96, 3) := by decide +kernel
theorem dX5_step_35 : decode cX5_step 35 = .ok (.iload_n 1, 1) := by decide +kernel
theorem dX5_step_36 : decode cX5_step 36 = .ok (.iadd, 1) := by decide +kernel
theorem dX5_step_37 : decode cX5_step 37 = .ok (.ldc 99, 2) := by decide +kernel
theorem dX5_step_39 : decode cX5_step 39 = .ok (.if_icmp .le 6, 3) := by decide +kernel
theorem dX5_step_42 : decode cX5_step 42 = .ok (.bipush (-4), 2) := by decide +kernel
theorem dX5_step_44 : decode cX5_step 44 = .ok (.ireturn, 1) := by decide +kernel
theorem dX5_step_45 : decode cX5_step 45 = .ok (.aload_n 0, 1) := by decide +kernel
theorem dX5_step_46 : decode cX5_step 46 = .ok (.getfield 22, 3) := by decide +kernel
theorem dX5_step_49 : decode cX5_step 49 = .ok (.aload_n 0, 1) := by decide +kernel
theorem dX5_step_50 : decode cX5_step 50 = .ok (.getfield 10, 3) := by decide +kernel
theorem dX5_step_53 : decode cX5_step 53 = .ok (.invokevirtual 48, 3) := by decide +kernel
theorem dX5_step_56 : decode cX5_step 56 = .ok (.aload_n 0, 1) := by decide +kernel
theorem dX5_step_57 : decode cX5_step 57 = .ok (.getfield 10, 3) := by decide +kernel
theorem dX5_step_60 : decode cX5_step 60 = .ok (.iload_n 1, 1) := by decide +kernel
theorem dX5_step_61 : decode cX5_step 61 = .ok (.invokevirtual 100, 3) := by decide +kernel
theorem dX5_step_64 : decode cX5_step 64 = .ok (.ireturn, 1) := by decide +kernel
set_option maxRecDepth 20000 in
theorem ggX5_free_X2_keep : GoodIn wsX5_free wsX2_keep := goodIn_r _ [10, 11, 12, 13, 14, 15, 16, 17, 18, 19, 20, 21, 22, 23, 24, 25, 26, 27, 28, 29, 30, 31, 32, 33, 34, 35, 36, 37, 38, 39, 40, 41, 42, 43, 44, 45, 46, 47, 48, 49, 50, 51, 52, 53, 54, 55, 56, 57, 58, 59, 90, 91, 92, 73, 74, 75, 76, 77, 78, 79, 80, 81, 82, 83, 84, 85, 86, 87, 88, 89, 93, 94, 95, 96] (by decide +kernel) (by decide +kernel)
set_option maxRecDepth 20000 in
theorem gX5_free_X2_keep : GoodIn wsX5_free (wsV RX5 48 RX2 yX2_keep wsX2_keep) := goodIn_app (goodIn_of _ (by decide +kernel)) ggX5_free_X2_keep
set_option maxRecDepth 20000 in
theorem ggX5_free_X1_goOn : GoodIn wsX5_free wsX1_goOn := goodIn_r _ [63, 48, 64, 65, 43, 66, 86, 87, 88, 89] (by decide +kernel) (by decide +kernel)
set_option maxRecDepth 20000 in
theorem gX5_free_X1_goOn : GoodIn wsX5_free (wsV RX5 106 RX1 yX1_goOn wsX1_goOn) := goodIn_app (goodIn_of _ (by decide +kernel)) ggX5_free_X1_goOn
theorem dX5_free_0 : decode cX5_free 0 = .ok (.aload_n 0, 1) := by decide +kernel
theorem dX5_free_1 : decode cX5_free 1 = .ok (.getfield 10, 3) := by decide +kernel
theorem dX5_free_4 : decode cX5_free 4 = .ok (.getfield 92, 3) := by decide +kernel
theorem dX5_free_7 : decode cX5_free 7 = .ok (.ifCond .ne 6, 3) := by decide +kernel
theorem dX5_free_10 : decode cX5_free 10 = .ok (.bipush (-5), 2) := by decide +kernel
theorem dX5_free_12 : decode cX5_free 12 = .ok (.ireturn, 1) := by decide +kernel
theorem dX5_free_13 : decode cX5_free 13 = .ok (.aload_n 0, 1) := by decide +kernel
theorem dX5_free_14 : decode cX5_free 14 = .ok (.getfield 22, 3) := by decide +kernel
theorem dX5_free_17 : decode cX5_free 17 = .ok (.aload_n 0, 1) := by decide +kernel
theorem dX5_free_18 : decode cX5_free 18 = .ok (.getfield 10, 3) := by decide +kernel
theorem dX5_free_21 : decode cX5_free 21 = .ok (.invokevirtual 48, 3) := by decide +kernel
theorem dX5_free_24 : decode cX5_free 24 = .ok (.aload_n 0, 1) := by decide +kernel
theorem dX5_free_25 : decode cX5_free 25 = .ok (.getfield 10, 3) := by decide +kernel
theorem dX5_free_28 : decode cX5_free 28 = .ok (.getfield 62, 3) := by decide +kernel
theorem dX5_free_31 : decode cX5_free 31 = .ok (.getfield 103, 3) := by decide +kernel
theorem dX5_free_34 : decode cX5_free 34 = .ok (.istore_n 1, 1) := by decide +kernel
theorem dX5_free_35 : decode cX5_free 35 = .ok (.aload_n 0, 1) := by decide +kernel
theorem dX5_free_36 : decode cX5_free 36 = .ok (.getfield 10, 3) := by decide +kernel
theorem dX5_free_39 : decode cX5_free 39 = .ok (.iconst 0, 1) := by decide +kernel
theorem dX5_free_40 : decode cX5_free 40 = .ok (.putfield 92, 3) := by decide +kernel
theorem dX5_free_43 : decode cX5_free 43 = .ok (.aload_n 0, 1) := by decide +kernel
theorem dX5_free_44 : decode cX5_free 44 = .ok (.getfield 10, 3) := by decide +kernel
theorem dX5_free_47 : decode cX5_free 47 = .ok (.getfield 62, 3) := by decide +kernel
theorem dX5_free_50 : decode cX5_free 50 = .ok (.invokevirtual 106, 3) := by decide +kernel
theorem dX5_free_53 : decode cX5_free 53 = .ok (.iload_n 1, 1) := by decide +kernel
theorem dX5_free_54 : decode cX5_free 54 = .ok (.ireturn, 1) := by decide +kernel
set_option maxRecDepth 20000 in
theorem ggX5_newForm_X2_keep : GoodIn wsX5_newForm wsX2_keep := goodIn_r _ [8, 9, 10, 11, 12, 13, 14, 15, 16, 17, 18, 19, 20, 21, 22, 23, 24, 25, 26, 27, 28, 29, 30, 31, 32, 33, 34, 35, 36, 37, 38, 39, 40, 41, 42, 43, 44, 45, 46, 47, 48, 49, 50, 51, 52, 53, 54, 55, 56, 57, 81, 82, 83, 68, 69, 70, 71, 72, 73, 74, 75, 76, 77, 78, 79, 80, 84, 85, 86, 87, 88, 89, 90, 91] (by decide +kernel) (by decide +kernel)
set_option maxRecDepth 20000 in
theorem gX5_newForm_X2_keep : GoodIn wsX5_newForm (wsV RX5 48 RX2 yX2_keep wsX2_keep) := goodIn_app (goodIn_of _ (by decide +kernel)) ggX5_newForm_X2_keep
set_option maxRecDepth 20000 in
theorem ggX5_newForm_X0_layForm : GoodIn wsX5_newForm wsX0_layForm := goodIn_r _ [61, 30, 31, 32, 68, 69, 70, 71, 72, 73, 74, 75, 76, 77, 78, 79, 80] (by decide +kernel) (by decide +kernel)
set_option maxRecDepth 20000 in
theorem gX5_newForm_X0_layForm : GoodIn wsX5_newForm (wsV RX5 112 RX0 yX0_layForm wsX0_layForm) := goodIn_app (goodIn_of _ (by decide +kernel)) ggX5_newForm_X0_layForm
theorem dX5_newForm_0 : decode cX5_newForm 0 = .ok (.aload_n 0, 1) := by decide +kernel
theorem dX5_newForm_1 : decode cX5_newForm 1 = .ok (.getfield 22, 3) := by decide +kernel
theorem dX5_newForm_4 : decode cX5_newForm 4 = .ok (.aload_n 0, 1) := by decide +kernel
theorem dX5_newForm_5 : decode cX5_newForm 5 = .ok (.getfield 10, 3) := by decide +kernel
theorem dX5_newForm_8 : decode cX5_newForm 8 = .ok (.invokevirtual 48, 3) := by decide +kernel
theorem dX5_newForm_11 : decode cX5_newForm 11 = .ok (.aload_n 0, 1) := by decide +kernel
theorem dX5_newForm_12 : decode cX5_newForm 12 = .ok (.getfield 10, 3) := by decide +kernel
theorem dX5_newForm_15 : decode cX5_newForm 15 = .ok (.getfield 109, 3) := by decide +kernel
theorem dX5_newForm_18 : decode cX5_newForm 18 = .ok (.istore_n 1, 1) := by decide +kernel
theorem dX5_newForm_19 : decode cX5_newForm 19 = .ok (.aload_n 0, 1) := by decide +kernel
theorem dX5_newForm_20 : decode cX5_newForm 20 = .ok (.getfield 10, 3) := by decide +kernel
theorem dX5_newForm_23 : decode cX5_newForm 23 = .ok (.invokevirtual 112, 3) := by decide +kernel
theorem dX5_newForm_26 : decode cX5_newForm 26 = .ok (.iload_n 1, 1) := by decide +kernel
theorem dX5_newForm_27 : decode cX5_newForm 27 = .ok (.ireturn, 1) := by decide +kernel
set_option maxRecDepth 20000 in
theorem ggX5_read_X3_firstFault : GoodIn wsX5_read wsX3_firstFault := goodIn_r _ [9, 10, 11, 12, 13, 8, 14, 15, 16, 17, 18, 19, 20, 127, 128] (by decide +kernel) (by decide +kernel)
set_option maxRecDepth 20000 in
theorem gX5_read_X3_firstFault : GoodIn wsX5_read (wsV RX5 115 RX3 yX3_firstFault wsX3_firstFault) := goodIn_app (goodIn_of _ (by decide +kernel)) ggX5_read_X3_firstFault
set_option maxRecDepth 20000 in
theorem ggX5_read_X2_keep : GoodIn wsX5_read wsX2_keep := goodIn_r _ [25, 26, 27, 28, 29, 30, 31, 32, 33, 34, 35, 36, 37, 38, 39, 40, 41, 42, 43, 44, 45, 46, 47, 48, 49, 50, 51, 52, 53, 54, 55, 56, 57, 58, 59, 60, 61, 62, 63, 64, 65, 66, 67, 68, 69, 70, 71, 72, 73, 74, 129, 130, 131, 114, 115, 116, 117, 118, 119, 120, 121, 122, 123, 124, 125, 126, 132, 133, 134, 135, 136, 137, 138, 139] (by decide +kernel) (by decide +kernel)
set_option maxRecDepth 20000 in
theorem gX5_read_X2_keep : GoodIn wsX5_read (wsV RX5 48 RX2 yX2_keep wsX2_keep) := goodIn_app (goodIn_of _ (by decide +kernel)) ggX5_read_X2_keep
set_option maxRecDepth 20000 in
theorem ggX5_read_X3_changeRows : GoodIn wsX5_read wsX3_changeRows := goodIn_r _ [78, 10, 11, 79, 19, 80, 81, 82, 83, 58, 84, 62, 60, 85, 86, 87, 88, 127, 128, 132, 133, 134, 135] (by decide +kernel) (by decide +kernel)
set_option maxRecDepth 20000 in
theorem gX5_read_X3_changeRows : GoodIn wsX5_read (wsV RX5 119 RX3 yX3_changeRows wsX3_changeRows) := goodIn_app (goodIn_of _ (by decide +kernel)) ggX5_read_X3_changeRows
set_option maxRecDepth 20000 in
theorem ggX5_read_X3_empty : GoodIn wsX5_read wsX3_empty := goodIn_r _ [92, 10, 127, 128] (by decide +kernel) (by decide +kernel)
set_option maxRecDepth 20000 in
theorem gX5_read_X3_empty : GoodIn wsX5_read (wsV RX5 123 RX3 yX3_empty wsX3_empty) := goodIn_app (goodIn_of _ (by decide +kernel)) ggX5_read_X3_empty
set_option maxRecDepth 20000 in
theorem ggX5_read_X1_allPegs : GoodIn wsX5_read wsX1_allPegs := goodIn_r _ [96, 97, 98, 99, 58, 100, 60, 101, 102, 103, 104, 105, 106, 107, 132, 133, 134, 135] (by decide +kernel) (by decide +kernel)
set_option maxRecDepth 20000 in
theorem gX5_read_X1_allPegs : GoodIn wsX5_read (wsV RX5 126 RX1 yX1_allPegs wsX1_allPegs) := goodIn_app (goodIn_of _ (by decide +kernel)) ggX5_read_X1_allPegs
theorem dX5_read_0 : decode cX5_read 0 = .ok (.aload_n 0, 1) := by decide +kernel
theorem dX5_read_1 : decode cX5_read 1 = .ok (.getfield 29, 3) := by decide +kernel
theorem dX5_read_4 : decode cX5_read 4 = .ok (.invokevirtual 115, 3) := by decide +kernel
theorem dX5_read_7 : decode cX5_read 7 = .ok (.bipush (-6), 2) := by decide +kernel
theorem dX5_read_9 : decode cX5_read 9 = .ok (.if_icmp .eq 6, 3) := by decide +kernel
theorem dX5_read_12 : decode cX5_read 12 = .ok (.bipush (-3), 2) := by decide +kernel
theorem dX5_read_14 : decode cX5_read 14 = .ok (.ireturn, 1) := by decide +kernel
theorem dX5_read_15 : decode cX5_read 15 = .ok (.aload_n 0, 1) := by decide +kernel
theorem dX5_read_16 : decode cX5_read 16 = .ok (.getfield 22, 3) := by decide +kernel
theorem dX5_read_19 : decode cX5_read 19 = .ok (.aload_n 0, 1) := by decide +kernel
theorem dX5_read_20 : decode cX5_read 20 = .ok (.getfield 10, 3) := by decide +kernel
theorem dX5_read_23 : decode cX5_read 23 = .ok (.invokevirtual 48, 3) := by decide +kernel
theorem dX5_read_26 : decode cX5_read 26 = .ok (.aload_n 0, 1) := by decide +kernel
theorem dX5_read_27 : decode cX5_read 27 = .ok (.getfield 29, 3) := by decide +kernel
theorem dX5_read_30 : decode cX5_read 30 = .ok (.aload_n 0, 1) := by decide +kernel
theorem dX5_read_31 : decode cX5_read 31 = .ok (.getfield 10, 3) := by decide +kernel
theorem dX5_read_34 : decode cX5_read 34 = .ok (.getfield 62, 3) := by decide +kernel
theorem dX5_read_37 : decode cX5_read 37 = .ok (.invokevirtual 119, 3) := by decide +kernel
theorem dX5_read_40 : decode cX5_read 40 = .ok (.aload_n 0, 1) := by decide +kernel
theorem dX5_read_41 : decode cX5_read 41 = .ok (.getfield 29, 3) := by decide +kernel
theorem dX5_read_44 : decode cX5_read 44 = .ok (.invokevirtual 123, 3) := by decide +kernel
theorem dX5_read_47 : decode cX5_read 47 = .ok (.aload_n 0, 1) := by decide +kernel
theorem dX5_read_48 : decode cX5_read 48 = .ok (.getfield 10, 3) := by decide +kernel
theorem dX5_read_51 : decode cX5_read 51 = .ok (.getfield 62, 3) := by decide +kernel
theorem dX5_read_54 : decode cX5_read 54 = .ok (.invokevirtual 126, 3) := by decide +kernel
theorem dX5_read_57 : decode cX5_read 57 = .ok (.ireturn, 1) := by decide +kernel
set_option maxRecDepth 20000 in
theorem ggX5_row_X5_isRow : GoodIn wsX5_row wsX5_isRow := goodIn_r _ [8] (by decide +kernel) (by decide +kernel)
set_option maxRecDepth 20000 in
theorem gX5_row_X5_isRow : GoodIn wsX5_row (va_wsS RX5 55 yX5_isRow wsX5_isRow) := goodIn_app (goodIn_of _ (by decide +kernel)) ggX5_row_X5_isRow
set_option maxRecDepth 20000 in
theorem ggX5_row_X1_pegsInRow : GoodIn wsX5_row wsX1_pegsInRow := goodIn_r _ [13, 14, 15, 16, 17, 18, 19, 20, 21, 56, 57, 58, 59] (by decide +kernel) (by decide +kernel)
set_option maxRecDepth 20000 in
theorem gX5_row_X1_pegsInRow : GoodIn wsX5_row (wsV RX5 75 RX1 yX1_pegsInRow wsX1_pegsInRow) := goodIn_app (goodIn_of _ (by decide +kernel)) ggX5_row_X1_pegsInRow
set_option maxRecDepth 20000 in
theorem ggX5_row_X0_wouldJamAt : GoodIn wsX5_row wsX0_wouldJamAt := goodIn_r _ [26, 27, 28, 29, 10, 11, 12, 13, 14, 15, 16, 17, 18, 19, 20, 21, 43, 44, 45, 46, 47, 48, 49, 50, 51, 52, 53, 54, 55, 56, 57, 58, 59] (by decide +kernel) (by decide +kernel)
set_option maxRecDepth 20000 in
theorem gX5_row_X0_wouldJamAt : GoodIn wsX5_row (wsV RX5 129 RX0 yX0_wouldJamAt wsX0_wouldJamAt) := goodIn_app (goodIn_of _ (by decide +kernel)) ggX5_row_X0_wouldJamAt
set_option maxRecDepth 20000 in
theorem ggX5_row_X5_asNumber : GoodIn wsX5_row wsX5_asNumber := goodIn_r _ [32] (by decide +kernel) (by decide +kernel)
set_option maxRecDepth 20000 in
theorem gX5_row_X5_asNumber : GoodIn wsX5_row (va_wsS RX5 132 yX5_asNumber wsX5_asNumber) := goodIn_app (goodIn_of _ (by decide +kernel)) ggX5_row_X5_asNumber
set_option maxRecDepth 20000 in
theorem ggX5_row_J9_floorMod_7cf53 : GoodIn wsX5_row wsJ9_floorMod_7cf53 := goodIn_r _ [36] (by decide +kernel) (by decide +kernel)
set_option maxRecDepth 20000 in
theorem gX5_row_J9_floorMod_7cf53 : GoodIn wsX5_row (va_wsS RX5 136 yJ9_floorMod_7cf53 wsJ9_floorMod_7cf53) := goodIn_app (goodIn_of _ (by decide +kernel)) ggX5_row_J9_floorMod_7cf53
theorem dX5_row_0 : decode cX5_row 0 = .ok (.iload_n 1, 1) := by decide +kernel
theorem dX5_row_1 : decode cX5_row 1 = .ok (.invokestatic 55, 3) := by decide +kernel
theorem dX5_row_4 : decode cX5_row 4 = .ok (.ifCond .ne 5, 3) := by decide +kernel
theorem dX5_row_7 : decode cX5_row 7 = .ok (.iconst (-1), 1) := by decide +kernel
theorem dX5_row_8 : decode cX5_row 8 = .ok (.ireturn, 1) := by decide +kernel
theorem dX5_row_9 : decode cX5_row 9 = .ok (.iload_n 2, 1) := by decide +kernel
theorem dX5_row_10 : decode cX5_row 10 = .ok (.tableswitch 85 0 3 #[30, 43, 55, 67], 30) := by decide +kernel
theorem dX5_row_40 : decode cX5_row 40 = .ok (.aload_n 0, 1) := by decide +kernel
theorem dX5_row_41 : decode cX5_row 41 = .ok (.getfield 10, 3) := by decide +kernel
theorem dX5_row_44 : decode cX5_row 44 = .ok (.getfield 62, 3) := by decide +kernel
theorem dX5_row_47 : decode cX5_row 47 = .ok (.getfield 66, 3) := by decide +kernel
theorem dX5_row_50 : decode cX5_row 50 = .ok (.iload_n 1, 1) := by decide +kernel
theorem dX5_row_51 : decode cX5_row 51 = .ok (.iaload, 1) := by decide +kernel
theorem dX5_row_52 : decode cX5_row 52 = .ok (.ireturn, 1) := by decide +kernel
theorem dX5_row_53 : decode cX5_row 53 = .ok (.aload_n 0, 1) := by decide +kernel
theorem dX5_row_54 : decode cX5_row 54 = .ok (.getfield 10, 3) := by decide +kernel
theorem dX5_row_57 : decode cX5_row 57 = .ok (.getfield 62, 3) := by decide +kernel
theorem dX5_row_60 : decode cX5_row 60 = .ok (.iload_n 1, 1) := by decide +kernel
theorem dX5_row_61 : decode cX5_row 61 = .ok (.invokevirtual 75, 3) := by decide +kernel
theorem dX5_row_64 : decode cX5_row 64 = .ok (.ireturn, 1) := by decide +kernel
theorem dX5_row_65 : decode cX5_row 65 = .ok (.aload_n 0, 1) := by decide +kernel
theorem dX5_row_66 : decode cX5_row 66 = .ok (.getfield 10, 3) := by decide +kernel
theorem dX5_row_69 : decode cX5_row 69 = .ok (.iload_n 1, 1) := by decide +kernel
theorem dX5_row_70 : decode cX5_row 70 = .ok (.invokevirtual 129, 3) := by decide +kernel
theorem dX5_row_73 : decode cX5_row 73 = .ok (.invokestatic 132, 3) := by decide +kernel
theorem dX5_row_76 : decode cX5_row 76 = .ok (.ireturn, 1) := by decide +kernel
theorem dX5_row_77 : decode cX5_row 77 = .ok (.iload_n 1, 1) := by decide +kernel
theorem dX5_row_78 : decode cX5_row 78 = .ok (.aload_n 0, 1) := by decide +kernel
theorem dX5_row_79 : decode cX5_row 79 = .ok (.getfield 10, 3) := by decide +kernel
theorem dX5_row_82 : decode cX5_row 82 = .ok (.getfield 62, 3) := by decide +kernel
theorem dX5_row_85 : decode cX5_row 85 = .ok (.getfield 103, 3) := by decide +kernel
theorem dX5_row_88 : decode cX5_row 88 = .ok (.isub, 1) := by decide +kernel
theorem dX5_row_89 : decode cX5_row 89 = .ok (.bipush 16, 2) := by decide +kernel
theorem dX5_row_91 : decode cX5_row 91 = .ok (.invokestatic 136, 3) := by decide +kernel
theorem dX5_row_94 : decode cX5_row 94 = .ok (.ireturn, 1) := by decide +kernel
theorem dX5_row_95 : decode cX5_row 95 = .ok (.bipush (-2), 2) := by decide +kernel
theorem dX5_row_97 : decode cX5_row 97 = .ok (.ireturn, 1) := by decide +kernel
set_option maxRecDepth 20000 in
theorem ggX5_stamped_X5_isRow : GoodIn wsX5_stamped wsX5_isRow := goodIn_r _ [7] (by decide +kernel) (by decide +kernel)
set_option maxRecDepth 20000 in
theorem gX5_stamped_X5_isRow : GoodIn wsX5_stamped (va_wsS RX5 55 yX5_isRow wsX5_isRow) := goodIn_app (goodIn_of _ (by decide +kernel)) ggX5_stamped_X5_isRow
set_option maxRecDepth 20000 in
theorem ggX5_stamped_X5_isPlace : GoodIn wsX5_stamped wsX5_isPlace := goodIn_r _ [10] (by decide +kernel) (by decide +kernel)
set_option maxRecDepth 20000 in
theorem gX5_stamped_X5_isPlace : GoodIn wsX5_stamped (va_wsS RX5 59 yX5_isPlace wsX5_isPlace) := goodIn_app (goodIn_of _ (by decide +kernel)) ggX5_stamped_X5_isPlace
set_option maxRecDepth 20000 in
theorem ggX5_stamped_X1_hasPeg : GoodIn wsX5_stamped wsX1_hasPeg := goodIn_r _ [15, 16, 36, 37, 38, 39] (by decide +kernel) (by decide +kernel)
set_option maxRecDepth 20000 in
theorem gX5_stamped_X1_hasPeg : GoodIn wsX5_stamped (wsV RX5 142 RX1 yX1_hasPeg wsX1_hasPeg) := goodIn_app (goodIn_of _ (by decide +kernel)) ggX5_stamped_X1_hasPeg
theorem dX5_stamped_0 : decode cX5_stamped 0 = .ok (.iload_n 1, 1) := by decide +kernel
theorem dX5_stamped_1 : decode cX5_stamped 1 = .ok (.invokestatic 55, 3) := by decide +kernel
theorem dX5_stamped_4 : decode cX5_stamped 4 = .ok (.ifCond .eq 10, 3) := by decide +kernel
theorem dX5_stamped_7 : decode cX5_stamped 7 = .ok (.iload_n 2, 1) := by decide +kernel
theorem dX5_stamped_8 : decode cX5_stamped 8 = .ok (.invokestatic 59, 3) := by decide +kernel
theorem dX5_stamped_11 : decode cX5_stamped 11 = .ok (.ifCond .ne 5, 3) := by decide +kernel
theorem dX5_stamped_14 : decode cX5_stamped 14 = .ok (.iconst (-1), 1) := by decide +kernel
theorem dX5_stamped_15 : decode cX5_stamped 15 = .ok (.ireturn, 1) := by decide +kernel
theorem dX5_stamped_16 : decode cX5_stamped 16 = .ok (.aload_n 0, 1) := by decide +kernel
theorem dX5_stamped_17 : decode cX5_stamped 17 = .ok (.getfield 10, 3) := by decide +kernel
theorem dX5_stamped_20 : decode cX5_stamped 20 = .ok (.getfield 62, 3) := by decide +kernel
theorem dX5_stamped_23 : decode cX5_stamped 23 = .ok (.iload_n 1, 1) := by decide +kernel
theorem dX5_stamped_24 : decode cX5_stamped 24 = .ok (.iload_n 2, 1) := by decide +kernel
theorem dX5_stamped_25 : decode cX5_stamped 25 = .ok (.invokevirtual 142, 3) := by decide +kernel
theorem dX5_stamped_28 : decode cX5_stamped 28 = .ok (.ifCond .eq 23, 3) := by decide +kernel
theorem dX5_stamped_31 : decode cX5_stamped 31 = .ok (.aload_n 0, 1) := by decide +kernel
theorem dX5_stamped_32 : decode cX5_stamped 32 = .ok (.getfield 10, 3) := by decide +kernel
theorem dX5_stamped_35 : decode cX5_stamped 35 = .ok (.getfield 62, 3) := by decide +kernel
theorem dX5_stamped_38 : decode cX5_stamped 38 = .ok (.getfield 146, 3) := by decide +kernel
theorem dX5_stamped_41 : decode cX5_stamped 41 = .ok (.iload_n 1, 1) := by decide +kernel
theorem dX5_stamped_42 : decode cX5_stamped 42 = .ok (.bipush 6, 2) := by decide +kernel
theorem dX5_stamped_44 : decode cX5_stamped 44 = .ok (.imul, 1) := by decide +kernel
theorem dX5_stamped_45 : decode cX5_stamped 45 = .ok (.iload_n 2, 1) := by decide +kernel
theorem dX5_stamped_46 : decode cX5_stamped 46 = .ok (.iadd, 1) := by decide +kernel
theorem dX5_stamped_47 : decode cX5_stamped 47 = .ok (.iaload, 1) := by decide +kernel
theorem dX5_stamped_48 : decode cX5_stamped 48 = .ok (.goto 5, 3) := by decide +kernel
theorem dX5_stamped_51 : decode cX5_stamped 51 = .ok (.bipush (-6), 2) := by decide +kernel
theorem dX5_stamped_53 : decode cX5_stamped 53 = .ok (.ireturn, 1) := by decide +kernel
set_option maxRecDepth 20000 in
theorem ggX5_stamp_X5_isPlace : GoodIn wsX5_stamp wsX5_isPlace := goodIn_r _ [11] (by decide +kernel) (by decide +kernel)
set_option maxRecDepth 20000 in
theorem gX5_stamp_X5_isPlace : GoodIn wsX5_stamp (va_wsS RX5 59 yX5_isPlace wsX5_isPlace) := goodIn_app (goodIn_of _ (by decide +kernel)) ggX5_stamp_X5_isPlace
set_option maxRecDepth 20000 in
theorem ggX5_stamp_X1_pegsAtPlace : GoodIn wsX5_stamp wsX1_pegsAtPlace := goodIn_r _ [16, 17, 18, 19, 15, 20, 21, 45, 46, 47, 48] (by decide +kernel) (by decide +kernel)
set_option maxRecDepth 20000 in
theorem gX5_stamp_X1_pegsAtPlace : GoodIn wsX5_stamp (wsV RX5 155 RX1 yX1_pegsAtPlace wsX1_pegsAtPlace) := goodIn_app (goodIn_of _ (by decide +kernel)) ggX5_stamp_X1_pegsAtPlace
theorem dX5_stamp_0 : decode cX5_stamp 0 = .ok (.iload_n 1, 1) := by decide +kernel
theorem dX5_stamp_1 : decode cX5_stamp 1 = .ok (.invokestatic 59, 3) := by decide +kernel
theorem dX5_stamp_4 : decode cX5_stamp 4 = .ok (.ifCond .ne 5, 3) := by decide +kernel
theorem dX5_stamp_7 : decode cX5_stamp 7 = .ok (.iconst (-1), 1) := by decide +kernel
theorem dX5_stamp_8 : decode cX5_stamp 8 = .ok (.ireturn, 1) := by decide +kernel
theorem dX5_stamp_9 : decode cX5_stamp 9 = .ok (.iload_n 2, 1) := by decide +kernel
theorem dX5_stamp_10 : decode cX5_stamp 10 = .ok (.tableswitch 98 0 4 #[34, 47, 60, 73, 85], 34) := by decide +kernel
theorem dX5_stamp_44 : decode cX5_stamp 44 = .ok (.aload_n 0, 1) := by decide +kernel
theorem dX5_stamp_45 : decode cX5_stamp 45 = .ok (.getfield 10, 3) := by decide +kernel
theorem dX5_stamp_48 : decode cX5_stamp 48 = .ok (.getfield 83, 3) := by decide +kernel
theorem dX5_stamp_51 : decode cX5_stamp 51 = .ok (.getfield 87, 3) := by decide +kernel
theorem dX5_stamp_54 : decode cX5_stamp 54 = .ok (.iload_n 1, 1) := by decide +kernel
theorem dX5_stamp_55 : decode cX5_stamp 55 = .ok (.iaload, 1) := by decide +kernel
theorem dX5_stamp_56 : decode cX5_stamp 56 = .ok (.ireturn, 1) := by decide +kernel
theorem dX5_stamp_57 : decode cX5_stamp 57 = .ok (.aload_n 0, 1) := by decide +kernel
theorem dX5_stamp_58 : decode cX5_stamp 58 = .ok (.getfield 10, 3) := by decide +kernel
theorem dX5_stamp_61 : decode cX5_stamp 61 = .ok (.getfield 83, 3) := by decide +kernel
theorem dX5_stamp_64 : decode cX5_stamp 64 = .ok (.getfield 149, 3) := by decide +kernel
theorem dX5_stamp_67 : decode cX5_stamp 67 = .ok (.iload_n 1, 1) := by decide +kernel
theorem dX5_stamp_68 : decode cX5_stamp 68 = .ok (.iaload, 1) := by decide +kernel
theorem dX5_stamp_69 : decode cX5_stamp 69 = .ok (.ireturn, 1) := by decide +kernel
theorem dX5_stamp_70 : decode cX5_stamp 70 = .ok (.aload_n 0, 1) := by decide +kernel
theorem dX5_stamp_71 : decode cX5_stamp 71 = .ok (.getfield 10, 3) := by decide +kernel
theorem dX5_stamp_74 : decode cX5_stamp 74 = .ok (.getfield 83, 3) := by decide +kernel
theorem dX5_stamp_77 : decode cX5_stamp 77 = .ok (.getfield 152, 3) := by decide +kernel
theorem dX5_stamp_80 : decode cX5_stamp 80 = .ok (.iload_n 1, 1) := by decide +kernel
theorem dX5_stamp_81 : decode cX5_stamp 81 = .ok (.iaload, 1) := by decide +kernel
theorem dX5_stamp_82 : decode cX5_stamp 82 = .ok (.ireturn, 1) := by decide +kernel
theorem dX5_stamp_83 : decode cX5_stamp 83 = .ok (.aload_n 0, 1) := by decide +kernel
theorem dX5_stamp_84 : decode cX5_stamp 84 = .ok (.getfield 10, 3) := by decide +kernel
theorem dX5_stamp_87 : decode cX5_stamp 87 = .ok (.getfield 62, 3) := by decide +kernel
theorem dX5_stamp_90 : decode cX5_stamp 90 = .ok (.iload_n 1, 1) := by decide +kernel
theorem dX5_stamp_91 : decode cX5_stamp 91 = .ok (.invokevirtual 155, 3) := by decide +kernel
theorem dX5_stamp_94 : decode cX5_stamp 94 = .ok (.ireturn, 1) := by decide +kernel
theorem dX5_stamp_95 : decode cX5_stamp 95 = .ok (.aload_n 0, 1) := by decide +kernel
theorem dX5_stamp_96 : decode cX5_stamp 96 = .ok (.getfield 10, 3) := by decide +kernel
theorem dX5_stamp_99 : decode cX5_stamp 99 = .ok (.getfield 83, 3) := by decide +kernel
theorem dX5_stamp_102 : decode cX5_stamp 102 = .ok (.getfield 158, 3) := by decide +kernel
theorem dX5_stamp_105 : decode cX5_stamp 105 = .ok (.iload_n 1, 1) := by decide +kernel
theorem dX5_stamp_106 : decode cX5_stamp 106 = .ok (.iaload, 1) := by decide +kernel
theorem dX5_stamp_107 : decode cX5_stamp 107 = .ok (.ireturn, 1) := by decide +kernel
theorem dX5_stamp_108 : decode cX5_stamp 108 = .ok (.bipush (-2), 2) := by decide +kernel
theorem dX5_stamp_110 : decode cX5_stamp 110 = .ok (.ireturn, 1) := by decide +kernel
set_option maxRecDepth 20000 in
theorem ggX5_count_X5_asNumber : GoodIn wsX5_count wsX5_asNumber := goodIn_r _ [24] (by decide +kernel) (by decide +kernel)
set_option maxRecDepth 20000 in
theorem gX5_count_X5_asNumber : GoodIn wsX5_count (va_wsS RX5 132 yX5_asNumber wsX5_asNumber) := goodIn_app (goodIn_of _ (by decide +kernel)) ggX5_count_X5_asNumber
set_option maxRecDepth 20000 in
theorem ggX5_count_X1_allPegs : GoodIn wsX5_count wsX1_allPegs := goodIn_r _ [29, 30, 31, 32, 28, 33, 34, 35, 36, 37, 38, 39, 40, 41, 67, 68, 69, 70] (by decide +kernel) (by decide +kernel)
set_option maxRecDepth 20000 in
theorem gX5_count_X1_allPegs : GoodIn wsX5_count (wsV RX5 126 RX1 yX1_allPegs wsX1_allPegs) := goodIn_app (goodIn_of _ (by decide +kernel)) ggX5_count_X1_allPegs
set_option maxRecDepth 20000 in
theorem ggX5_count_X4_allMarks : GoodIn wsX5_count wsX4_allMarks := goodIn_r _ [46, 47, 76, 77, 78, 79] (by decide +kernel) (by decide +kernel)
set_option maxRecDepth 20000 in
theorem gX5_count_X4_allMarks : GoodIn wsX5_count (wsV RX5 182 RX4 yX4_allMarks wsX4_allMarks) := goodIn_app (goodIn_of _ (by decide +kernel)) ggX5_count_X4_allMarks
theorem dX5_count_0 : decode cX5_count 0 = .ok (.iload_n 1, 1) := by decide +kernel
theorem dX5_count_1 : decode cX5_count 1 = .ok (.ifCond .lt 18, 3) := by decide +kernel
theorem dX5_count_4 : decode cX5_count 4 = .ok (.iload_n 1, 1) := by decide +kernel
theorem dX5_count_5 : decode cX5_count 5 = .ok (.iconst 4, 1) := by decide +kernel
theorem dX5_count_6 : decode cX5_count 6 = .ok (.if_icmp .ge 13, 3) := by decide +kernel
theorem dX5_count_9 : decode cX5_count 9 = .ok (.aload_n 0, 1) := by decide +kernel
theorem dX5_count_10 : decode cX5_count 10 = .ok (.getfield 10, 3) := by decide +kernel
theorem dX5_count_13 : decode cX5_count 13 = .ok (.getfield 52, 3) := by decide +kernel
theorem dX5_count_16 : decode cX5_count 16 = .ok (.iload_n 1, 1) := by decide +kernel
theorem dX5_count_17 : decode cX5_count 17 = .ok (.iaload, 1) := by decide +kernel
theorem dX5_count_18 : decode cX5_count 18 = .ok (.ireturn, 1) := by decide +kernel
theorem dX5_count_19 : decode cX5_count 19 = .ok (.iload_n 1, 1) := by decide +kernel
theorem dX5_count_20 : decode cX5_count 20 = .ok (.tableswitch 226 4 19 #[80, 91, 102, 110, 118, 129, 137, 145, 153, 161, 169, 177, 188, 199, 210, 218], 80) := by decide +kernel
theorem dX5_count_100 : decode cX5_count 100 = .ok (.aload_n 0, 1) := by decide +kernel
theorem dX5_count_101 : decode cX5_count 101 = .ok (.getfield 10, 3) := by decide +kernel
theorem dX5_count_104 : decode cX5_count 104 = .ok (.getfield 62, 3) := by decide +kernel
theorem dX5_count_107 : decode cX5_count 107 = .ok (.getfield 103, 3) := by decide +kernel
theorem dX5_count_110 : decode cX5_count 110 = .ok (.ireturn, 1) := by decide +kernel
theorem dX5_count_111 : decode cX5_count 111 = .ok (.aload_n 0, 1) := by decide +kernel
theorem dX5_count_112 : decode cX5_count 112 = .ok (.getfield 10, 3) := by decide +kernel
theorem dX5_count_115 : decode cX5_count 115 = .ok (.getfield 92, 3) := by decide +kernel
theorem dX5_count_118 : decode cX5_count 118 = .ok (.invokestatic 132, 3) := by decide +kernel
theorem dX5_count_121 : decode cX5_count 121 = .ok (.ireturn, 1) := by decide +kernel
theorem dX5_count_122 : decode cX5_count 122 = .ok (.aload_n 0, 1) := by decide +kernel
theorem dX5_count_123 : decode cX5_count 123 = .ok (.getfield 10, 3) := by decide +kernel
theorem dX5_count_126 : decode cX5_count 126 = .ok (.getfield 79, 3) := by decide +kernel
theorem dX5_count_129 : decode cX5_count 129 = .ok (.ireturn, 1) := by decide +kernel
theorem dX5_count_130 : decode cX5_count 130 = .ok (.aload_n 0, 1) := by decide +kernel
theorem dX5_count_131 : decode cX5_count 131 = .ok (.getfield 10, 3) := by decide +kernel
theorem dX5_count_134 : decode cX5_count 134 = .ok (.getfield 109, 3) := by decide +kernel
theorem dX5_count_137 : decode cX5_count 137 = .ok (.ireturn, 1) := by decide +kernel
theorem dX5_count_138 : decode cX5_count 138 = .ok (.aload_n 0, 1) := by decide +kernel
theorem dX5_count_139 : decode cX5_count 139 = .ok (.getfield 10, 3) := by decide +kernel
theorem dX5_count_142 : decode cX5_count 142 = .ok (.getfield 161, 3) := by decide +kernel
theorem dX5_count_145 : decode cX5_count 145 = .ok (.invokestatic 132, 3) := by decide +kernel
theorem dX5_count_148 : decode cX5_count 148 = .ok (.ireturn, 1) := by decide +kernel
theorem dX5_count_149 : decode cX5_count 149 = .ok (.aload_n 0, 1) := by decide +kernel
theorem dX5_count_150 : decode cX5_count 150 = .ok (.getfield 10, 3) := by decide +kernel
theorem dX5_count_153 : decode cX5_count 153 = .ok (.getfield 164, 3) := by decide +kernel
theorem dX5_count_156 : decode cX5_count 156 = .ok (.ireturn, 1) := by decide +kernel
theorem dX5_count_157 : decode cX5_count 157 = .ok (.aload_n 0, 1) := by decide +kernel
theorem dX5_count_158 : decode cX5_count 158 = .ok (.getfield 10, 3) := by decide +kernel
theorem dX5_count_161 : decode cX5_count 161 = .ok (.getfield 96, 3) := by decide +kernel
theorem dX5_count_164 : decode cX5_count 164 = .ok (.ireturn, 1) := by decide +kernel
theorem dX5_count_165 : decode cX5_count 165 = .ok (.aload_n 0, 1) := by decide +kernel
theorem dX5_count_166 : decode cX5_count 166 = .ok (.getfield 10, 3) := by decide +kernel
theorem dX5_count_169 : decode cX5_count 169 = .ok (.getfield 167, 3) := by decide +kernel
theorem dX5_count_172 : decode cX5_count 172 = .ok (.ireturn, 1) := by decide +kernel
theorem dX5_count_173 : decode cX5_count 173 = .ok (.aload_n 0, 1) := by decide +kernel
theorem dX5_count_174 : decode cX5_count 174 = .ok (.getfield 10, 3) := by decide +kernel
theorem dX5_count_177 : decode cX5_count 177 = .ok (.getfield 170, 3) := by decide +kernel
theorem dX5_count_180 : decode cX5_count 180 = .ok (.ireturn, 1) := by decide +kernel
theorem dX5_count_181 : decode cX5_count 181 = .ok (.aload_n 0, 1) := by decide +kernel
theorem dX5_count_182 : decode cX5_count 182 = .ok (.getfield 10, 3) := by decide +kernel
theorem dX5_count_185 : decode cX5_count 185 = .ok (.getfield 173, 3) := by decide +kernel
theorem dX5_count_188 : decode cX5_count 188 = .ok (.ireturn, 1) := by decide +kernel
theorem dX5_count_189 : decode cX5_count 189 = .ok (.aload_n 0, 1) := by decide +kernel
theorem dX5_count_190 : decode cX5_count 190 = .ok (.getfield 10, 3) := by decide +kernel
theorem dX5_count_193 : decode cX5_count 193 = .ok (.getfield 176, 3) := by decide +kernel
theorem dX5_count_196 : decode cX5_count 196 = .ok (.ireturn, 1) := by decide +kernel
theorem dX5_count_197 : decode cX5_count 197 = .ok (.aload_n 0, 1) := by decide +kernel
theorem dX5_count_198 : decode cX5_count 198 = .ok (.getfield 10, 3) := by decide +kernel
theorem dX5_count_201 : decode cX5_count 201 = .ok (.getfield 62, 3) := by decide +kernel
theorem dX5_count_204 : decode cX5_count 204 = .ok (.invokevirtual 126, 3) := by decide +kernel
theorem dX5_count_207 : decode cX5_count 207 = .ok (.ireturn, 1) := by decide +kernel
theorem dX5_count_208 : decode cX5_count 208 = .ok (.aload_n 0, 1) := by decide +kernel
theorem dX5_count_209 : decode cX5_count 209 = .ok (.getfield 10, 3) := by decide +kernel
theorem dX5_count_212 : decode cX5_count 212 = .ok (.getfield 62, 3) := by decide +kernel
theorem dX5_count_215 : decode cX5_count 215 = .ok (.getfield 179, 3) := by decide +kernel
theorem dX5_count_218 : decode cX5_count 218 = .ok (.ireturn, 1) := by decide +kernel
theorem dX5_count_219 : decode cX5_count 219 = .ok (.aload_n 0, 1) := by decide +kernel
theorem dX5_count_220 : decode cX5_count 220 = .ok (.getfield 10, 3) := by decide +kernel
theorem dX5_count_223 : decode cX5_count 223 = .ok (.getfield 83, 3) := by decide +kernel
theorem dX5_count_226 : decode cX5_count 226 = .ok (.invokevirtual 182, 3) := by decide +kernel
theorem dX5_count_229 : decode cX5_count 229 = .ok (.ireturn, 1) := by decide +kernel
theorem dX5_count_230 : decode cX5_count 230 = .ok (.aload_n 0, 1) := by decide +kernel
theorem dX5_count_231 : decode cX5_count 231 = .ok (.getfield 29, 3) := by decide +kernel
theorem dX5_count_234 : decode cX5_count 234 = .ok (.getfield 185, 3) := by decide +kernel
theorem dX5_count_237 : decode cX5_count 237 = .ok (.ireturn, 1) := by decide +kernel
theorem dX5_count_238 : decode cX5_count 238 = .ok (.aload_n 0, 1) := by decide +kernel
theorem dX5_count_239 : decode cX5_count 239 = .ok (.getfield 22, 3) := by decide +kernel
theorem dX5_count_242 : decode cX5_count 242 = .ok (.getfield 188, 3) := by decide +kernel
theorem dX5_count_245 : decode cX5_count 245 = .ok (.ireturn, 1) := by decide +kernel
theorem dX5_count_246 : decode cX5_count 246 = .ok (.bipush (-2), 2) := by decide +kernel
theorem dX5_count_248 : decode cX5_count 248 = .ok (.ireturn, 1) := by decide +kernel
set_option maxRecDepth 20000 in
theorem ggX5_untilJam_X0_copyFrom : GoodIn wsX5_untilJam wsX0_copyFrom := goodIn_r _ [8, 9, 10, 11, 12, 13, 14, 15, 16, 17, 18, 19, 20, 21, 22, 23, 24, 25, 26, 27, 28, 29, 30, 31, 32, 33, 34, 35, 36, 37, 38, 39, 40, 41, 42, 43, 44, 45, 109, 110, 111, 112, 113, 114, 115, 116, 117, 118, 119, 120, 121, 122, 123, 124, 125, 126, 127, 128, 129] (by decide +kernel) (by decide +kernel)
set_option maxRecDepth 20000 in
theorem gX5_untilJam_X0_copyFrom : GoodIn wsX5_untilJam (wsV RX5 191 RX0 yX0_copyFrom wsX0_copyFrom) := goodIn_app (goodIn_of _ (by decide +kernel)) ggX5_untilJam_X0_copyFrom
set_option maxRecDepth 20000 in
theorem ggX5_untilJam_X0_makeSteps : GoodIn wsX5_untilJam wsX0_makeSteps := goodIn_r _ [49, 50, 51, 52, 7, 53, 16, 14, 54, 25, 55, 21, 20, 9, 56, 57, 58, 59, 60, 61, 62, 29, 63, 31, 64, 65, 66, 67, 68, 69, 70, 71, 72, 73, 74, 75, 76, 77, 78, 18, 19, 15, 79, 80, 81, 82, 39, 83, 41, 44, 43, 84, 85, 86, 87, 33, 35, 88, 89, 90, 91, 34, 92, 93, 94, 95, 96, 97, 98, 24, 17, 22, 23, 99, 100, 101, 102, 109, 110, 111, 112, 113, 114, 115, 116, 117, 118, 119, 120, 121, 122, 123, 124, 125, 126, 127, 128, 129] (by decide +kernel) (by decide +kernel)
set_option maxRecDepth 20000 in
theorem gX5_untilJam_X0_makeSteps : GoodIn wsX5_untilJam (wsV RX5 100 RX0 yX0_makeSteps wsX0_makeSteps) := goodIn_app (goodIn_of _ (by decide +kernel)) ggX5_untilJam_X0_makeSteps
theorem dX5_untilJam_0 : decode cX5_untilJam 0 = .ok (.aload_n 0, 1) := by decide +kernel
theorem dX5_untilJam_1 : decode cX5_untilJam 1 = .ok (.getfield 16, 3) := by decide +kernel
theorem dX5_untilJam_4 : decode cX5_untilJam 4 = .ok (.aload_n 0, 1) := by decide +kernel
theorem dX5_untilJam_5 : decode cX5_untilJam 5 = .ok (.getfield 10, 3) := by decide +kernel
theorem dX5_untilJam_8 : decode cX5_untilJam 8 = .ok (.invokevirtual 191, 3) := by decide +kernel
theorem dX5_untilJam_11 : decode cX5_untilJam 11 = .ok (.aload_n 0, 1) := by decide +kernel
theorem dX5_untilJam_12 : decode cX5_untilJam 12 = .ok (.getfield 16, 3) := by decide +kernel
theorem dX5_untilJam_15 : decode cX5_untilJam 15 = .ok (.sipush 500, 3) := by decide +kernel
theorem dX5_untilJam_18 : decode cX5_untilJam 18 = .ok (.invokevirtual 100, 3) := by decide +kernel
theorem dX5_untilJam_21 : decode cX5_untilJam 21 = .ok (.istore_n 1, 1) := by decide +kernel
theorem dX5_untilJam_22 : decode cX5_untilJam 22 = .ok (.aload_n 0, 1) := by decide +kernel
theorem dX5_untilJam_23 : decode cX5_untilJam 23 = .ok (.getfield 16, 3) := by decide +kernel
theorem dX5_untilJam_26 : decode cX5_untilJam 26 = .ok (.getfield 92, 3) := by decide +kernel
theorem dX5_untilJam_29 : decode cX5_untilJam 29 = .ok (.ifCond .eq 7, 3) := by decide +kernel
theorem dX5_untilJam_32 : decode cX5_untilJam 32 = .ok (.iload_n 1, 1) := by decide +kernel
theorem dX5_untilJam_33 : decode cX5_untilJam 33 = .ok (.goto 5, 3) := by decide +kernel
theorem dX5_untilJam_36 : decode cX5_untilJam 36 = .ok (.bipush (-6), 2) := by decide +kernel
theorem dX5_untilJam_38 : decode cX5_untilJam 38 = .ok (.ireturn, 1) := by decide +kernel
set_option maxRecDepth 20000 in
theorem ggX5_ifStepped_X0_copyFrom : GoodIn wsX5_ifStepped wsX0_copyFrom := goodIn_r _ [11, 12, 13, 14, 15, 16, 17, 18, 19, 20, 21, 22, 23, 24, 25, 26, 27, 28, 29, 30, 31, 32, 33, 34, 35, 36, 37, 38, 39, 40, 41, 42, 43, 44, 45, 46, 47, 48, 116, 117, 118, 119, 120, 121, 122, 123, 124, 125, 126, 127, 128, 129, 130, 131, 132, 133, 134, 135, 136] (by decide +kernel) (by decide +kernel)
set_option maxRecDepth 20000 in
theorem gX5_ifStepped_X0_copyFrom : GoodIn wsX5_ifStepped (wsV RX5 191 RX0 yX0_copyFrom wsX0_copyFrom) := goodIn_app (goodIn_of _ (by decide +kernel)) ggX5_ifStepped_X0_copyFrom
set_option maxRecDepth 20000 in
theorem ggX5_ifStepped_X0_makeSteps : GoodIn wsX5_ifStepped wsX0_makeSteps := goodIn_r _ [52, 53, 54, 55, 10, 56, 19, 17, 57, 28, 58, 24, 23, 12, 59, 60, 61, 62, 63, 64, 65, 32, 66, 34, 67, 68, 69, 70, 71, 72, 73, 74, 75, 76, 77, 78, 79, 80, 81, 21, 22, 18, 82, 83, 84, 85, 42, 86, 44, 47, 46, 87, 88, 89, 90, 36, 38, 91, 92, 93, 94, 37, 95, 96, 97, 98, 99, 100, 101, 27, 20, 25, 26, 102, 103, 104, 105, 116, 117, 118, 119, 120, 121, 122, 123, 124, 125, 126, 127, 128, 129, 130, 131, 132, 133, 134, 135, 136] (by decide +kernel) (by decide +kernel)
set_option maxRecDepth 20000 in
theorem gX5_ifStepped_X0_makeSteps : GoodIn wsX5_ifStepped (wsV RX5 100 RX0 yX0_makeSteps wsX0_makeSteps) := goodIn_app (goodIn_of _ (by decide +kernel)) ggX5_ifStepped_X0_makeSteps
set_option maxRecDepth 20000 in
theorem ggX5_ifStepped_X4_allMarks : GoodIn wsX5_ifStepped wsX4_allMarks := goodIn_r _ [109, 46, 133, 134, 135, 136] (by decide +kernel) (by decide +kernel)
set_option maxRecDepth 20000 in
theorem gX5_ifStepped_X4_allMarks : GoodIn wsX5_ifStepped (wsV RX5 182 RX4 yX4_allMarks wsX4_allMarks) := goodIn_app (goodIn_of _ (by decide +kernel)) ggX5_ifStepped_X4_allMarks
theorem dX5_ifStepped_0 : decode cX5_ifStepped 0 = .ok (.iload_n 1, 1) := by decide +kernel
theorem dX5_ifStepped_1 : decode cX5_ifStepped 1 = .ok (.iconst 1, 1) := by decide +kernel
theorem dX5_ifStepped_2 : decode cX5_ifStepped 2 = .ok (.if_icmp .lt 19, 3) := by decide +kernel
theorem dX5_ifStepped_5 : decode cX5_ifStepped 5 = .ok (.iload_n 1, 1) := by decide +kernel
theorem dX5_ifStepped_6 : decode cX5_ifStepped 6 = .ok (.sipush 500, 3) := by decide +kernel
theorem dX5_ifStepped_9 : decode cX5_ifStepped 9 = .ok (.if_icmp .gt 12, 3) := by decide +kernel
theorem dX5_ifStepped_12 : decode cX5_ifStepped 12 = .ok (.iload_n 2, 1) := by decide +kernel
theorem dX5_ifStepped_13 : decode cX5_ifStepped 13 = .ok (.ifCond .lt 8, 3) := by decide +kernel
theorem dX5_ifStepped_16 : decode cX5_ifStepped 16 = .ok (.iload_n 2, 1) := by decide +kernel
theorem dX5_ifStepped_17 : decode cX5_ifStepped 17 = .ok (.iconst 4, 1) := by decide +kernel
theorem dX5_ifStepped_18 : decode cX5_ifStepped 18 = .ok (.if_icmp .le 6, 3) := by decide +kernel
theorem dX5_ifStepped_21 : decode cX5_ifStepped 21 = .ok (.bipush (-2), 2) := by decide +kernel
theorem dX5_ifStepped_23 : decode cX5_ifStepped 23 = .ok (.ireturn, 1) := by decide +kernel
theorem dX5_ifStepped_24 : decode cX5_ifStepped 24 = .ok (.aload_n 0, 1) := by decide +kernel
theorem dX5_ifStepped_25 : decode cX5_ifStepped 25 = .ok (.getfield 16, 3) := by decide +kernel
theorem dX5_ifStepped_28 : decode cX5_ifStepped 28 = .ok (.aload_n 0, 1) := by decide +kernel
theorem dX5_ifStepped_29 : decode cX5_ifStepped 29 = .ok (.getfield 10, 3) := by decide +kernel
theorem dX5_ifStepped_32 : decode cX5_ifStepped 32 = .ok (.invokevirtual 191, 3) := by decide +kernel
theorem dX5_ifStepped_35 : decode cX5_ifStepped 35 = .ok (.aload_n 0, 1) := by decide +kernel
theorem dX5_ifStepped_36 : decode cX5_ifStepped 36 = .ok (.getfield 16, 3) := by decide +kernel
theorem dX5_ifStepped_39 : decode cX5_ifStepped 39 = .ok (.iload_n 1, 1) := by decide +kernel
theorem dX5_ifStepped_40 : decode cX5_ifStepped 40 = .ok (.invokevirtual 100, 3) := by decide +kernel
theorem dX5_ifStepped_43 : decode cX5_ifStepped 43 = .ok (.istore_n 3, 1) := by decide +kernel
theorem dX5_ifStepped_44 : decode cX5_ifStepped 44 = .ok (.iload_n 2, 1) := by decide +kernel
theorem dX5_ifStepped_45 : decode cX5_ifStepped 45 = .ok (.tableswitch 81 0 3 #[31, 33, 49, 65], 31) := by decide +kernel
theorem dX5_ifStepped_76 : decode cX5_ifStepped 76 = .ok (.iload_n 3, 1) := by decide +kernel
theorem dX5_ifStepped_77 : decode cX5_ifStepped 77 = .ok (.ireturn, 1) := by decide +kernel
theorem dX5_ifStepped_78 : decode cX5_ifStepped 78 = .ok (.aload_n 0, 1) := by decide +kernel
theorem dX5_ifStepped_79 : decode cX5_ifStepped 79 = .ok (.getfield 16, 3) := by decide +kernel
theorem dX5_ifStepped_82 : decode cX5_ifStepped 82 = .ok (.getfield 167, 3) := by decide +kernel
theorem dX5_ifStepped_85 : decode cX5_ifStepped 85 = .ok (.aload_n 0, 1) := by decide +kernel
theorem dX5_ifStepped_86 : decode cX5_ifStepped 86 = .ok (.getfield 10, 3) := by decide +kernel
theorem dX5_ifStepped_89 : decode cX5_ifStepped 89 = .ok (.getfield 167, 3) := by decide +kernel
theorem dX5_ifStepped_92 : decode cX5_ifStepped 92 = .ok (.isub, 1) := by decide +kernel
theorem dX5_ifStepped_93 : decode cX5_ifStepped 93 = .ok (.ireturn, 1) := by decide +kernel
theorem dX5_ifStepped_94 : decode cX5_ifStepped 94 = .ok (.aload_n 0, 1) := by decide +kernel
theorem dX5_ifStepped_95 : decode cX5_ifStepped 95 = .ok (.getfield 16, 3) := by decide +kernel
theorem dX5_ifStepped_98 : decode cX5_ifStepped 98 = .ok (.getfield 170, 3) := by decide +kernel
theorem dX5_ifStepped_101 : decode cX5_ifStepped 101 = .ok (.aload_n 0, 1) := by decide +kernel
theorem dX5_ifStepped_102 : decode cX5_ifStepped 102 = .ok (.getfield 10, 3) := by decide +kernel
theorem dX5_ifStepped_105 : decode cX5_ifStepped 105 = .ok (.getfield 170, 3) := by decide +kernel
theorem dX5_ifStepped_108 : decode cX5_ifStepped 108 = .ok (.isub, 1) := by decide +kernel
theorem dX5_ifStepped_109 : decode cX5_ifStepped 109 = .ok (.ireturn, 1) := by decide +kernel
theorem dX5_ifStepped_110 : decode cX5_ifStepped 110 = .ok (.aload_n 0, 1) := by decide +kernel
theorem dX5_ifStepped_111 : decode cX5_ifStepped 111 = .ok (.getfield 16, 3) := by decide +kernel
theorem dX5_ifStepped_114 : decode cX5_ifStepped 114 = .ok (.getfield 173, 3) := by decide +kernel
theorem dX5_ifStepped_117 : decode cX5_ifStepped 117 = .ok (.aload_n 0, 1) := by decide +kernel
theorem dX5_ifStepped_118 : decode cX5_ifStepped 118 = .ok (.getfield 10, 3) := by decide +kernel
theorem dX5_ifStepped_121 : decode cX5_ifStepped 121 = .ok (.getfield 173, 3) := by decide +kernel
theorem dX5_ifStepped_124 : decode cX5_ifStepped 124 = .ok (.isub, 1) := by decide +kernel
theorem dX5_ifStepped_125 : decode cX5_ifStepped 125 = .ok (.ireturn, 1) := by decide +kernel
theorem dX5_ifStepped_126 : decode cX5_ifStepped 126 = .ok (.aload_n 0, 1) := by decide +kernel
theorem dX5_ifStepped_127 : decode cX5_ifStepped 127 = .ok (.getfield 16, 3) := by decide +kernel
theorem dX5_ifStepped_130 : decode cX5_ifStepped 130 = .ok (.getfield 83, 3) := by decide +kernel
theorem dX5_ifStepped_133 : decode cX5_ifStepped 133 = .ok (.invokevirtual 182, 3) := by decide +kernel
theorem dX5_ifStepped_136 : decode cX5_ifStepped 136 = .ok (.aload_n 0, 1) := by decide +kernel
theorem dX5_ifStepped_137 : decode cX5_ifStepped 137 = .ok (.getfield 10, 3) := by decide +kernel
theorem dX5_ifStepped_140 : decode cX5_ifStepped 140 = .ok (.getfield 83, 3) := by decide +kernel
theorem dX5_ifStepped_143 : decode cX5_ifStepped 143 = .ok (.invokevirtual 182, 3) := by decide +kernel
theorem dX5_ifStepped_146 : decode cX5_ifStepped 146 = .ok (.isub, 1) := by decide +kernel
theorem dX5_ifStepped_147 : decode cX5_ifStepped 147 = .ok (.ireturn, 1) := by decide +kernel
set_option maxRecDepth 20000 in
theorem ggX5_bestOut_X5_ifStepped : GoodIn wsX5_bestOut wsX5_ifStepped := goodIn_r _ [8, 9, 1, 10, 11, 12, 13, 14, 15, 16, 17, 18, 19, 20, 21, 22, 23, 24, 25, 26, 27, 28, 29, 30, 31, 32, 33, 34, 35, 36, 37, 38, 39, 40, 41, 42, 43, 44, 45, 46, 47, 48, 49, 50, 51, 52, 53, 54, 55, 56, 57, 58, 59, 60, 61, 62, 63, 64, 65, 66, 67, 68, 69, 70, 71, 72, 73, 74, 75, 76, 77, 78, 79, 80, 81, 82, 83, 84, 85, 86, 87, 88, 89, 90, 91, 92, 93, 94, 95, 96, 97, 98, 99, 100, 101, 102, 103, 104, 105, 106, 107, 108, 109, 110, 111, 112, 113, 114, 115, 116, 130, 131, 132, 133, 134, 135, 136, 137, 138, 139, 140, 141, 142, 143, 144, 145, 146, 147, 148, 149, 150, 151, 152, 153, 154, 155, 156] (by decide +kernel) (by decide +kernel)
set_option maxRecDepth 20000 in
theorem gX5_bestOut_X5_ifStepped : GoodIn wsX5_bestOut (wsV RX5 194 RX5 yX5_ifStepped wsX5_ifStepped) := goodIn_app (goodIn_of _ (by decide +kernel)) ggX5_bestOut_X5_ifStepped
set_option maxRecDepth 20000 in
theorem ggX5_bestOut_X1_hasPeg : GoodIn wsX5_bestOut wsX1_hasPeg := goodIn_r _ [120, 41, 149, 150, 151, 152] (by decide +kernel) (by decide +kernel)
set_option maxRecDepth 20000 in
theorem gX5_bestOut_X1_hasPeg : GoodIn wsX5_bestOut (wsV RX5 142 RX1 yX1_hasPeg wsX1_hasPeg) := goodIn_app (goodIn_of _ (by decide +kernel)) ggX5_bestOut_X1_hasPeg
set_option maxRecDepth 20000 in
theorem ggX5_bestOut_X5_rightWithRow : GoodIn wsX5_bestOut wsX5_rightWithRow := goodIn_r _ [124, 9, 1, 2, 10, 14, 15, 16, 17, 18, 19, 20, 21, 22, 23, 24, 25, 26, 27, 28, 29, 30, 31, 32, 33, 34, 35, 36, 37, 38, 39, 40, 41, 42, 43, 44, 45, 46, 47, 48, 49, 50, 51, 52, 53, 54, 55, 125, 126, 127, 128, 129, 118, 119, 120, 56, 57, 58, 59, 60, 61, 62, 63, 64, 65, 66, 67, 68, 69, 70, 71, 72, 73, 74, 75, 76, 77, 78, 79, 80, 81, 82, 83, 84, 85, 86, 87, 88, 89, 90, 91, 92, 93, 94, 95, 96, 97, 98, 99, 100, 101, 102, 103, 104, 105, 106, 107, 108, 109, 110, 111, 112, 130, 131, 132, 133, 134, 135, 136, 137, 138, 139, 140, 141, 142, 143, 144, 145, 146, 147, 148, 149, 150, 151, 152, 153, 154, 155, 156] (by decide +kernel) (by decide +kernel)
set_option maxRecDepth 20000 in
theorem gX5_bestOut_X5_rightWithRow : GoodIn wsX5_bestOut (wsV RX5 197 RX5 yX5_rightWithRow wsX5_rightWithRow) := goodIn_app (goodIn_of _ (by decide +kernel)) ggX5_bestOut_X5_rightWithRow
theorem dX5_bestOut_0 : decode cX5_bestOut 0 = .ok (.bipush (-6), 2) := by decide +kernel
theorem dX5_bestOut_2 : decode cX5_bestOut 2 = .ok (.istore_n 1, 1) := by decide +kernel
theorem dX5_bestOut_3 : decode cX5_bestOut 3 = .ok (.aload_n 0, 1) := by decide +kernel
theorem dX5_bestOut_4 : decode cX5_bestOut 4 = .ok (.bipush 64, 2) := by decide +kernel
theorem dX5_bestOut_6 : decode cX5_bestOut 6 = .ok (.iconst 1, 1) := by decide +kernel
theorem dX5_bestOut_7 : decode cX5_bestOut 7 = .ok (.invokevirtual 194, 3) := by decide +kernel
theorem dX5_bestOut_10 : decode cX5_bestOut 10 = .ok (.istore_n 2, 1) := by decide +kernel
theorem dX5_bestOut_11 : decode cX5_bestOut 11 = .ok (.iconst 0, 1) := by decide +kernel
theorem dX5_bestOut_12 : decode cX5_bestOut 12 = .ok (.istore_n 3, 1) := by decide +kernel
theorem dX5_bestOut_13 : decode cX5_bestOut 13 = .ok (.iload_n 3, 1) := by decide +kernel
theorem dX5_bestOut_14 : decode cX5_bestOut 14 = .ok (.bipush 16, 2) := by decide +kernel
theorem dX5_bestOut_16 : decode cX5_bestOut 16 = .ok (.if_icmp .ge 82, 3) := by decide +kernel
theorem dX5_bestOut_19 : decode cX5_bestOut 19 = .ok (.iconst 0, 1) := by decide +kernel
theorem dX5_bestOut_20 : decode cX5_bestOut 20 = .ok (.istore 4, 2) := by decide +kernel
theorem dX5_bestOut_22 : decode cX5_bestOut 22 = .ok (.iload 4, 2) := by decide +kernel
theorem dX5_bestOut_24 : decode cX5_bestOut 24 = .ok (.bipush 6, 2) := by decide +kernel
theorem dX5_bestOut_26 : decode cX5_bestOut 26 = .ok (.if_icmp .ge 66, 3) := by decide +kernel
theorem dX5_bestOut_29 : decode cX5_bestOut 29 = .ok (.aload_n 0, 1) := by decide +kernel
theorem dX5_bestOut_30 : decode cX5_bestOut 30 = .ok (.getfield 10, 3) := by decide +kernel
theorem dX5_bestOut_33 : decode cX5_bestOut 33 = .ok (.getfield 62, 3) := by decide +kernel
theorem dX5_bestOut_36 : decode cX5_bestOut 36 = .ok (.iload_n 3, 1) := by decide +kernel
theorem dX5_bestOut_37 : decode cX5_bestOut 37 = .ok (.iload 4, 2) := by decide +kernel
theorem dX5_bestOut_39 : decode cX5_bestOut 39 = .ok (.invokevirtual 142, 3) := by decide +kernel
theorem dX5_bestOut_42 : decode cX5_bestOut 42 = .ok (.ifCond .eq 44, 3) := by decide +kernel
theorem dX5_bestOut_45 : decode cX5_bestOut 45 = .ok (.aload_n 0, 1) := by decide +kernel
theorem dX5_bestOut_46 : decode cX5_bestOut 46 = .ok (.iload_n 3, 1) := by decide +kernel
theorem dX5_bestOut_47 : decode cX5_bestOut 47 = .ok (.aload_n 0, 1) := by decide +kernel
theorem dX5_bestOut_48 : decode cX5_bestOut 48 = .ok (.getfield 10, 3) := by decide +kernel
theorem dX5_bestOut_51 : decode cX5_bestOut 51 = .ok (.getfield 62, 3) := by decide +kernel
theorem dX5_bestOut_54 : decode cX5_bestOut 54 = .ok (.getfield 66, 3) := by decide +kernel
theorem dX5_bestOut_57 : decode cX5_bestOut 57 = .ok (.iload_n 3, 1) := by decide +kernel
theorem dX5_bestOut_58 : decode cX5_bestOut 58 = .ok (.iaload, 1) := by decide +kernel
theorem dX5_bestOut_59 : decode cX5_bestOut 59 = .ok (.iconst 1, 1) := by decide +kernel
theorem dX5_bestOut_60 : decode cX5_bestOut 60 = .ok (.iload 4, 2) := by decide +kernel
theorem dX5_bestOut_62 : decode cX5_bestOut 62 = .ok (.ishl, 1) := by decide +kernel
theorem dX5_bestOut_63 : decode cX5_bestOut 63 = .ok (.ixor, 1) := by decide +kernel
theorem dX5_bestOut_64 : decode cX5_bestOut 64 = .ok (.invokevirtual 197, 3) := by decide +kernel
theorem dX5_bestOut_67 : decode cX5_bestOut 67 = .ok (.istore 5, 2) := by decide +kernel
theorem dX5_bestOut_69 : decode cX5_bestOut 69 = .ok (.iload 5, 2) := by decide +kernel
theorem dX5_bestOut_71 : decode cX5_bestOut 71 = .ok (.iload_n 2, 1) := by decide +kernel
theorem dX5_bestOut_72 : decode cX5_bestOut 72 = .ok (.if_icmp .le 14, 3) := by decide +kernel
theorem dX5_bestOut_75 : decode cX5_bestOut 75 = .ok (.iload 5, 2) := by decide +kernel
theorem dX5_bestOut_77 : decode cX5_bestOut 77 = .ok (.istore_n 2, 1) := by decide +kernel
theorem dX5_bestOut_78 : decode cX5_bestOut 78 = .ok (.iload_n 3, 1) := by decide +kernel
theorem dX5_bestOut_79 : decode cX5_bestOut 79 = .ok (.bipush 6, 2) := by decide +kernel
theorem dX5_bestOut_81 : decode cX5_bestOut 81 = .ok (.imul, 1) := by decide +kernel
theorem dX5_bestOut_82 : decode cX5_bestOut 82 = .ok (.iload 4, 2) := by decide +kernel
theorem dX5_bestOut_84 : decode cX5_bestOut 84 = .ok (.iadd, 1) := by decide +kernel
theorem dX5_bestOut_85 : decode cX5_bestOut 85 = .ok (.istore_n 1, 1) := by decide +kernel
theorem dX5_bestOut_86 : decode cX5_bestOut 86 = .ok (.iinc 4 1, 3) := by decide +kernel
theorem dX5_bestOut_89 : decode cX5_bestOut 89 = .ok (.goto (-67), 3) := by decide +kernel
theorem dX5_bestOut_92 : decode cX5_bestOut 92 = .ok (.iinc 3 1, 3) := by decide +kernel
theorem dX5_bestOut_95 : decode cX5_bestOut 95 = .ok (.goto (-82), 3) := by decide +kernel
theorem dX5_bestOut_98 : decode cX5_bestOut 98 = .ok (.iload_n 1, 1) := by decide +kernel
theorem dX5_bestOut_99 : decode cX5_bestOut 99 = .ok (.ireturn, 1) := by decide +kernel
set_option maxRecDepth 20000 in
theorem ggX5_nextStamps_X5_nextStampsByStep : GoodIn wsX5_nextStamps wsX5_nextStampsByStep := goodIn_r _ [5, 6, 7, 8, 9, 10, 11, 12, 13, 14, 15, 16, 17, 18, 28, 29, 30, 31, 32, 33, 34, 35, 36, 37, 38, 39, 40, 41, 42, 43, 44, 45, 46, 47, 48, 49, 50] (by decide +kernel) (by decide +kernel)
set_option maxRecDepth 20000 in
theorem gX5_nextStamps_X5_nextStampsByStep : GoodIn wsX5_nextStamps (wsV RX5 200 RX5 yX5_nextStampsByStep wsX5_nextStampsByStep) := goodIn_app (goodIn_of _ (by decide +kernel)) ggX5_nextStamps_X5_nextStampsByStep
set_option maxRecDepth 20000 in
theorem ggX5_nextStamps_X5_nextStampsByPegs : GoodIn wsX5_nextStamps wsX5_nextStampsByPegs := goodIn_r _ [22, 6, 9, 7, 23, 8, 24, 25, 26, 27, 28, 29, 30, 31, 32, 33, 34, 35, 36, 37, 38, 39, 40, 41, 42, 43, 44, 45, 46, 47, 48, 49, 50] (by decide +kernel) (by decide +kernel)
set_option maxRecDepth 20000 in
theorem gX5_nextStamps_X5_nextStampsByPegs : GoodIn wsX5_nextStamps (wsV RX5 203 RX5 yX5_nextStampsByPegs wsX5_nextStampsByPegs) := goodIn_app (goodIn_of _ (by decide +kernel)) ggX5_nextStamps_X5_nextStampsByPegs
theorem dX5_nextStamps_0 : decode cX5_nextStamps 0 = .ok (.iload_n 1, 1) := by decide +kernel
theorem dX5_nextStamps_1 : decode cX5_nextStamps 1 = .ok (.ifCond .ne 8, 3) := by decide +kernel
theorem dX5_nextStamps_4 : decode cX5_nextStamps 4 = .ok (.aload_n 0, 1) := by decide +kernel
theorem dX5_nextStamps_5 : decode cX5_nextStamps 5 = .ok (.invokevirtual 200, 3) := by decide +kernel
theorem dX5_nextStamps_8 : decode cX5_nextStamps 8 = .ok (.ireturn, 1) := by decide +kernel
theorem dX5_nextStamps_9 : decode cX5_nextStamps 9 = .ok (.iload_n 1, 1) := by decide +kernel
theorem dX5_nextStamps_10 : decode cX5_nextStamps 10 = .ok (.iconst 1, 1) := by decide +kernel
theorem dX5_nextStamps_11 : decode cX5_nextStamps 11 = .ok (.if_icmp .ne 10, 3) := by decide +kernel
theorem dX5_nextStamps_14 : decode cX5_nextStamps 14 = .ok (.aload_n 0, 1) := by decide +kernel
theorem dX5_nextStamps_15 : decode cX5_nextStamps 15 = .ok (.invokevirtual 203, 3) := by decide +kernel
theorem dX5_nextStamps_18 : decode cX5_nextStamps 18 = .ok (.goto 5, 3) := by decide +kernel
theorem dX5_nextStamps_21 : decode cX5_nextStamps 21 = .ok (.bipush (-2), 2) := by decide +kernel
theorem dX5_nextStamps_23 : decode cX5_nextStamps 23 = .ok (.ireturn, 1) := by decide +kernel
set_option maxRecDepth 20000 in
theorem ggX5_put_X3_charactersIn : GoodIn wsX5_put wsX3_charactersIn := goodIn_r _ [6, 7] (by decide +kernel) (by decide +kernel)
set_option maxRecDepth 20000 in
theorem gX5_put_X3_charactersIn : GoodIn wsX5_put (va_wsS RX5 206 yX3_charactersIn wsX3_charactersIn) := goodIn_app (goodIn_of _ (by decide +kernel)) ggX5_put_X3_charactersIn
set_option maxRecDepth 20000 in
theorem ggX5_put_X3_append : GoodIn wsX5_put wsX3_append := goodIn_r _ [11, 12, 13, 7, 20, 21] (by decide +kernel) (by decide +kernel)
set_option maxRecDepth 20000 in
theorem gX5_put_X3_append : GoodIn wsX5_put (wsV RX5 210 RX3 yX3_append wsX3_append) := goodIn_app (goodIn_of _ (by decide +kernel)) ggX5_put_X3_append
theorem dX5_put_0 : decode cX5_put 0 = .ok (.lload_n 1, 1) := by decide +kernel
theorem dX5_put_1 : decode cX5_put 1 = .ok (.invokestatic 206, 3) := by decide +kernel
theorem dX5_put_4 : decode cX5_put 4 = .ok (.istore_n 3, 1) := by decide +kernel
theorem dX5_put_5 : decode cX5_put 5 = .ok (.iload_n 3, 1) := by decide +kernel
theorem dX5_put_6 : decode cX5_put 6 = .ok (.ifCond .ne 6, 3) := by decide +kernel
theorem dX5_put_9 : decode cX5_put 9 = .ok (.bipush (-2), 2) := by decide +kernel
theorem dX5_put_11 : decode cX5_put 11 = .ok (.ireturn, 1) := by decide +kernel
theorem dX5_put_12 : decode cX5_put 12 = .ok (.aload_n 0, 1) := by decide +kernel
theorem dX5_put_13 : decode cX5_put 13 = .ok (.getfield 29, 3) := by decide +kernel
theorem dX5_put_16 : decode cX5_put 16 = .ok (.getfield 185, 3) := by decide +kernel
theorem dX5_put_19 : decode cX5_put 19 = .ok (.iload_n 3, 1) := by decide +kernel
theorem dX5_put_20 : decode cX5_put 20 = .ok (.iadd, 1) := by decide +kernel
theorem dX5_put_21 : decode cX5_put 21 = .ok (.bipush 60, 2) := by decide +kernel
theorem dX5_put_23 : decode cX5_put 23 = .ok (.if_icmp .le 6, 3) := by decide +kernel
theorem dX5_put_26 : decode cX5_put 26 = .ok (.bipush (-4), 2) := by decide +kernel
theorem dX5_put_28 : decode cX5_put 28 = .ok (.ireturn, 1) := by decide +kernel
theorem dX5_put_29 : decode cX5_put 29 = .ok (.aload_n 0, 1) := by decide +kernel
theorem dX5_put_30 : decode cX5_put 30 = .ok (.getfield 29, 3) := by decide +kernel
theorem dX5_put_33 : decode cX5_put 33 = .ok (.lload_n 1, 1) := by decide +kernel
theorem dX5_put_34 : decode cX5_put 34 = .ok (.iload_n 3, 1) := by decide +kernel
theorem dX5_put_35 : decode cX5_put 35 = .ok (.invokevirtual 210, 3) := by decide +kernel
theorem dX5_put_38 : decode cX5_put 38 = .ok (.aload_n 0, 1) := by decide +kernel
theorem dX5_put_39 : decode cX5_put 39 = .ok (.getfield 29, 3) := by decide +kernel
theorem dX5_put_42 : decode cX5_put 42 = .ok (.getfield 185, 3) := by decide +kernel
theorem dX5_put_45 : decode cX5_put 45 = .ok (.ireturn, 1) := by decide +kernel
set_option maxRecDepth 20000 in
theorem ggX5_wipe_X3_empty : GoodIn wsX5_wipe wsX3_empty := goodIn_r _ [7, 8, 15, 16] (by decide +kernel) (by decide +kernel)
set_option maxRecDepth 20000 in
theorem gX5_wipe_X3_empty : GoodIn wsX5_wipe (wsV RX5 123 RX3 yX3_empty wsX3_empty) := goodIn_app (goodIn_of _ (by decide +kernel)) ggX5_wipe_X3_empty
theorem dX5_wipe_0 : decode cX5_wipe 0 = .ok (.aload_n 0, 1) := by decide +kernel
theorem dX5_wipe_1 : decode cX5_wipe 1 = .ok (.getfield 29, 3) := by decide +kernel
theorem dX5_wipe_4 : decode cX5_wipe 4 = .ok (.getfield 185, 3) := by decide +kernel
theorem dX5_wipe_7 : decode cX5_wipe 7 = .ok (.istore_n 1, 1) := by decide +kernel
theorem dX5_wipe_8 : decode cX5_wipe 8 = .ok (.aload_n 0, 1) := by decide +kernel
theorem dX5_wipe_9 : decode cX5_wipe 9 = .ok (.getfield 29, 3) := by decide +kernel
theorem dX5_wipe_12 : decode cX5_wipe 12 = .ok (.invokevirtual 123, 3) := by decide +kernel
theorem dX5_wipe_15 : decode cX5_wipe 15 = .ok (.iload_n 1, 1) := by decide +kernel
theorem dX5_wipe_16 : decode cX5_wipe 16 = .ok (.ireturn, 1) := by decide +kernel
set_option maxRecDepth 20000 in
theorem ggX5_save_X0_copyFrom : GoodIn wsX5_save wsX0_copyFrom := goodIn_r _ [9, 10, 11, 12, 13, 14, 15, 16, 17, 18, 19, 20, 21, 22, 23, 24, 25, 26, 27, 28, 29, 30, 31, 32, 33, 34, 35, 36, 37, 38, 39, 40, 41, 42, 43, 44, 45, 46, 68, 69, 70, 71, 72, 73, 74, 75, 76, 77, 78, 79, 80, 81, 82, 83, 84, 85, 86, 87, 88] (by decide +kernel) (by decide +kernel)
set_option maxRecDepth 20000 in
theorem gX5_save_X0_copyFrom : GoodIn wsX5_save (wsV RX5 191 RX0 yX0_copyFrom wsX0_copyFrom) := goodIn_app (goodIn_of _ (by decide +kernel)) ggX5_save_X0_copyFrom
set_option maxRecDepth 20000 in
theorem ggX5_save_X1_allPegs : GoodIn wsX5_save wsX1_allPegs := goodIn_r _ [50, 51, 52, 53, 30, 54, 32, 55, 56, 57, 58, 59, 60, 61, 81, 82, 83, 84] (by decide +kernel) (by decide +kernel)
set_option maxRecDepth 20000 in
theorem gX5_save_X1_allPegs : GoodIn wsX5_save (wsV RX5 126 RX1 yX1_allPegs wsX1_allPegs) := goodIn_app (goodIn_of _ (by decide +kernel)) ggX5_save_X1_allPegs
theorem dX5_save_0 : decode cX5_save 0 = .ok (.iload_n 1, 1) := by decide +kernel
theorem dX5_save_1 : decode cX5_save 1 = .ok (.ifCond .lt 8, 3) := by decide +kernel
theorem dX5_save_4 : decode cX5_save 4 = .ok (.iload_n 1, 1) := by decide +kernel
theorem dX5_save_5 : decode cX5_save 5 = .ok (.iconst 2, 1) := by decide +kernel
theorem dX5_save_6 : decode cX5_save 6 = .ok (.if_icmp .lt 6, 3) := by decide +kernel
theorem dX5_save_9 : decode cX5_save 9 = .ok (.bipush (-2), 2) := by decide +kernel
theorem dX5_save_11 : decode cX5_save 11 = .ok (.ireturn, 1) := by decide +kernel
theorem dX5_save_12 : decode cX5_save 12 = .ok (.aload_n 0, 1) := by decide +kernel
theorem dX5_save_13 : decode cX5_save 13 = .ok (.getfield 33, 3) := by decide +kernel
theorem dX5_save_16 : decode cX5_save 16 = .ok (.iload_n 1, 1) := by decide +kernel
theorem dX5_save_17 : decode cX5_save 17 = .ok (.aaload, 1) := by decide +kernel
theorem dX5_save_18 : decode cX5_save 18 = .ok (.aload_n 0, 1) := by decide +kernel
theorem dX5_save_19 : decode cX5_save 19 = .ok (.getfield 10, 3) := by decide +kernel
theorem dX5_save_22 : decode cX5_save 22 = .ok (.invokevirtual 191, 3) := by decide +kernel
theorem dX5_save_25 : decode cX5_save 25 = .ok (.aload_n 0, 1) := by decide +kernel
theorem dX5_save_26 : decode cX5_save 26 = .ok (.getfield 37, 3) := by decide +kernel
theorem dX5_save_29 : decode cX5_save 29 = .ok (.iload_n 1, 1) := by decide +kernel
theorem dX5_save_30 : decode cX5_save 30 = .ok (.iconst 1, 1) := by decide +kernel
theorem dX5_save_31 : decode cX5_save 31 = .ok (.bastore, 1) := by decide +kernel
theorem dX5_save_32 : decode cX5_save 32 = .ok (.aload_n 0, 1) := by decide +kernel
theorem dX5_save_33 : decode cX5_save 33 = .ok (.getfield 10, 3) := by decide +kernel
theorem dX5_save_36 : decode cX5_save 36 = .ok (.getfield 62, 3) := by decide +kernel
theorem dX5_save_39 : decode cX5_save 39 = .ok (.invokevirtual 126, 3) := by decide +kernel
theorem dX5_save_42 : decode cX5_save 42 = .ok (.ireturn, 1) := by decide +kernel
set_option maxRecDepth 20000 in
theorem ggX5_restore_X2_keep : GoodIn wsX5_restore wsX2_keep := goodIn_r _ [10, 11, 12, 13, 14, 15, 16, 17, 18, 19, 20, 21, 22, 23, 24, 25, 26, 27, 28, 29, 30, 31, 32, 33, 34, 35, 36, 37, 38, 39, 40, 41, 42, 43, 44, 45, 46, 47, 48, 49, 50, 51, 52, 53, 54, 55, 56, 57, 58, 59, 95, 96, 97, 82, 83, 84, 85, 86, 87, 88, 89, 90, 91, 92, 93, 94, 98, 99, 100, 101, 102, 103, 104, 105] (by decide +kernel) (by decide +kernel)
set_option maxRecDepth 20000 in
theorem gX5_restore_X2_keep : GoodIn wsX5_restore (wsV RX5 48 RX2 yX2_keep wsX2_keep) := goodIn_app (goodIn_of _ (by decide +kernel)) ggX5_restore_X2_keep
set_option maxRecDepth 20000 in
theorem ggX5_restore_X0_copyFrom : GoodIn wsX5_restore wsX0_copyFrom := goodIn_r _ [22, 23, 24, 25, 26, 27, 28, 29, 30, 31, 32, 33, 34, 35, 36, 37, 38, 39, 40, 41, 42, 43, 44, 45, 46, 47, 48, 49, 50, 51, 52, 53, 54, 55, 56, 57, 58, 59, 82, 83, 84, 85, 86, 87, 88, 89, 90, 91, 92, 93, 94, 98, 99, 100, 101, 102, 103, 104, 105] (by decide +kernel) (by decide +kernel)
set_option maxRecDepth 20000 in
theorem gX5_restore_X0_copyFrom : GoodIn wsX5_restore (wsV RX5 191 RX0 yX0_copyFrom wsX0_copyFrom) := goodIn_app (goodIn_of _ (by decide +kernel)) ggX5_restore_X0_copyFrom
set_option maxRecDepth 20000 in
theorem ggX5_restore_X1_allPegs : GoodIn wsX5_restore wsX1_allPegs := goodIn_r _ [64, 65, 66, 67, 43, 68, 45, 69, 70, 71, 72, 73, 74, 75, 98, 99, 100, 101] (by decide +kernel) (by decide +kernel)
set_option maxRecDepth 20000 in
theorem gX5_restore_X1_allPegs : GoodIn wsX5_restore (wsV RX5 126 RX1 yX1_allPegs wsX1_allPegs) := goodIn_app (goodIn_of _ (by decide +kernel)) ggX5_restore_X1_allPegs
theorem dX5_restore_0 : decode cX5_restore 0 = .ok (.iload_n 1, 1) := by decide +kernel
theorem dX5_restore_1 : decode cX5_restore 1 = .ok (.ifCond .lt 8, 3) := by decide +kernel
theorem dX5_restore_4 : decode cX5_restore 4 = .ok (.iload_n 1, 1) := by decide +kernel
theorem dX5_restore_5 : decode cX5_restore 5 = .ok (.iconst 2, 1) := by decide +kernel
theorem dX5_restore_6 : decode cX5_restore 6 = .ok (.if_icmp .lt 6, 3) := by decide +kernel
theorem dX5_restore_9 : decode cX5_restore 9 = .ok (.bipush (-2), 2) := by decide +kernel
theorem dX5_restore_11 : decode cX5_restore 11 = .ok (.ireturn, 1) := by decide +kernel
theorem dX5_restore_12 : decode cX5_restore 12 = .ok (.aload_n 0, 1) := by decide +kernel
theorem dX5_restore_13 : decode cX5_restore 13 = .ok (.getfield 37, 3) := by decide +kernel
theorem dX5_restore_16 : decode cX5_restore 16 = .ok (.iload_n 1, 1) := by decide +kernel
theorem dX5_restore_17 : decode cX5_restore 17 = .ok (.baload, 1) := by decide +kernel
theorem dX5_restore_18 : decode cX5_restore 18 = .ok (.ifCond .ne 6, 3) := by decide +kernel
theorem dX5_restore_21 : decode cX5_restore 21 = .ok (.bipush (-5), 2) := by decide +kernel
theorem dX5_restore_23 : decode cX5_restore 23 = .ok (.ireturn, 1) := by decide +kernel
theorem dX5_restore_24 : decode cX5_restore 24 = .ok (.aload_n 0, 1) := by decide +kernel
theorem dX5_restore_25 : decode cX5_restore 25 = .ok (.getfield 22, 3) := by decide +kernel
theorem dX5_restore_28 : decode cX5_restore 28 = .ok (.aload_n 0, 1) := by decide +kernel
theorem dX5_restore_29 : decode cX5_restore 29 = .ok (.getfield 10, 3) := by decide +kernel
theorem dX5_restore_32 : decode cX5_restore 32 = .ok (.invokevirtual 48, 3) := by decide +kernel
theorem dX5_restore_35 : decode cX5_restore 35 = .ok (.aload_n 0, 1) := by decide +kernel
theorem dX5_restore_36 : decode cX5_restore 36 = .ok (.getfield 10, 3) := by decide +kernel
theorem dX5_restore_39 : decode cX5_restore 39 = .ok (.aload_n 0, 1) := by decide +kernel
theorem dX5_restore_40 : decode cX5_restore 40 = .ok (.getfield 33, 3) := by decide +kernel
theorem dX5_restore_43 : decode cX5_restore 43 = .ok (.iload_n 1, 1) := by decide +kernel
theorem dX5_restore_44 : decode cX5_restore 44 = .ok (.aaload, 1) := by decide +kernel
theorem dX5_restore_45 : decode cX5_restore 45 = .ok (.invokevirtual 191, 3) := by decide +kernel
theorem dX5_restore_48 : decode cX5_restore 48 = .ok (.aload_n 0, 1) := by decide +kernel
theorem dX5_restore_49 : decode cX5_restore 49 = .ok (.getfield 10, 3) := by decide +kernel
theorem dX5_restore_52 : decode cX5_restore 52 = .ok (.getfield 62, 3) := by decide +kernel
theorem dX5_restore_55 : decode cX5_restore 55 = .ok (.invokevirtual 126, 3) := by decide +kernel
theorem dX5_restore_58 : decode cX5_restore 58 = .ok (.ireturn, 1) := by decide +kernel
theorem dX5_isRow_0 : decode cX5_isRow 0 = .ok (.iload_n 0, 1) := by decide +kernel
theorem dX5_isRow_1 : decode cX5_isRow 1 = .ok (.ifCond .lt 13, 3) := by decide +kernel
theorem dX5_isRow_4 : decode cX5_isRow 4 = .ok (.iload_n 0, 1) := by decide +kernel
theorem dX5_isRow_5 : decode cX5_isRow 5 = .ok (.bipush 16, 2) := by decide +kernel
theorem dX5_isRow_7 : decode cX5_isRow 7 = .ok (.if_icmp .ge 7, 3) := by decide +kernel
theorem dX5_isRow_10 : decode cX5_isRow 10 = .ok (.iconst 1, 1) := by decide +kernel
theorem dX5_isRow_11 : decode cX5_isRow 11 = .ok (.goto 4, 3) := by decide +kernel
theorem dX5_isRow_14 : decode cX5_isRow 14 = .ok (.iconst 0, 1) := by decide +kernel
theorem dX5_isRow_15 : decode cX5_isRow 15 = .ok (.ireturn, 1) := by decide +kernel
theorem dX5_isPlace_0 : decode cX5_isPlace 0 = .ok (.iload_n 0, 1) := by decide +kernel
theorem dX5_isPlace_1 : decode cX5_isPlace 1 = .ok (.ifCond .lt 13, 3) := by decide +kernel
theorem dX5_isPlace_4 : decode cX5_isPlace 4 = .ok (.iload_n 0, 1) := by decide +kernel
theorem dX5_isPlace_5 : decode cX5_isPlace 5 = .ok (.bipush 6, 2) := by decide +kernel
theorem dX5_isPlace_7 : decode cX5_isPlace 7 = .ok (.if_icmp .ge 7, 3) := by decide +kernel
theorem dX5_isPlace_10 : decode cX5_isPlace 10 = .ok (.iconst 1, 1) := by decide +kernel
theorem dX5_isPlace_11 : decode cX5_isPlace 11 = .ok (.goto 4, 3) := by decide +kernel
theorem dX5_isPlace_14 : decode cX5_isPlace 14 = .ok (.iconst 0, 1) := by decide +kernel
theorem dX5_isPlace_15 : decode cX5_isPlace 15 = .ok (.ireturn, 1) := by decide +kernel
theorem dX5_asNumber_0 : decode cX5_asNumber 0 = .ok (.iload_n 0, 1) := by decide +kernel
theorem dX5_asNumber_1 : decode cX5_asNumber 1 = .ok (.ifCond .eq 7, 3) := by decide +kernel
theorem dX5_asNumber_4 : decode cX5_asNumber 4 = .ok (.iconst 1, 1) := by decide +kernel
theorem dX5_asNumber_5 : decode cX5_asNumber 5 = .ok (.goto 4, 3) := by decide +kernel
theorem dX5_asNumber_8 : decode cX5_asNumber 8 = .ok (.iconst 0, 1) := by decide +kernel
theorem dX5_asNumber_9 : decode cX5_asNumber 9 = .ok (.ireturn, 1) := by decide +kernel
set_option maxRecDepth 20000 in
theorem ggX5_rightWithRow_X0_copyFrom : GoodIn wsX5_rightWithRow wsX0_copyFrom := goodIn_r _ [9, 10, 11, 12, 13, 14, 15, 16, 17, 18, 19, 20, 21, 22, 23, 24, 25, 26, 27, 28, 29, 30, 31, 32, 33, 34, 35, 36, 37, 38, 39, 40, 41, 42, 43, 44, 45, 46, 118, 119, 120, 121, 122, 123, 124, 125, 126, 127, 128, 129, 130, 131, 132, 133, 134, 135, 136, 137, 138] (by decide +kernel) (by decide +kernel)
set_option maxRecDepth 20000 in
theorem gX5_rightWithRow_X0_copyFrom : GoodIn wsX5_rightWithRow (wsV RX5 191 RX0 yX0_copyFrom wsX0_copyFrom) := goodIn_app (goodIn_of _ (by decide +kernel)) ggX5_rightWithRow_X0_copyFrom
set_option maxRecDepth 20000 in
theorem ggX5_rightWithRow_X1_giveRow : GoodIn wsX5_rightWithRow wsX1_giveRow := goodIn_r _ [50, 34, 32, 51, 52, 53, 30, 54, 131, 132, 133, 134] (by decide +kernel) (by decide +kernel)
set_option maxRecDepth 20000 in
theorem gX5_rightWithRow_X1_giveRow : GoodIn wsX5_rightWithRow (wsV RX5 71 RX1 yX1_giveRow wsX1_giveRow) := goodIn_app (goodIn_of _ (by decide +kernel)) ggX5_rightWithRow_X1_giveRow
set_option maxRecDepth 20000 in
theorem ggX5_rightWithRow_X0_makeSteps : GoodIn wsX5_rightWithRow wsX0_makeSteps := goodIn_r _ [58, 59, 60, 61, 8, 62, 17, 15, 63, 26, 64, 22, 21, 10, 65, 66, 67, 68, 69, 70, 71, 30, 72, 32, 73, 74, 75, 76, 77, 78, 79, 80, 81, 82, 83, 84, 85, 86, 87, 19, 20, 16, 88, 89, 90, 91, 40, 92, 42, 45, 44, 93, 94, 95, 96, 34, 36, 97, 98, 99, 100, 35, 101, 102, 103, 104, 105, 106, 107, 25, 18, 23, 24, 108, 109, 110, 111, 118, 119, 120, 121, 122, 123, 124, 125, 126, 127, 128, 129, 130, 131, 132, 133, 134, 135, 136, 137, 138] (by decide +kernel) (by decide +kernel)
set_option maxRecDepth 20000 in
theorem gX5_rightWithRow_X0_makeSteps : GoodIn wsX5_rightWithRow (wsV RX5 100 RX0 yX0_makeSteps wsX0_makeSteps) := goodIn_app (goodIn_of _ (by decide +kernel)) ggX5_rightWithRow_X0_makeSteps
theorem dX5_rightWithRow_0 : decode cX5_rightWithRow 0 = .ok (.aload_n 0, 1) := by decide +kernel
theorem dX5_rightWithRow_1 : decode cX5_rightWithRow 1 = .ok (.getfield 16, 3) := by decide +kernel
theorem dX5_rightWithRow_4 : decode cX5_rightWithRow 4 = .ok (.aload_n 0, 1) := by decide +kernel
theorem dX5_rightWithRow_5 : decode cX5_rightWithRow 5 = .ok (.getfield 10, 3) := by decide +kernel
theorem dX5_rightWithRow_8 : decode cX5_rightWithRow 8 = .ok (.invokevirtual 191, 3) := by decide +kernel
theorem dX5_rightWithRow_11 : decode cX5_rightWithRow 11 = .ok (.aload_n 0, 1) := by decide +kernel
theorem dX5_rightWithRow_12 : decode cX5_rightWithRow 12 = .ok (.getfield 16, 3) := by decide +kernel
theorem dX5_rightWithRow_15 : decode cX5_rightWithRow 15 = .ok (.getfield 62, 3) := by decide +kernel
theorem dX5_rightWithRow_18 : decode cX5_rightWithRow 18 = .ok (.iload_n 1, 1) := by decide +kernel
theorem dX5_rightWithRow_19 : decode cX5_rightWithRow 19 = .ok (.iload_n 2, 1) := by decide +kernel
theorem dX5_rightWithRow_20 : decode cX5_rightWithRow 20 = .ok (.invokevirtual 71, 3) := by decide +kernel
theorem dX5_rightWithRow_23 : decode cX5_rightWithRow 23 = .ok (.aload_n 0, 1) := by decide +kernel
theorem dX5_rightWithRow_24 : decode cX5_rightWithRow 24 = .ok (.getfield 16, 3) := by decide +kernel
theorem dX5_rightWithRow_27 : decode cX5_rightWithRow 27 = .ok (.bipush 64, 2) := by decide +kernel
theorem dX5_rightWithRow_29 : decode cX5_rightWithRow 29 = .ok (.invokevirtual 100, 3) := by decide +kernel
theorem dX5_rightWithRow_32 : decode cX5_rightWithRow 32 = .ok (.pop, 1) := by decide +kernel
theorem dX5_rightWithRow_33 : decode cX5_rightWithRow 33 = .ok (.aload_n 0, 1) := by decide +kernel
theorem dX5_rightWithRow_34 : decode cX5_rightWithRow 34 = .ok (.getfield 16, 3) := by decide +kernel
theorem dX5_rightWithRow_37 : decode cX5_rightWithRow 37 = .ok (.getfield 167, 3) := by decide +kernel
theorem dX5_rightWithRow_40 : decode cX5_rightWithRow 40 = .ok (.aload_n 0, 1) := by decide +kernel
theorem dX5_rightWithRow_41 : decode cX5_rightWithRow 41 = .ok (.getfield 10, 3) := by decide +kernel
theorem dX5_rightWithRow_44 : decode cX5_rightWithRow 44 = .ok (.getfield 167, 3) := by decide +kernel
theorem dX5_rightWithRow_47 : decode cX5_rightWithRow 47 = .ok (.isub, 1) := by decide +kernel
theorem dX5_rightWithRow_48 : decode cX5_rightWithRow 48 = .ok (.ireturn, 1) := by decide +kernel
set_option maxRecDepth 20000 in
theorem ggX5_nextStampsByStep_X1_hasPeg : GoodIn wsX5_nextStampsByStep wsX1_hasPeg := goodIn_r _ [9, 10, 33, 34, 35, 36] (by decide +kernel) (by decide +kernel)
set_option maxRecDepth 20000 in
theorem gX5_nextStampsByStep_X1_hasPeg : GoodIn wsX5_nextStampsByStep (wsV RX5 142 RX1 yX1_hasPeg wsX1_hasPeg) := goodIn_app (goodIn_of _ (by decide +kernel)) ggX5_nextStampsByStep_X1_hasPeg
set_option maxRecDepth 20000 in
theorem ggX5_nextStampsByStep_X1_rowBehind : GoodIn wsX5_nextStampsByStep wsX1_rowBehind := goodIn_r _ [13] (by decide +kernel) (by decide +kernel)
set_option maxRecDepth 20000 in
theorem gX5_nextStampsByStep_X1_rowBehind : GoodIn wsX5_nextStampsByStep (va_wsS RX5 217 yX1_rowBehind wsX1_rowBehind) := goodIn_app (goodIn_of _ (by decide +kernel)) ggX5_nextStampsByStep_X1_rowBehind
theorem dX5_nextStampsByStep_0 : decode cX5_nextStampsByStep 0 = .ok (.iconst 0, 1) := by decide +kernel
theorem dX5_nextStampsByStep_1 : decode cX5_nextStampsByStep 1 = .ok (.istore_n 1, 1) := by decide +kernel
theorem dX5_nextStampsByStep_2 : decode cX5_nextStampsByStep 2 = .ok (.aload_n 0, 1) := by decide +kernel
theorem dX5_nextStampsByStep_3 : decode cX5_nextStampsByStep 3 = .ok (.getfield 10, 3) := by decide +kernel
theorem dX5_nextStampsByStep_6 : decode cX5_nextStampsByStep 6 = .ok (.getfield 62, 3) := by decide +kernel
theorem dX5_nextStampsByStep_9 : decode cX5_nextStampsByStep 9 = .ok (.getfield 103, 3) := by decide +kernel
theorem dX5_nextStampsByStep_12 : decode cX5_nextStampsByStep 12 = .ok (.istore_n 2, 1) := by decide +kernel
theorem dX5_nextStampsByStep_13 : decode cX5_nextStampsByStep 13 = .ok (.iconst 0, 1) := by decide +kernel
theorem dX5_nextStampsByStep_14 : decode cX5_nextStampsByStep 14 = .ok (.istore_n 3, 1) := by decide +kernel
theorem dX5_nextStampsByStep_15 : decode cX5_nextStampsByStep 15 = .ok (.iload_n 3, 1) := by decide +kernel
theorem dX5_nextStampsByStep_16 : decode cX5_nextStampsByStep 16 = .ok (.aload_n 0, 1) := by decide +kernel
theorem dX5_nextStampsByStep_17 : decode cX5_nextStampsByStep 17 = .ok (.getfield 10, 3) := by decide +kernel
theorem dX5_nextStampsByStep_20 : decode cX5_nextStampsByStep 20 = .ok (.getfield 52, 3) := by decide +kernel
theorem dX5_nextStampsByStep_23 : decode cX5_nextStampsByStep 23 = .ok (.iconst 0, 1) := by decide +kernel
theorem dX5_nextStampsByStep_24 : decode cX5_nextStampsByStep 24 = .ok (.iaload, 1) := by decide +kernel
theorem dX5_nextStampsByStep_25 : decode cX5_nextStampsByStep 25 = .ok (.if_icmp .ge 53, 3) := by decide +kernel
theorem dX5_nextStampsByStep_28 : decode cX5_nextStampsByStep 28 = .ok (.iconst 0, 1) := by decide +kernel
theorem dX5_nextStampsByStep_29 : decode cX5_nextStampsByStep 29 = .ok (.istore 4, 2) := by decide +kernel
theorem dX5_nextStampsByStep_31 : decode cX5_nextStampsByStep 31 = .ok (.iload 4, 2) := by decide +kernel
theorem dX5_nextStampsByStep_33 : decode cX5_nextStampsByStep 33 = .ok (.bipush 6, 2) := by decide +kernel
theorem dX5_nextStampsByStep_35 : decode cX5_nextStampsByStep 35 = .ok (.if_icmp .ge 32, 3) := by decide +kernel
theorem dX5_nextStampsByStep_38 : decode cX5_nextStampsByStep 38 = .ok (.aload_n 0, 1) := by decide +kernel
theorem dX5_nextStampsByStep_39 : decode cX5_nextStampsByStep 39 = .ok (.getfield 10, 3) := by decide +kernel
theorem dX5_nextStampsByStep_42 : decode cX5_nextStampsByStep 42 = .ok (.getfield 62, 3) := by decide +kernel
theorem dX5_nextStampsByStep_45 : decode cX5_nextStampsByStep 45 = .ok (.iload_n 2, 1) := by decide +kernel
theorem dX5_nextStampsByStep_46 : decode cX5_nextStampsByStep 46 = .ok (.iload 4, 2) := by decide +kernel
theorem dX5_nextStampsByStep_48 : decode cX5_nextStampsByStep 48 = .ok (.invokevirtual 142, 3) := by decide +kernel
theorem dX5_nextStampsByStep_51 : decode cX5_nextStampsByStep 51 = .ok (.ifCond .eq 10, 3) := by decide +kernel
theorem dX5_nextStampsByStep_54 : decode cX5_nextStampsByStep 54 = .ok (.iload_n 1, 1) := by decide +kernel
theorem dX5_nextStampsByStep_55 : decode cX5_nextStampsByStep 55 = .ok (.iconst 1, 1) := by decide +kernel
theorem dX5_nextStampsByStep_56 : decode cX5_nextStampsByStep 56 = .ok (.iload 4, 2) := by decide +kernel
theorem dX5_nextStampsByStep_58 : decode cX5_nextStampsByStep 58 = .ok (.ishl, 1) := by decide +kernel
theorem dX5_nextStampsByStep_59 : decode cX5_nextStampsByStep 59 = .ok (.ior, 1) := by decide +kernel
theorem dX5_nextStampsByStep_60 : decode cX5_nextStampsByStep 60 = .ok (.istore_n 1, 1) := by decide +kernel
theorem dX5_nextStampsByStep_61 : decode cX5_nextStampsByStep 61 = .ok (.iinc 4 1, 3) := by decide +kernel
theorem dX5_nextStampsByStep_64 : decode cX5_nextStampsByStep 64 = .ok (.goto (-33), 3) := by decide +kernel
theorem dX5_nextStampsByStep_67 : decode cX5_nextStampsByStep 67 = .ok (.iload_n 2, 1) := by decide +kernel
theorem dX5_nextStampsByStep_68 : decode cX5_nextStampsByStep 68 = .ok (.invokestatic 217, 3) := by decide +kernel
theorem dX5_nextStampsByStep_71 : decode cX5_nextStampsByStep 71 = .ok (.istore_n 2, 1) := by decide +kernel
theorem dX5_nextStampsByStep_72 : decode cX5_nextStampsByStep 72 = .ok (.iinc 3 1, 3) := by decide +kernel
theorem dX5_nextStampsByStep_75 : decode cX5_nextStampsByStep 75 = .ok (.goto (-60), 3) := by decide +kernel
theorem dX5_nextStampsByStep_78 : decode cX5_nextStampsByStep 78 = .ok (.iload_n 1, 1) := by decide +kernel
theorem dX5_nextStampsByStep_79 : decode cX5_nextStampsByStep 79 = .ok (.ireturn, 1) := by decide +kernel
set_option maxRecDepth 20000 in
theorem ggX5_nextStampsByPegs_J9_floorMod_7cf53 : GoodIn wsX5_nextStampsByPegs wsJ9_floorMod_7cf53 := goodIn_r _ [9] (by decide +kernel) (by decide +kernel)
set_option maxRecDepth 20000 in
theorem gX5_nextStampsByPegs_J9_floorMod_7cf53 : GoodIn wsX5_nextStampsByPegs (va_wsS RX5 136 yJ9_floorMod_7cf53 wsJ9_floorMod_7cf53) := goodIn_app (goodIn_of _ (by decide +kernel)) ggX5_nextStampsByPegs_J9_floorMod_7cf53
theorem dX5_nextStampsByPegs_0 : decode cX5_nextStampsByPegs 0 = .ok (.iconst 0, 1) := by decide +kernel
theorem dX5_nextStampsByPegs_1 : decode cX5_nextStampsByPegs 1 = .ok (.istore_n 1, 1) := by decide +kernel
theorem dX5_nextStampsByPegs_2 : decode cX5_nextStampsByPegs 2 = .ok (.iconst 0, 1) := by decide +kernel
theorem dX5_nextStampsByPegs_3 : decode cX5_nextStampsByPegs 3 = .ok (.istore_n 2, 1) := by decide +kernel
theorem dX5_nextStampsByPegs_4 : decode cX5_nextStampsByPegs 4 = .ok (.iload_n 2, 1) := by decide +kernel
theorem dX5_nextStampsByPegs_5 : decode cX5_nextStampsByPegs 5 = .ok (.aload_n 0, 1) := by decide +kernel
theorem dX5_nextStampsByPegs_6 : decode cX5_nextStampsByPegs 6 = .ok (.getfield 10, 3) := by decide +kernel
theorem dX5_nextStampsByPegs_9 : decode cX5_nextStampsByPegs 9 = .ok (.getfield 52, 3) := by decide +kernel
theorem dX5_nextStampsByPegs_12 : decode cX5_nextStampsByPegs 12 = .ok (.iconst 0, 1) := by decide +kernel
theorem dX5_nextStampsByPegs_13 : decode cX5_nextStampsByPegs 13 = .ok (.iaload, 1) := by decide +kernel
theorem dX5_nextStampsByPegs_14 : decode cX5_nextStampsByPegs 14 = .ok (.if_icmp .ge 40, 3) := by decide +kernel
theorem dX5_nextStampsByPegs_17 : decode cX5_nextStampsByPegs 17 = .ok (.iload_n 1, 1) := by decide +kernel
theorem dX5_nextStampsByPegs_18 : decode cX5_nextStampsByPegs 18 = .ok (.aload_n 0, 1) := by decide +kernel
theorem dX5_nextStampsByPegs_19 : decode cX5_nextStampsByPegs 19 = .ok (.getfield 10, 3) := by decide +kernel
theorem dX5_nextStampsByPegs_22 : decode cX5_nextStampsByPegs 22 = .ok (.getfield 62, 3) := by decide +kernel
theorem dX5_nextStampsByPegs_25 : decode cX5_nextStampsByPegs 25 = .ok (.getfield 66, 3) := by decide +kernel
theorem dX5_nextStampsByPegs_28 : decode cX5_nextStampsByPegs 28 = .ok (.aload_n 0, 1) := by decide +kernel
theorem dX5_nextStampsByPegs_29 : decode cX5_nextStampsByPegs 29 = .ok (.getfield 10, 3) := by decide +kernel
theorem dX5_nextStampsByPegs_32 : decode cX5_nextStampsByPegs 32 = .ok (.getfield 62, 3) := by decide +kernel
theorem dX5_nextStampsByPegs_35 : decode cX5_nextStampsByPegs 35 = .ok (.getfield 103, 3) := by decide +kernel
theorem dX5_nextStampsByPegs_38 : decode cX5_nextStampsByPegs 38 = .ok (.iload_n 2, 1) := by decide +kernel
theorem dX5_nextStampsByPegs_39 : decode cX5_nextStampsByPegs 39 = .ok (.iadd, 1) := by decide +kernel
theorem dX5_nextStampsByPegs_40 : decode cX5_nextStampsByPegs 40 = .ok (.bipush 16, 2) := by decide +kernel
theorem dX5_nextStampsByPegs_42 : decode cX5_nextStampsByPegs 42 = .ok (.invokestatic 136, 3) := by decide +kernel
theorem dX5_nextStampsByPegs_45 : decode cX5_nextStampsByPegs 45 = .ok (.iaload, 1) := by decide +kernel
theorem dX5_nextStampsByPegs_46 : decode cX5_nextStampsByPegs 46 = .ok (.ior, 1) := by decide +kernel
theorem dX5_nextStampsByPegs_47 : decode cX5_nextStampsByPegs 47 = .ok (.istore_n 1, 1) := by decide +kernel
theorem dX5_nextStampsByPegs_48 : decode cX5_nextStampsByPegs 48 = .ok (.iinc 2 1, 3) := by decide +kernel
theorem dX5_nextStampsByPegs_51 : decode cX5_nextStampsByPegs 51 = .ok (.goto (-47), 3) := by decide +kernel
theorem dX5_nextStampsByPegs_54 : decode cX5_nextStampsByPegs 54 = .ok (.iload_n 1, 1) := by decide +kernel
theorem dX5_nextStampsByPegs_55 : decode cX5_nextStampsByPegs 55 = .ok (.ireturn, 1) := by decide +kernel
theorem dJ6_bitCount_0f7a4_0 : decode cJ6_bitCount_0f7a4 0 = .ok (.iload_n 0, 1) := by decide +kernel
theorem dJ6_bitCount_0f7a4_1 : decode cJ6_bitCount_0f7a4 1 = .ok (.iload_n 0, 1) := by decide +kernel
theorem dJ6_bitCount_0f7a4_2 : decode cJ6_bitCount_0f7a4 2 = .ok (.iconst 1, 1) := by decide +kernel
theorem dJ6_bitCount_0f7a4_3 : decode cJ6_bitCount_0f7a4 3 = .ok (.iushr, 1) := by decide +kernel
theorem dJ6_bitCount_0f7a4_4 : decode cJ6_bitCount_0f7a4 4 = .ok (.ldc_w 265, 3) := by decide +kernel
theorem dJ6_bitCount_0f7a4_7 : decode cJ6_bitCount_0f7a4 7 = .ok (.iand, 1) := by decide +kernel
theorem dJ6_bitCount_0f7a4_8 : decode cJ6_bitCount_0f7a4 8 = .ok (.isub, 1) := by decide +kernel
theorem dJ6_bitCount_0f7a4_9 : decode cJ6_bitCount_0f7a4 9 = .ok (.istore_n 0, 1) := by decide +kernel
theorem dJ6_bitCount_0f7a4_10 : decode cJ6_bitCount_0f7a4 10 = .ok (.iload_n 0, 1) := by decide +kernel
theorem dJ6_bitCount_0f7a4_11 : decode cJ6_bitCount_0f7a4 11 = .ok (.ldc_w 266, 3) := by decide +kernel
theorem dJ6_bitCount_0f7a4_14 : decode cJ6_bitCount_0f7a4 14 = .ok (.iand, 1) := by decide +kernel
theorem dJ6_bitCount_0f7a4_15 : decode cJ6_bitCount_0f7a4 15 = .ok (.iload_n 0, 1) := by decide +kernel
theorem dJ6_bitCount_0f7a4_16 : decode cJ6_bitCount_0f7a4 16 = .ok (.iconst 2, 1) := by decide +kernel
theorem dJ6_bitCount_0f7a4_17 : decode cJ6_bitCount_0f7a4 17 = .ok (.iushr, 1) := by decide +kernel
theorem dJ6_bitCount_0f7a4_18 : decode cJ6_bitCount_0f7a4 18 = .ok (.ldc_w 266, 3) := by decide +kernel
theorem dJ6_bitCount_0f7a4_21 : decode cJ6_bitCount_0f7a4 21 = .ok (.iand, 1) := by decide +kernel
theorem dJ6_bitCount_0f7a4_22 : decode cJ6_bitCount_0f7a4 22 = .ok (.iadd, 1) := by decide +kernel
theorem dJ6_bitCount_0f7a4_23 : decode cJ6_bitCount_0f7a4 23 = .ok (.istore_n 0, 1) := by decide +kernel
theorem dJ6_bitCount_0f7a4_24 : decode cJ6_bitCount_0f7a4 24 = .ok (.iload_n 0, 1) := by decide +kernel
theorem dJ6_bitCount_0f7a4_25 : decode cJ6_bitCount_0f7a4 25 = .ok (.iload_n 0, 1) := by decide +kernel
theorem dJ6_bitCount_0f7a4_26 : decode cJ6_bitCount_0f7a4 26 = .ok (.iconst 4, 1) := by decide +kernel
theorem dJ6_bitCount_0f7a4_27 : decode cJ6_bitCount_0f7a4 27 = .ok (.iushr, 1) := by decide +kernel
theorem dJ6_bitCount_0f7a4_28 : decode cJ6_bitCount_0f7a4 28 = .ok (.iadd, 1) := by decide +kernel
theorem dJ6_bitCount_0f7a4_29 : decode cJ6_bitCount_0f7a4 29 = .ok (.ldc_w 267, 3) := by decide +kernel
theorem dJ6_bitCount_0f7a4_32 : decode cJ6_bitCount_0f7a4 32 = .ok (.iand, 1) := by decide +kernel
theorem dJ6_bitCount_0f7a4_33 : decode cJ6_bitCount_0f7a4 33 = .ok (.istore_n 0, 1) := by decide +kernel
theorem dJ6_bitCount_0f7a4_34 : decode cJ6_bitCount_0f7a4 34 = .ok (.iload_n 0, 1) := by decide +kernel
theorem dJ6_bitCount_0f7a4_35 : decode cJ6_bitCount_0f7a4 35 = .ok (.iload_n 0, 1) := by decide +kernel
theorem dJ6_bitCount_0f7a4_36 : decode cJ6_bitCount_0f7a4 36 = .ok (.bipush 8, 2) := by decide +kernel
theorem dJ6_bitCount_0f7a4_38 : decode cJ6_bitCount_0f7a4 38 = .ok (.iushr, 1) := by decide +kernel
theorem dJ6_bitCount_0f7a4_39 : decode cJ6_bitCount_0f7a4 39 = .ok (.iadd, 1) := by decide +kernel
theorem dJ6_bitCount_0f7a4_40 : decode cJ6_bitCount_0f7a4 40 = .ok (.istore_n 0, 1) := by decide +kernel
theorem dJ6_bitCount_0f7a4_41 : decode cJ6_bitCount_0f7a4 41 = .ok (.iload_n 0, 1) := by decide +kernel
theorem dJ6_bitCount_0f7a4_42 : decode cJ6_bitCount_0f7a4 42 = .ok (.iload_n 0, 1) := by decide +kernel
theorem dJ6_bitCount_0f7a4_43 : decode cJ6_bitCount_0f7a4 43 = .ok (.bipush 16, 2) := by decide +kernel
theorem dJ6_bitCount_0f7a4_45 : decode cJ6_bitCount_0f7a4 45 = .ok (.iushr, 1) := by decide +kernel
theorem dJ6_bitCount_0f7a4_46 : decode cJ6_bitCount_0f7a4 46 = .ok (.iadd, 1) := by decide +kernel
theorem dJ6_bitCount_0f7a4_47 : decode cJ6_bitCount_0f7a4 47 = .ok (.istore_n 0, 1) := by decide +kernel
theorem dJ6_bitCount_0f7a4_48 : decode cJ6_bitCount_0f7a4 48 = .ok (.iload_n 0, 1) := by decide +kernel
theorem dJ6_bitCount_0f7a4_49 : decode cJ6_bitCount_0f7a4 49 = .ok (.bipush 63, 2) := by decide +kernel
theorem dJ6_bitCount_0f7a4_51 : decode cJ6_bitCount_0f7a4 51 = .ok (.iand, 1) := by decide +kernel
theorem dJ6_bitCount_0f7a4_52 : decode cJ6_bitCount_0f7a4 52 = .ok (.ireturn, 1) := by decide +kernel
theorem dJ9_floorMod_7cf53_0 : decode cJ9_floorMod_7cf53 0 = .ok (.iload_n 0, 1) := by decide +kernel
theorem dJ9_floorMod_7cf53_1 : decode cJ9_floorMod_7cf53 1 = .ok (.iload_n 1, 1) := by decide +kernel
theorem dJ9_floorMod_7cf53_2 : decode cJ9_floorMod_7cf53 2 = .ok (.irem, 1) := by decide +kernel
theorem dJ9_floorMod_7cf53_3 : decode cJ9_floorMod_7cf53 3 = .ok (.istore_n 2, 1) := by decide +kernel
theorem dJ9_floorMod_7cf53_4 : decode cJ9_floorMod_7cf53 4 = .ok (.iload_n 0, 1) := by decide +kernel
theorem dJ9_floorMod_7cf53_5 : decode cJ9_floorMod_7cf53 5 = .ok (.iload_n 1, 1) := by decide +kernel
theorem dJ9_floorMod_7cf53_6 : decode cJ9_floorMod_7cf53 6 = .ok (.ixor, 1) := by decide +kernel
theorem dJ9_floorMod_7cf53_7 : decode cJ9_floorMod_7cf53 7 = .ok (.ifCond .ge 11, 3) := by decide +kernel
theorem dJ9_floorMod_7cf53_10 : decode cJ9_floorMod_7cf53 10 = .ok (.iload_n 2, 1) := by decide +kernel
theorem dJ9_floorMod_7cf53_11 : decode cJ9_floorMod_7cf53 11 = .ok (.ifCond .eq 7, 3) := by decide +kernel
theorem dJ9_floorMod_7cf53_14 : decode cJ9_floorMod_7cf53 14 = .ok (.iload_n 2, 1) := by decide +kernel
theorem dJ9_floorMod_7cf53_15 : decode cJ9_floorMod_7cf53 15 = .ok (.iload_n 1, 1) := by decide +kernel
theorem dJ9_floorMod_7cf53_16 : decode cJ9_floorMod_7cf53 16 = .ok (.iadd, 1) := by decide +kernel
theorem dJ9_floorMod_7cf53_17 : decode cJ9_floorMod_7cf53 17 = .ok (.ireturn, 1) := by decide +kernel
theorem dJ9_floorMod_7cf53_18 : decode cJ9_floorMod_7cf53 18 = .ok (.iload_n 2, 1) := by decide +kernel
theorem dJ9_floorMod_7cf53_19 : decode cJ9_floorMod_7cf53 19 = .ok (.ireturn, 1) := by decide +kernel
theorem dJ9_min_7cf53_0 : decode cJ9_min_7cf53 0 = .ok (.iload_n 0, 1) := by decide +kernel
theorem dJ9_min_7cf53_1 : decode cJ9_min_7cf53 1 = .ok (.iload_n 1, 1) := by decide +kernel
theorem dJ9_min_7cf53_2 : decode cJ9_min_7cf53 2 = .ok (.if_icmp .gt 7, 3) := by decide +kernel
theorem dJ9_min_7cf53_5 : decode cJ9_min_7cf53 5 = .ok (.iload_n 0, 1) := by decide +kernel
theorem dJ9_min_7cf53_6 : decode cJ9_min_7cf53 6 = .ok (.goto 4, 3) := by decide +kernel
theorem dJ9_min_7cf53_9 : decode cJ9_min_7cf53 9 = .ok (.iload_n 1, 1) := by decide +kernel
theorem dJ9_min_7cf53_10 : decode cJ9_min_7cf53 10 = .ok (.ireturn, 1) := by decide +kernel
end
section
theorem dL_cell_0 : decode cL_cell 0 = .ok (.iload_n 1, 1) := by decide +kernel
theorem dL_cell_1 : decode cL_cell 1 = .ok (.aload_n 0, 1) := by decide +kernel
theorem dL_cell_2 : decode cL_cell 2 = .ok (.arraylength, 1) := by decide +kernel
theorem dL_cell_3 : decode cL_cell 3 = .ok (.if_icmp .ge 9, 3) := by decide +kernel
theorem dL_cell_6 : decode cL_cell 6 = .ok (.aload_n 0, 1) := by decide +kernel
theorem dL_cell_7 : decode cL_cell 7 = .ok (.iload_n 1, 1) := by decide +kernel
theorem dL_cell_8 : decode cL_cell 8 = .ok (.iaload, 1) := by decide +kernel
theorem dL_cell_9 : decode cL_cell 9 = .ok (.goto 11, 3) := by decide +kernel
theorem dL_cell_12 : decode cL_cell 12 = .ok (.ldc 7, 2) := by decide +kernel
theorem dL_cell_14 : decode cL_cell 14 = .ok (.iload_n 1, 1) := by decide +kernel
theorem dL_cell_15 : decode cL_cell 15 = .ok (.sipush 1453, 3) := by decide +kernel
theorem dL_cell_18 : decode cL_cell 18 = .ok (.iadd, 1) := by decide +kernel
theorem dL_cell_19 : decode cL_cell 19 = .ok (.imul, 1) := by decide +kernel
theorem dL_cell_20 : decode cL_cell 20 = .ok (.ireturn, 1) := by decide +kernel
theorem dL_up_0 : decode cL_up 0 = .ok (.iload_n 0, 1) := by decide +kernel
theorem dL_up_1 : decode cL_up 1 = .ok (.ldc 8, 2) := by decide +kernel
theorem dL_up_3 : decode cL_up 3 = .ok (.iand, 1) := by decide +kernel
theorem dL_up_4 : decode cL_up 4 = .ok (.iload_n 1, 1) := by decide +kernel
theorem dL_up_5 : decode cL_up 5 = .ok (.irem, 1) := by decide +kernel
theorem dL_up_6 : decode cL_up 6 = .ok (.ireturn, 1) := by decide +kernel
theorem dL_turned_0 : decode cL_turned 0 = .ok (.iconst 0, 1) := by decide +kernel
theorem dL_turned_1 : decode cL_turned 1 = .ok (.istore_n 1, 1) := by decide +kernel
theorem dL_turned_2 : decode cL_turned 2 = .ok (.iconst 0, 1) := by decide +kernel
theorem dL_turned_3 : decode cL_turned 3 = .ok (.istore_n 2, 1) := by decide +kernel
theorem dL_turned_4 : decode cL_turned 4 = .ok (.iload_n 2, 1) := by decide +kernel
theorem dL_turned_5 : decode cL_turned 5 = .ok (.bipush 6, 2) := by decide +kernel
theorem dL_turned_7 : decode cL_turned 7 = .ok (.if_icmp .ge 21, 3) := by decide +kernel
theorem dL_turned_10 : decode cL_turned 10 = .ok (.iload_n 1, 1) := by decide +kernel
theorem dL_turned_11 : decode cL_turned 11 = .ok (.iload_n 0, 1) := by decide +kernel
theorem dL_turned_12 : decode cL_turned 12 = .ok (.iload_n 2, 1) := by decide +kernel
theorem dL_turned_13 : decode cL_turned 13 = .ok (.ishr, 1) := by decide +kernel
theorem dL_turned_14 : decode cL_turned 14 = .ok (.iconst 1, 1) := by decide +kernel
theorem dL_turned_15 : decode cL_turned 15 = .ok (.iand, 1) := by decide +kernel
theorem dL_turned_16 : decode cL_turned 16 = .ok (.iconst 5, 1) := by decide +kernel
theorem dL_turned_17 : decode cL_turned 17 = .ok (.iload_n 2, 1) := by decide +kernel
theorem dL_turned_18 : decode cL_turned 18 = .ok (.isub, 1) := by decide +kernel
theorem dL_turned_19 : decode cL_turned 19 = .ok (.ishl, 1) := by decide +kernel
theorem dL_turned_20 : decode cL_turned 20 = .ok (.ior, 1) := by decide +kernel
theorem dL_turned_21 : decode cL_turned 21 = .ok (.istore_n 1, 1) := by decide +kernel
theorem dL_turned_22 : decode cL_turned 22 = .ok (.iinc 2 1, 3) := by decide +kernel
theorem dL_turned_25 : decode cL_turned 25 = .ok (.goto (-21), 3) := by decide +kernel
theorem dL_turned_28 : decode cL_turned 28 = .ok (.iload_n 1, 1) := by decide +kernel
theorem dL_turned_29 : decode cL_turned 29 = .ok (.ireturn, 1) := by decide +kernel
set_option maxRecDepth 20000 in
theorem ggL_isRead_X5_wipe : GoodIn wsL_isRead wsX5_wipe := goodIn_r _ [8, 9, 10, 11, 12, 13, 14, 15, 16, 166, 167, 168, 169, 170, 171, 172, 173] (by decide +kernel) (by decide +kernel)
set_option maxRecDepth 20000 in
theorem gL_isRead_X5_wipe : GoodIn wsL_isRead (wsV RL 9 RX5 yX5_wipe wsX5_wipe) := goodIn_app (goodIn_of _ (by decide +kernel)) ggL_isRead_X5_wipe
set_option maxRecDepth 20000 in
theorem ggL_isRead_L_up : GoodIn wsL_isRead wsL_up := goodIn_r _ [20, 21] (by decide +kernel) (by decide +kernel)
set_option maxRecDepth 20000 in
theorem gL_isRead_L_up : GoodIn wsL_isRead (va_wsS RL 15 yL_up wsL_up) := goodIn_app (goodIn_of _ (by decide +kernel)) ggL_isRead_L_up
set_option maxRecDepth 20000 in
theorem ggL_isRead_X5_put : GoodIn wsL_isRead wsX5_put := goodIn_r _ [25, 9, 10, 26, 27, 14, 28, 29, 30, 31, 32, 33, 34, 16, 166, 167, 168, 169, 170, 171, 172, 173] (by decide +kernel) (by decide +kernel)
set_option maxRecDepth 20000 in
theorem gL_isRead_X5_put : GoodIn wsL_isRead (wsV RL 23 RX5 yX5_put wsX5_put) := goodIn_app (goodIn_of _ (by decide +kernel)) ggL_isRead_X5_put
set_option maxRecDepth 20000 in
theorem ggL_isRead_L_turned : GoodIn wsL_isRead wsL_turned := goodIn_r _ [37] (by decide +kernel) (by decide +kernel)
set_option maxRecDepth 20000 in
theorem gL_isRead_L_turned : GoodIn wsL_isRead (va_wsS RL 31 yL_turned wsL_turned) := goodIn_app (goodIn_of _ (by decide +kernel)) ggL_isRead_L_turned
set_option maxRecDepth 20000 in
theorem ggL_isRead_X5_read : GoodIn wsL_isRead wsX5_read := goodIn_r _ [41, 9, 42, 43, 44, 45, 46, 47, 14, 48, 16, 34, 49, 50, 51, 52, 53, 54, 55, 7, 56, 57, 58, 59, 60, 61, 62, 63, 64, 65, 66, 67, 68, 69, 70, 71, 72, 73, 74, 75, 76, 77, 78, 79, 80, 81, 82, 83, 84, 85, 86, 87, 88, 89, 90, 91, 92, 93, 94, 95, 96, 97, 98, 99, 100, 101, 102, 103, 104, 105, 106, 107, 108, 109, 110, 111, 112, 113, 114, 115, 116, 117, 118, 119, 120, 121, 122, 123, 124, 11, 12, 13, 15, 125, 126, 127, 128, 129, 130, 131, 132, 133, 134, 135, 136, 137, 138, 139, 166, 167, 168, 169, 170, 171, 174, 175, 176, 177, 178, 179, 180, 181, 182, 183, 184, 185, 186, 172, 173, 187, 188, 189, 190, 191, 192, 193, 194, 195, 196, 197] (by decide +kernel) (by decide +kernel)
set_option maxRecDepth 20000 in
theorem gL_isRead_X5_read : GoodIn wsL_isRead (wsV RL 35 RX5 yX5_read wsX5_read) := goodIn_app (goodIn_of _ (by decide +kernel)) ggL_isRead_X5_read
set_option maxRecDepth 20000 in
theorem ggL_isRead_X5_count : GoodIn wsL_isRead wsX5_count := goodIn_r _ [143, 43, 144, 44, 145, 146, 147, 148, 149, 150, 151, 152, 153, 154, 155, 156, 157, 9, 10, 42, 158, 159, 160, 7, 161, 125, 126, 127, 94, 128, 129, 130, 131, 132, 96, 133, 134, 135, 136, 137, 138, 139, 162, 163, 164, 104, 165, 108, 166, 167, 168, 169, 170, 171, 174, 175, 176, 177, 178, 179, 180, 181, 182, 183, 184, 185, 186, 190, 191, 192, 193, 172, 173, 187, 188, 189, 194, 195, 196, 197] (by decide +kernel) (by decide +kernel)
set_option maxRecDepth 20000 in
theorem gL_isRead_X5_count : GoodIn wsL_isRead (wsV RL 38 RX5 yX5_count wsX5_count) := goodIn_app (goodIn_of _ (by decide +kernel)) ggL_isRead_X5_count
theorem dL_isRead_0 : decode cL_isRead 0 = .ok (.aload_n 0, 1) := by decide +kernel
theorem dL_isRead_1 : decode cL_isRead 1 = .ok (.invokevirtual 9, 3) := by decide +kernel
theorem dL_isRead_4 : decode cL_isRead 4 = .ok (.ifCond .lt 14, 3) := by decide +kernel
theorem dL_isRead_7 : decode cL_isRead 7 = .ok (.aload_n 1, 1) := by decide +kernel
theorem dL_isRead_8 : decode cL_isRead 8 = .ok (.invokevirtual 9, 3) := by decide +kernel
theorem dL_isRead_11 : decode cL_isRead 11 = .ok (.ifCond .lt 7, 3) := by decide +kernel
theorem dL_isRead_14 : decode cL_isRead 14 = .ok (.iconst 1, 1) := by decide +kernel
theorem dL_isRead_15 : decode cL_isRead 15 = .ok (.goto 4, 3) := by decide +kernel
theorem dL_isRead_18 : decode cL_isRead 18 = .ok (.iconst 0, 1) := by decide +kernel
theorem dL_isRead_19 : decode cL_isRead 19 = .ok (.istore 4, 2) := by decide +kernel
theorem dL_isRead_21 : decode cL_isRead 21 = .ok (.iconst 1, 1) := by decide +kernel
theorem dL_isRead_22 : decode cL_isRead 22 = .ok (.iload_n 2, 1) := by decide +kernel
theorem dL_isRead_23 : decode cL_isRead 23 = .ok (.iconst 5, 1) := by decide +kernel
theorem dL_isRead_24 : decode cL_isRead 24 = .ok (.invokestatic 15, 3) := by decide +kernel
theorem dL_isRead_27 : decode cL_isRead 27 = .ok (.iadd, 1) := by decide +kernel
theorem dL_isRead_28 : decode cL_isRead 28 = .ok (.istore 5, 2) := by decide +kernel
theorem dL_isRead_30 : decode cL_isRead 30 = .ok (.iconst 0, 1) := by decide +kernel
theorem dL_isRead_31 : decode cL_isRead 31 = .ok (.istore 6, 2) := by decide +kernel
theorem dL_isRead_33 : decode cL_isRead 33 = .ok (.iload 6, 2) := by decide +kernel
theorem dL_isRead_35 : decode cL_isRead 35 = .ok (.iload 5, 2) := by decide +kernel
theorem dL_isRead_37 : decode cL_isRead 37 = .ok (.if_icmp .ge 251, 3) := by decide +kernel
theorem dL_isRead_40 : decode cL_isRead 40 = .ok (.iload_n 2, 1) := by decide +kernel
theorem dL_isRead_41 : decode cL_isRead 41 = .ok (.iconst 2, 1) := by decide +kernel
theorem dL_isRead_42 : decode cL_isRead 42 = .ok (.iload 6, 2) := by decide +kernel
theorem dL_isRead_44 : decode cL_isRead 44 = .ok (.imul, 1) := by decide +kernel
theorem dL_isRead_45 : decode cL_isRead 45 = .ok (.ishr, 1) := by decide +kernel
theorem dL_isRead_46 : decode cL_isRead 46 = .ok (.iload_n 3, 1) := by decide +kernel
theorem dL_isRead_47 : decode cL_isRead 47 = .ok (.iload 6, 2) := by decide +kernel
theorem dL_isRead_49 : decode cL_isRead 49 = .ok (.ishr, 1) := by decide +kernel
theorem dL_isRead_50 : decode cL_isRead 50 = .ok (.ixor, 1) := by decide +kernel
theorem dL_isRead_51 : decode cL_isRead 51 = .ok (.istore 7, 2) := by decide +kernel
theorem dL_isRead_53 : decode cL_isRead 53 = .ok (.iload 7, 2) := by decide +kernel
theorem dL_isRead_55 : decode cL_isRead 55 = .ok (.bipush 16, 2) := by decide +kernel
theorem dL_isRead_57 : decode cL_isRead 57 = .ok (.invokestatic 15, 3) := by decide +kernel
theorem dL_isRead_60 : decode cL_isRead 60 = .ok (.istore 8, 2) := by decide +kernel
theorem dL_isRead_62 : decode cL_isRead 62 = .ok (.iload 7, 2) := by decide +kernel
theorem dL_isRead_64 : decode cL_isRead 64 = .ok (.iconst 4, 1) := by decide +kernel
theorem dL_isRead_65 : decode cL_isRead 65 = .ok (.ishr, 1) := by decide +kernel
theorem dL_isRead_66 : decode cL_isRead 66 = .ok (.iload 7, 2) := by decide +kernel
theorem dL_isRead_68 : decode cL_isRead 68 = .ok (.bipush 10, 2) := by decide +kernel
theorem dL_isRead_70 : decode cL_isRead 70 = .ok (.ishr, 1) := by decide +kernel
theorem dL_isRead_71 : decode cL_isRead 71 = .ok (.iconst 3, 1) := by decide +kernel
theorem dL_isRead_72 : decode cL_isRead 72 = .ok (.invokestatic 15, 3) := by decide +kernel
theorem dL_isRead_75 : decode cL_isRead 75 = .ok (.ifCond .ne 8, 3) := by decide +kernel
theorem dL_isRead_78 : decode cL_isRead 78 = .ok (.bipush 64, 2) := by decide +kernel
theorem dL_isRead_80 : decode cL_isRead 80 = .ok (.goto 4, 3) := by decide +kernel
theorem dL_isRead_83 : decode cL_isRead 83 = .ok (.iconst 5, 1) := by decide +kernel
theorem dL_isRead_84 : decode cL_isRead 84 = .ok (.invokestatic 15, 3) := by decide +kernel
theorem dL_isRead_87 : decode cL_isRead 87 = .ok (.istore 9, 2) := by decide +kernel
theorem dL_isRead_89 : decode cL_isRead 89 = .ok (.iload 4, 2) := by decide +kernel
theorem dL_isRead_91 : decode cL_isRead 91 = .ok (.ifCond .eq 111, 3) := by decide +kernel
theorem dL_isRead_94 : decode cL_isRead 94 = .ok (.iload 6, 2) := by decide +kernel
theorem dL_isRead_96 : decode cL_isRead 96 = .ok (.ifCond .eq 23, 3) := by decide +kernel
theorem dL_isRead_99 : decode cL_isRead 99 = .ok (.aload_n 0, 1) := by decide +kernel
theorem dL_isRead_100 : decode cL_isRead 100 = .ok (.ldc2_w 21, 3) := by decide +kernel
theorem dL_isRead_103 : decode cL_isRead 103 = .ok (.invokevirtual 23, 3) := by decide +kernel
theorem dL_isRead_106 : decode cL_isRead 106 = .ok (.ifCond .le 96, 3) := by decide +kernel
theorem dL_isRead_109 : decode cL_isRead 109 = .ok (.aload_n 1, 1) := by decide +kernel
theorem dL_isRead_110 : decode cL_isRead 110 = .ok (.ldc2_w 21, 3) := by decide +kernel
theorem dL_isRead_113 : decode cL_isRead 113 = .ok (.invokevirtual 23, 3) := by decide +kernel
theorem dL_isRead_116 : decode cL_isRead 116 = .ok (.ifCond .le 86, 3) := by decide +kernel
theorem dL_isRead_119 : decode cL_isRead 119 = .ok (.iload 8, 2) := by decide +kernel
theorem dL_isRead_121 : decode cL_isRead 121 = .ok (.bipush 10, 2) := by decide +kernel
theorem dL_isRead_123 : decode cL_isRead 123 = .ok (.if_icmp .lt 23, 3) := by decide +kernel
theorem dL_isRead_126 : decode cL_isRead 126 = .ok (.aload_n 0, 1) := by decide +kernel
theorem dL_isRead_127 : decode cL_isRead 127 = .ok (.ldc2_w 27, 3) := by decide +kernel
theorem dL_isRead_130 : decode cL_isRead 130 = .ok (.invokevirtual 23, 3) := by decide +kernel
theorem dL_isRead_133 : decode cL_isRead 133 = .ok (.ifCond .le 69, 3) := by decide +kernel
theorem dL_isRead_136 : decode cL_isRead 136 = .ok (.aload_n 1, 1) := by decide +kernel
theorem dL_isRead_137 : decode cL_isRead 137 = .ok (.ldc2_w 27, 3) := by decide +kernel
theorem dL_isRead_140 : decode cL_isRead 140 = .ok (.invokevirtual 23, 3) := by decide +kernel
theorem dL_isRead_143 : decode cL_isRead 143 = .ok (.ifCond .le 59, 3) := by decide +kernel
theorem dL_isRead_146 : decode cL_isRead 146 = .ok (.aload_n 0, 1) := by decide +kernel
theorem dL_isRead_147 : decode cL_isRead 147 = .ok (.bipush 48, 2) := by decide +kernel
theorem dL_isRead_149 : decode cL_isRead 149 = .ok (.iload 8, 2) := by decide +kernel
theorem dL_isRead_151 : decode cL_isRead 151 = .ok (.bipush 10, 2) := by decide +kernel
theorem dL_isRead_153 : decode cL_isRead 153 = .ok (.irem, 1) := by decide +kernel
theorem dL_isRead_154 : decode cL_isRead 154 = .ok (.iadd, 1) := by decide +kernel
theorem dL_isRead_155 : decode cL_isRead 155 = .ok (.i2l, 1) := by decide +kernel
theorem dL_isRead_156 : decode cL_isRead 156 = .ok (.invokevirtual 23, 3) := by decide +kernel
theorem dL_isRead_159 : decode cL_isRead 159 = .ok (.ifCond .le 43, 3) := by decide +kernel
theorem dL_isRead_162 : decode cL_isRead 162 = .ok (.aload_n 1, 1) := by decide +kernel
theorem dL_isRead_163 : decode cL_isRead 163 = .ok (.bipush 48, 2) := by decide +kernel
theorem dL_isRead_165 : decode cL_isRead 165 = .ok (.iload 8, 2) := by decide +kernel
theorem dL_isRead_167 : decode cL_isRead 167 = .ok (.bipush 10, 2) := by decide +kernel
theorem dL_isRead_169 : decode cL_isRead 169 = .ok (.irem, 1) := by decide +kernel
theorem dL_isRead_170 : decode cL_isRead 170 = .ok (.iadd, 1) := by decide +kernel
theorem dL_isRead_171 : decode cL_isRead 171 = .ok (.i2l, 1) := by decide +kernel
theorem dL_isRead_172 : decode cL_isRead 172 = .ok (.invokevirtual 23, 3) := by decide +kernel
theorem dL_isRead_175 : decode cL_isRead 175 = .ok (.ifCond .le 27, 3) := by decide +kernel
theorem dL_isRead_178 : decode cL_isRead 178 = .ok (.aload_n 0, 1) := by decide +kernel
theorem dL_isRead_179 : decode cL_isRead 179 = .ok (.ldc2_w 29, 3) := by decide +kernel
theorem dL_isRead_182 : decode cL_isRead 182 = .ok (.invokevirtual 23, 3) := by decide +kernel
theorem dL_isRead_185 : decode cL_isRead 185 = .ok (.ifCond .le 17, 3) := by decide +kernel
theorem dL_isRead_188 : decode cL_isRead 188 = .ok (.aload_n 1, 1) := by decide +kernel
theorem dL_isRead_189 : decode cL_isRead 189 = .ok (.ldc2_w 29, 3) := by decide +kernel
theorem dL_isRead_192 : decode cL_isRead 192 = .ok (.invokevirtual 23, 3) := by decide +kernel
theorem dL_isRead_195 : decode cL_isRead 195 = .ok (.ifCond .le 7, 3) := by decide +kernel
theorem dL_isRead_198 : decode cL_isRead 198 = .ok (.iconst 1, 1) := by decide +kernel
theorem dL_isRead_199 : decode cL_isRead 199 = .ok (.goto 4, 3) := by decide +kernel
theorem dL_isRead_202 : decode cL_isRead 202 = .ok (.iconst 0, 1) := by decide +kernel
theorem dL_isRead_203 : decode cL_isRead 203 = .ok (.istore 4, 2) := by decide +kernel
theorem dL_isRead_205 : decode cL_isRead 205 = .ok (.iconst 0, 1) := by decide +kernel
theorem dL_isRead_206 : decode cL_isRead 206 = .ok (.istore 10, 2) := by decide +kernel
theorem dL_isRead_208 : decode cL_isRead 208 = .ok (.iload 10, 2) := by decide +kernel
theorem dL_isRead_210 : decode cL_isRead 210 = .ok (.bipush 6, 2) := by decide +kernel
theorem dL_isRead_212 : decode cL_isRead 212 = .ok (.if_icmp .ge 70, 3) := by decide +kernel
theorem dL_isRead_215 : decode cL_isRead 215 = .ok (.iload 4, 2) := by decide +kernel
theorem dL_isRead_217 : decode cL_isRead 217 = .ok (.ifCond .eq 56, 3) := by decide +kernel
theorem dL_isRead_220 : decode cL_isRead 220 = .ok (.iload 9, 2) := by decide +kernel
theorem dL_isRead_222 : decode cL_isRead 222 = .ok (.iload 10, 2) := by decide +kernel
theorem dL_isRead_224 : decode cL_isRead 224 = .ok (.ishr, 1) := by decide +kernel
theorem dL_isRead_225 : decode cL_isRead 225 = .ok (.iconst 1, 1) := by decide +kernel
theorem dL_isRead_226 : decode cL_isRead 226 = .ok (.iand, 1) := by decide +kernel
theorem dL_isRead_227 : decode cL_isRead 227 = .ok (.ifCond .eq 16, 3) := by decide +kernel
theorem dL_isRead_230 : decode cL_isRead 230 = .ok (.aload_n 0, 1) := by decide +kernel
theorem dL_isRead_231 : decode cL_isRead 231 = .ok (.bipush 48, 2) := by decide +kernel
theorem dL_isRead_233 : decode cL_isRead 233 = .ok (.iload 10, 2) := by decide +kernel
theorem dL_isRead_235 : decode cL_isRead 235 = .ok (.iadd, 1) := by decide +kernel
theorem dL_isRead_236 : decode cL_isRead 236 = .ok (.i2l, 1) := by decide +kernel
theorem dL_isRead_237 : decode cL_isRead 237 = .ok (.invokevirtual 23, 3) := by decide +kernel
theorem dL_isRead_240 : decode cL_isRead 240 = .ok (.ifCond .le 33, 3) := by decide +kernel
theorem dL_isRead_243 : decode cL_isRead 243 = .ok (.iload 9, 2) := by decide +kernel
theorem dL_isRead_245 : decode cL_isRead 245 = .ok (.invokestatic 31, 3) := by decide +kernel
theorem dL_isRead_248 : decode cL_isRead 248 = .ok (.iload 10, 2) := by decide +kernel
theorem dL_isRead_250 : decode cL_isRead 250 = .ok (.ishr, 1) := by decide +kernel
theorem dL_isRead_251 : decode cL_isRead 251 = .ok (.iconst 1, 1) := by decide +kernel
theorem dL_isRead_252 : decode cL_isRead 252 = .ok (.iand, 1) := by decide +kernel
theorem dL_isRead_253 : decode cL_isRead 253 = .ok (.ifCond .eq 16, 3) := by decide +kernel
theorem dL_isRead_256 : decode cL_isRead 256 = .ok (.aload_n 1, 1) := by decide +kernel
theorem dL_isRead_257 : decode cL_isRead 257 = .ok (.bipush 48, 2) := by decide +kernel
theorem dL_isRead_259 : decode cL_isRead 259 = .ok (.iload 10, 2) := by decide +kernel
theorem dL_isRead_261 : decode cL_isRead 261 = .ok (.iadd, 1) := by decide +kernel
theorem dL_isRead_262 : decode cL_isRead 262 = .ok (.i2l, 1) := by decide +kernel
theorem dL_isRead_263 : decode cL_isRead 263 = .ok (.invokevirtual 23, 3) := by decide +kernel
theorem dL_isRead_266 : decode cL_isRead 266 = .ok (.ifCond .le 7, 3) := by decide +kernel
theorem dL_isRead_269 : decode cL_isRead 269 = .ok (.iconst 1, 1) := by decide +kernel
theorem dL_isRead_270 : decode cL_isRead 270 = .ok (.goto 4, 3) := by decide +kernel
theorem dL_isRead_273 : decode cL_isRead 273 = .ok (.iconst 0, 1) := by decide +kernel
theorem dL_isRead_274 : decode cL_isRead 274 = .ok (.istore 4, 2) := by decide +kernel
theorem dL_isRead_276 : decode cL_isRead 276 = .ok (.iinc 10 1, 3) := by decide +kernel
theorem dL_isRead_279 : decode cL_isRead 279 = .ok (.goto (-71), 3) := by decide +kernel
theorem dL_isRead_282 : decode cL_isRead 282 = .ok (.iinc 6 1, 3) := by decide +kernel
theorem dL_isRead_285 : decode cL_isRead 285 = .ok (.goto (-252), 3) := by decide +kernel
theorem dL_isRead_288 : decode cL_isRead 288 = .ok (.aload_n 0, 1) := by decide +kernel
theorem dL_isRead_289 : decode cL_isRead 289 = .ok (.invokevirtual 35, 3) := by decide +kernel
theorem dL_isRead_292 : decode cL_isRead 292 = .ok (.istore 6, 2) := by decide +kernel
theorem dL_isRead_294 : decode cL_isRead 294 = .ok (.iload 4, 2) := by decide +kernel
theorem dL_isRead_296 : decode cL_isRead 296 = .ok (.ifCond .eq 36, 3) := by decide +kernel
theorem dL_isRead_299 : decode cL_isRead 299 = .ok (.iload 6, 2) := by decide +kernel
theorem dL_isRead_301 : decode cL_isRead 301 = .ok (.aload_n 1, 1) := by decide +kernel
theorem dL_isRead_302 : decode cL_isRead 302 = .ok (.invokevirtual 35, 3) := by decide +kernel
theorem dL_isRead_305 : decode cL_isRead 305 = .ok (.if_icmp .ne 27, 3) := by decide +kernel
theorem dL_isRead_308 : decode cL_isRead 308 = .ok (.iload 6, 2) := by decide +kernel
theorem dL_isRead_310 : decode cL_isRead 310 = .ok (.aload_n 0, 1) := by decide +kernel
theorem dL_isRead_311 : decode cL_isRead 311 = .ok (.bipush 15, 2) := by decide +kernel
theorem dL_isRead_313 : decode cL_isRead 313 = .ok (.invokevirtual 38, 3) := by decide +kernel
theorem dL_isRead_316 : decode cL_isRead 316 = .ok (.if_icmp .ne 16, 3) := by decide +kernel
theorem dL_isRead_319 : decode cL_isRead 319 = .ok (.aload_n 0, 1) := by decide +kernel
theorem dL_isRead_320 : decode cL_isRead 320 = .ok (.bipush 18, 2) := by decide +kernel
theorem dL_isRead_322 : decode cL_isRead 322 = .ok (.invokevirtual 38, 3) := by decide +kernel
theorem dL_isRead_325 : decode cL_isRead 325 = .ok (.ifCond .ne 7, 3) := by decide +kernel
theorem dL_isRead_328 : decode cL_isRead 328 = .ok (.iconst 1, 1) := by decide +kernel
theorem dL_isRead_329 : decode cL_isRead 329 = .ok (.goto 4, 3) := by decide +kernel
theorem dL_isRead_332 : decode cL_isRead 332 = .ok (.iconst 0, 1) := by decide +kernel
theorem dL_isRead_333 : decode cL_isRead 333 = .ok (.ireturn, 1) := by decide +kernel
end
section
set_option maxRecDepth 20000 in
theorem ggL_isStep_L_up : GoodIn wsL_isStep wsL_up := goodIn_r _ [4, 5] (by decide +kernel) (by decide +kernel)
set_option maxRecDepth 20000 in
theorem gL_isStep_L_up : GoodIn wsL_isStep (va_wsS RL 15 yL_up wsL_up) := goodIn_app (goodIn_of _ (by decide +kernel)) ggL_isStep_L_up
set_option maxRecDepth 20000 in
theorem ggL_isStep_X5_count : GoodIn wsL_isStep wsX5_count := goodIn_r _ [10, 11, 12, 13, 14, 15, 16, 17, 18, 19, 20, 21, 22, 23, 24, 25, 26, 27, 28, 29, 30, 31, 32, 9, 33, 34, 35, 36, 37, 38, 39, 40, 41, 42, 43, 44, 45, 46, 47, 48, 49, 50, 51, 52, 53, 54, 55, 56, 292, 293, 294, 295, 296, 297, 298, 299, 300, 301, 302, 303, 304, 305, 306, 307, 308, 309, 310, 311, 312, 313, 314, 315, 316, 317, 318, 319, 320, 321, 322, 323] (by decide +kernel) (by decide +kernel)
set_option maxRecDepth 20000 in
theorem gL_isStep_X5_count : GoodIn wsL_isStep (wsV RL 38 RX5 yX5_count wsX5_count) := goodIn_app (goodIn_of _ (by decide +kernel)) ggL_isStep_X5_count
set_option maxRecDepth 20000 in
theorem ggL_isStep_X5_set : GoodIn wsL_isStep wsX5_set := goodIn_r _ [60, 61, 62, 29, 11, 12, 63, 64, 65, 66, 67, 68, 69, 70, 71, 72, 73, 74, 75, 76, 77, 78, 79, 80, 81, 82, 83, 84, 85, 86, 87, 88, 89, 90, 91, 92, 93, 94, 95, 96, 97, 98, 99, 37, 100, 43, 101, 102, 103, 104, 105, 106, 107, 54, 108, 109, 110, 56, 111, 112, 292, 293, 294, 295, 296, 297, 298, 299, 300, 301, 302, 303, 304, 305, 306, 307, 308, 309, 310, 317, 318, 319, 311, 312, 313, 314, 320, 321, 322, 323] (by decide +kernel) (by decide +kernel)
set_option maxRecDepth 20000 in
theorem gL_isStep_X5_set : GoodIn wsL_isStep (wsV RL 41 RX5 yX5_set wsX5_set) := goodIn_app (goodIn_of _ (by decide +kernel)) ggL_isStep_X5_set
set_option maxRecDepth 20000 in
theorem ggL_isStep_X5_order : GoodIn wsL_isStep wsX5_order := goodIn_r _ [116, 29, 11, 16, 63, 64, 65, 66, 67, 68, 69, 70, 71, 72, 73, 74, 75, 76, 77, 78, 79, 80, 81, 82, 83, 84, 85, 86, 87, 88, 89, 90, 91, 92, 93, 94, 95, 96, 97, 98, 99, 37, 100, 43, 101, 102, 103, 104, 105, 106, 107, 54, 108, 109, 110, 56, 111, 112, 292, 293, 294, 295, 296, 297, 298, 299, 300, 301, 302, 303, 304, 305, 306, 307, 308, 309, 310, 317, 318, 319, 311, 312, 313, 314, 320, 321, 322, 323] (by decide +kernel) (by decide +kernel)
set_option maxRecDepth 20000 in
theorem gL_isStep_X5_order : GoodIn wsL_isStep (wsV RL 44 RX5 yX5_order wsX5_order) := goodIn_app (goodIn_of _ (by decide +kernel)) ggL_isStep_X5_order
set_option maxRecDepth 20000 in
theorem ggL_isStep_L_turned : GoodIn wsL_isStep wsL_turned := goodIn_r _ [119] (by decide +kernel) (by decide +kernel)
set_option maxRecDepth 20000 in
theorem gL_isStep_L_turned : GoodIn wsL_isStep (va_wsS RL 31 yL_turned wsL_turned) := goodIn_app (goodIn_of _ (by decide +kernel)) ggL_isStep_L_turned
set_option maxRecDepth 20000 in
theorem ggL_isStep_X5_stamp : GoodIn wsL_isStep wsX5_stamp := goodIn_r _ [123, 11, 26, 124, 125, 126, 13, 127, 128, 129, 9, 130, 131, 132, 133, 37, 134, 135, 136, 137, 138, 43, 292, 293, 294, 295, 296, 297, 298, 299, 300, 301, 302, 303, 304, 305, 306, 307, 308, 309, 310, 320, 321, 322, 323, 311, 312, 313, 314] (by decide +kernel) (by decide +kernel)
set_option maxRecDepth 20000 in
theorem gL_isStep_X5_stamp : GoodIn wsL_isStep (wsV RL 47 RX5 yX5_stamp wsX5_stamp) := goodIn_app (goodIn_of _ (by decide +kernel)) ggL_isStep_X5_stamp
set_option maxRecDepth 20000 in
theorem ggL_isStep_X5_ink : GoodIn wsL_isStep wsX5_ink := goodIn_r _ [142, 29, 11, 26, 124, 128, 129, 9, 130, 63, 64, 65, 66, 67, 68, 69, 70, 71, 72, 73, 74, 75, 76, 77, 78, 79, 80, 81, 82, 83, 84, 85, 86, 87, 88, 89, 90, 91, 92, 93, 94, 95, 96, 97, 98, 99, 37, 100, 43, 101, 102, 103, 104, 105, 106, 107, 54, 108, 109, 110, 56, 111, 112, 292, 293, 294, 295, 296, 297, 298, 299, 300, 301, 302, 303, 304, 305, 306, 307, 308, 309, 310, 320, 321, 322, 323, 317, 318, 319, 311, 312, 313, 314] (by decide +kernel) (by decide +kernel)
set_option maxRecDepth 20000 in
theorem gL_isStep_X5_ink : GoodIn wsL_isStep (wsV RL 50 RX5 yX5_ink wsX5_ink) := goodIn_app (goodIn_of _ (by decide +kernel)) ggL_isStep_X5_ink
set_option maxRecDepth 20000 in
theorem ggL_isStep_X5_free : GoodIn wsL_isStep wsX5_free := goodIn_r _ [146, 11, 15, 29, 13, 14, 63, 64, 65, 66, 67, 68, 69, 70, 71, 72, 73, 74, 75, 76, 77, 78, 79, 80, 81, 82, 83, 84, 85, 86, 87, 88, 89, 90, 91, 92, 93, 94, 95, 96, 97, 98, 99, 37, 100, 43, 101, 102, 103, 104, 105, 106, 107, 54, 108, 109, 110, 56, 111, 112, 147, 148, 149, 150, 151, 152, 153, 292, 293, 294, 295, 296, 297, 298, 299, 300, 301, 302, 303, 304, 305, 306, 307, 308, 309, 310, 311, 312, 313, 314, 317, 318, 319, 320, 321, 322, 323] (by decide +kernel) (by decide +kernel)
set_option maxRecDepth 20000 in
theorem gL_isStep_X5_free : GoodIn wsL_isStep (wsV RL 53 RX5 yX5_free wsX5_free) := goodIn_app (goodIn_of _ (by decide +kernel)) ggL_isStep_X5_free
set_option maxRecDepth 20000 in
theorem ggL_isStep_X5_newForm : GoodIn wsL_isStep wsX5_newForm := goodIn_r _ [157, 29, 11, 17, 63, 64, 65, 66, 67, 68, 69, 70, 71, 72, 73, 74, 75, 76, 77, 78, 79, 80, 81, 82, 83, 84, 85, 86, 87, 88, 89, 90, 91, 92, 93, 94, 95, 96, 97, 98, 99, 37, 100, 43, 101, 102, 103, 104, 105, 106, 107, 54, 108, 109, 110, 56, 111, 112, 158, 159, 160, 161, 292, 293, 294, 295, 296, 297, 298, 299, 300, 301, 302, 303, 304, 305, 306, 307, 308, 309, 310, 317, 318, 319, 311, 312, 313, 314, 320, 321, 322, 323] (by decide +kernel) (by decide +kernel)
set_option maxRecDepth 20000 in
theorem gL_isStep_X5_newForm : GoodIn wsL_isStep (wsV RL 56 RX5 yX5_newForm wsX5_newForm) := goodIn_app (goodIn_of _ (by decide +kernel)) ggL_isStep_X5_newForm
set_option maxRecDepth 20000 in
theorem ggL_isStep_X5_save : GoodIn wsL_isStep wsX5_save := goodIn_r _ [165, 166, 11, 167, 13, 168, 76, 77, 78, 79, 80, 81, 82, 83, 84, 85, 86, 87, 88, 89, 90, 91, 92, 93, 94, 95, 96, 97, 98, 99, 37, 100, 43, 101, 102, 103, 104, 105, 106, 107, 54, 108, 109, 110, 56, 111, 112, 34, 35, 36, 38, 39, 40, 41, 42, 44, 45, 46, 47, 48, 49, 50, 292, 293, 294, 295, 296, 297, 298, 299, 300, 301, 302, 303, 304, 305, 306, 307, 308, 309, 310, 311, 312, 313, 314, 320, 321, 322, 323] (by decide +kernel) (by decide +kernel)
set_option maxRecDepth 20000 in
theorem gL_isStep_X5_save : GoodIn wsL_isStep (wsV RL 59 RX5 yX5_save wsX5_save) := goodIn_app (goodIn_of _ (by decide +kernel)) ggL_isStep_X5_save
set_option maxRecDepth 20000 in
theorem ggL_isStep_X5_restore : GoodIn wsL_isStep wsX5_restore := goodIn_r _ [172, 167, 29, 11, 166, 13, 63, 64, 65, 66, 67, 68, 69, 70, 71, 72, 73, 74, 75, 76, 77, 78, 79, 80, 81, 82, 83, 84, 85, 86, 87, 88, 89, 90, 91, 92, 93, 94, 95, 96, 97, 98, 99, 37, 100, 43, 101, 102, 103, 104, 105, 106, 107, 54, 108, 109, 110, 56, 111, 112, 168, 34, 35, 36, 38, 39, 40, 41, 42, 44, 45, 46, 47, 48, 49, 50, 292, 293, 294, 295, 296, 297, 298, 299, 300, 301, 302, 303, 304, 305, 306, 307, 308, 309, 310, 317, 318, 319, 311, 312, 313, 314, 320, 321, 322, 323] (by decide +kernel) (by decide +kernel)
set_option maxRecDepth 20000 in
theorem gL_isStep_X5_restore : GoodIn wsL_isStep (wsV RL 62 RX5 yX5_restore wsX5_restore) := goodIn_app (goodIn_of _ (by decide +kernel)) ggL_isStep_X5_restore
set_option maxRecDepth 20000 in
theorem ggL_isStep_L_isRead : GoodIn wsL_isStep wsL_isRead := goodIn_r _ [175, 176, 177, 178, 179, 180, 181, 9, 182, 27, 28, 183, 184, 185, 186, 187, 188, 1, 2, 3, 4, 5, 189, 190, 191, 192, 193, 194, 195, 196, 197, 198, 199, 200, 201, 117, 118, 119, 202, 203, 204, 205, 29, 11, 13, 206, 207, 208, 209, 210, 211, 212, 213, 214, 215, 129, 130, 63, 64, 65, 66, 67, 68, 69, 70, 71, 72, 73, 74, 75, 76, 77, 78, 79, 80, 81, 82, 83, 84, 85, 86, 87, 88, 89, 90, 91, 92, 93, 94, 95, 96, 97, 98, 99, 37, 100, 43, 101, 102, 103, 104, 105, 106, 107, 54, 108, 109, 110, 56, 111, 112, 216, 217, 218, 219, 220, 221, 222, 223, 224, 225, 135, 136, 137, 138, 34, 35, 36, 38, 39, 40, 41, 42, 44, 45, 46, 47, 48, 49, 50, 6, 7, 8, 10, 12, 14, 15, 16, 17, 18, 19, 20, 21, 22, 23, 24, 25, 26, 30, 31, 32, 33, 51, 52, 53, 55, 292, 293, 294, 295, 296, 297, 315, 316, 298, 299, 300, 301, 302, 303, 304, 305, 306, 307, 308, 309, 310, 317, 318, 319, 311, 312, 313, 314, 320, 321, 322, 323] rfl (by decide +kernel)
set_option maxRecDepth 20000 in
theorem gL_isStep_L_isRead : GoodIn wsL_isStep (va_wsS RL 65 yL_isRead wsL_isRead) := goodIn_app (goodIn_of _ (by decide +kernel)) ggL_isStep_L_isRead
set_option maxRecDepth 20000 in
theorem ggL_isStep_X5_step : GoodIn wsL_isStep wsX5_step := goodIn_r _ [229, 11, 15, 20, 230, 29, 63, 64, 65, 66, 67, 68, 69, 70, 71, 72, 73, 74, 75, 76, 77, 78, 79, 80, 81, 82, 83, 84, 85, 86, 87, 88, 89, 90, 91, 92, 93, 94, 95, 96, 97, 98, 99, 37, 100, 43, 101, 102, 103, 104, 105, 106, 107, 54, 108, 109, 110, 56, 111, 112, 231, 232, 233, 234, 235, 236, 237, 238, 239, 240, 241, 242, 243, 244, 245, 40, 41, 42, 44, 45, 46, 47, 48, 49, 50, 246, 247, 248, 249, 250, 251, 252, 253, 254, 255, 256, 257, 258, 259, 260, 261, 262, 263, 148, 149, 150, 151, 152, 153, 264, 265, 266, 267, 268, 159, 160, 161, 292, 293, 294, 295, 296, 297, 298, 299, 300, 301, 302, 303, 304, 305, 306, 307, 308, 309, 310, 317, 318, 319, 311, 312, 313, 314, 320, 321, 322, 323] (by decide +kernel) (by decide +kernel)
set_option maxRecDepth 20000 in
theorem gL_isStep_X5_step : GoodIn wsL_isStep (wsV RL 69 RX5 yX5_step wsX5_step) := goodIn_app (goodIn_of _ (by decide +kernel)) ggL_isStep_X5_step
set_option maxRecDepth 20000 in
theorem ggL_isStep_X5_stamped : GoodIn wsL_isStep wsX5_stamped := goodIn_r _ [272, 11, 13, 273, 274, 220, 9, 221, 128, 129, 130, 275, 136, 137, 37, 138, 43, 292, 293, 294, 295, 296, 297, 298, 299, 300, 301, 302, 303, 304, 305, 306, 307, 308, 309, 310, 311, 312, 313, 314] (by decide +kernel) (by decide +kernel)
set_option maxRecDepth 20000 in
theorem gL_isStep_X5_stamped : GoodIn wsL_isStep (wsV RL 72 RX5 yX5_stamped wsX5_stamped) := goodIn_app (goodIn_of _ (by decide +kernel)) ggL_isStep_X5_stamped
set_option maxRecDepth 20000 in
theorem ggL_isStep_X5_row : GoodIn wsL_isStep wsX5_row := goodIn_r _ [279, 11, 13, 280, 14, 274, 220, 9, 221, 281, 40, 41, 37, 42, 43, 44, 45, 46, 47, 48, 49, 50, 282, 242, 243, 78, 244, 85, 80, 245, 31, 32, 33, 283, 284, 285, 286, 292, 293, 294, 295, 296, 297, 298, 299, 300, 301, 302, 303, 304, 305, 306, 307, 308, 309, 310, 311, 312, 313, 314] (by decide +kernel) (by decide +kernel)
set_option maxRecDepth 20000 in
theorem gL_isStep_X5_row : GoodIn wsL_isStep (wsV RL 75 RX5 yX5_row wsX5_row) := goodIn_app (goodIn_of _ (by decide +kernel)) ggL_isStep_X5_row
set_option maxRecDepth 20000 in
theorem ggL_isStep_X5_peg : GoodIn wsL_isStep wsX5_peg := goodIn_r _ [290, 29, 11, 13, 280, 274, 220, 9, 221, 128, 129, 130, 63, 64, 65, 66, 67, 68, 69, 70, 71, 72, 73, 74, 75, 76, 77, 78, 79, 80, 81, 82, 83, 84, 85, 86, 87, 88, 89, 90, 91, 92, 93, 94, 95, 96, 97, 98, 99, 37, 100, 43, 101, 102, 103, 104, 105, 106, 107, 54, 108, 109, 110, 56, 111, 112, 291, 223, 224, 225, 135, 136, 137, 138, 281, 40, 41, 42, 44, 45, 46, 47, 48, 49, 50, 292, 293, 294, 295, 296, 297, 298, 299, 300, 301, 302, 303, 304, 305, 306, 307, 308, 309, 310, 311, 312, 313, 314, 317, 318, 319, 320, 321, 322, 323] (by decide +kernel) (by decide +kernel)
set_option maxRecDepth 20000 in
theorem gL_isStep_X5_peg : GoodIn wsL_isStep (wsV RL 78 RX5 yX5_peg wsX5_peg) := goodIn_app (goodIn_of _ (by decide +kernel)) ggL_isStep_X5_peg
theorem dL_isStep_0 : decode cL_isStep 0 = .ok (.iload_n 2, 1) := by decide +kernel
theorem dL_isStep_1 : decode cL_isStep 1 = .ok (.iconst 4, 1) := by decide +kernel
theorem dL_isStep_2 : decode cL_isStep 2 = .ok (.ishr, 1) := by decide +kernel
theorem dL_isStep_3 : decode cL_isStep 3 = .ok (.istore 4, 2) := by decide +kernel
theorem dL_isStep_5 : decode cL_isStep 5 = .ok (.iload_n 2, 1) := by decide +kernel
theorem dL_isStep_6 : decode cL_isStep 6 = .ok (.bipush 18, 2) := by decide +kernel
theorem dL_isStep_8 : decode cL_isStep 8 = .ok (.invokestatic 15, 3) := by decide +kernel
theorem dL_isStep_11 : decode cL_isStep 11 = .ok (.tableswitch 761 0 11 #[61, 61, 189, 250, 316, 416, 478, 546, 555, 555, 555, 555], 61) := by decide +kernel
theorem dL_isStep_72 : decode cL_isStep 72 = .ok (.iload 4, 2) := by decide +kernel
theorem dL_isStep_74 : decode cL_isStep 74 = .ok (.iconst 4, 1) := by decide +kernel
theorem dL_isStep_75 : decode cL_isStep 75 = .ok (.invokestatic 15, 3) := by decide +kernel
theorem dL_isStep_78 : decode cL_isStep 78 = .ok (.istore 5, 2) := by decide +kernel
theorem dL_isStep_80 : decode cL_isStep 80 = .ok (.iload 5, 2) := by decide +kernel
theorem dL_isStep_82 : decode cL_isStep 82 = .ok (.ifCond .ne 14, 3) := by decide +kernel
theorem dL_isStep_85 : decode cL_isStep 85 = .ok (.iconst 1, 1) := by decide +kernel
theorem dL_isStep_86 : decode cL_isStep 86 = .ok (.iload_n 3, 1) := by decide +kernel
theorem dL_isStep_87 : decode cL_isStep 87 = .ok (.bipush 8, 2) := by decide +kernel
theorem dL_isStep_89 : decode cL_isStep 89 = .ok (.invokestatic 15, 3) := by decide +kernel
theorem dL_isStep_92 : decode cL_isStep 92 = .ok (.iadd, 1) := by decide +kernel
theorem dL_isStep_93 : decode cL_isStep 93 = .ok (.goto 54, 3) := by decide +kernel
theorem dL_isStep_96 : decode cL_isStep 96 = .ok (.iload 5, 2) := by decide +kernel
theorem dL_isStep_98 : decode cL_isStep 98 = .ok (.iconst 1, 1) := by decide +kernel
theorem dL_isStep_99 : decode cL_isStep 99 = .ok (.if_icmp .ne 12, 3) := by decide +kernel
theorem dL_isStep_102 : decode cL_isStep 102 = .ok (.iload_n 3, 1) := by decide +kernel
theorem dL_isStep_103 : decode cL_isStep 103 = .ok (.bipush 10, 2) := by decide +kernel
theorem dL_isStep_105 : decode cL_isStep 105 = .ok (.invokestatic 15, 3) := by decide +kernel
theorem dL_isStep_108 : decode cL_isStep 108 = .ok (.goto 39, 3) := by decide +kernel
theorem dL_isStep_111 : decode cL_isStep 111 = .ok (.iload 5, 2) := by decide +kernel
theorem dL_isStep_113 : decode cL_isStep 113 = .ok (.iconst 2, 1) := by decide +kernel
theorem dL_isStep_114 : decode cL_isStep 114 = .ok (.if_icmp .ne 26, 3) := by decide +kernel
theorem dL_isStep_117 : decode cL_isStep 117 = .ok (.iload_n 3, 1) := by decide +kernel
theorem dL_isStep_118 : decode cL_isStep 118 = .ok (.iload 4, 2) := by decide +kernel
theorem dL_isStep_120 : decode cL_isStep 120 = .ok (.iconst 3, 1) := by decide +kernel
theorem dL_isStep_121 : decode cL_isStep 121 = .ok (.invokestatic 15, 3) := by decide +kernel
theorem dL_isStep_124 : decode cL_isStep 124 = .ok (.ifCond .ne 8, 3) := by decide +kernel
theorem dL_isStep_127 : decode cL_isStep 127 = .ok (.bipush 100, 2) := by decide +kernel
theorem dL_isStep_129 : decode cL_isStep 129 = .ok (.goto 5, 3) := by decide +kernel
theorem dL_isStep_132 : decode cL_isStep 132 = .ok (.bipush 6, 2) := by decide +kernel
theorem dL_isStep_134 : decode cL_isStep 134 = .ok (.invokestatic 15, 3) := by decide +kernel
theorem dL_isStep_137 : decode cL_isStep 137 = .ok (.goto 10, 3) := by decide +kernel
theorem dL_isStep_140 : decode cL_isStep 140 = .ok (.iconst 1, 1) := by decide +kernel
theorem dL_isStep_141 : decode cL_isStep 141 = .ok (.iload_n 3, 1) := by decide +kernel
theorem dL_isStep_142 : decode cL_isStep 142 = .ok (.iconst 4, 1) := by decide +kernel
theorem dL_isStep_143 : decode cL_isStep 143 = .ok (.invokestatic 15, 3) := by decide +kernel
theorem dL_isStep_146 : decode cL_isStep 146 = .ok (.iadd, 1) := by decide +kernel
theorem dL_isStep_147 : decode cL_isStep 147 = .ok (.istore 6, 2) := by decide +kernel
theorem dL_isStep_149 : decode cL_isStep 149 = .ok (.aload_n 0, 1) := by decide +kernel
theorem dL_isStep_150 : decode cL_isStep 150 = .ok (.iload 5, 2) := by decide +kernel
theorem dL_isStep_152 : decode cL_isStep 152 = .ok (.invokevirtual 38, 3) := by decide +kernel
theorem dL_isStep_155 : decode cL_isStep 155 = .ok (.istore 7, 2) := by decide +kernel
theorem dL_isStep_157 : decode cL_isStep 157 = .ok (.aload_n 0, 1) := by decide +kernel
theorem dL_isStep_158 : decode cL_isStep 158 = .ok (.iload 5, 2) := by decide +kernel
theorem dL_isStep_160 : decode cL_isStep 160 = .ok (.iload 6, 2) := by decide +kernel
theorem dL_isStep_162 : decode cL_isStep 162 = .ok (.invokevirtual 41, 3) := by decide +kernel
theorem dL_isStep_165 : decode cL_isStep 165 = .ok (.iload 7, 2) := by decide +kernel
theorem dL_isStep_167 : decode cL_isStep 167 = .ok (.if_icmp .ne 31, 3) := by decide +kernel
theorem dL_isStep_170 : decode cL_isStep 170 = .ok (.aload_n 1, 1) := by decide +kernel
theorem dL_isStep_171 : decode cL_isStep 171 = .ok (.iload 5, 2) := by decide +kernel
theorem dL_isStep_173 : decode cL_isStep 173 = .ok (.iload 6, 2) := by decide +kernel
theorem dL_isStep_175 : decode cL_isStep 175 = .ok (.invokevirtual 41, 3) := by decide +kernel
theorem dL_isStep_178 : decode cL_isStep 178 = .ok (.iload 7, 2) := by decide +kernel
theorem dL_isStep_180 : decode cL_isStep 180 = .ok (.if_icmp .ne 18, 3) := by decide +kernel
theorem dL_isStep_183 : decode cL_isStep 183 = .ok (.aload_n 0, 1) := by decide +kernel
theorem dL_isStep_184 : decode cL_isStep 184 = .ok (.iload 5, 2) := by decide +kernel
theorem dL_isStep_186 : decode cL_isStep 186 = .ok (.invokevirtual 38, 3) := by decide +kernel
theorem dL_isStep_189 : decode cL_isStep 189 = .ok (.iload 6, 2) := by decide +kernel
theorem dL_isStep_191 : decode cL_isStep 191 = .ok (.if_icmp .ne 7, 3) := by decide +kernel
theorem dL_isStep_194 : decode cL_isStep 194 = .ok (.iconst 1, 1) := by decide +kernel
theorem dL_isStep_195 : decode cL_isStep 195 = .ok (.goto 4, 3) := by decide +kernel
theorem dL_isStep_198 : decode cL_isStep 198 = .ok (.iconst 0, 1) := by decide +kernel
theorem dL_isStep_199 : decode cL_isStep 199 = .ok (.ireturn, 1) := by decide +kernel
theorem dL_isStep_200 : decode cL_isStep 200 = .ok (.iload_n 3, 1) := by decide +kernel
theorem dL_isStep_201 : decode cL_isStep 201 = .ok (.bipush 64, 2) := by decide +kernel
theorem dL_isStep_203 : decode cL_isStep 203 = .ok (.invokestatic 15, 3) := by decide +kernel
theorem dL_isStep_206 : decode cL_isStep 206 = .ok (.istore 5, 2) := by decide +kernel
theorem dL_isStep_208 : decode cL_isStep 208 = .ok (.aload_n 0, 1) := by decide +kernel
theorem dL_isStep_209 : decode cL_isStep 209 = .ok (.bipush 6, 2) := by decide +kernel
theorem dL_isStep_211 : decode cL_isStep 211 = .ok (.invokevirtual 38, 3) := by decide +kernel
theorem dL_isStep_214 : decode cL_isStep 214 = .ok (.istore 6, 2) := by decide +kernel
theorem dL_isStep_216 : decode cL_isStep 216 = .ok (.aload_n 0, 1) := by decide +kernel
theorem dL_isStep_217 : decode cL_isStep 217 = .ok (.iload 5, 2) := by decide +kernel
theorem dL_isStep_219 : decode cL_isStep 219 = .ok (.invokevirtual 44, 3) := by decide +kernel
theorem dL_isStep_222 : decode cL_isStep 222 = .ok (.iload 6, 2) := by decide +kernel
theorem dL_isStep_224 : decode cL_isStep 224 = .ok (.if_icmp .ne 35, 3) := by decide +kernel
theorem dL_isStep_227 : decode cL_isStep 227 = .ok (.aload_n 1, 1) := by decide +kernel
theorem dL_isStep_228 : decode cL_isStep 228 = .ok (.iload 5, 2) := by decide +kernel
theorem dL_isStep_230 : decode cL_isStep 230 = .ok (.invokestatic 31, 3) := by decide +kernel
theorem dL_isStep_233 : decode cL_isStep 233 = .ok (.invokevirtual 44, 3) := by decide +kernel
theorem dL_isStep_236 : decode cL_isStep 236 = .ok (.iload 6, 2) := by decide +kernel
theorem dL_isStep_238 : decode cL_isStep 238 = .ok (.invokestatic 31, 3) := by decide +kernel
theorem dL_isStep_241 : decode cL_isStep 241 = .ok (.if_icmp .ne 18, 3) := by decide +kernel
theorem dL_isStep_244 : decode cL_isStep 244 = .ok (.aload_n 0, 1) := by decide +kernel
theorem dL_isStep_245 : decode cL_isStep 245 = .ok (.bipush 6, 2) := by decide +kernel
theorem dL_isStep_247 : decode cL_isStep 247 = .ok (.invokevirtual 38, 3) := by decide +kernel
theorem dL_isStep_250 : decode cL_isStep 250 = .ok (.iload 5, 2) := by decide +kernel
theorem dL_isStep_252 : decode cL_isStep 252 = .ok (.if_icmp .ne 7, 3) := by decide +kernel
theorem dL_isStep_255 : decode cL_isStep 255 = .ok (.iconst 1, 1) := by decide +kernel
theorem dL_isStep_256 : decode cL_isStep 256 = .ok (.goto 4, 3) := by decide +kernel
theorem dL_isStep_259 : decode cL_isStep 259 = .ok (.iconst 0, 1) := by decide +kernel
theorem dL_isStep_260 : decode cL_isStep 260 = .ok (.ireturn, 1) := by decide +kernel
theorem dL_isStep_261 : decode cL_isStep 261 = .ok (.iload 4, 2) := by decide +kernel
theorem dL_isStep_263 : decode cL_isStep 263 = .ok (.bipush 6, 2) := by decide +kernel
theorem dL_isStep_265 : decode cL_isStep 265 = .ok (.invokestatic 15, 3) := by decide +kernel
theorem dL_isStep_268 : decode cL_isStep 268 = .ok (.istore 5, 2) := by decide +kernel
theorem dL_isStep_270 : decode cL_isStep 270 = .ok (.aload_n 0, 1) := by decide +kernel
theorem dL_isStep_271 : decode cL_isStep 271 = .ok (.iload 5, 2) := by decide +kernel
theorem dL_isStep_273 : decode cL_isStep 273 = .ok (.iconst 0, 1) := by decide +kernel
theorem dL_isStep_274 : decode cL_isStep 274 = .ok (.invokevirtual 47, 3) := by decide +kernel
theorem dL_isStep_277 : decode cL_isStep 277 = .ok (.istore 6, 2) := by decide +kernel
theorem dL_isStep_279 : decode cL_isStep 279 = .ok (.aload_n 0, 1) := by decide +kernel
theorem dL_isStep_280 : decode cL_isStep 280 = .ok (.iload 5, 2) := by decide +kernel
theorem dL_isStep_282 : decode cL_isStep 282 = .ok (.invokevirtual 50, 3) := by decide +kernel
theorem dL_isStep_285 : decode cL_isStep 285 = .ok (.bipush 99, 2) := by decide +kernel
theorem dL_isStep_287 : decode cL_isStep 287 = .ok (.iload 6, 2) := by decide +kernel
theorem dL_isStep_289 : decode cL_isStep 289 = .ok (.isub, 1) := by decide +kernel
theorem dL_isStep_290 : decode cL_isStep 290 = .ok (.if_icmp .ne 35, 3) := by decide +kernel
theorem dL_isStep_293 : decode cL_isStep 293 = .ok (.aload_n 1, 1) := by decide +kernel
theorem dL_isStep_294 : decode cL_isStep 294 = .ok (.iconst 5, 1) := by decide +kernel
theorem dL_isStep_295 : decode cL_isStep 295 = .ok (.iload 5, 2) := by decide +kernel
theorem dL_isStep_297 : decode cL_isStep 297 = .ok (.isub, 1) := by decide +kernel
theorem dL_isStep_298 : decode cL_isStep 298 = .ok (.invokevirtual 50, 3) := by decide +kernel
theorem dL_isStep_301 : decode cL_isStep 301 = .ok (.bipush 99, 2) := by decide +kernel
theorem dL_isStep_303 : decode cL_isStep 303 = .ok (.iload 6, 2) := by decide +kernel
theorem dL_isStep_305 : decode cL_isStep 305 = .ok (.isub, 1) := by decide +kernel
theorem dL_isStep_306 : decode cL_isStep 306 = .ok (.if_icmp .ne 19, 3) := by decide +kernel
theorem dL_isStep_309 : decode cL_isStep 309 = .ok (.aload_n 0, 1) := by decide +kernel
theorem dL_isStep_310 : decode cL_isStep 310 = .ok (.iload 5, 2) := by decide +kernel
theorem dL_isStep_312 : decode cL_isStep 312 = .ok (.iconst 0, 1) := by decide +kernel
theorem dL_isStep_313 : decode cL_isStep 313 = .ok (.invokevirtual 47, 3) := by decide +kernel
theorem dL_isStep_316 : decode cL_isStep 316 = .ok (.bipush 99, 2) := by decide +kernel
theorem dL_isStep_318 : decode cL_isStep 318 = .ok (.if_icmp .ne 7, 3) := by decide +kernel
theorem dL_isStep_321 : decode cL_isStep 321 = .ok (.iconst 1, 1) := by decide +kernel
theorem dL_isStep_322 : decode cL_isStep 322 = .ok (.goto 4, 3) := by decide +kernel
theorem dL_isStep_325 : decode cL_isStep 325 = .ok (.iconst 0, 1) := by decide +kernel
theorem dL_isStep_326 : decode cL_isStep 326 = .ok (.ireturn, 1) := by decide +kernel
theorem dL_isStep_327 : decode cL_isStep 327 = .ok (.aload_n 0, 1) := by decide +kernel
theorem dL_isStep_328 : decode cL_isStep 328 = .ok (.iconst 4, 1) := by decide +kernel
theorem dL_isStep_329 : decode cL_isStep 329 = .ok (.invokevirtual 38, 3) := by decide +kernel
theorem dL_isStep_332 : decode cL_isStep 332 = .ok (.istore 5, 2) := by decide +kernel
theorem dL_isStep_334 : decode cL_isStep 334 = .ok (.aload_n 0, 1) := by decide +kernel
theorem dL_isStep_335 : decode cL_isStep 335 = .ok (.iconst 5, 1) := by decide +kernel
theorem dL_isStep_336 : decode cL_isStep 336 = .ok (.invokevirtual 38, 3) := by decide +kernel
theorem dL_isStep_339 : decode cL_isStep 339 = .ok (.istore 6, 2) := by decide +kernel
theorem dL_isStep_341 : decode cL_isStep 341 = .ok (.aload_n 0, 1) := by decide +kernel
theorem dL_isStep_342 : decode cL_isStep 342 = .ok (.bipush 10, 2) := by decide +kernel
theorem dL_isStep_344 : decode cL_isStep 344 = .ok (.invokevirtual 38, 3) := by decide +kernel
theorem dL_isStep_347 : decode cL_isStep 347 = .ok (.istore 7, 2) := by decide +kernel
theorem dL_isStep_349 : decode cL_isStep 349 = .ok (.aload_n 0, 1) := by decide +kernel
theorem dL_isStep_350 : decode cL_isStep 350 = .ok (.invokevirtual 53, 3) := by decide +kernel
theorem dL_isStep_353 : decode cL_isStep 353 = .ok (.istore 8, 2) := by decide +kernel
theorem dL_isStep_355 : decode cL_isStep 355 = .ok (.iload 8, 2) := by decide +kernel
theorem dL_isStep_357 : decode cL_isStep 357 = .ok (.aload_n 1, 1) := by decide +kernel
theorem dL_isStep_358 : decode cL_isStep 358 = .ok (.invokevirtual 53, 3) := by decide +kernel
theorem dL_isStep_361 : decode cL_isStep 361 = .ok (.if_icmp .ne 64, 3) := by decide +kernel
theorem dL_isStep_364 : decode cL_isStep 364 = .ok (.iload 8, 2) := by decide +kernel
theorem dL_isStep_366 : decode cL_isStep 366 = .ok (.iload 6, 2) := by decide +kernel
theorem dL_isStep_368 : decode cL_isStep 368 = .ok (.iconst 1, 1) := by decide +kernel
theorem dL_isStep_369 : decode cL_isStep 369 = .ok (.if_icmp .ne 8, 3) := by decide +kernel
theorem dL_isStep_372 : decode cL_isStep 372 = .ok (.iload 5, 2) := by decide +kernel
theorem dL_isStep_374 : decode cL_isStep 374 = .ok (.goto 5, 3) := by decide +kernel
theorem dL_isStep_377 : decode cL_isStep 377 = .ok (.bipush (-5), 2) := by decide +kernel
theorem dL_isStep_379 : decode cL_isStep 379 = .ok (.if_icmp .ne 46, 3) := by decide +kernel
theorem dL_isStep_382 : decode cL_isStep 382 = .ok (.iload 6, 2) := by decide +kernel
theorem dL_isStep_384 : decode cL_isStep 384 = .ok (.ifCond .eq 26, 3) := by decide +kernel
theorem dL_isStep_387 : decode cL_isStep 387 = .ok (.aload_n 0, 1) := by decide +kernel
theorem dL_isStep_388 : decode cL_isStep 388 = .ok (.iconst 4, 1) := by decide +kernel
theorem dL_isStep_389 : decode cL_isStep 389 = .ok (.invokevirtual 38, 3) := by decide +kernel
theorem dL_isStep_392 : decode cL_isStep 392 = .ok (.iload 5, 2) := by decide +kernel
theorem dL_isStep_394 : decode cL_isStep 394 = .ok (.iconst 1, 1) := by decide +kernel
theorem dL_isStep_395 : decode cL_isStep 395 = .ok (.iadd, 1) := by decide +kernel
theorem dL_isStep_396 : decode cL_isStep 396 = .ok (.bipush 16, 2) := by decide +kernel
theorem dL_isStep_398 : decode cL_isStep 398 = .ok (.irem, 1) := by decide +kernel
theorem dL_isStep_399 : decode cL_isStep 399 = .ok (.if_icmp .ne 26, 3) := by decide +kernel
theorem dL_isStep_402 : decode cL_isStep 402 = .ok (.aload_n 0, 1) := by decide +kernel
theorem dL_isStep_403 : decode cL_isStep 403 = .ok (.iconst 5, 1) := by decide +kernel
theorem dL_isStep_404 : decode cL_isStep 404 = .ok (.invokevirtual 38, 3) := by decide +kernel
theorem dL_isStep_407 : decode cL_isStep 407 = .ok (.ifCond .ne 18, 3) := by decide +kernel
theorem dL_isStep_410 : decode cL_isStep 410 = .ok (.aload_n 0, 1) := by decide +kernel
theorem dL_isStep_411 : decode cL_isStep 411 = .ok (.bipush 10, 2) := by decide +kernel
theorem dL_isStep_413 : decode cL_isStep 413 = .ok (.invokevirtual 38, 3) := by decide +kernel
theorem dL_isStep_416 : decode cL_isStep 416 = .ok (.iload 7, 2) := by decide +kernel
theorem dL_isStep_418 : decode cL_isStep 418 = .ok (.if_icmp .ne 7, 3) := by decide +kernel
theorem dL_isStep_421 : decode cL_isStep 421 = .ok (.iconst 1, 1) := by decide +kernel
theorem dL_isStep_422 : decode cL_isStep 422 = .ok (.goto 4, 3) := by decide +kernel
theorem dL_isStep_425 : decode cL_isStep 425 = .ok (.iconst 0, 1) := by decide +kernel
theorem dL_isStep_426 : decode cL_isStep 426 = .ok (.ireturn, 1) := by decide +kernel
theorem dL_isStep_427 : decode cL_isStep 427 = .ok (.aload_n 0, 1) := by decide +kernel
theorem dL_isStep_428 : decode cL_isStep 428 = .ok (.bipush 7, 2) := by decide +kernel
theorem dL_isStep_430 : decode cL_isStep 430 = .ok (.invokevirtual 38, 3) := by decide +kernel
theorem dL_isStep_433 : decode cL_isStep 433 = .ok (.istore 5, 2) := by decide +kernel
theorem dL_isStep_435 : decode cL_isStep 435 = .ok (.aload_n 0, 1) := by decide +kernel
theorem dL_isStep_436 : decode cL_isStep 436 = .ok (.invokevirtual 56, 3) := by decide +kernel
theorem dL_isStep_439 : decode cL_isStep 439 = .ok (.iload 5, 2) := by decide +kernel
theorem dL_isStep_441 : decode cL_isStep 441 = .ok (.if_icmp .ne 46, 3) := by decide +kernel
theorem dL_isStep_444 : decode cL_isStep 444 = .ok (.aload_n 1, 1) := by decide +kernel
theorem dL_isStep_445 : decode cL_isStep 445 = .ok (.invokevirtual 56, 3) := by decide +kernel
theorem dL_isStep_448 : decode cL_isStep 448 = .ok (.iload 5, 2) := by decide +kernel
theorem dL_isStep_450 : decode cL_isStep 450 = .ok (.invokestatic 31, 3) := by decide +kernel
theorem dL_isStep_453 : decode cL_isStep 453 = .ok (.if_icmp .ne 34, 3) := by decide +kernel
theorem dL_isStep_456 : decode cL_isStep 456 = .ok (.aload_n 0, 1) := by decide +kernel
theorem dL_isStep_457 : decode cL_isStep 457 = .ok (.bipush 7, 2) := by decide +kernel
theorem dL_isStep_459 : decode cL_isStep 459 = .ok (.invokevirtual 38, 3) := by decide +kernel
theorem dL_isStep_462 : decode cL_isStep 462 = .ok (.ifCond .ne 25, 3) := by decide +kernel
theorem dL_isStep_465 : decode cL_isStep 465 = .ok (.aload_n 0, 1) := by decide +kernel
theorem dL_isStep_466 : decode cL_isStep 466 = .ok (.bipush 8, 2) := by decide +kernel
theorem dL_isStep_468 : decode cL_isStep 468 = .ok (.invokevirtual 38, 3) := by decide +kernel
theorem dL_isStep_471 : decode cL_isStep 471 = .ok (.ifCond .ne 16, 3) := by decide +kernel
theorem dL_isStep_474 : decode cL_isStep 474 = .ok (.aload_n 0, 1) := by decide +kernel
theorem dL_isStep_475 : decode cL_isStep 475 = .ok (.bipush 9, 2) := by decide +kernel
theorem dL_isStep_477 : decode cL_isStep 477 = .ok (.invokevirtual 38, 3) := by decide +kernel
theorem dL_isStep_480 : decode cL_isStep 480 = .ok (.ifCond .ne 7, 3) := by decide +kernel
theorem dL_isStep_483 : decode cL_isStep 483 = .ok (.iconst 1, 1) := by decide +kernel
theorem dL_isStep_484 : decode cL_isStep 484 = .ok (.goto 4, 3) := by decide +kernel
theorem dL_isStep_487 : decode cL_isStep 487 = .ok (.iconst 0, 1) := by decide +kernel
theorem dL_isStep_488 : decode cL_isStep 488 = .ok (.ireturn, 1) := by decide +kernel
theorem dL_isStep_489 : decode cL_isStep 489 = .ok (.iload_n 3, 1) := by decide +kernel
theorem dL_isStep_490 : decode cL_isStep 490 = .ok (.iconst 2, 1) := by decide +kernel
theorem dL_isStep_491 : decode cL_isStep 491 = .ok (.invokestatic 15, 3) := by decide +kernel
theorem dL_isStep_494 : decode cL_isStep 494 = .ok (.ifCond .ne 34, 3) := by decide +kernel
theorem dL_isStep_497 : decode cL_isStep 497 = .ok (.aload_n 0, 1) := by decide +kernel
theorem dL_isStep_498 : decode cL_isStep 498 = .ok (.iload 4, 2) := by decide +kernel
theorem dL_isStep_500 : decode cL_isStep 500 = .ok (.iconst 2, 1) := by decide +kernel
theorem dL_isStep_501 : decode cL_isStep 501 = .ok (.invokestatic 15, 3) := by decide +kernel
theorem dL_isStep_504 : decode cL_isStep 504 = .ok (.invokevirtual 59, 3) := by decide +kernel
theorem dL_isStep_507 : decode cL_isStep 507 = .ok (.aload_n 1, 1) := by decide +kernel
theorem dL_isStep_508 : decode cL_isStep 508 = .ok (.iload 4, 2) := by decide +kernel
theorem dL_isStep_510 : decode cL_isStep 510 = .ok (.iconst 2, 1) := by decide +kernel
theorem dL_isStep_511 : decode cL_isStep 511 = .ok (.invokestatic 15, 3) := by decide +kernel
theorem dL_isStep_514 : decode cL_isStep 514 = .ok (.invokevirtual 59, 3) := by decide +kernel
theorem dL_isStep_517 : decode cL_isStep 517 = .ok (.if_icmp .ne 7, 3) := by decide +kernel
theorem dL_isStep_520 : decode cL_isStep 520 = .ok (.iconst 1, 1) := by decide +kernel
theorem dL_isStep_521 : decode cL_isStep 521 = .ok (.goto 35, 3) := by decide +kernel
theorem dL_isStep_524 : decode cL_isStep 524 = .ok (.iconst 0, 1) := by decide +kernel
theorem dL_isStep_525 : decode cL_isStep 525 = .ok (.goto 31, 3) := by decide +kernel
theorem dL_isStep_528 : decode cL_isStep 528 = .ok (.aload_n 0, 1) := by decide +kernel
theorem dL_isStep_529 : decode cL_isStep 529 = .ok (.iload 4, 2) := by decide +kernel
theorem dL_isStep_531 : decode cL_isStep 531 = .ok (.iconst 2, 1) := by decide +kernel
theorem dL_isStep_532 : decode cL_isStep 532 = .ok (.invokestatic 15, 3) := by decide +kernel
theorem dL_isStep_535 : decode cL_isStep 535 = .ok (.invokevirtual 62, 3) := by decide +kernel
theorem dL_isStep_538 : decode cL_isStep 538 = .ok (.aload_n 1, 1) := by decide +kernel
theorem dL_isStep_539 : decode cL_isStep 539 = .ok (.iload 4, 2) := by decide +kernel
theorem dL_isStep_541 : decode cL_isStep 541 = .ok (.iconst 2, 1) := by decide +kernel
theorem dL_isStep_542 : decode cL_isStep 542 = .ok (.invokestatic 15, 3) := by decide +kernel
theorem dL_isStep_545 : decode cL_isStep 545 = .ok (.invokevirtual 62, 3) := by decide +kernel
theorem dL_isStep_548 : decode cL_isStep 548 = .ok (.if_icmp .ne 7, 3) := by decide +kernel
theorem dL_isStep_551 : decode cL_isStep 551 = .ok (.iconst 1, 1) := by decide +kernel
theorem dL_isStep_552 : decode cL_isStep 552 = .ok (.goto 4, 3) := by decide +kernel
theorem dL_isStep_555 : decode cL_isStep 555 = .ok (.iconst 0, 1) := by decide +kernel
theorem dL_isStep_556 : decode cL_isStep 556 = .ok (.ireturn, 1) := by decide +kernel
theorem dL_isStep_557 : decode cL_isStep 557 = .ok (.aload_n 0, 1) := by decide +kernel
theorem dL_isStep_558 : decode cL_isStep 558 = .ok (.aload_n 1, 1) := by decide +kernel
theorem dL_isStep_559 : decode cL_isStep 559 = .ok (.iload_n 3, 1) := by decide +kernel
theorem dL_isStep_560 : decode cL_isStep 560 = .ok (.iload 4, 2) := by decide +kernel
theorem dL_isStep_562 : decode cL_isStep 562 = .ok (.invokestatic 65, 3) := by decide +kernel
theorem dL_isStep_565 : decode cL_isStep 565 = .ok (.ireturn, 1) := by decide +kernel
theorem dL_isStep_566 : decode cL_isStep 566 = .ok (.iconst 1, 1) := by decide +kernel
theorem dL_isStep_567 : decode cL_isStep 567 = .ok (.iload_n 3, 1) := by decide +kernel
theorem dL_isStep_568 : decode cL_isStep 568 = .ok (.iload 4, 2) := by decide +kernel
theorem dL_isStep_570 : decode cL_isStep 570 = .ok (.iconst 5, 1) := by decide +kernel
theorem dL_isStep_571 : decode cL_isStep 571 = .ok (.invokestatic 15, 3) := by decide +kernel
theorem dL_isStep_574 : decode cL_isStep 574 = .ok (.ifCond .ne 9, 3) := by decide +kernel
theorem dL_isStep_577 : decode cL_isStep 577 = .ok (.sipush 200, 3) := by decide +kernel
theorem dL_isStep_580 : decode cL_isStep 580 = .ok (.goto 5, 3) := by decide +kernel
theorem dL_isStep_583 : decode cL_isStep 583 = .ok (.bipush 12, 2) := by decide +kernel
theorem dL_isStep_585 : decode cL_isStep 585 = .ok (.invokestatic 15, 3) := by decide +kernel
theorem dL_isStep_588 : decode cL_isStep 588 = .ok (.iadd, 1) := by decide +kernel
theorem dL_isStep_589 : decode cL_isStep 589 = .ok (.istore 5, 2) := by decide +kernel
theorem dL_isStep_591 : decode cL_isStep 591 = .ok (.aload_n 0, 1) := by decide +kernel
theorem dL_isStep_592 : decode cL_isStep 592 = .ok (.iconst 5, 1) := by decide +kernel
theorem dL_isStep_593 : decode cL_isStep 593 = .ok (.invokevirtual 38, 3) := by decide +kernel
theorem dL_isStep_596 : decode cL_isStep 596 = .ok (.iconst 1, 1) := by decide +kernel
theorem dL_isStep_597 : decode cL_isStep 597 = .ok (.if_icmp .ne 7, 3) := by decide +kernel
theorem dL_isStep_600 : decode cL_isStep 600 = .ok (.iconst 1, 1) := by decide +kernel
theorem dL_isStep_601 : decode cL_isStep 601 = .ok (.goto 4, 3) := by decide +kernel
theorem dL_isStep_604 : decode cL_isStep 604 = .ok (.iconst 0, 1) := by decide +kernel
theorem dL_isStep_605 : decode cL_isStep 605 = .ok (.istore 6, 2) := by decide +kernel
theorem dL_isStep_607 : decode cL_isStep 607 = .ok (.aload_n 0, 1) := by decide +kernel
theorem dL_isStep_608 : decode cL_isStep 608 = .ok (.bipush 10, 2) := by decide +kernel
theorem dL_isStep_610 : decode cL_isStep 610 = .ok (.invokevirtual 38, 3) := by decide +kernel
theorem dL_isStep_613 : decode cL_isStep 613 = .ok (.istore 7, 2) := by decide +kernel
theorem dL_isStep_615 : decode cL_isStep 615 = .ok (.aload_n 0, 1) := by decide +kernel
theorem dL_isStep_616 : decode cL_isStep 616 = .ok (.iconst 4, 1) := by decide +kernel
theorem dL_isStep_617 : decode cL_isStep 617 = .ok (.invokevirtual 38, 3) := by decide +kernel
theorem dL_isStep_620 : decode cL_isStep 620 = .ok (.istore 8, 2) := by decide +kernel
theorem dL_isStep_622 : decode cL_isStep 622 = .ok (.aload_n 0, 1) := by decide +kernel
theorem dL_isStep_623 : decode cL_isStep 623 = .ok (.iload 5, 2) := by decide +kernel
theorem dL_isStep_625 : decode cL_isStep 625 = .ok (.invokevirtual 69, 3) := by decide +kernel
theorem dL_isStep_628 : decode cL_isStep 628 = .ok (.istore 9, 2) := by decide +kernel
theorem dL_isStep_630 : decode cL_isStep 630 = .ok (.iload 6, 2) := by decide +kernel
theorem dL_isStep_632 : decode cL_isStep 632 = .ok (.ifCond .eq 27, 3) := by decide +kernel
theorem dL_isStep_635 : decode cL_isStep 635 = .ok (.iload 9, 2) := by decide +kernel
theorem dL_isStep_637 : decode cL_isStep 637 = .ok (.bipush (-5), 2) := by decide +kernel
theorem dL_isStep_639 : decode cL_isStep 639 = .ok (.if_icmp .ne 18, 3) := by decide +kernel
theorem dL_isStep_642 : decode cL_isStep 642 = .ok (.aload_n 1, 1) := by decide +kernel
theorem dL_isStep_643 : decode cL_isStep 643 = .ok (.iload 5, 2) := by decide +kernel
theorem dL_isStep_645 : decode cL_isStep 645 = .ok (.invokevirtual 69, 3) := by decide +kernel
theorem dL_isStep_648 : decode cL_isStep 648 = .ok (.iload 9, 2) := by decide +kernel
theorem dL_isStep_650 : decode cL_isStep 650 = .ok (.if_icmp .ne 7, 3) := by decide +kernel
theorem dL_isStep_653 : decode cL_isStep 653 = .ok (.iconst 1, 1) := by decide +kernel
theorem dL_isStep_654 : decode cL_isStep 654 = .ok (.goto 4, 3) := by decide +kernel
theorem dL_isStep_657 : decode cL_isStep 657 = .ok (.iconst 0, 1) := by decide +kernel
theorem dL_isStep_658 : decode cL_isStep 658 = .ok (.ireturn, 1) := by decide +kernel
theorem dL_isStep_659 : decode cL_isStep 659 = .ok (.iconst 0, 1) := by decide +kernel
theorem dL_isStep_660 : decode cL_isStep 660 = .ok (.istore 10, 2) := by decide +kernel
theorem dL_isStep_662 : decode cL_isStep 662 = .ok (.iload 10, 2) := by decide +kernel
theorem dL_isStep_664 : decode cL_isStep 664 = .ok (.iload 5, 2) := by decide +kernel
theorem dL_isStep_666 : decode cL_isStep 666 = .ok (.if_icmp .ge 35, 3) := by decide +kernel
theorem dL_isStep_669 : decode cL_isStep 669 = .ok (.aload_n 1, 1) := by decide +kernel
theorem dL_isStep_670 : decode cL_isStep 670 = .ok (.iconst 5, 1) := by decide +kernel
theorem dL_isStep_671 : decode cL_isStep 671 = .ok (.invokevirtual 38, 3) := by decide +kernel
theorem dL_isStep_674 : decode cL_isStep 674 = .ok (.ifCond .ne 27, 3) := by decide +kernel
theorem dL_isStep_677 : decode cL_isStep 677 = .ok (.aload_n 1, 1) := by decide +kernel
theorem dL_isStep_678 : decode cL_isStep 678 = .ok (.iconst 1, 1) := by decide +kernel
theorem dL_isStep_679 : decode cL_isStep 679 = .ok (.invokevirtual 69, 3) := by decide +kernel
theorem dL_isStep_682 : decode cL_isStep 682 = .ok (.istore 11, 2) := by decide +kernel
theorem dL_isStep_684 : decode cL_isStep 684 = .ok (.iload 10, 2) := by decide +kernel
theorem dL_isStep_686 : decode cL_isStep 686 = .ok (.iload 11, 2) := by decide +kernel
theorem dL_isStep_688 : decode cL_isStep 688 = .ok (.iadd, 1) := by decide +kernel
theorem dL_isStep_689 : decode cL_isStep 689 = .ok (.istore 10, 2) := by decide +kernel
theorem dL_isStep_691 : decode cL_isStep 691 = .ok (.iload 11, 2) := by decide +kernel
theorem dL_isStep_693 : decode cL_isStep 693 = .ok (.ifCond .ge 5, 3) := by decide +kernel
theorem dL_isStep_696 : decode cL_isStep 696 = .ok (.iconst 0, 1) := by decide +kernel
theorem dL_isStep_697 : decode cL_isStep 697 = .ok (.ireturn, 1) := by decide +kernel
theorem dL_isStep_698 : decode cL_isStep 698 = .ok (.goto (-36), 3) := by decide +kernel
theorem dL_isStep_701 : decode cL_isStep 701 = .ok (.iload 9, 2) := by decide +kernel
theorem dL_isStep_703 : decode cL_isStep 703 = .ok (.iload 10, 2) := by decide +kernel
theorem dL_isStep_705 : decode cL_isStep 705 = .ok (.if_icmp .ne 65, 3) := by decide +kernel
theorem dL_isStep_708 : decode cL_isStep 708 = .ok (.aload_n 0, 1) := by decide +kernel
theorem dL_isStep_709 : decode cL_isStep 709 = .ok (.bipush 10, 2) := by decide +kernel
theorem dL_isStep_711 : decode cL_isStep 711 = .ok (.invokevirtual 38, 3) := by decide +kernel
theorem dL_isStep_714 : decode cL_isStep 714 = .ok (.iload 7, 2) := by decide +kernel
theorem dL_isStep_716 : decode cL_isStep 716 = .ok (.iload 10, 2) := by decide +kernel
theorem dL_isStep_718 : decode cL_isStep 718 = .ok (.iadd, 1) := by decide +kernel
theorem dL_isStep_719 : decode cL_isStep 719 = .ok (.if_icmp .ne 51, 3) := by decide +kernel
theorem dL_isStep_722 : decode cL_isStep 722 = .ok (.aload_n 0, 1) := by decide +kernel
theorem dL_isStep_723 : decode cL_isStep 723 = .ok (.iconst 4, 1) := by decide +kernel
theorem dL_isStep_724 : decode cL_isStep 724 = .ok (.invokevirtual 38, 3) := by decide +kernel
theorem dL_isStep_727 : decode cL_isStep 727 = .ok (.iload 8, 2) := by decide +kernel
theorem dL_isStep_729 : decode cL_isStep 729 = .ok (.iload 10, 2) := by decide +kernel
theorem dL_isStep_731 : decode cL_isStep 731 = .ok (.iadd, 1) := by decide +kernel
theorem dL_isStep_732 : decode cL_isStep 732 = .ok (.bipush 16, 2) := by decide +kernel
theorem dL_isStep_734 : decode cL_isStep 734 = .ok (.irem, 1) := by decide +kernel
theorem dL_isStep_735 : decode cL_isStep 735 = .ok (.if_icmp .ne 35, 3) := by decide +kernel
theorem dL_isStep_738 : decode cL_isStep 738 = .ok (.iload 9, 2) := by decide +kernel
theorem dL_isStep_740 : decode cL_isStep 740 = .ok (.iload 5, 2) := by decide +kernel
theorem dL_isStep_742 : decode cL_isStep 742 = .ok (.if_icmp .ne 7, 3) := by decide +kernel
theorem dL_isStep_745 : decode cL_isStep 745 = .ok (.iconst 1, 1) := by decide +kernel
theorem dL_isStep_746 : decode cL_isStep 746 = .ok (.goto 4, 3) := by decide +kernel
theorem dL_isStep_749 : decode cL_isStep 749 = .ok (.iconst 0, 1) := by decide +kernel
theorem dL_isStep_750 : decode cL_isStep 750 = .ok (.aload_n 0, 1) := by decide +kernel
theorem dL_isStep_751 : decode cL_isStep 751 = .ok (.iconst 5, 1) := by decide +kernel
theorem dL_isStep_752 : decode cL_isStep 752 = .ok (.invokevirtual 38, 3) := by decide +kernel
theorem dL_isStep_755 : decode cL_isStep 755 = .ok (.ifCond .ne 7, 3) := by decide +kernel
theorem dL_isStep_758 : decode cL_isStep 758 = .ok (.iconst 1, 1) := by decide +kernel
theorem dL_isStep_759 : decode cL_isStep 759 = .ok (.goto 4, 3) := by decide +kernel
theorem dL_isStep_762 : decode cL_isStep 762 = .ok (.iconst 0, 1) := by decide +kernel
theorem dL_isStep_763 : decode cL_isStep 763 = .ok (.if_icmp .ne 7, 3) := by decide +kernel
theorem dL_isStep_766 : decode cL_isStep 766 = .ok (.iconst 1, 1) := by decide +kernel
theorem dL_isStep_767 : decode cL_isStep 767 = .ok (.goto 4, 3) := by decide +kernel
theorem dL_isStep_770 : decode cL_isStep 770 = .ok (.iconst 0, 1) := by decide +kernel
theorem dL_isStep_771 : decode cL_isStep 771 = .ok (.ireturn, 1) := by decide +kernel
theorem dL_isStep_772 : decode cL_isStep 772 = .ok (.iload 4, 2) := by decide +kernel
theorem dL_isStep_774 : decode cL_isStep 774 = .ok (.bipush 16, 2) := by decide +kernel
theorem dL_isStep_776 : decode cL_isStep 776 = .ok (.invokestatic 15, 3) := by decide +kernel
theorem dL_isStep_779 : decode cL_isStep 779 = .ok (.istore 5, 2) := by decide +kernel
theorem dL_isStep_781 : decode cL_isStep 781 = .ok (.iload_n 3, 1) := by decide +kernel
theorem dL_isStep_782 : decode cL_isStep 782 = .ok (.bipush 6, 2) := by decide +kernel
theorem dL_isStep_784 : decode cL_isStep 784 = .ok (.invokestatic 15, 3) := by decide +kernel
theorem dL_isStep_787 : decode cL_isStep 787 = .ok (.istore 6, 2) := by decide +kernel
theorem dL_isStep_789 : decode cL_isStep 789 = .ok (.aload_n 0, 1) := by decide +kernel
theorem dL_isStep_790 : decode cL_isStep 790 = .ok (.iload 5, 2) := by decide +kernel
theorem dL_isStep_792 : decode cL_isStep 792 = .ok (.iload 6, 2) := by decide +kernel
theorem dL_isStep_794 : decode cL_isStep 794 = .ok (.invokevirtual 72, 3) := by decide +kernel
theorem dL_isStep_797 : decode cL_isStep 797 = .ok (.ifCond .lt 7, 3) := by decide +kernel
theorem dL_isStep_800 : decode cL_isStep 800 = .ok (.iconst 1, 1) := by decide +kernel
theorem dL_isStep_801 : decode cL_isStep 801 = .ok (.goto 4, 3) := by decide +kernel
theorem dL_isStep_804 : decode cL_isStep 804 = .ok (.iconst 0, 1) := by decide +kernel
theorem dL_isStep_805 : decode cL_isStep 805 = .ok (.istore 7, 2) := by decide +kernel
theorem dL_isStep_807 : decode cL_isStep 807 = .ok (.aload_n 0, 1) := by decide +kernel
theorem dL_isStep_808 : decode cL_isStep 808 = .ok (.iload 5, 2) := by decide +kernel
theorem dL_isStep_810 : decode cL_isStep 810 = .ok (.iconst 1, 1) := by decide +kernel
theorem dL_isStep_811 : decode cL_isStep 811 = .ok (.invokevirtual 75, 3) := by decide +kernel
theorem dL_isStep_814 : decode cL_isStep 814 = .ok (.istore 8, 2) := by decide +kernel
theorem dL_isStep_816 : decode cL_isStep 816 = .ok (.aload_n 0, 1) := by decide +kernel
theorem dL_isStep_817 : decode cL_isStep 817 = .ok (.iload 5, 2) := by decide +kernel
theorem dL_isStep_819 : decode cL_isStep 819 = .ok (.iload 6, 2) := by decide +kernel
theorem dL_isStep_821 : decode cL_isStep 821 = .ok (.invokevirtual 78, 3) := by decide +kernel
theorem dL_isStep_824 : decode cL_isStep 824 = .ok (.istore 9, 2) := by decide +kernel
theorem dL_isStep_826 : decode cL_isStep 826 = .ok (.iload 9, 2) := by decide +kernel
theorem dL_isStep_828 : decode cL_isStep 828 = .ok (.aload_n 1, 1) := by decide +kernel
theorem dL_isStep_829 : decode cL_isStep 829 = .ok (.iload 5, 2) := by decide +kernel
theorem dL_isStep_831 : decode cL_isStep 831 = .ok (.iconst 5, 1) := by decide +kernel
theorem dL_isStep_832 : decode cL_isStep 832 = .ok (.iload 6, 2) := by decide +kernel
theorem dL_isStep_834 : decode cL_isStep 834 = .ok (.isub, 1) := by decide +kernel
theorem dL_isStep_835 : decode cL_isStep 835 = .ok (.invokevirtual 78, 3) := by decide +kernel
theorem dL_isStep_838 : decode cL_isStep 838 = .ok (.if_icmp .ne 47, 3) := by decide +kernel
theorem dL_isStep_841 : decode cL_isStep 841 = .ok (.iload 9, 2) := by decide +kernel
theorem dL_isStep_843 : decode cL_isStep 843 = .ok (.iload 8, 2) := by decide +kernel
theorem dL_isStep_845 : decode cL_isStep 845 = .ok (.iload 7, 2) := by decide +kernel
theorem dL_isStep_847 : decode cL_isStep 847 = .ok (.ifCond .eq 7, 3) := by decide +kernel
theorem dL_isStep_850 : decode cL_isStep 850 = .ok (.iconst (-1), 1) := by decide +kernel
theorem dL_isStep_851 : decode cL_isStep 851 = .ok (.goto 4, 3) := by decide +kernel
theorem dL_isStep_854 : decode cL_isStep 854 = .ok (.iconst 1, 1) := by decide +kernel
theorem dL_isStep_855 : decode cL_isStep 855 = .ok (.iadd, 1) := by decide +kernel
theorem dL_isStep_856 : decode cL_isStep 856 = .ok (.if_icmp .ne 29, 3) := by decide +kernel
theorem dL_isStep_859 : decode cL_isStep 859 = .ok (.aload_n 0, 1) := by decide +kernel
theorem dL_isStep_860 : decode cL_isStep 860 = .ok (.iload 5, 2) := by decide +kernel
theorem dL_isStep_862 : decode cL_isStep 862 = .ok (.iload 6, 2) := by decide +kernel
theorem dL_isStep_864 : decode cL_isStep 864 = .ok (.invokevirtual 72, 3) := by decide +kernel
theorem dL_isStep_867 : decode cL_isStep 867 = .ok (.iload 7, 2) := by decide +kernel
theorem dL_isStep_869 : decode cL_isStep 869 = .ok (.ifCond .eq 8, 3) := by decide +kernel
theorem dL_isStep_872 : decode cL_isStep 872 = .ok (.bipush (-6), 2) := by decide +kernel
theorem dL_isStep_874 : decode cL_isStep 874 = .ok (.goto 4, 3) := by decide +kernel
theorem dL_isStep_877 : decode cL_isStep 877 = .ok (.iconst 0, 1) := by decide +kernel
theorem dL_isStep_878 : decode cL_isStep 878 = .ok (.if_icmp .ne 7, 3) := by decide +kernel
theorem dL_isStep_881 : decode cL_isStep 881 = .ok (.iconst 1, 1) := by decide +kernel
theorem dL_isStep_882 : decode cL_isStep 882 = .ok (.goto 4, 3) := by decide +kernel
theorem dL_isStep_885 : decode cL_isStep 885 = .ok (.iconst 0, 1) := by decide +kernel
theorem dL_isStep_886 : decode cL_isStep 886 = .ok (.ireturn, 1) := by decide +kernel
end
section
set_option maxRecDepth 20000 in
theorem ggL_areAlike_L_up : GoodIn wsL_areAlike wsL_up := goodIn_r _ [4, 5] (by decide +kernel) (by decide +kernel)
set_option maxRecDepth 20000 in
theorem gL_areAlike_L_up : GoodIn wsL_areAlike (va_wsS RL 15 yL_up wsL_up) := goodIn_app (goodIn_of _ (by decide +kernel)) ggL_areAlike_L_up
set_option maxRecDepth 20000 in
theorem ggL_areAlike_X5_untilJam : GoodIn wsL_areAlike wsX5_untilJam := goodIn_r _ [10, 11, 12, 13, 14, 15, 16, 17, 18, 19, 20, 21, 22, 23, 24, 25, 26, 27, 28, 29, 30, 31, 32, 33, 34, 35, 36, 37, 38, 39, 40, 41, 42, 43, 44, 45, 46, 47, 48, 49, 50, 51, 52, 53, 54, 55, 56, 57, 58, 59, 60, 61, 62, 63, 64, 65, 66, 67, 68, 69, 70, 71, 72, 73, 74, 75, 76, 77, 78, 79, 80, 81, 82, 83, 84, 85, 86, 87, 88, 89, 90, 91, 92, 93, 94, 95, 96, 97, 98, 99, 100, 101, 102, 103, 104, 105, 106, 107, 108, 109, 110, 111, 112, 219, 220, 221, 222, 223, 224, 225, 226, 227, 228, 229, 230, 231, 232, 233, 234, 235, 236, 237, 238, 239, 240, 241, 242, 243, 244, 245] (by decide +kernel) (by decide +kernel)
set_option maxRecDepth 20000 in
theorem gL_areAlike_X5_untilJam : GoodIn wsL_areAlike (wsV RL 81 RX5 yX5_untilJam wsX5_untilJam) := goodIn_app (goodIn_of _ (by decide +kernel)) ggL_areAlike_X5_untilJam
set_option maxRecDepth 20000 in
theorem ggL_areAlike_X5_nextStamps : GoodIn wsL_areAlike wsX5_nextStamps := goodIn_r _ [116, 117, 118, 119, 9, 120, 12, 121, 122, 123, 124, 125, 126, 39, 127, 41, 128, 103, 104, 129, 130, 131, 132, 133, 134, 135, 136, 137, 219, 220, 221, 222, 223, 224, 225, 226, 227, 228, 229, 230, 231, 232, 233, 234, 235, 236, 237, 238, 239, 240, 241] (by decide +kernel) (by decide +kernel)
set_option maxRecDepth 20000 in
theorem gL_areAlike_X5_nextStamps : GoodIn wsL_areAlike (wsV RL 84 RX5 yX5_nextStamps wsX5_nextStamps) := goodIn_app (goodIn_of _ (by decide +kernel)) ggL_areAlike_X5_nextStamps
set_option maxRecDepth 20000 in
theorem ggL_areAlike_L_turned : GoodIn wsL_areAlike wsL_turned := goodIn_r _ [140] (by decide +kernel) (by decide +kernel)
set_option maxRecDepth 20000 in
theorem gL_areAlike_L_turned : GoodIn wsL_areAlike (va_wsS RL 31 yL_turned wsL_turned) := goodIn_app (goodIn_of _ (by decide +kernel)) ggL_areAlike_L_turned
set_option maxRecDepth 20000 in
theorem ggL_areAlike_X5_ifStepped : GoodIn wsL_areAlike wsX5_ifStepped := goodIn_r _ [144, 11, 12, 145, 146, 147, 148, 14, 15, 16, 17, 18, 19, 20, 21, 22, 23, 24, 25, 26, 27, 28, 29, 30, 31, 32, 33, 34, 35, 36, 37, 38, 39, 40, 41, 42, 43, 44, 45, 46, 47, 48, 49, 50, 51, 52, 53, 54, 55, 56, 57, 58, 59, 60, 61, 62, 63, 64, 65, 66, 67, 68, 69, 70, 71, 72, 73, 74, 75, 76, 77, 78, 79, 80, 81, 82, 83, 84, 85, 86, 87, 88, 89, 90, 91, 92, 93, 94, 95, 96, 97, 98, 99, 100, 101, 102, 103, 104, 105, 106, 107, 108, 109, 110, 111, 112, 149, 150, 151, 152, 219, 220, 221, 222, 223, 224, 225, 226, 227, 228, 229, 230, 231, 232, 233, 234, 235, 236, 237, 238, 239, 240, 241, 242, 243, 244, 245] (by decide +kernel) (by decide +kernel)
set_option maxRecDepth 20000 in
theorem gL_areAlike_X5_ifStepped : GoodIn wsL_areAlike (wsV RL 87 RX5 yX5_ifStepped wsX5_ifStepped) := goodIn_app (goodIn_of _ (by decide +kernel)) ggL_areAlike_X5_ifStepped
set_option maxRecDepth 20000 in
theorem ggL_areAlike_X5_count : GoodIn wsL_areAlike wsX5_count := goodIn_r _ [156, 12, 123, 121, 122, 13, 157, 158, 159, 160, 161, 145, 146, 147, 162, 163, 148, 164, 165, 166, 167, 168, 169, 9, 170, 171, 172, 173, 39, 174, 175, 71, 72, 73, 41, 74, 75, 76, 77, 78, 79, 80, 149, 150, 151, 49, 152, 53, 219, 220, 221, 222, 223, 224, 225, 226, 227, 228, 229, 230, 231, 232, 233, 234, 235, 236, 237, 238, 239, 240, 241, 246, 247, 248, 249, 250, 242, 243, 244, 245] (by decide +kernel) (by decide +kernel)
set_option maxRecDepth 20000 in
theorem gL_areAlike_X5_count : GoodIn wsL_areAlike (wsV RL 38 RX5 yX5_count wsX5_count) := goodIn_app (goodIn_of _ (by decide +kernel)) ggL_areAlike_X5_count
set_option maxRecDepth 20000 in
theorem ggL_areAlike_X5_row : GoodIn wsL_areAlike wsX5_row := goodIn_r _ [179, 12, 121, 133, 122, 180, 181, 9, 182, 183, 71, 72, 39, 73, 41, 74, 75, 76, 77, 78, 79, 80, 184, 67, 68, 17, 69, 24, 19, 70, 168, 169, 170, 134, 135, 136, 137, 219, 220, 221, 222, 223, 224, 225, 226, 227, 228, 229, 230, 231, 232, 233, 234, 235, 236, 237, 238, 239, 240, 241] (by decide +kernel) (by decide +kernel)
set_option maxRecDepth 20000 in
theorem gL_areAlike_X5_row : GoodIn wsL_areAlike (wsV RL 75 RX5 yX5_row wsX5_row) := goodIn_app (goodIn_of _ (by decide +kernel)) ggL_areAlike_X5_row
set_option maxRecDepth 20000 in
theorem ggL_areAlike_X5_stamped : GoodIn wsL_areAlike wsX5_stamped := goodIn_r _ [188, 12, 121, 189, 180, 181, 9, 182, 190, 191, 192, 124, 125, 126, 39, 127, 41, 219, 220, 221, 222, 223, 224, 225, 226, 227, 228, 229, 230, 231, 232, 233, 234, 235, 236, 237, 238, 239, 240, 241] (by decide +kernel) (by decide +kernel)
set_option maxRecDepth 20000 in
theorem gL_areAlike_X5_stamped : GoodIn wsL_areAlike (wsV RL 72 RX5 yX5_stamped wsX5_stamped) := goodIn_app (goodIn_of _ (by decide +kernel)) ggL_areAlike_X5_stamped
set_option maxRecDepth 20000 in
theorem ggL_areAlike_X5_stamp : GoodIn wsL_areAlike wsX5_stamp := goodIn_r _ [196, 12, 148, 197, 198, 199, 121, 200, 190, 191, 9, 192, 201, 202, 203, 39, 204, 205, 125, 126, 127, 41, 219, 220, 221, 222, 223, 224, 225, 226, 227, 228, 229, 230, 231, 232, 233, 234, 235, 236, 237, 242, 243, 244, 245, 238, 239, 240, 241] (by decide +kernel) (by decide +kernel)
set_option maxRecDepth 20000 in
theorem gL_areAlike_X5_stamp : GoodIn wsL_areAlike (wsV RL 47 RX5 yX5_stamp wsX5_stamp) := goodIn_app (goodIn_of _ (by decide +kernel)) ggL_areAlike_X5_stamp
set_option maxRecDepth 20000 in
theorem ggL_areAlike_X5_bestOut : GoodIn wsL_areAlike wsX5_bestOut := goodIn_r _ [209, 12, 121, 133, 210, 142, 143, 9, 144, 11, 145, 146, 147, 148, 14, 15, 16, 17, 18, 19, 20, 21, 22, 23, 24, 25, 26, 27, 28, 29, 30, 31, 32, 33, 34, 35, 36, 37, 38, 39, 40, 41, 42, 43, 44, 45, 46, 47, 48, 49, 50, 51, 52, 53, 54, 55, 56, 57, 58, 59, 60, 61, 62, 63, 64, 65, 66, 67, 68, 69, 70, 71, 72, 73, 74, 75, 76, 77, 78, 79, 80, 81, 82, 83, 84, 85, 86, 87, 88, 89, 90, 91, 92, 93, 94, 95, 96, 97, 98, 99, 100, 101, 102, 103, 104, 105, 106, 107, 108, 109, 110, 111, 112, 149, 150, 151, 152, 124, 125, 126, 127, 211, 212, 213, 214, 215, 216, 217, 218, 205, 219, 220, 221, 222, 223, 224, 225, 226, 227, 228, 229, 230, 231, 232, 233, 234, 235, 236, 237, 238, 239, 240, 241, 242, 243, 244, 245] (by decide +kernel) (by decide +kernel)
set_option maxRecDepth 20000 in
theorem gL_areAlike_X5_bestOut : GoodIn wsL_areAlike (wsV RL 90 RX5 yX5_bestOut wsX5_bestOut) := goodIn_app (goodIn_of _ (by decide +kernel)) ggL_areAlike_X5_bestOut
theorem dL_areAlike_0 : decode cL_areAlike 0 = .ok (.iconst 1, 1) := by decide +kernel
theorem dL_areAlike_1 : decode cL_areAlike 1 = .ok (.iload_n 2, 1) := by decide +kernel
theorem dL_areAlike_2 : decode cL_areAlike 2 = .ok (.sipush 500, 3) := by decide +kernel
theorem dL_areAlike_5 : decode cL_areAlike 5 = .ok (.invokestatic 15, 3) := by decide +kernel
theorem dL_areAlike_8 : decode cL_areAlike 8 = .ok (.iadd, 1) := by decide +kernel
theorem dL_areAlike_9 : decode cL_areAlike 9 = .ok (.istore_n 3, 1) := by decide +kernel
theorem dL_areAlike_10 : decode cL_areAlike 10 = .ok (.aload_n 0, 1) := by decide +kernel
theorem dL_areAlike_11 : decode cL_areAlike 11 = .ok (.invokevirtual 81, 3) := by decide +kernel
theorem dL_areAlike_14 : decode cL_areAlike 14 = .ok (.aload_n 1, 1) := by decide +kernel
theorem dL_areAlike_15 : decode cL_areAlike 15 = .ok (.invokevirtual 81, 3) := by decide +kernel
theorem dL_areAlike_18 : decode cL_areAlike 18 = .ok (.if_icmp .ne 23, 3) := by decide +kernel
theorem dL_areAlike_21 : decode cL_areAlike 21 = .ok (.aload_n 0, 1) := by decide +kernel
theorem dL_areAlike_22 : decode cL_areAlike 22 = .ok (.iconst 0, 1) := by decide +kernel
theorem dL_areAlike_23 : decode cL_areAlike 23 = .ok (.invokevirtual 84, 3) := by decide +kernel
theorem dL_areAlike_26 : decode cL_areAlike 26 = .ok (.invokestatic 31, 3) := by decide +kernel
theorem dL_areAlike_29 : decode cL_areAlike 29 = .ok (.aload_n 1, 1) := by decide +kernel
theorem dL_areAlike_30 : decode cL_areAlike 30 = .ok (.iconst 1, 1) := by decide +kernel
theorem dL_areAlike_31 : decode cL_areAlike 31 = .ok (.invokevirtual 84, 3) := by decide +kernel
theorem dL_areAlike_34 : decode cL_areAlike 34 = .ok (.if_icmp .ne 7, 3) := by decide +kernel
theorem dL_areAlike_37 : decode cL_areAlike 37 = .ok (.iconst 1, 1) := by decide +kernel
theorem dL_areAlike_38 : decode cL_areAlike 38 = .ok (.goto 4, 3) := by decide +kernel
theorem dL_areAlike_41 : decode cL_areAlike 41 = .ok (.iconst 0, 1) := by decide +kernel
theorem dL_areAlike_42 : decode cL_areAlike 42 = .ok (.istore 4, 2) := by decide +kernel
theorem dL_areAlike_44 : decode cL_areAlike 44 = .ok (.iconst 0, 1) := by decide +kernel
theorem dL_areAlike_45 : decode cL_areAlike 45 = .ok (.istore 5, 2) := by decide +kernel
theorem dL_areAlike_47 : decode cL_areAlike 47 = .ok (.iload 5, 2) := by decide +kernel
theorem dL_areAlike_49 : decode cL_areAlike 49 = .ok (.iconst 5, 1) := by decide +kernel
theorem dL_areAlike_50 : decode cL_areAlike 50 = .ok (.if_icmp .ge 38, 3) := by decide +kernel
theorem dL_areAlike_53 : decode cL_areAlike 53 = .ok (.iload 4, 2) := by decide +kernel
theorem dL_areAlike_55 : decode cL_areAlike 55 = .ok (.ifCond .eq 24, 3) := by decide +kernel
theorem dL_areAlike_58 : decode cL_areAlike 58 = .ok (.aload_n 0, 1) := by decide +kernel
theorem dL_areAlike_59 : decode cL_areAlike 59 = .ok (.iload_n 3, 1) := by decide +kernel
theorem dL_areAlike_60 : decode cL_areAlike 60 = .ok (.iload 5, 2) := by decide +kernel
theorem dL_areAlike_62 : decode cL_areAlike 62 = .ok (.invokevirtual 87, 3) := by decide +kernel
theorem dL_areAlike_65 : decode cL_areAlike 65 = .ok (.aload_n 1, 1) := by decide +kernel
theorem dL_areAlike_66 : decode cL_areAlike 66 = .ok (.iload_n 3, 1) := by decide +kernel
theorem dL_areAlike_67 : decode cL_areAlike 67 = .ok (.iload 5, 2) := by decide +kernel
theorem dL_areAlike_69 : decode cL_areAlike 69 = .ok (.invokevirtual 87, 3) := by decide +kernel
theorem dL_areAlike_72 : decode cL_areAlike 72 = .ok (.if_icmp .ne 7, 3) := by decide +kernel
theorem dL_areAlike_75 : decode cL_areAlike 75 = .ok (.iconst 1, 1) := by decide +kernel
theorem dL_areAlike_76 : decode cL_areAlike 76 = .ok (.goto 4, 3) := by decide +kernel
theorem dL_areAlike_79 : decode cL_areAlike 79 = .ok (.iconst 0, 1) := by decide +kernel
theorem dL_areAlike_80 : decode cL_areAlike 80 = .ok (.istore 4, 2) := by decide +kernel
theorem dL_areAlike_82 : decode cL_areAlike 82 = .ok (.iinc 5 1, 3) := by decide +kernel
theorem dL_areAlike_85 : decode cL_areAlike 85 = .ok (.goto (-38), 3) := by decide +kernel
theorem dL_areAlike_88 : decode cL_areAlike 88 = .ok (.iconst 0, 1) := by decide +kernel
theorem dL_areAlike_89 : decode cL_areAlike 89 = .ok (.istore 5, 2) := by decide +kernel
theorem dL_areAlike_91 : decode cL_areAlike 91 = .ok (.iload 5, 2) := by decide +kernel
theorem dL_areAlike_93 : decode cL_areAlike 93 = .ok (.bipush 18, 2) := by decide +kernel
theorem dL_areAlike_95 : decode cL_areAlike 95 = .ok (.if_icmp .ge 71, 3) := by decide +kernel
theorem dL_areAlike_98 : decode cL_areAlike 98 = .ok (.iload 4, 2) := by decide +kernel
theorem dL_areAlike_100 : decode cL_areAlike 100 = .ok (.ifCond .eq 57, 3) := by decide +kernel
theorem dL_areAlike_103 : decode cL_areAlike 103 = .ok (.iload 5, 2) := by decide +kernel
theorem dL_areAlike_105 : decode cL_areAlike 105 = .ok (.bipush 6, 2) := by decide +kernel
theorem dL_areAlike_107 : decode cL_areAlike 107 = .ok (.if_icmp .eq 10, 3) := by decide +kernel
theorem dL_areAlike_110 : decode cL_areAlike 110 = .ok (.iload 5, 2) := by decide +kernel
theorem dL_areAlike_112 : decode cL_areAlike 112 = .ok (.bipush 7, 2) := by decide +kernel
theorem dL_areAlike_114 : decode cL_areAlike 114 = .ok (.if_icmp .ne 24, 3) := by decide +kernel
theorem dL_areAlike_117 : decode cL_areAlike 117 = .ok (.aload_n 0, 1) := by decide +kernel
theorem dL_areAlike_118 : decode cL_areAlike 118 = .ok (.iload 5, 2) := by decide +kernel
theorem dL_areAlike_120 : decode cL_areAlike 120 = .ok (.invokevirtual 38, 3) := by decide +kernel
theorem dL_areAlike_123 : decode cL_areAlike 123 = .ok (.invokestatic 31, 3) := by decide +kernel
theorem dL_areAlike_126 : decode cL_areAlike 126 = .ok (.aload_n 1, 1) := by decide +kernel
theorem dL_areAlike_127 : decode cL_areAlike 127 = .ok (.iload 5, 2) := by decide +kernel
theorem dL_areAlike_129 : decode cL_areAlike 129 = .ok (.invokevirtual 38, 3) := by decide +kernel
theorem dL_areAlike_132 : decode cL_areAlike 132 = .ok (.if_icmp .ne 25, 3) := by decide +kernel
theorem dL_areAlike_135 : decode cL_areAlike 135 = .ok (.goto 18, 3) := by decide +kernel
theorem dL_areAlike_138 : decode cL_areAlike 138 = .ok (.aload_n 0, 1) := by decide +kernel
theorem dL_areAlike_139 : decode cL_areAlike 139 = .ok (.iload 5, 2) := by decide +kernel
theorem dL_areAlike_141 : decode cL_areAlike 141 = .ok (.invokevirtual 38, 3) := by decide +kernel
theorem dL_areAlike_144 : decode cL_areAlike 144 = .ok (.aload_n 1, 1) := by decide +kernel
theorem dL_areAlike_145 : decode cL_areAlike 145 = .ok (.iload 5, 2) := by decide +kernel
theorem dL_areAlike_147 : decode cL_areAlike 147 = .ok (.invokevirtual 38, 3) := by decide +kernel
theorem dL_areAlike_150 : decode cL_areAlike 150 = .ok (.if_icmp .ne 7, 3) := by decide +kernel
theorem dL_areAlike_153 : decode cL_areAlike 153 = .ok (.iconst 1, 1) := by decide +kernel
theorem dL_areAlike_154 : decode cL_areAlike 154 = .ok (.goto 4, 3) := by decide +kernel
theorem dL_areAlike_157 : decode cL_areAlike 157 = .ok (.iconst 0, 1) := by decide +kernel
theorem dL_areAlike_158 : decode cL_areAlike 158 = .ok (.istore 4, 2) := by decide +kernel
theorem dL_areAlike_160 : decode cL_areAlike 160 = .ok (.iinc 5 1, 3) := by decide +kernel
theorem dL_areAlike_163 : decode cL_areAlike 163 = .ok (.goto (-72), 3) := by decide +kernel
theorem dL_areAlike_166 : decode cL_areAlike 166 = .ok (.iconst 0, 1) := by decide +kernel
theorem dL_areAlike_167 : decode cL_areAlike 167 = .ok (.istore 5, 2) := by decide +kernel
theorem dL_areAlike_169 : decode cL_areAlike 169 = .ok (.iload 5, 2) := by decide +kernel
theorem dL_areAlike_171 : decode cL_areAlike 171 = .ok (.bipush 16, 2) := by decide +kernel
theorem dL_areAlike_173 : decode cL_areAlike 173 = .ok (.if_icmp .ge 168, 3) := by decide +kernel
theorem dL_areAlike_176 : decode cL_areAlike 176 = .ok (.iload 4, 2) := by decide +kernel
theorem dL_areAlike_178 : decode cL_areAlike 178 = .ok (.ifCond .eq 78, 3) := by decide +kernel
theorem dL_areAlike_181 : decode cL_areAlike 181 = .ok (.aload_n 0, 1) := by decide +kernel
theorem dL_areAlike_182 : decode cL_areAlike 182 = .ok (.iload 5, 2) := by decide +kernel
theorem dL_areAlike_184 : decode cL_areAlike 184 = .ok (.iconst 0, 1) := by decide +kernel
theorem dL_areAlike_185 : decode cL_areAlike 185 = .ok (.invokevirtual 75, 3) := by decide +kernel
theorem dL_areAlike_188 : decode cL_areAlike 188 = .ok (.invokestatic 31, 3) := by decide +kernel
theorem dL_areAlike_191 : decode cL_areAlike 191 = .ok (.aload_n 1, 1) := by decide +kernel
theorem dL_areAlike_192 : decode cL_areAlike 192 = .ok (.iload 5, 2) := by decide +kernel
theorem dL_areAlike_194 : decode cL_areAlike 194 = .ok (.iconst 0, 1) := by decide +kernel
theorem dL_areAlike_195 : decode cL_areAlike 195 = .ok (.invokevirtual 75, 3) := by decide +kernel
theorem dL_areAlike_198 : decode cL_areAlike 198 = .ok (.if_icmp .ne 58, 3) := by decide +kernel
theorem dL_areAlike_201 : decode cL_areAlike 201 = .ok (.aload_n 0, 1) := by decide +kernel
theorem dL_areAlike_202 : decode cL_areAlike 202 = .ok (.iload 5, 2) := by decide +kernel
theorem dL_areAlike_204 : decode cL_areAlike 204 = .ok (.iconst 1, 1) := by decide +kernel
theorem dL_areAlike_205 : decode cL_areAlike 205 = .ok (.invokevirtual 75, 3) := by decide +kernel
theorem dL_areAlike_208 : decode cL_areAlike 208 = .ok (.aload_n 1, 1) := by decide +kernel
theorem dL_areAlike_209 : decode cL_areAlike 209 = .ok (.iload 5, 2) := by decide +kernel
theorem dL_areAlike_211 : decode cL_areAlike 211 = .ok (.iconst 1, 1) := by decide +kernel
theorem dL_areAlike_212 : decode cL_areAlike 212 = .ok (.invokevirtual 75, 3) := by decide +kernel
theorem dL_areAlike_215 : decode cL_areAlike 215 = .ok (.if_icmp .ne 41, 3) := by decide +kernel
theorem dL_areAlike_218 : decode cL_areAlike 218 = .ok (.aload_n 0, 1) := by decide +kernel
theorem dL_areAlike_219 : decode cL_areAlike 219 = .ok (.iload 5, 2) := by decide +kernel
theorem dL_areAlike_221 : decode cL_areAlike 221 = .ok (.iconst 2, 1) := by decide +kernel
theorem dL_areAlike_222 : decode cL_areAlike 222 = .ok (.invokevirtual 75, 3) := by decide +kernel
theorem dL_areAlike_225 : decode cL_areAlike 225 = .ok (.aload_n 1, 1) := by decide +kernel
theorem dL_areAlike_226 : decode cL_areAlike 226 = .ok (.iload 5, 2) := by decide +kernel
theorem dL_areAlike_228 : decode cL_areAlike 228 = .ok (.iconst 2, 1) := by decide +kernel
theorem dL_areAlike_229 : decode cL_areAlike 229 = .ok (.invokevirtual 75, 3) := by decide +kernel
theorem dL_areAlike_232 : decode cL_areAlike 232 = .ok (.if_icmp .ne 24, 3) := by decide +kernel
theorem dL_areAlike_235 : decode cL_areAlike 235 = .ok (.aload_n 0, 1) := by decide +kernel
theorem dL_areAlike_236 : decode cL_areAlike 236 = .ok (.iload 5, 2) := by decide +kernel
theorem dL_areAlike_238 : decode cL_areAlike 238 = .ok (.iconst 3, 1) := by decide +kernel
theorem dL_areAlike_239 : decode cL_areAlike 239 = .ok (.invokevirtual 75, 3) := by decide +kernel
theorem dL_areAlike_242 : decode cL_areAlike 242 = .ok (.aload_n 1, 1) := by decide +kernel
theorem dL_areAlike_243 : decode cL_areAlike 243 = .ok (.iload 5, 2) := by decide +kernel
theorem dL_areAlike_245 : decode cL_areAlike 245 = .ok (.iconst 3, 1) := by decide +kernel
theorem dL_areAlike_246 : decode cL_areAlike 246 = .ok (.invokevirtual 75, 3) := by decide +kernel
theorem dL_areAlike_249 : decode cL_areAlike 249 = .ok (.if_icmp .ne 7, 3) := by decide +kernel
theorem dL_areAlike_252 : decode cL_areAlike 252 = .ok (.iconst 1, 1) := by decide +kernel
theorem dL_areAlike_253 : decode cL_areAlike 253 = .ok (.goto 4, 3) := by decide +kernel
theorem dL_areAlike_256 : decode cL_areAlike 256 = .ok (.iconst 0, 1) := by decide +kernel
theorem dL_areAlike_257 : decode cL_areAlike 257 = .ok (.istore 4, 2) := by decide +kernel
theorem dL_areAlike_259 : decode cL_areAlike 259 = .ok (.iconst 0, 1) := by decide +kernel
theorem dL_areAlike_260 : decode cL_areAlike 260 = .ok (.istore 6, 2) := by decide +kernel
theorem dL_areAlike_262 : decode cL_areAlike 262 = .ok (.iload 6, 2) := by decide +kernel
theorem dL_areAlike_264 : decode cL_areAlike 264 = .ok (.bipush 6, 2) := by decide +kernel
theorem dL_areAlike_266 : decode cL_areAlike 266 = .ok (.if_icmp .ge 69, 3) := by decide +kernel
theorem dL_areAlike_269 : decode cL_areAlike 269 = .ok (.iload 4, 2) := by decide +kernel
theorem dL_areAlike_271 : decode cL_areAlike 271 = .ok (.ifCond .eq 55, 3) := by decide +kernel
theorem dL_areAlike_274 : decode cL_areAlike 274 = .ok (.aload_n 0, 1) := by decide +kernel
theorem dL_areAlike_275 : decode cL_areAlike 275 = .ok (.iload 5, 2) := by decide +kernel
theorem dL_areAlike_277 : decode cL_areAlike 277 = .ok (.iload 6, 2) := by decide +kernel
theorem dL_areAlike_279 : decode cL_areAlike 279 = .ok (.invokevirtual 72, 3) := by decide +kernel
theorem dL_areAlike_282 : decode cL_areAlike 282 = .ok (.aload_n 1, 1) := by decide +kernel
theorem dL_areAlike_283 : decode cL_areAlike 283 = .ok (.iload 5, 2) := by decide +kernel
theorem dL_areAlike_285 : decode cL_areAlike 285 = .ok (.iconst 5, 1) := by decide +kernel
theorem dL_areAlike_286 : decode cL_areAlike 286 = .ok (.iload 6, 2) := by decide +kernel
theorem dL_areAlike_288 : decode cL_areAlike 288 = .ok (.isub, 1) := by decide +kernel
theorem dL_areAlike_289 : decode cL_areAlike 289 = .ok (.invokevirtual 72, 3) := by decide +kernel
theorem dL_areAlike_292 : decode cL_areAlike 292 = .ok (.if_icmp .ne 34, 3) := by decide +kernel
theorem dL_areAlike_295 : decode cL_areAlike 295 = .ok (.iload 5, 2) := by decide +kernel
theorem dL_areAlike_297 : decode cL_areAlike 297 = .ok (.iconst 4, 1) := by decide +kernel
theorem dL_areAlike_298 : decode cL_areAlike 298 = .ok (.if_icmp .gt 24, 3) := by decide +kernel
theorem dL_areAlike_301 : decode cL_areAlike 301 = .ok (.aload_n 0, 1) := by decide +kernel
theorem dL_areAlike_302 : decode cL_areAlike 302 = .ok (.iload 6, 2) := by decide +kernel
theorem dL_areAlike_304 : decode cL_areAlike 304 = .ok (.iload 5, 2) := by decide +kernel
theorem dL_areAlike_306 : decode cL_areAlike 306 = .ok (.invokevirtual 47, 3) := by decide +kernel
theorem dL_areAlike_309 : decode cL_areAlike 309 = .ok (.aload_n 1, 1) := by decide +kernel
theorem dL_areAlike_310 : decode cL_areAlike 310 = .ok (.iconst 5, 1) := by decide +kernel
theorem dL_areAlike_311 : decode cL_areAlike 311 = .ok (.iload 6, 2) := by decide +kernel
theorem dL_areAlike_313 : decode cL_areAlike 313 = .ok (.isub, 1) := by decide +kernel
theorem dL_areAlike_314 : decode cL_areAlike 314 = .ok (.iload 5, 2) := by decide +kernel
theorem dL_areAlike_316 : decode cL_areAlike 316 = .ok (.invokevirtual 47, 3) := by decide +kernel
theorem dL_areAlike_319 : decode cL_areAlike 319 = .ok (.if_icmp .ne 7, 3) := by decide +kernel
theorem dL_areAlike_322 : decode cL_areAlike 322 = .ok (.iconst 1, 1) := by decide +kernel
theorem dL_areAlike_323 : decode cL_areAlike 323 = .ok (.goto 4, 3) := by decide +kernel
theorem dL_areAlike_326 : decode cL_areAlike 326 = .ok (.iconst 0, 1) := by decide +kernel
theorem dL_areAlike_327 : decode cL_areAlike 327 = .ok (.istore 4, 2) := by decide +kernel
theorem dL_areAlike_329 : decode cL_areAlike 329 = .ok (.iinc 6 1, 3) := by decide +kernel
theorem dL_areAlike_332 : decode cL_areAlike 332 = .ok (.goto (-70), 3) := by decide +kernel
theorem dL_areAlike_335 : decode cL_areAlike 335 = .ok (.iinc 5 1, 3) := by decide +kernel
theorem dL_areAlike_338 : decode cL_areAlike 338 = .ok (.goto (-169), 3) := by decide +kernel
theorem dL_areAlike_341 : decode cL_areAlike 341 = .ok (.aload_n 0, 1) := by decide +kernel
theorem dL_areAlike_342 : decode cL_areAlike 342 = .ok (.invokevirtual 90, 3) := by decide +kernel
theorem dL_areAlike_345 : decode cL_areAlike 345 = .ok (.istore 5, 2) := by decide +kernel
theorem dL_areAlike_347 : decode cL_areAlike 347 = .ok (.aload_n 1, 1) := by decide +kernel
theorem dL_areAlike_348 : decode cL_areAlike 348 = .ok (.invokevirtual 90, 3) := by decide +kernel
theorem dL_areAlike_351 : decode cL_areAlike 351 = .ok (.istore 6, 2) := by decide +kernel
theorem dL_areAlike_353 : decode cL_areAlike 353 = .ok (.iload 4, 2) := by decide +kernel
theorem dL_areAlike_355 : decode cL_areAlike 355 = .ok (.ifCond .eq 52, 3) := by decide +kernel
theorem dL_areAlike_358 : decode cL_areAlike 358 = .ok (.iload 5, 2) := by decide +kernel
theorem dL_areAlike_360 : decode cL_areAlike 360 = .ok (.bipush (-6), 2) := by decide +kernel
theorem dL_areAlike_362 : decode cL_areAlike 362 = .ok (.if_icmp .ne 7, 3) := by decide +kernel
theorem dL_areAlike_365 : decode cL_areAlike 365 = .ok (.iconst 1, 1) := by decide +kernel
theorem dL_areAlike_366 : decode cL_areAlike 366 = .ok (.goto 4, 3) := by decide +kernel
theorem dL_areAlike_369 : decode cL_areAlike 369 = .ok (.iconst 0, 1) := by decide +kernel
theorem dL_areAlike_370 : decode cL_areAlike 370 = .ok (.iload 6, 2) := by decide +kernel
theorem dL_areAlike_372 : decode cL_areAlike 372 = .ok (.bipush (-6), 2) := by decide +kernel
theorem dL_areAlike_374 : decode cL_areAlike 374 = .ok (.if_icmp .ne 7, 3) := by decide +kernel
theorem dL_areAlike_377 : decode cL_areAlike 377 = .ok (.iconst 1, 1) := by decide +kernel
theorem dL_areAlike_378 : decode cL_areAlike 378 = .ok (.goto 4, 3) := by decide +kernel
theorem dL_areAlike_381 : decode cL_areAlike 381 = .ok (.iconst 0, 1) := by decide +kernel
theorem dL_areAlike_382 : decode cL_areAlike 382 = .ok (.if_icmp .ne 25, 3) := by decide +kernel
theorem dL_areAlike_385 : decode cL_areAlike 385 = .ok (.iload 5, 2) := by decide +kernel
theorem dL_areAlike_387 : decode cL_areAlike 387 = .ok (.ifCond .lt 16, 3) := by decide +kernel
theorem dL_areAlike_390 : decode cL_areAlike 390 = .ok (.iload 5, 2) := by decide +kernel
theorem dL_areAlike_392 : decode cL_areAlike 392 = .ok (.bipush 6, 2) := by decide +kernel
theorem dL_areAlike_394 : decode cL_areAlike 394 = .ok (.idiv, 1) := by decide +kernel
theorem dL_areAlike_395 : decode cL_areAlike 395 = .ok (.iload 6, 2) := by decide +kernel
theorem dL_areAlike_397 : decode cL_areAlike 397 = .ok (.bipush 6, 2) := by decide +kernel
theorem dL_areAlike_399 : decode cL_areAlike 399 = .ok (.idiv, 1) := by decide +kernel
theorem dL_areAlike_400 : decode cL_areAlike 400 = .ok (.if_icmp .ne 7, 3) := by decide +kernel
theorem dL_areAlike_403 : decode cL_areAlike 403 = .ok (.iconst 1, 1) := by decide +kernel
theorem dL_areAlike_404 : decode cL_areAlike 404 = .ok (.goto 4, 3) := by decide +kernel
theorem dL_areAlike_407 : decode cL_areAlike 407 = .ok (.iconst 0, 1) := by decide +kernel
theorem dL_areAlike_408 : decode cL_areAlike 408 = .ok (.ireturn, 1) := by decide +kernel
end
section
set_option maxRecDepth 20000 in
theorem ggL_isWell_X5_count : GoodIn wsL_isWell wsX5_count := goodIn_r _ [5, 6, 7, 8, 9, 10, 11, 12, 13, 14, 15, 16, 17, 18, 19, 20, 21, 22, 23, 24, 25, 26, 27, 4, 28, 29, 30, 31, 32, 33, 34, 35, 36, 37, 38, 39, 40, 41, 42, 43, 44, 45, 46, 47, 48, 49, 50, 51, 194, 195, 196, 197, 198, 199, 200, 201, 202, 203, 204, 205, 206, 207, 208, 209, 210, 211, 212, 213, 214, 215, 216, 217, 218, 219, 220, 221, 222, 223, 224, 225] (by decide +kernel) (by decide +kernel)
set_option maxRecDepth 20000 in
theorem gL_isWell_X5_count : GoodIn wsL_isWell (wsV RL 38 RX5 yX5_count wsX5_count) := goodIn_app (goodIn_of _ (by decide +kernel)) ggL_isWell_X5_count
set_option maxRecDepth 20000 in
theorem ggL_isWell_X5_nextStamps : GoodIn wsL_isWell wsX5_nextStamps := goodIn_r _ [55, 56, 57, 58, 4, 59, 6, 8, 9, 7, 60, 61, 62, 32, 63, 38, 64, 65, 66, 67, 68, 69, 70, 71, 72, 73, 74, 75, 194, 195, 196, 197, 198, 199, 200, 201, 202, 203, 204, 205, 206, 207, 208, 209, 210, 211, 212, 213, 214, 215, 216] (by decide +kernel) (by decide +kernel)
set_option maxRecDepth 20000 in
theorem gL_isWell_X5_nextStamps : GoodIn wsL_isWell (wsV RL 84 RX5 yX5_nextStamps wsX5_nextStamps) := goodIn_app (goodIn_of _ (by decide +kernel)) ggL_isWell_X5_nextStamps
set_option maxRecDepth 20000 in
theorem ggL_isWell_X5_stamped : GoodIn wsL_isWell wsX5_stamped := goodIn_r _ [79, 6, 8, 80, 81, 82, 4, 83, 84, 85, 86, 60, 61, 62, 32, 63, 38, 194, 195, 196, 197, 198, 199, 200, 201, 202, 203, 204, 205, 206, 207, 208, 209, 210, 211, 212, 213, 214, 215, 216] (by decide +kernel) (by decide +kernel)
set_option maxRecDepth 20000 in
theorem gL_isWell_X5_stamped : GoodIn wsL_isWell (wsV RL 72 RX5 yX5_stamped wsX5_stamped) := goodIn_app (goodIn_of _ (by decide +kernel)) ggL_isWell_X5_stamped
set_option maxRecDepth 20000 in
theorem ggL_isWell_X5_row : GoodIn wsL_isWell wsX5_row := goodIn_r _ [90, 6, 8, 71, 9, 81, 82, 4, 83, 91, 35, 36, 32, 37, 38, 39, 40, 41, 42, 43, 44, 45, 92, 93, 94, 95, 96, 97, 98, 99, 26, 27, 28, 72, 73, 74, 75, 194, 195, 196, 197, 198, 199, 200, 201, 202, 203, 204, 205, 206, 207, 208, 209, 210, 211, 212, 213, 214, 215, 216] (by decide +kernel) (by decide +kernel)
set_option maxRecDepth 20000 in
theorem gL_isWell_X5_row : GoodIn wsL_isWell (wsV RL 75 RX5 yX5_row wsX5_row) := goodIn_app (goodIn_of _ (by decide +kernel)) ggL_isWell_X5_row
set_option maxRecDepth 20000 in
theorem ggL_isWell_X5_stamp : GoodIn wsL_isWell wsX5_stamp := goodIn_r _ [103, 6, 21, 104, 105, 106, 8, 107, 84, 85, 4, 86, 108, 109, 110, 32, 111, 112, 61, 62, 63, 38, 194, 195, 196, 197, 198, 199, 200, 201, 202, 203, 204, 205, 206, 207, 208, 209, 210, 211, 212, 222, 223, 224, 225, 213, 214, 215, 216] (by decide +kernel) (by decide +kernel)
set_option maxRecDepth 20000 in
theorem gL_isWell_X5_stamp : GoodIn wsL_isWell (wsV RL 47 RX5 yX5_stamp wsX5_stamp) := goodIn_app (goodIn_of _ (by decide +kernel)) ggL_isWell_X5_stamp
set_option maxRecDepth 20000 in
theorem ggL_isWell_X5_untilJam : GoodIn wsL_isWell wsX5_untilJam := goodIn_r _ [116, 117, 6, 10, 118, 119, 120, 95, 121, 98, 122, 123, 124, 125, 97, 126, 127, 128, 129, 130, 131, 132, 133, 134, 135, 136, 137, 138, 139, 32, 140, 38, 141, 142, 143, 144, 145, 146, 147, 49, 148, 149, 150, 51, 151, 152, 153, 154, 155, 156, 157, 158, 159, 160, 161, 162, 163, 93, 94, 96, 99, 35, 36, 37, 39, 40, 41, 42, 43, 44, 45, 164, 165, 166, 167, 168, 169, 170, 171, 172, 173, 174, 175, 176, 177, 178, 179, 180, 181, 182, 183, 184, 185, 65, 66, 186, 187, 188, 189, 190, 191, 192, 193, 194, 195, 196, 197, 198, 199, 200, 201, 202, 203, 204, 205, 206, 207, 208, 209, 210, 211, 212, 213, 214, 215, 216, 222, 223, 224, 225] (by decide +kernel) (by decide +kernel)
set_option maxRecDepth 20000 in
theorem gL_isWell_X5_untilJam : GoodIn wsL_isWell (wsV RL 81 RX5 yX5_untilJam wsX5_untilJam) := goodIn_app (goodIn_of _ (by decide +kernel)) ggL_isWell_X5_untilJam
theorem dL_isWell_0 : decode cL_isWell 0 = .ok (.iconst 0, 1) := by decide +kernel
theorem dL_isWell_1 : decode cL_isWell 1 = .ok (.istore_n 1, 1) := by decide +kernel
theorem dL_isWell_2 : decode cL_isWell 2 = .ok (.iconst 0, 1) := by decide +kernel
theorem dL_isWell_3 : decode cL_isWell 3 = .ok (.istore_n 2, 1) := by decide +kernel
theorem dL_isWell_4 : decode cL_isWell 4 = .ok (.iconst 0, 1) := by decide +kernel
theorem dL_isWell_5 : decode cL_isWell 5 = .ok (.istore_n 3, 1) := by decide +kernel
theorem dL_isWell_6 : decode cL_isWell 6 = .ok (.aload_n 0, 1) := by decide +kernel
theorem dL_isWell_7 : decode cL_isWell 7 = .ok (.bipush 9, 2) := by decide +kernel
theorem dL_isWell_9 : decode cL_isWell 9 = .ok (.invokevirtual 38, 3) := by decide +kernel
theorem dL_isWell_12 : decode cL_isWell 12 = .ok (.bipush 8, 2) := by decide +kernel
theorem dL_isWell_14 : decode cL_isWell 14 = .ok (.if_icmp .ge 38, 3) := by decide +kernel
theorem dL_isWell_17 : decode cL_isWell 17 = .ok (.aload_n 0, 1) := by decide +kernel
theorem dL_isWell_18 : decode cL_isWell 18 = .ok (.bipush 8, 2) := by decide +kernel
theorem dL_isWell_20 : decode cL_isWell 20 = .ok (.invokevirtual 38, 3) := by decide +kernel
theorem dL_isWell_23 : decode cL_isWell 23 = .ok (.ifCond .eq 12, 3) := by decide +kernel
theorem dL_isWell_26 : decode cL_isWell 26 = .ok (.aload_n 0, 1) := by decide +kernel
theorem dL_isWell_27 : decode cL_isWell 27 = .ok (.bipush 7, 2) := by decide +kernel
theorem dL_isWell_29 : decode cL_isWell 29 = .ok (.invokevirtual 38, 3) := by decide +kernel
theorem dL_isWell_32 : decode cL_isWell 32 = .ok (.ifCond .eq 20, 3) := by decide +kernel
theorem dL_isWell_35 : decode cL_isWell 35 = .ok (.aload_n 0, 1) := by decide +kernel
theorem dL_isWell_36 : decode cL_isWell 36 = .ok (.iconst 0, 1) := by decide +kernel
theorem dL_isWell_37 : decode cL_isWell 37 = .ok (.invokevirtual 84, 3) := by decide +kernel
theorem dL_isWell_40 : decode cL_isWell 40 = .ok (.aload_n 0, 1) := by decide +kernel
theorem dL_isWell_41 : decode cL_isWell 41 = .ok (.iconst 1, 1) := by decide +kernel
theorem dL_isWell_42 : decode cL_isWell 42 = .ok (.invokevirtual 84, 3) := by decide +kernel
theorem dL_isWell_45 : decode cL_isWell 45 = .ok (.if_icmp .ne 7, 3) := by decide +kernel
theorem dL_isWell_48 : decode cL_isWell 48 = .ok (.iconst 1, 1) := by decide +kernel
theorem dL_isWell_49 : decode cL_isWell 49 = .ok (.goto 4, 3) := by decide +kernel
theorem dL_isWell_52 : decode cL_isWell 52 = .ok (.iconst 0, 1) := by decide +kernel
theorem dL_isWell_53 : decode cL_isWell 53 = .ok (.istore 4, 2) := by decide +kernel
theorem dL_isWell_55 : decode cL_isWell 55 = .ok (.iconst 0, 1) := by decide +kernel
theorem dL_isWell_56 : decode cL_isWell 56 = .ok (.istore 5, 2) := by decide +kernel
theorem dL_isWell_58 : decode cL_isWell 58 = .ok (.iload 5, 2) := by decide +kernel
theorem dL_isWell_60 : decode cL_isWell 60 = .ok (.bipush 16, 2) := by decide +kernel
theorem dL_isWell_62 : decode cL_isWell 62 = .ok (.if_icmp .ge 188, 3) := by decide +kernel
theorem dL_isWell_65 : decode cL_isWell 65 = .ok (.iconst 0, 1) := by decide +kernel
theorem dL_isWell_66 : decode cL_isWell 66 = .ok (.istore 6, 2) := by decide +kernel
theorem dL_isWell_68 : decode cL_isWell 68 = .ok (.iconst 0, 1) := by decide +kernel
theorem dL_isWell_69 : decode cL_isWell 69 = .ok (.istore 7, 2) := by decide +kernel
theorem dL_isWell_71 : decode cL_isWell 71 = .ok (.iload 7, 2) := by decide +kernel
theorem dL_isWell_73 : decode cL_isWell 73 = .ok (.bipush 6, 2) := by decide +kernel
theorem dL_isWell_75 : decode cL_isWell 75 = .ok (.if_icmp .ge 91, 3) := by decide +kernel
theorem dL_isWell_78 : decode cL_isWell 78 = .ok (.aload_n 0, 1) := by decide +kernel
theorem dL_isWell_79 : decode cL_isWell 79 = .ok (.iload 5, 2) := by decide +kernel
theorem dL_isWell_81 : decode cL_isWell 81 = .ok (.iload 7, 2) := by decide +kernel
theorem dL_isWell_83 : decode cL_isWell 83 = .ok (.invokevirtual 72, 3) := by decide +kernel
theorem dL_isWell_86 : decode cL_isWell 86 = .ok (.istore 8, 2) := by decide +kernel
theorem dL_isWell_88 : decode cL_isWell 88 = .ok (.iload 6, 2) := by decide +kernel
theorem dL_isWell_90 : decode cL_isWell 90 = .ok (.iload 8, 2) := by decide +kernel
theorem dL_isWell_92 : decode cL_isWell 92 = .ok (.ifCond .lt 7, 3) := by decide +kernel
theorem dL_isWell_95 : decode cL_isWell 95 = .ok (.iconst 1, 1) := by decide +kernel
theorem dL_isWell_96 : decode cL_isWell 96 = .ok (.goto 4, 3) := by decide +kernel
theorem dL_isWell_99 : decode cL_isWell 99 = .ok (.iconst 0, 1) := by decide +kernel
theorem dL_isWell_100 : decode cL_isWell 100 = .ok (.iadd, 1) := by decide +kernel
theorem dL_isWell_101 : decode cL_isWell 101 = .ok (.istore 6, 2) := by decide +kernel
theorem dL_isWell_103 : decode cL_isWell 103 = .ok (.iload 4, 2) := by decide +kernel
theorem dL_isWell_105 : decode cL_isWell 105 = .ok (.ifCond .eq 52, 3) := by decide +kernel
theorem dL_isWell_108 : decode cL_isWell 108 = .ok (.iload 8, 2) := by decide +kernel
theorem dL_isWell_110 : decode cL_isWell 110 = .ok (.ifCond .lt 7, 3) := by decide +kernel
theorem dL_isWell_113 : decode cL_isWell 113 = .ok (.iconst 1, 1) := by decide +kernel
theorem dL_isWell_114 : decode cL_isWell 114 = .ok (.goto 4, 3) := by decide +kernel
theorem dL_isWell_117 : decode cL_isWell 117 = .ok (.iconst 0, 1) := by decide +kernel
theorem dL_isWell_118 : decode cL_isWell 118 = .ok (.aload_n 0, 1) := by decide +kernel
theorem dL_isWell_119 : decode cL_isWell 119 = .ok (.iload 5, 2) := by decide +kernel
theorem dL_isWell_121 : decode cL_isWell 121 = .ok (.iconst 0, 1) := by decide +kernel
theorem dL_isWell_122 : decode cL_isWell 122 = .ok (.invokevirtual 75, 3) := by decide +kernel
theorem dL_isWell_125 : decode cL_isWell 125 = .ok (.iload 7, 2) := by decide +kernel
theorem dL_isWell_127 : decode cL_isWell 127 = .ok (.ishr, 1) := by decide +kernel
theorem dL_isWell_128 : decode cL_isWell 128 = .ok (.iconst 1, 1) := by decide +kernel
theorem dL_isWell_129 : decode cL_isWell 129 = .ok (.iand, 1) := by decide +kernel
theorem dL_isWell_130 : decode cL_isWell 130 = .ok (.iconst 1, 1) := by decide +kernel
theorem dL_isWell_131 : decode cL_isWell 131 = .ok (.if_icmp .ne 7, 3) := by decide +kernel
theorem dL_isWell_134 : decode cL_isWell 134 = .ok (.iconst 1, 1) := by decide +kernel
theorem dL_isWell_135 : decode cL_isWell 135 = .ok (.goto 4, 3) := by decide +kernel
theorem dL_isWell_138 : decode cL_isWell 138 = .ok (.iconst 0, 1) := by decide +kernel
theorem dL_isWell_139 : decode cL_isWell 139 = .ok (.if_icmp .ne 18, 3) := by decide +kernel
theorem dL_isWell_142 : decode cL_isWell 142 = .ok (.iload 8, 2) := by decide +kernel
theorem dL_isWell_144 : decode cL_isWell 144 = .ok (.aload_n 0, 1) := by decide +kernel
theorem dL_isWell_145 : decode cL_isWell 145 = .ok (.bipush 10, 2) := by decide +kernel
theorem dL_isWell_147 : decode cL_isWell 147 = .ok (.invokevirtual 38, 3) := by decide +kernel
theorem dL_isWell_150 : decode cL_isWell 150 = .ok (.if_icmp .gt 7, 3) := by decide +kernel
theorem dL_isWell_153 : decode cL_isWell 153 = .ok (.iconst 1, 1) := by decide +kernel
theorem dL_isWell_154 : decode cL_isWell 154 = .ok (.goto 4, 3) := by decide +kernel
theorem dL_isWell_157 : decode cL_isWell 157 = .ok (.iconst 0, 1) := by decide +kernel
theorem dL_isWell_158 : decode cL_isWell 158 = .ok (.istore 4, 2) := by decide +kernel
theorem dL_isWell_160 : decode cL_isWell 160 = .ok (.iinc 7 1, 3) := by decide +kernel
theorem dL_isWell_163 : decode cL_isWell 163 = .ok (.goto (-92), 3) := by decide +kernel
theorem dL_isWell_166 : decode cL_isWell 166 = .ok (.iload_n 1, 1) := by decide +kernel
theorem dL_isWell_167 : decode cL_isWell 167 = .ok (.iload 6, 2) := by decide +kernel
theorem dL_isWell_169 : decode cL_isWell 169 = .ok (.iadd, 1) := by decide +kernel
theorem dL_isWell_170 : decode cL_isWell 170 = .ok (.istore_n 1, 1) := by decide +kernel
theorem dL_isWell_171 : decode cL_isWell 171 = .ok (.iload 4, 2) := by decide +kernel
theorem dL_isWell_173 : decode cL_isWell 173 = .ok (.ifCond .eq 68, 3) := by decide +kernel
theorem dL_isWell_176 : decode cL_isWell 176 = .ok (.iload 6, 2) := by decide +kernel
theorem dL_isWell_178 : decode cL_isWell 178 = .ok (.aload_n 0, 1) := by decide +kernel
theorem dL_isWell_179 : decode cL_isWell 179 = .ok (.iload 5, 2) := by decide +kernel
theorem dL_isWell_181 : decode cL_isWell 181 = .ok (.iconst 1, 1) := by decide +kernel
theorem dL_isWell_182 : decode cL_isWell 182 = .ok (.invokevirtual 75, 3) := by decide +kernel
theorem dL_isWell_185 : decode cL_isWell 185 = .ok (.if_icmp .ne 56, 3) := by decide +kernel
theorem dL_isWell_188 : decode cL_isWell 188 = .ok (.aload_n 0, 1) := by decide +kernel
theorem dL_isWell_189 : decode cL_isWell 189 = .ok (.iload 5, 2) := by decide +kernel
theorem dL_isWell_191 : decode cL_isWell 191 = .ok (.iconst 2, 1) := by decide +kernel
theorem dL_isWell_192 : decode cL_isWell 192 = .ok (.invokevirtual 75, 3) := by decide +kernel
theorem dL_isWell_195 : decode cL_isWell 195 = .ok (.iload 6, 2) := by decide +kernel
theorem dL_isWell_197 : decode cL_isWell 197 = .ok (.aload_n 0, 1) := by decide +kernel
theorem dL_isWell_198 : decode cL_isWell 198 = .ok (.iconst 3, 1) := by decide +kernel
theorem dL_isWell_199 : decode cL_isWell 199 = .ok (.invokevirtual 38, 3) := by decide +kernel
theorem dL_isWell_202 : decode cL_isWell 202 = .ok (.if_icmp .le 7, 3) := by decide +kernel
theorem dL_isWell_205 : decode cL_isWell 205 = .ok (.iconst 1, 1) := by decide +kernel
theorem dL_isWell_206 : decode cL_isWell 206 = .ok (.goto 4, 3) := by decide +kernel
theorem dL_isWell_209 : decode cL_isWell 209 = .ok (.iconst 0, 1) := by decide +kernel
theorem dL_isWell_210 : decode cL_isWell 210 = .ok (.if_icmp .ne 31, 3) := by decide +kernel
theorem dL_isWell_213 : decode cL_isWell 213 = .ok (.aload_n 0, 1) := by decide +kernel
theorem dL_isWell_214 : decode cL_isWell 214 = .ok (.iload 5, 2) := by decide +kernel
theorem dL_isWell_216 : decode cL_isWell 216 = .ok (.iconst 3, 1) := by decide +kernel
theorem dL_isWell_217 : decode cL_isWell 217 = .ok (.invokevirtual 75, 3) := by decide +kernel
theorem dL_isWell_220 : decode cL_isWell 220 = .ok (.iload 5, 2) := by decide +kernel
theorem dL_isWell_222 : decode cL_isWell 222 = .ok (.aload_n 0, 1) := by decide +kernel
theorem dL_isWell_223 : decode cL_isWell 223 = .ok (.iconst 4, 1) := by decide +kernel
theorem dL_isWell_224 : decode cL_isWell 224 = .ok (.invokevirtual 38, 3) := by decide +kernel
theorem dL_isWell_227 : decode cL_isWell 227 = .ok (.isub, 1) := by decide +kernel
theorem dL_isWell_228 : decode cL_isWell 228 = .ok (.bipush 16, 2) := by decide +kernel
theorem dL_isWell_230 : decode cL_isWell 230 = .ok (.iadd, 1) := by decide +kernel
theorem dL_isWell_231 : decode cL_isWell 231 = .ok (.bipush 16, 2) := by decide +kernel
theorem dL_isWell_233 : decode cL_isWell 233 = .ok (.irem, 1) := by decide +kernel
theorem dL_isWell_234 : decode cL_isWell 234 = .ok (.if_icmp .ne 7, 3) := by decide +kernel
theorem dL_isWell_237 : decode cL_isWell 237 = .ok (.iconst 1, 1) := by decide +kernel
theorem dL_isWell_238 : decode cL_isWell 238 = .ok (.goto 4, 3) := by decide +kernel
theorem dL_isWell_241 : decode cL_isWell 241 = .ok (.iconst 0, 1) := by decide +kernel
theorem dL_isWell_242 : decode cL_isWell 242 = .ok (.istore 4, 2) := by decide +kernel
theorem dL_isWell_244 : decode cL_isWell 244 = .ok (.iinc 5 1, 3) := by decide +kernel
theorem dL_isWell_247 : decode cL_isWell 247 = .ok (.goto (-189), 3) := by decide +kernel
theorem dL_isWell_250 : decode cL_isWell 250 = .ok (.iconst 0, 1) := by decide +kernel
theorem dL_isWell_251 : decode cL_isWell 251 = .ok (.istore 5, 2) := by decide +kernel
theorem dL_isWell_253 : decode cL_isWell 253 = .ok (.iload 5, 2) := by decide +kernel
theorem dL_isWell_255 : decode cL_isWell 255 = .ok (.bipush 6, 2) := by decide +kernel
theorem dL_isWell_257 : decode cL_isWell 257 = .ok (.if_icmp .ge 87, 3) := by decide +kernel
theorem dL_isWell_260 : decode cL_isWell 260 = .ok (.iload_n 2, 1) := by decide +kernel
theorem dL_isWell_261 : decode cL_isWell 261 = .ok (.aload_n 0, 1) := by decide +kernel
theorem dL_isWell_262 : decode cL_isWell 262 = .ok (.iload 5, 2) := by decide +kernel
theorem dL_isWell_264 : decode cL_isWell 264 = .ok (.iconst 1, 1) := by decide +kernel
theorem dL_isWell_265 : decode cL_isWell 265 = .ok (.invokevirtual 47, 3) := by decide +kernel
theorem dL_isWell_268 : decode cL_isWell 268 = .ok (.iadd, 1) := by decide +kernel
theorem dL_isWell_269 : decode cL_isWell 269 = .ok (.istore_n 2, 1) := by decide +kernel
theorem dL_isWell_270 : decode cL_isWell 270 = .ok (.iload_n 3, 1) := by decide +kernel
theorem dL_isWell_271 : decode cL_isWell 271 = .ok (.aload_n 0, 1) := by decide +kernel
theorem dL_isWell_272 : decode cL_isWell 272 = .ok (.iload 5, 2) := by decide +kernel
theorem dL_isWell_274 : decode cL_isWell 274 = .ok (.iconst 3, 1) := by decide +kernel
theorem dL_isWell_275 : decode cL_isWell 275 = .ok (.invokevirtual 47, 3) := by decide +kernel
theorem dL_isWell_278 : decode cL_isWell 278 = .ok (.iadd, 1) := by decide +kernel
theorem dL_isWell_279 : decode cL_isWell 279 = .ok (.istore_n 3, 1) := by decide +kernel
theorem dL_isWell_280 : decode cL_isWell 280 = .ok (.iload 4, 2) := by decide +kernel
theorem dL_isWell_282 : decode cL_isWell 282 = .ok (.ifCond .eq 53, 3) := by decide +kernel
theorem dL_isWell_285 : decode cL_isWell 285 = .ok (.aload_n 0, 1) := by decide +kernel
theorem dL_isWell_286 : decode cL_isWell 286 = .ok (.iload 5, 2) := by decide +kernel
theorem dL_isWell_288 : decode cL_isWell 288 = .ok (.iconst 0, 1) := by decide +kernel
theorem dL_isWell_289 : decode cL_isWell 289 = .ok (.invokevirtual 47, 3) := by decide +kernel
theorem dL_isWell_292 : decode cL_isWell 292 = .ok (.ifCond .lt 43, 3) := by decide +kernel
theorem dL_isWell_295 : decode cL_isWell 295 = .ok (.aload_n 0, 1) := by decide +kernel
theorem dL_isWell_296 : decode cL_isWell 296 = .ok (.iload 5, 2) := by decide +kernel
theorem dL_isWell_298 : decode cL_isWell 298 = .ok (.iconst 0, 1) := by decide +kernel
theorem dL_isWell_299 : decode cL_isWell 299 = .ok (.invokevirtual 47, 3) := by decide +kernel
theorem dL_isWell_302 : decode cL_isWell 302 = .ok (.bipush 99, 2) := by decide +kernel
theorem dL_isWell_304 : decode cL_isWell 304 = .ok (.if_icmp .gt 31, 3) := by decide +kernel
theorem dL_isWell_307 : decode cL_isWell 307 = .ok (.aload_n 0, 1) := by decide +kernel
theorem dL_isWell_308 : decode cL_isWell 308 = .ok (.bipush 7, 2) := by decide +kernel
theorem dL_isWell_310 : decode cL_isWell 310 = .ok (.invokevirtual 38, 3) := by decide +kernel
theorem dL_isWell_313 : decode cL_isWell 313 = .ok (.iload 5, 2) := by decide +kernel
theorem dL_isWell_315 : decode cL_isWell 315 = .ok (.ishr, 1) := by decide +kernel
theorem dL_isWell_316 : decode cL_isWell 316 = .ok (.iconst 1, 1) := by decide +kernel
theorem dL_isWell_317 : decode cL_isWell 317 = .ok (.iand, 1) := by decide +kernel
theorem dL_isWell_318 : decode cL_isWell 318 = .ok (.ifCond .eq 13, 3) := by decide +kernel
theorem dL_isWell_321 : decode cL_isWell 321 = .ok (.aload_n 0, 1) := by decide +kernel
theorem dL_isWell_322 : decode cL_isWell 322 = .ok (.iload 5, 2) := by decide +kernel
theorem dL_isWell_324 : decode cL_isWell 324 = .ok (.iconst 1, 1) := by decide +kernel
theorem dL_isWell_325 : decode cL_isWell 325 = .ok (.invokevirtual 47, 3) := by decide +kernel
theorem dL_isWell_328 : decode cL_isWell 328 = .ok (.ifCond .le 7, 3) := by decide +kernel
theorem dL_isWell_331 : decode cL_isWell 331 = .ok (.iconst 1, 1) := by decide +kernel
theorem dL_isWell_332 : decode cL_isWell 332 = .ok (.goto 4, 3) := by decide +kernel
theorem dL_isWell_335 : decode cL_isWell 335 = .ok (.iconst 0, 1) := by decide +kernel
theorem dL_isWell_336 : decode cL_isWell 336 = .ok (.istore 4, 2) := by decide +kernel
theorem dL_isWell_338 : decode cL_isWell 338 = .ok (.iinc 5 1, 3) := by decide +kernel
theorem dL_isWell_341 : decode cL_isWell 341 = .ok (.goto (-88), 3) := by decide +kernel
theorem dL_isWell_344 : decode cL_isWell 344 = .ok (.aload_n 0, 1) := by decide +kernel
theorem dL_isWell_345 : decode cL_isWell 345 = .ok (.invokevirtual 81, 3) := by decide +kernel
theorem dL_isWell_348 : decode cL_isWell 348 = .ok (.istore 5, 2) := by decide +kernel
theorem dL_isWell_350 : decode cL_isWell 350 = .ok (.iload 4, 2) := by decide +kernel
theorem dL_isWell_352 : decode cL_isWell 352 = .ok (.ifCond .eq 119, 3) := by decide +kernel
theorem dL_isWell_355 : decode cL_isWell 355 = .ok (.iload_n 1, 1) := by decide +kernel
theorem dL_isWell_356 : decode cL_isWell 356 = .ok (.aload_n 0, 1) := by decide +kernel
theorem dL_isWell_357 : decode cL_isWell 357 = .ok (.bipush 15, 2) := by decide +kernel
theorem dL_isWell_359 : decode cL_isWell 359 = .ok (.invokevirtual 38, 3) := by decide +kernel
theorem dL_isWell_362 : decode cL_isWell 362 = .ok (.if_icmp .ne 109, 3) := by decide +kernel
theorem dL_isWell_365 : decode cL_isWell 365 = .ok (.iload_n 3, 1) := by decide +kernel
theorem dL_isWell_366 : decode cL_isWell 366 = .ok (.iload_n 1, 1) := by decide +kernel
theorem dL_isWell_367 : decode cL_isWell 367 = .ok (.if_icmp .ne 104, 3) := by decide +kernel
theorem dL_isWell_370 : decode cL_isWell 370 = .ok (.iload_n 2, 1) := by decide +kernel
theorem dL_isWell_371 : decode cL_isWell 371 = .ok (.aload_n 0, 1) := by decide +kernel
theorem dL_isWell_372 : decode cL_isWell 372 = .ok (.bipush 17, 2) := by decide +kernel
theorem dL_isWell_374 : decode cL_isWell 374 = .ok (.invokevirtual 38, 3) := by decide +kernel
theorem dL_isWell_377 : decode cL_isWell 377 = .ok (.if_icmp .ne 94, 3) := by decide +kernel
theorem dL_isWell_380 : decode cL_isWell 380 = .ok (.iload 5, 2) := by decide +kernel
theorem dL_isWell_382 : decode cL_isWell 382 = .ok (.ifCond .ne 7, 3) := by decide +kernel
theorem dL_isWell_385 : decode cL_isWell 385 = .ok (.iconst 1, 1) := by decide +kernel
theorem dL_isWell_386 : decode cL_isWell 386 = .ok (.goto 4, 3) := by decide +kernel
theorem dL_isWell_389 : decode cL_isWell 389 = .ok (.iconst 0, 1) := by decide +kernel
theorem dL_isWell_390 : decode cL_isWell 390 = .ok (.aload_n 0, 1) := by decide +kernel
theorem dL_isWell_391 : decode cL_isWell 391 = .ok (.iconst 5, 1) := by decide +kernel
theorem dL_isWell_392 : decode cL_isWell 392 = .ok (.invokevirtual 38, 3) := by decide +kernel
theorem dL_isWell_395 : decode cL_isWell 395 = .ok (.iconst 1, 1) := by decide +kernel
theorem dL_isWell_396 : decode cL_isWell 396 = .ok (.if_icmp .eq 17, 3) := by decide +kernel
theorem dL_isWell_399 : decode cL_isWell 399 = .ok (.aload_n 0, 1) := by decide +kernel
theorem dL_isWell_400 : decode cL_isWell 400 = .ok (.aload_n 0, 1) := by decide +kernel
theorem dL_isWell_401 : decode cL_isWell 401 = .ok (.iconst 4, 1) := by decide +kernel
theorem dL_isWell_402 : decode cL_isWell 402 = .ok (.invokevirtual 38, 3) := by decide +kernel
theorem dL_isWell_405 : decode cL_isWell 405 = .ok (.iconst 2, 1) := by decide +kernel
theorem dL_isWell_406 : decode cL_isWell 406 = .ok (.invokevirtual 75, 3) := by decide +kernel
theorem dL_isWell_409 : decode cL_isWell 409 = .ok (.iconst 1, 1) := by decide +kernel
theorem dL_isWell_410 : decode cL_isWell 410 = .ok (.if_icmp .ne 7, 3) := by decide +kernel
theorem dL_isWell_413 : decode cL_isWell 413 = .ok (.iconst 1, 1) := by decide +kernel
theorem dL_isWell_414 : decode cL_isWell 414 = .ok (.goto 4, 3) := by decide +kernel
theorem dL_isWell_417 : decode cL_isWell 417 = .ok (.iconst 0, 1) := by decide +kernel
theorem dL_isWell_418 : decode cL_isWell 418 = .ok (.if_icmp .ne 53, 3) := by decide +kernel
theorem dL_isWell_421 : decode cL_isWell 421 = .ok (.aload_n 0, 1) := by decide +kernel
theorem dL_isWell_422 : decode cL_isWell 422 = .ok (.bipush 11, 2) := by decide +kernel
theorem dL_isWell_424 : decode cL_isWell 424 = .ok (.invokevirtual 38, 3) := by decide +kernel
theorem dL_isWell_427 : decode cL_isWell 427 = .ok (.aload_n 0, 1) := by decide +kernel
theorem dL_isWell_428 : decode cL_isWell 428 = .ok (.bipush 12, 2) := by decide +kernel
theorem dL_isWell_430 : decode cL_isWell 430 = .ok (.invokevirtual 38, 3) := by decide +kernel
theorem dL_isWell_433 : decode cL_isWell 433 = .ok (.iadd, 1) := by decide +kernel
theorem dL_isWell_434 : decode cL_isWell 434 = .ok (.aload_n 0, 1) := by decide +kernel
theorem dL_isWell_435 : decode cL_isWell 435 = .ok (.bipush 13, 2) := by decide +kernel
theorem dL_isWell_437 : decode cL_isWell 437 = .ok (.invokevirtual 38, 3) := by decide +kernel
theorem dL_isWell_440 : decode cL_isWell 440 = .ok (.iadd, 1) := by decide +kernel
theorem dL_isWell_441 : decode cL_isWell 441 = .ok (.aload_n 0, 1) := by decide +kernel
theorem dL_isWell_442 : decode cL_isWell 442 = .ok (.bipush 10, 2) := by decide +kernel
theorem dL_isWell_444 : decode cL_isWell 444 = .ok (.invokevirtual 38, 3) := by decide +kernel
theorem dL_isWell_447 : decode cL_isWell 447 = .ok (.if_icmp .gt 24, 3) := by decide +kernel
theorem dL_isWell_450 : decode cL_isWell 450 = .ok (.aload_n 0, 1) := by decide +kernel
theorem dL_isWell_451 : decode cL_isWell 451 = .ok (.iconst 5, 1) := by decide +kernel
theorem dL_isWell_452 : decode cL_isWell 452 = .ok (.invokevirtual 38, 3) := by decide +kernel
theorem dL_isWell_455 : decode cL_isWell 455 = .ok (.ifCond .eq 12, 3) := by decide +kernel
theorem dL_isWell_458 : decode cL_isWell 458 = .ok (.aload_n 0, 1) := by decide +kernel
theorem dL_isWell_459 : decode cL_isWell 459 = .ok (.bipush 14, 2) := by decide +kernel
theorem dL_isWell_461 : decode cL_isWell 461 = .ok (.invokevirtual 38, 3) := by decide +kernel
theorem dL_isWell_464 : decode cL_isWell 464 = .ok (.ifCond .le 7, 3) := by decide +kernel
theorem dL_isWell_467 : decode cL_isWell 467 = .ok (.iconst 1, 1) := by decide +kernel
theorem dL_isWell_468 : decode cL_isWell 468 = .ok (.goto 4, 3) := by decide +kernel
theorem dL_isWell_471 : decode cL_isWell 471 = .ok (.iconst 0, 1) := by decide +kernel
theorem dL_isWell_472 : decode cL_isWell 472 = .ok (.ireturn, 1) := by decide +kernel
set_option maxRecDepth 20000 in
theorem ggL_law_X5_init : GoodIn wsL_law wsX5_init := goodIn_r _ [5, 6, 7, 8, 9, 10, 11, 12, 13, 14, 15, 16, 17, 18, 19, 20, 21, 22, 23, 24, 25, 26, 27, 28, 29, 30, 31, 32, 33, 34, 35, 36, 37, 38, 39, 40, 41, 42, 43, 44, 45, 46, 47, 48, 49, 50, 51, 52, 53, 54, 55, 56, 57, 58, 59, 378, 379, 380, 381, 382, 383, 384, 385, 386, 387, 388, 389, 390, 372, 373, 374, 375, 376, 377, 391, 392, 393, 394, 395, 396, 397, 398, 399, 400, 401, 402, 403] (by decide +kernel) (by decide +kernel)
set_option maxRecDepth 20000 in
theorem gL_law_X5_init : GoodIn wsL_law (wsX5_init) := ggL_law_X5_init
set_option maxRecDepth 20000 in
theorem ggL_law_L_cell : GoodIn wsL_law wsL_cell := goodIn_r _ [63, 64] (by decide +kernel) (by decide +kernel)
set_option maxRecDepth 20000 in
theorem gL_law_L_cell : GoodIn wsL_law (va_wsS RL 94 yL_cell wsL_cell) := goodIn_app (goodIn_of _ (by decide +kernel)) ggL_law_L_cell
set_option maxRecDepth 20000 in
theorem ggL_law_L_isStep : GoodIn wsL_law wsL_isStep := goodIn_r _ [67, 68, 69, 62, 70, 71, 72, 73, 74, 2, 75, 12, 76, 77, 78, 79, 80, 81, 82, 83, 84, 85, 86, 87, 88, 89, 90, 21, 91, 17, 92, 93, 94, 95, 96, 97, 98, 32, 99, 100, 101, 102, 103, 41, 104, 105, 106, 107, 108, 109, 110, 111, 112, 113, 36, 114, 47, 115, 116, 117, 118, 119, 120, 121, 122, 123, 16, 124, 54, 125, 126, 127, 128, 129, 130, 131, 132, 133, 11, 134, 29, 135, 136, 137, 138, 33, 37, 139, 140, 141, 142, 143, 144, 145, 146, 147, 148, 149, 150, 151, 152, 153, 42, 154, 155, 156, 157, 158, 159, 46, 160, 48, 49, 161, 162, 163, 164, 165, 166, 167, 168, 169, 170, 171, 172, 173, 174, 175, 176, 177, 178, 179, 180, 181, 182, 183, 184, 185, 186, 187, 188, 189, 190, 191, 192, 193, 194, 195, 196, 197, 198, 199, 200, 201, 202, 203, 204, 205, 206, 207, 208, 209, 210, 211, 212, 213, 22, 24, 214, 215, 216, 217, 218, 219, 220, 221, 222, 223, 224, 225, 226, 227, 228, 229, 230, 231, 20, 232, 233, 234, 235, 236, 237, 238, 239, 240, 241, 242, 243, 244, 245, 59, 246, 247, 248, 249, 250, 251, 252, 253, 254, 255, 256, 257, 258, 259, 260, 261, 262, 263, 264, 265, 266, 267, 268, 269, 270, 271, 272, 273, 274, 275, 276, 277, 278, 279, 280, 281, 282, 283, 284, 285, 286, 287, 288, 289, 290, 291, 292, 293, 294, 295, 296, 297, 298, 299, 300, 301, 302, 303, 304, 305, 306, 307, 308, 309, 310, 311, 312, 313, 314, 315, 316, 317, 318, 319, 320, 321, 322, 323, 324, 325, 326, 327, 328, 329, 330, 331, 332, 333, 334, 335, 372, 373, 374, 375, 376, 377, 378, 379, 380, 381, 382, 383, 384, 385, 386, 387, 388, 389, 390, 396, 397, 398, 399, 394, 395, 391, 392, 393, 400, 401, 402, 403] rfl (by decide +kernel)
set_option maxRecDepth 20000 in
theorem gL_law_L_isStep : GoodIn wsL_law (va_wsS RL 98 yL_isStep wsL_isStep) := goodIn_app (goodIn_of _ (by decide +kernel)) ggL_law_L_isStep
set_option maxRecDepth 20000 in
theorem ggL_law_L_isWell : GoodIn wsL_law wsL_isWell := goodIn_r _ [338, 72, 73, 74, 2, 75, 12, 76, 77, 78, 79, 80, 81, 82, 83, 84, 85, 86, 87, 88, 89, 90, 21, 91, 17, 92, 93, 94, 95, 96, 97, 98, 32, 99, 100, 101, 102, 103, 41, 104, 105, 106, 107, 108, 109, 110, 111, 112, 113, 36, 114, 47, 339, 340, 341, 342, 343, 344, 345, 346, 319, 184, 185, 186, 347, 200, 201, 348, 349, 350, 351, 324, 327, 328, 329, 330, 313, 314, 315, 316, 317, 318, 264, 265, 176, 177, 178, 320, 321, 322, 323, 325, 326, 286, 287, 11, 288, 33, 29, 289, 168, 169, 170, 171, 172, 173, 174, 175, 179, 180, 181, 182, 183, 352, 353, 354, 355, 13, 214, 132, 133, 134, 135, 136, 137, 138, 37, 139, 140, 141, 142, 143, 144, 145, 146, 147, 148, 149, 150, 151, 152, 153, 42, 154, 155, 156, 157, 158, 159, 46, 160, 48, 49, 275, 276, 277, 278, 279, 280, 281, 282, 283, 284, 285, 290, 291, 292, 293, 294, 295, 296, 297, 298, 299, 300, 301, 302, 303, 304, 305, 306, 307, 196, 197, 198, 199, 308, 309, 310, 311, 312, 207, 208, 209, 372, 373, 374, 375, 376, 377, 378, 379, 380, 381, 382, 383, 384, 385, 386, 387, 388, 389, 390, 396, 397, 398, 399, 394, 395, 391, 392, 393, 400, 401, 402, 403] rfl (by decide +kernel)
set_option maxRecDepth 20000 in
theorem gL_law_L_isWell : GoodIn wsL_law (va_wsS RL 101 yL_isWell wsL_isWell) := goodIn_app (goodIn_of _ (by decide +kernel)) ggL_law_L_isWell
set_option maxRecDepth 20000 in
theorem ggL_law_L_areAlike : GoodIn wsL_law wsL_areAlike := goodIn_r _ [358, 68, 69, 62, 70, 71, 352, 353, 354, 2, 355, 13, 12, 79, 214, 132, 133, 11, 134, 29, 135, 136, 137, 138, 33, 37, 139, 140, 141, 142, 143, 144, 145, 146, 147, 148, 149, 150, 151, 32, 152, 41, 153, 42, 154, 155, 156, 157, 158, 36, 159, 46, 160, 47, 48, 49, 275, 276, 277, 278, 279, 280, 281, 282, 283, 284, 285, 286, 287, 288, 289, 101, 102, 103, 104, 105, 106, 107, 108, 109, 110, 290, 291, 292, 293, 294, 295, 296, 297, 298, 299, 300, 301, 302, 303, 304, 305, 306, 307, 196, 197, 198, 199, 200, 201, 308, 309, 310, 311, 312, 207, 208, 209, 339, 340, 341, 342, 343, 344, 345, 346, 77, 78, 76, 319, 184, 185, 186, 347, 348, 349, 350, 351, 324, 327, 328, 329, 330, 165, 166, 167, 359, 360, 361, 362, 85, 86, 87, 90, 111, 112, 113, 114, 72, 73, 74, 75, 80, 81, 82, 83, 84, 88, 89, 21, 91, 17, 92, 93, 94, 95, 96, 97, 98, 99, 100, 320, 321, 322, 323, 318, 264, 265, 325, 326, 313, 314, 315, 316, 317, 176, 177, 178, 168, 169, 170, 171, 172, 173, 174, 175, 179, 180, 181, 182, 183, 363, 364, 365, 366, 367, 368, 369, 370, 371, 335, 267, 268, 269, 372, 373, 374, 375, 376, 377, 378, 379, 380, 381, 382, 383, 384, 385, 386, 387, 388, 389, 390, 396, 397, 398, 399, 400, 401, 402, 403, 394, 395, 391, 392, 393] rfl (by decide +kernel)
set_option maxRecDepth 20000 in
theorem gL_law_L_areAlike : GoodIn wsL_law (va_wsS RL 105 yL_areAlike wsL_areAlike) := goodIn_app (goodIn_of _ (by decide +kernel)) ggL_law_L_areAlike
theorem dL_law_0 : decode cL_law 0 = .ok (.new 10, 3) := by decide +kernel
theorem dL_law_3 : decode cL_law 3 = .ok (.dup, 1) := by decide +kernel
theorem dL_law_4 : decode cL_law 4 = .ok (.invokespecial 93, 3) := by decide +kernel
theorem dL_law_7 : decode cL_law 7 = .ok (.astore_n 1, 1) := by decide +kernel
theorem dL_law_8 : decode cL_law 8 = .ok (.new 10, 3) := by decide +kernel
theorem dL_law_11 : decode cL_law 11 = .ok (.dup, 1) := by decide +kernel
theorem dL_law_12 : decode cL_law 12 = .ok (.invokespecial 93, 3) := by decide +kernel
theorem dL_law_15 : decode cL_law 15 = .ok (.astore_n 2, 1) := by decide +kernel
theorem dL_law_16 : decode cL_law 16 = .ok (.iconst 1, 1) := by decide +kernel
theorem dL_law_17 : decode cL_law 17 = .ok (.istore_n 3, 1) := by decide +kernel
theorem dL_law_18 : decode cL_law 18 = .ok (.iconst 0, 1) := by decide +kernel
theorem dL_law_19 : decode cL_law 19 = .ok (.istore 4, 2) := by decide +kernel
theorem dL_law_21 : decode cL_law 21 = .ok (.iload 4, 2) := by decide +kernel
theorem dL_law_23 : decode cL_law 23 = .ok (.bipush 60, 2) := by decide +kernel
theorem dL_law_25 : decode cL_law 25 = .ok (.if_icmp .ge 57, 3) := by decide +kernel
theorem dL_law_28 : decode cL_law 28 = .ok (.iload_n 3, 1) := by decide +kernel
theorem dL_law_29 : decode cL_law 29 = .ok (.ifCond .eq 53, 3) := by decide +kernel
theorem dL_law_32 : decode cL_law 32 = .ok (.aload_n 1, 1) := by decide +kernel
theorem dL_law_33 : decode cL_law 33 = .ok (.aload_n 2, 1) := by decide +kernel
theorem dL_law_34 : decode cL_law 34 = .ok (.aload_n 0, 1) := by decide +kernel
theorem dL_law_35 : decode cL_law 35 = .ok (.iload 4, 2) := by decide +kernel
theorem dL_law_37 : decode cL_law 37 = .ok (.invokestatic 94, 3) := by decide +kernel
theorem dL_law_40 : decode cL_law 40 = .ok (.aload_n 0, 1) := by decide +kernel
theorem dL_law_41 : decode cL_law 41 = .ok (.iload 4, 2) := by decide +kernel
theorem dL_law_43 : decode cL_law 43 = .ok (.iconst 1, 1) := by decide +kernel
theorem dL_law_44 : decode cL_law 44 = .ok (.iadd, 1) := by decide +kernel
theorem dL_law_45 : decode cL_law 45 = .ok (.invokestatic 94, 3) := by decide +kernel
theorem dL_law_48 : decode cL_law 48 = .ok (.iconst 2, 1) := by decide +kernel
theorem dL_law_49 : decode cL_law 49 = .ok (.ishr, 1) := by decide +kernel
theorem dL_law_50 : decode cL_law 50 = .ok (.invokestatic 98, 3) := by decide +kernel
theorem dL_law_53 : decode cL_law 53 = .ok (.ifCond .eq 21, 3) := by decide +kernel
theorem dL_law_56 : decode cL_law 56 = .ok (.iload 4, 2) := by decide +kernel
theorem dL_law_58 : decode cL_law 58 = .ok (.iconst 3, 1) := by decide +kernel
theorem dL_law_59 : decode cL_law 59 = .ok (.irem, 1) := by decide +kernel
theorem dL_law_60 : decode cL_law 60 = .ok (.ifCond .gt 10, 3) := by decide +kernel
theorem dL_law_63 : decode cL_law 63 = .ok (.aload_n 1, 1) := by decide +kernel
theorem dL_law_64 : decode cL_law 64 = .ok (.invokestatic 101, 3) := by decide +kernel
theorem dL_law_67 : decode cL_law 67 = .ok (.ifCond .eq 7, 3) := by decide +kernel
theorem dL_law_70 : decode cL_law 70 = .ok (.iconst 1, 1) := by decide +kernel
theorem dL_law_71 : decode cL_law 71 = .ok (.goto 4, 3) := by decide +kernel
theorem dL_law_74 : decode cL_law 74 = .ok (.iconst 0, 1) := by decide +kernel
theorem dL_law_75 : decode cL_law 75 = .ok (.istore_n 3, 1) := by decide +kernel
theorem dL_law_76 : decode cL_law 76 = .ok (.iinc 4 1, 3) := by decide +kernel
theorem dL_law_79 : decode cL_law 79 = .ok (.goto (-58), 3) := by decide +kernel
theorem dL_law_82 : decode cL_law 82 = .ok (.iload_n 3, 1) := by decide +kernel
theorem dL_law_83 : decode cL_law 83 = .ok (.ifCond .eq 28, 3) := by decide +kernel
theorem dL_law_86 : decode cL_law 86 = .ok (.aload_n 1, 1) := by decide +kernel
theorem dL_law_87 : decode cL_law 87 = .ok (.invokestatic 101, 3) := by decide +kernel
theorem dL_law_90 : decode cL_law 90 = .ok (.ifCond .eq 21, 3) := by decide +kernel
theorem dL_law_93 : decode cL_law 93 = .ok (.aload_n 1, 1) := by decide +kernel
theorem dL_law_94 : decode cL_law 94 = .ok (.aload_n 2, 1) := by decide +kernel
theorem dL_law_95 : decode cL_law 95 = .ok (.aload_n 0, 1) := by decide +kernel
theorem dL_law_96 : decode cL_law 96 = .ok (.bipush 60, 2) := by decide +kernel
theorem dL_law_98 : decode cL_law 98 = .ok (.invokestatic 94, 3) := by decide +kernel
theorem dL_law_101 : decode cL_law 101 = .ok (.invokestatic 105, 3) := by decide +kernel
theorem dL_law_104 : decode cL_law 104 = .ok (.ifCond .eq 7, 3) := by decide +kernel
theorem dL_law_107 : decode cL_law 107 = .ok (.iconst 1, 1) := by decide +kernel
theorem dL_law_108 : decode cL_law 108 = .ok (.goto 4, 3) := by decide +kernel
theorem dL_law_111 : decode cL_law 111 = .ok (.iconst 0, 1) := by decide +kernel
theorem dL_law_112 : decode cL_law 112 = .ok (.ireturn, 1) := by decide +kernel
abbrev vwCl : List vw_C := [(RX0, TX0, 13), (RX1, TX1, 4), (RX2, TX2, 3), (RX3, TX3, 2), (RX4, TX4, 4), (RX5, TX5, 6)]
end
